section ZzM
variable {p : Program} {l : Launch} {e : Env} {s : State} {m : MethodId} {args : Array Value} {below : List Frame} {meth : Method} {cd : Code} {Q : State → Prop} {D : va_G} {cid : Nat → ClassId} {B n0 : Nat}
theorem dd_Mo_holds_0 : decode bb_Mo_holds 0 = .ok (.aload_n 0, 1) := by decide +kernel
theorem dd_Mo_holds_1 : decode bb_Mo_holds 1 = .ok (.iconst 0, 1) := by decide +kernel
theorem dd_Mo_holds_2 : decode bb_Mo_holds 2 = .ok (.invokevirtual 463, 3) := by decide +kernel
theorem dd_Mo_holds_5 : decode bb_Mo_holds 5 = .ok (.ifCond .eq 44, 3) := by decide +kernel
theorem dd_Mo_holds_8 : decode bb_Mo_holds 8 = .ok (.aload_n 0, 1) := by decide +kernel
theorem dd_Mo_holds_9 : decode bb_Mo_holds 9 = .ok (.getfield 125, 3) := by decide +kernel
theorem dd_Mo_holds_12 : decode bb_Mo_holds 12 = .ok (.aload_n 0, 1) := by decide +kernel
theorem dd_Mo_holds_13 : decode bb_Mo_holds 13 = .ok (.getfield 331, 3) := by decide +kernel
theorem dd_Mo_holds_16 : decode bb_Mo_holds 16 = .ok (.iaload, 1) := by decide +kernel
theorem dd_Mo_holds_17 : decode bb_Mo_holds 17 = .ok (.ifCond .lt 28, 3) := by decide +kernel
theorem dd_Mo_holds_20 : decode bb_Mo_holds 20 = .ok (.aload_n 0, 1) := by decide +kernel
theorem dd_Mo_holds_21 : decode bb_Mo_holds 21 = .ok (.aload_n 0, 1) := by decide +kernel
theorem dd_Mo_holds_22 : decode bb_Mo_holds 22 = .ok (.getfield 125, 3) := by decide +kernel
theorem dd_Mo_holds_25 : decode bb_Mo_holds 25 = .ok (.aload_n 0, 1) := by decide +kernel
theorem dd_Mo_holds_26 : decode bb_Mo_holds 26 = .ok (.getfield 331, 3) := by decide +kernel
theorem dd_Mo_holds_29 : decode bb_Mo_holds 29 = .ok (.iaload, 1) := by decide +kernel
theorem dd_Mo_holds_30 : decode bb_Mo_holds 30 = .ok (.sipush 512, 3) := by decide +kernel
theorem dd_Mo_holds_33 : decode bb_Mo_holds 33 = .ok (.aload_n 0, 1) := by decide +kernel
theorem dd_Mo_holds_34 : decode bb_Mo_holds 34 = .ok (.getfield 331, 3) := by decide +kernel
theorem dd_Mo_holds_37 : decode bb_Mo_holds 37 = .ok (.imul, 1) := by decide +kernel
theorem dd_Mo_holds_38 : decode bb_Mo_holds 38 = .ok (.invokevirtual 485, 3) := by decide +kernel
theorem dd_Mo_holds_41 : decode bb_Mo_holds 41 = .ok (.iconst 1, 1) := by decide +kernel
theorem dd_Mo_holds_42 : decode bb_Mo_holds 42 = .ok (.if_icmp .ne 7, 3) := by decide +kernel
theorem dd_Mo_holds_45 : decode bb_Mo_holds 45 = .ok (.iconst 1, 1) := by decide +kernel
theorem dd_Mo_holds_46 : decode bb_Mo_holds 46 = .ok (.goto 4, 3) := by decide +kernel
theorem dd_Mo_holds_49 : decode bb_Mo_holds 49 = .ok (.iconst 0, 1) := by decide +kernel
theorem dd_Mo_holds_50 : decode bb_Mo_holds 50 = .ok (.ireturn, 1) := by decide +kernel
def f_Mo_holds_50 (nf : Nat) (s0 : Int32) (c : Zc) : Option (Int32 × Zc) :=
  zrz s0 c
def f_Mo_holds_49 (nf : Nat)  (c : Zc) : Option (Int32 × Zc) :=
  f_Mo_holds_50 nf 0 c
def f_Mo_holds_45 (nf : Nat)  (c : Zc) : Option (Int32 × Zc) :=
  f_Mo_holds_50 nf 1 c
def f_Mo_holds (nf : Nat) (a0 : Nat) (c : Zc) : Option (Int32 × Zc) :=
  (zob c a0 12).bind fun w2 => (f_Mo_fits nf a0 0 c).bind fun q1 => if q1.1 = 0 then (f_Mo_holds_49 nf  q1.2) else ((zgr q1.2 a0 12 46).bind fun v4 => (zgi q1.2 a0 12 25).bind fun v5 => (zai q1.2 v4 0 v5).bind fun v6 => if v6 < 0 then (f_Mo_holds_45 nf  q1.2) else ((zgr q1.2 a0 12 46).bind fun v8 => (zgi q1.2 a0 12 25).bind fun v9 => (zai q1.2 v8 0 v9).bind fun v10 => (zgi q1.2 a0 12 25).bind fun v11 => (zob q1.2 a0 12).bind fun w13 => (f_Mo_work nf a0 v10 (512 * v11) q1.2).bind fun q12 => if q12.1 = 1 then (f_Mo_holds_45 nf  q12.2) else (f_Mo_holds_49 nf  q12.2)))
set_option maxRecDepth 100000 in
set_option maxHeartbeats 4000000 in
theorem t_Mo_holds_50  (X : zX p s m args cd D cid B bb_Mo_holds 1 rr_Mo zT) (H : zH s meth B n0 (some (.boolean)) "holds") {nf : Nat} {s0 : Int32} {c : Zc} {res : Int32 × Zc} (h : f_Mo_holds_50 nf s0 c = some res) : Zz p l e (zRm 4 94 0 0) s m args below meth cd (MQ below (zQi D cid B res.1 res.2 n0 0) args s 0 0 (fun q => B ≤ q)) D cid B 1 0 0 c 50 [] [.int s0] := by
  unfold f_Mo_holds_50 at h
  obtain ⟨hz, h⟩ := zrz_s h
  obtain rfl := h
  exact z_zret X H.1 (zn_z hz) H.2.1 H.2.2.1 dd_Mo_holds_50
set_option maxRecDepth 100000 in
set_option maxHeartbeats 4000000 in
theorem t_Mo_holds_49  (X : zX p s m args cd D cid B bb_Mo_holds 1 rr_Mo zT) (H : zH s meth B n0 (some (.boolean)) "holds") {nf : Nat}  {c : Zc} {res : Int32 × Zc} (h : f_Mo_holds_49 nf  c = some res) : Zz p l e (zRm 4 94 0 0) s m args below meth cd (MQ below (zQi D cid B res.1 res.2 n0 0) args s 0 0 (fun q => B ≤ q)) D cid B 1 0 0 c 49 [] [] := by
  unfold f_Mo_holds_49 at h
  refine z_iconst (v := 0) X dd_Mo_holds_49 (by decide) ?_
  exact t_Mo_holds_50 X H h
set_option maxRecDepth 100000 in
set_option maxHeartbeats 4000000 in
theorem t_Mo_holds_45  (X : zX p s m args cd D cid B bb_Mo_holds 1 rr_Mo zT) (H : zH s meth B n0 (some (.boolean)) "holds") {nf : Nat}  {c : Zc} {res : Int32 × Zc} (h : f_Mo_holds_45 nf  c = some res) : Zz p l e (zRm 4 94 0 0) s m args below meth cd (MQ below (zQi D cid B res.1 res.2 n0 0) args s 0 0 (fun q => B ≤ q)) D cid B 1 0 0 c 45 [] [] := by
  unfold f_Mo_holds_45 at h
  refine z_iconst (v := 1) X dd_Mo_holds_45 (by decide) ?_
  refine z_goto (tgt := 50) X dd_Mo_holds_46 (by decide) ?_
  exact t_Mo_holds_50 X H h
set_option maxRecDepth 100000 in
set_option maxHeartbeats 4000000 in
theorem c_Mo_holds (l : Launch) {nf : Nat} {a0 : Nat} {c : Zc} {res : Int32 × Zc} (h : f_Mo_holds nf a0 c = some res) : zM l yy_Mo_holds ww_Mo_holds 4 94 0 0 [.ref a0] c (fun D cid B => zQi D cid B res.1 res.2 c.length 0) := by
  refine z_met (cc := bb_Mo_holds) (maxL := 1) (ret := (some (.boolean))) (by decide +kernel) rfl (Nat.le_of_ble_eq_true rfl) ?_
  intro p e s m args below meth cd D cid B X h1 h2 h3 h4
  have X : zX p s m args cd D cid B bb_Mo_holds 1 rr_Mo zT := X
  have H : zH s meth B c.length (some (.boolean)) "holds" := ⟨h1, h2, h4, h3⟩
  unfold f_Mo_holds at h
  show Zz p l e (zRm 4 94 0 0) s m args below meth cd _ D cid B 1 0 0 c 0 [(0, .ref a0)] []
  refine z_aload_n X dd_Mo_holds_0 rfl 0 rfl ?_
  refine z_iconst (v := 0) X dd_Mo_holds_1 (by decide) ?_
  obtain ⟨w2, ew2, h⟩ := zb h
  obtain ⟨q1, eq1, h⟩ := zb h
  refine z_callVi X [.int 0] rfl dd_Mo_holds_2 (c_Mo_fits l eq1) (cwV 1 X.1.2.2.2.2 (zg_V km_2105 km_2107 km_113 km_138 km_2108) rfl rfl rfl (by decide +kernel) ⟨Nat.le_of_ble_eq_true rfl, Nat.le_of_ble_eq_true rfl⟩) (zob_s ew2) kc_12 rfl (Nat.le_of_ble_eq_true rfl) ⟨Nat.le_of_ble_eq_true rfl, Nat.le_of_ble_eq_true rfl⟩ ?_
  refine z_if_eq (tgt := 49) X dd_Mo_holds_5 (by decide) (fun q3 => ?_) (fun q3 => ?_)
  · rw [if_pos q3] at h
    refine z_sub [] rfl ?_
    exact t_Mo_holds_49 X H h
  · rw [if_neg q3] at h
    refine z_aload_n X dd_Mo_holds_8 rfl 0 rfl ?_
    obtain ⟨v4, ev4, h⟩ := zb h
    refine z_get (j := 46) X dd_Mo_holds_9 kc_12 ki_12 (by decide) km_1567 (zgr_v ev4) ?_
    refine z_aload_n X dd_Mo_holds_12 rfl 0 rfl ?_
    obtain ⟨v5, ev5, h⟩ := zb h
    refine z_get (j := 25) X dd_Mo_holds_13 kc_12 ki_12 (by decide) km_1546 (zgi_v ev5) ?_
    obtain ⟨v6, ev6, h⟩ := zb h
    refine z_iaload X dd_Mo_holds_16 rfl ev6 ?_
    refine z_if_lt (tgt := 45) X dd_Mo_holds_17 (by decide) (fun q7 => ?_) (fun q7 => ?_)
    · rw [if_pos q7] at h
      refine z_sub [] rfl ?_
      exact t_Mo_holds_45 X H h
    · rw [if_neg q7] at h
      refine z_aload_n X dd_Mo_holds_20 rfl 0 rfl ?_
      refine z_aload_n X dd_Mo_holds_21 rfl 0 rfl ?_
      obtain ⟨v8, ev8, h⟩ := zb h
      refine z_get (j := 46) X dd_Mo_holds_22 kc_12 ki_12 (by decide) km_1567 (zgr_v ev8) ?_
      refine z_aload_n X dd_Mo_holds_25 rfl 0 rfl ?_
      obtain ⟨v9, ev9, h⟩ := zb h
      refine z_get (j := 25) X dd_Mo_holds_26 kc_12 ki_12 (by decide) km_1546 (zgi_v ev9) ?_
      obtain ⟨v10, ev10, h⟩ := zb h
      refine z_iaload X dd_Mo_holds_29 rfl ev10 ?_
      refine z_sipush (v := 512) X dd_Mo_holds_30 (by decide) ?_
      refine z_aload_n X dd_Mo_holds_33 rfl 0 rfl ?_
      obtain ⟨v11, ev11, h⟩ := zb h
      refine z_get (j := 25) X dd_Mo_holds_34 kc_12 ki_12 (by decide) km_1546 (zgi_v ev11) ?_
      refine z_imul X dd_Mo_holds_37 ?_
      obtain ⟨w13, ew13, h⟩ := zb h
      obtain ⟨q12, eq12, h⟩ := zb h
      refine z_callVi X [.int v10, .int (512 * v11)] rfl dd_Mo_holds_38 (c_Mo_work l eq12) (cwV 2 X.1.2.2.2.2 (zg_V km_2113 km_2115 km_115 km_138 km_2116) rfl rfl rfl (by decide +kernel) ⟨Nat.le_of_ble_eq_true rfl, Nat.le_of_ble_eq_true rfl⟩) (zob_s ew13) kc_12 rfl (Nat.le_of_ble_eq_true rfl) ⟨Nat.le_of_ble_eq_true rfl, Nat.le_of_ble_eq_true rfl⟩ ?_
      refine z_iconst (v := 1) X dd_Mo_holds_41 (by decide) ?_
      refine z_icmp_ne (tgt := 49) X dd_Mo_holds_42 (by decide) (fun q14 => ?_) (fun q14 => ?_)
      · rw [if_neg q14] at h
        refine z_sub [] rfl ?_
        exact t_Mo_holds_49 X H h
      · rw [if_pos q14] at h
        refine z_sub [] rfl ?_
        exact t_Mo_holds_45 X H h
theorem dd_Mo_firstRow_0 : decode bb_Mo_firstRow 0 = .ok (.iconst 0, 1) := by decide +kernel
theorem dd_Mo_firstRow_1 : decode bb_Mo_firstRow 1 = .ok (.istore_n 1, 1) := by decide +kernel
theorem dd_Mo_firstRow_2 : decode bb_Mo_firstRow 2 = .ok (.iload_n 1, 1) := by decide +kernel
theorem dd_Mo_firstRow_3 : decode bb_Mo_firstRow 3 = .ok (.bipush 8, 2) := by decide +kernel
theorem dd_Mo_firstRow_5 : decode bb_Mo_firstRow 5 = .ok (.if_icmp .ge 16, 3) := by decide +kernel
theorem dd_Mo_firstRow_8 : decode bb_Mo_firstRow 8 = .ok (.aload_n 0, 1) := by decide +kernel
theorem dd_Mo_firstRow_9 : decode bb_Mo_firstRow 9 = .ok (.getfield 191, 3) := by decide +kernel
theorem dd_Mo_firstRow_12 : decode bb_Mo_firstRow 12 = .ok (.iload_n 1, 1) := by decide +kernel
theorem dd_Mo_firstRow_13 : decode bb_Mo_firstRow 13 = .ok (.iconst 0, 1) := by decide +kernel
theorem dd_Mo_firstRow_14 : decode bb_Mo_firstRow 14 = .ok (.iastore, 1) := by decide +kernel
theorem dd_Mo_firstRow_15 : decode bb_Mo_firstRow 15 = .ok (.iinc 1 1, 3) := by decide +kernel
theorem dd_Mo_firstRow_18 : decode bb_Mo_firstRow 18 = .ok (.goto (-16), 3) := by decide +kernel
theorem dd_Mo_firstRow_21 : decode bb_Mo_firstRow 21 = .ok (.return_, 1) := by decide +kernel
def g_Mo_firstRow_2 (nf : Nat) (x0 : Nat) (x1 : Int32) (c : Zc) : Option ((Nat × Int32 × Zc) ⊕ (Zc)) :=
  if 8 ≤ x1 then (some (.inr c)) else ((zgr c x0 12 74).bind fun v2 => (zsi c v2 0 x1 0).bind fun c3 => some (.inl (x0, (x1 + 1), c3)))
def f_Mo_firstRow_2 (nf : Nat) (x0 : Nat) (x1 : Int32) (c : Zc) : Option (Zc) :=
  (zlp (fun a => g_Mo_firstRow_2 nf a.1 a.2.1 a.2.2) nf (x0, x1, c)).bind fun b => some b
def f_Mo_firstRow (nf : Nat) (a0 : Nat) (c : Zc) : Option (Zc) :=
  f_Mo_firstRow_2 nf a0 0 c
set_option maxRecDepth 100000 in
set_option maxHeartbeats 4000000 in
theorem u_Mo_firstRow_2  (X : zX p s m args cd D cid B bb_Mo_firstRow 2 rr_Mo zT) (H : zH s meth B n0 none "firstRow") {nf : Nat} {x0 : Nat} {x1 : Int32} {c : Zc} {r : (Nat × Int32 × Zc) ⊕ (Zc)} (h : g_Mo_firstRow_2 nf x0 x1 c = some r) (k0 : ∀ a, r = .inl a → (fun a : Nat × Int32 × Zc => Zz p l e (zRm 0 0 0 0) s m args below meth cd Q D cid B 2 0 0 a.2.2 2 [(0, .ref a.1), (1, .int a.2.1)] []) a) (k1 : ∀ b, r = .inr b → (fun b : Zc => Zz p l e (zRm 0 0 0 0) s m args below meth cd Q D cid B 2 0 0 b 21 [] []) b) : Zz p l e (zRm 0 0 0 0) s m args below meth cd Q D cid B 2 0 0 c 2 [(0, .ref x0), (1, .int x1)] [] := by
  unfold g_Mo_firstRow_2 at h
  refine z_iload_n X dd_Mo_firstRow_2 rfl 1 rfl ?_
  refine z_bipush (v := 8) X dd_Mo_firstRow_3 (by decide) ?_
  refine z_icmp_ge (tgt := 21) X dd_Mo_firstRow_5 (by decide) (fun q1 => ?_) (fun q1 => ?_)
  · rw [if_pos q1] at h
    refine z_sub [] rfl ?_
    obtain rfl := Option.some.inj h
    exact k1 _ rfl
  · rw [if_neg q1] at h
    refine z_aload_n X dd_Mo_firstRow_8 rfl 0 rfl ?_
    obtain ⟨v2, ev2, h⟩ := zb h
    refine z_get (j := 74) X dd_Mo_firstRow_9 kc_12 ki_12 (by decide) km_1595 (zgr_v ev2) ?_
    refine z_iload_n X dd_Mo_firstRow_12 rfl 1 rfl ?_
    refine z_iconst (v := 0) X dd_Mo_firstRow_13 (by decide) ?_
    obtain ⟨c3, ec3, h⟩ := zb h
    refine z_iastore X dd_Mo_firstRow_14 rfl ec3 ?_
    refine z_iinc (v := (x1 + 1)) (lv' := [(1, .int (x1 + 1)), (0, .ref x0)]) X dd_Mo_firstRow_15 1 rfl rfl (by decide) rfl ?_
    refine z_goto (tgt := 2) X dd_Mo_firstRow_18 (by decide) ?_
    refine z_sub [1, 0] rfl ?_
    obtain rfl := Option.some.inj h
    exact k0 _ rfl
set_option maxRecDepth 100000 in
set_option maxHeartbeats 4000000 in
theorem t_Mo_firstRow_2  (X : zX p s m args cd D cid B bb_Mo_firstRow 2 rr_Mo zT) (H : zH s meth B n0 none "firstRow") {nf : Nat} {x0 : Nat} {x1 : Int32} {c : Zc} {res : Zc} (h : f_Mo_firstRow_2 nf x0 x1 c = some res) : Zz p l e (zRm 0 0 0 0) s m args below meth cd (MQ below (zQv D cid B res n0 0) args s 0 0 (fun q => B ≤ q)) D cid B 2 0 0 c 2 [(0, .ref x0), (1, .int x1)] [] := by
  unfold f_Mo_firstRow_2 at h
  obtain ⟨b, eb, h⟩ := zb h
  refine zlp_ok (P := fun a : Nat × Int32 × Zc => Zz p l e (zRm 0 0 0 0) s m args below meth cd _ D cid B 2 0 0 a.2.2 2 [(0, .ref a.1), (1, .int a.2.1)] []) (G := fun b : Zc => Zz p l e (zRm 0 0 0 0) s m args below meth cd _ D cid B 2 0 0 b 21 [] []) (fun a r ha k0 k1 => u_Mo_firstRow_2 X H ha k0 k1) nf _ b eb ?_
  obtain rfl := Option.some.inj h
  exact z_vret X H.1 H.2.1 H.2.2.1 dd_Mo_firstRow_21
set_option maxRecDepth 100000 in
set_option maxHeartbeats 4000000 in
theorem c_Mo_firstRow (l : Launch) {nf : Nat} {a0 : Nat} {c : Zc} {res : Zc} (h : f_Mo_firstRow nf a0 c = some res) : zM l yy_Mo_firstRow ww_Mo_firstRow 0 0 0 0 [.ref a0] c (fun D cid B => zQv D cid B res c.length 0) := by
  refine z_met (cc := bb_Mo_firstRow) (maxL := 2) (ret := none) (by decide +kernel) rfl (Nat.le_of_ble_eq_true rfl) ?_
  intro p e s m args below meth cd D cid B X h1 h2 h3 h4
  have X : zX p s m args cd D cid B bb_Mo_firstRow 2 rr_Mo zT := X
  have H : zH s meth B c.length none "firstRow" := ⟨h1, h2, h4, h3⟩
  unfold f_Mo_firstRow at h
  show Zz p l e (zRm 0 0 0 0) s m args below meth cd _ D cid B 2 0 0 c 0 [(0, .ref a0)] []
  refine z_iconst (v := 0) X dd_Mo_firstRow_0 (by decide) ?_
  refine z_istore_n (lv' := [(1, .int 0), (0, .ref a0)]) X dd_Mo_firstRow_1 rfl (by decide) rfl ?_
  refine z_sub [1, 0] rfl ?_
  exact t_Mo_firstRow_2 X H h
theorem dd_Mo_round_0 : decode bb_Mo_round 0 = .ok (.iconst 0, 1) := by decide +kernel
theorem dd_Mo_round_1 : decode bb_Mo_round 1 = .ok (.istore_n 1, 1) := by decide +kernel
theorem dd_Mo_round_2 : decode bb_Mo_round 2 = .ok (.iload_n 1, 1) := by decide +kernel
theorem dd_Mo_round_3 : decode bb_Mo_round 3 = .ok (.sipush 1024, 3) := by decide +kernel
theorem dd_Mo_round_6 : decode bb_Mo_round 6 = .ok (.if_icmp .ge 16, 3) := by decide +kernel
theorem dd_Mo_round_9 : decode bb_Mo_round 9 = .ok (.aload_n 0, 1) := by decide +kernel
theorem dd_Mo_round_10 : decode bb_Mo_round 10 = .ok (.getfield 200, 3) := by decide +kernel
theorem dd_Mo_round_13 : decode bb_Mo_round 13 = .ok (.iload_n 1, 1) := by decide +kernel
theorem dd_Mo_round_14 : decode bb_Mo_round 14 = .ok (.iconst 0, 1) := by decide +kernel
theorem dd_Mo_round_15 : decode bb_Mo_round 15 = .ok (.iastore, 1) := by decide +kernel
theorem dd_Mo_round_16 : decode bb_Mo_round 16 = .ok (.iinc 1 1, 3) := by decide +kernel
theorem dd_Mo_round_19 : decode bb_Mo_round 19 = .ok (.goto (-17), 3) := by decide +kernel
theorem dd_Mo_round_22 : decode bb_Mo_round 22 = .ok (.iconst 4, 1) := by decide +kernel
theorem dd_Mo_round_23 : decode bb_Mo_round 23 = .ok (.istore_n 1, 1) := by decide +kernel
theorem dd_Mo_round_24 : decode bb_Mo_round 24 = .ok (.iload_n 1, 1) := by decide +kernel
theorem dd_Mo_round_25 : decode bb_Mo_round 25 = .ok (.bipush 8, 2) := by decide +kernel
theorem dd_Mo_round_27 : decode bb_Mo_round 27 = .ok (.if_icmp .ge 111, 3) := by decide +kernel
theorem dd_Mo_round_30 : decode bb_Mo_round 30 = .ok (.aload_n 0, 1) := by decide +kernel
theorem dd_Mo_round_31 : decode bb_Mo_round 31 = .ok (.getfield 59, 3) := by decide +kernel
theorem dd_Mo_round_34 : decode bb_Mo_round 34 = .ok (.iload_n 1, 1) := by decide +kernel
theorem dd_Mo_round_35 : decode bb_Mo_round 35 = .ok (.baload, 1) := by decide +kernel
theorem dd_Mo_round_36 : decode bb_Mo_round 36 = .ok (.ifCond .eq 96, 3) := by decide +kernel
theorem dd_Mo_round_39 : decode bb_Mo_round 39 = .ok (.aload_n 0, 1) := by decide +kernel
theorem dd_Mo_round_40 : decode bb_Mo_round 40 = .ok (.getfield 450, 3) := by decide +kernel
theorem dd_Mo_round_43 : decode bb_Mo_round 43 = .ok (.ifCond .le 89, 3) := by decide +kernel
theorem dd_Mo_round_46 : decode bb_Mo_round 46 = .ok (.aload_n 0, 1) := by decide +kernel
theorem dd_Mo_round_47 : decode bb_Mo_round 47 = .ok (.aload_n 0, 1) := by decide +kernel
theorem dd_Mo_round_48 : decode bb_Mo_round 48 = .ok (.getfield 56, 3) := by decide +kernel
theorem dd_Mo_round_51 : decode bb_Mo_round 51 = .ok (.iload_n 1, 1) := by decide +kernel
theorem dd_Mo_round_52 : decode bb_Mo_round 52 = .ok (.iaload, 1) := by decide +kernel
theorem dd_Mo_round_53 : decode bb_Mo_round 53 = .ok (.putfield 331, 3) := by decide +kernel
theorem dd_Mo_round_56 : decode bb_Mo_round 56 = .ok (.aload_n 0, 1) := by decide +kernel
theorem dd_Mo_round_57 : decode bb_Mo_round 57 = .ok (.invokevirtual 503, 3) := by decide +kernel
theorem dd_Mo_round_60 : decode bb_Mo_round 60 = .ok (.aload_n 0, 1) := by decide +kernel
theorem dd_Mo_round_61 : decode bb_Mo_round 61 = .ok (.invokevirtual 506, 3) := by decide +kernel
theorem dd_Mo_round_64 : decode bb_Mo_round 64 = .ok (.iconst 1, 1) := by decide +kernel
theorem dd_Mo_round_65 : decode bb_Mo_round 65 = .ok (.istore_n 2, 1) := by decide +kernel
theorem dd_Mo_round_66 : decode bb_Mo_round 66 = .ok (.iload_n 2, 1) := by decide +kernel
theorem dd_Mo_round_67 : decode bb_Mo_round 67 = .ok (.ifCond .eq 65, 3) := by decide +kernel
theorem dd_Mo_round_70 : decode bb_Mo_round 70 = .ok (.aload_n 0, 1) := by decide +kernel
theorem dd_Mo_round_71 : decode bb_Mo_round 71 = .ok (.invokevirtual 509, 3) := by decide +kernel
theorem dd_Mo_round_74 : decode bb_Mo_round 74 = .ok (.ifCond .eq 49, 3) := by decide +kernel
theorem dd_Mo_round_77 : decode bb_Mo_round 77 = .ok (.aload_n 0, 1) := by decide +kernel
theorem dd_Mo_round_78 : decode bb_Mo_round 78 = .ok (.getfield 200, 3) := by decide +kernel
theorem dd_Mo_round_81 : decode bb_Mo_round 81 = .ok (.sipush 256, 3) := by decide +kernel
theorem dd_Mo_round_84 : decode bb_Mo_round 84 = .ok (.iload_n 1, 1) := by decide +kernel
theorem dd_Mo_round_85 : decode bb_Mo_round 85 = .ok (.iconst 4, 1) := by decide +kernel
theorem dd_Mo_round_86 : decode bb_Mo_round 86 = .ok (.isub, 1) := by decide +kernel
theorem dd_Mo_round_87 : decode bb_Mo_round 87 = .ok (.imul, 1) := by decide +kernel
theorem dd_Mo_round_88 : decode bb_Mo_round 88 = .ok (.bipush 16, 2) := by decide +kernel
theorem dd_Mo_round_90 : decode bb_Mo_round 90 = .ok (.aload_n 0, 1) := by decide +kernel
theorem dd_Mo_round_91 : decode bb_Mo_round 91 = .ok (.getfield 191, 3) := by decide +kernel
theorem dd_Mo_round_94 : decode bb_Mo_round 94 = .ok (.aload_n 0, 1) := by decide +kernel
theorem dd_Mo_round_95 : decode bb_Mo_round 95 = .ok (.getfield 131, 3) := by decide +kernel
theorem dd_Mo_round_98 : decode bb_Mo_round 98 = .ok (.aload_n 0, 1) := by decide +kernel
theorem dd_Mo_round_99 : decode bb_Mo_round 99 = .ok (.getfield 331, 3) := by decide +kernel
theorem dd_Mo_round_102 : decode bb_Mo_round 102 = .ok (.iaload, 1) := by decide +kernel
theorem dd_Mo_round_103 : decode bb_Mo_round 103 = .ok (.iaload, 1) := by decide +kernel
theorem dd_Mo_round_104 : decode bb_Mo_round 104 = .ok (.imul, 1) := by decide +kernel
theorem dd_Mo_round_105 : decode bb_Mo_round 105 = .ok (.iadd, 1) := by decide +kernel
theorem dd_Mo_round_106 : decode bb_Mo_round 106 = .ok (.aload_n 0, 1) := by decide +kernel
theorem dd_Mo_round_107 : decode bb_Mo_round 107 = .ok (.getfield 191, 3) := by decide +kernel
theorem dd_Mo_round_110 : decode bb_Mo_round 110 = .ok (.aload_n 0, 1) := by decide +kernel
theorem dd_Mo_round_111 : decode bb_Mo_round 111 = .ok (.getfield 134, 3) := by decide +kernel
theorem dd_Mo_round_114 : decode bb_Mo_round 114 = .ok (.aload_n 0, 1) := by decide +kernel
theorem dd_Mo_round_115 : decode bb_Mo_round 115 = .ok (.getfield 331, 3) := by decide +kernel
theorem dd_Mo_round_118 : decode bb_Mo_round 118 = .ok (.iaload, 1) := by decide +kernel
theorem dd_Mo_round_119 : decode bb_Mo_round 119 = .ok (.iaload, 1) := by decide +kernel
theorem dd_Mo_round_120 : decode bb_Mo_round 120 = .ok (.iadd, 1) := by decide +kernel
theorem dd_Mo_round_121 : decode bb_Mo_round 121 = .ok (.iconst 1, 1) := by decide +kernel
theorem dd_Mo_round_122 : decode bb_Mo_round 122 = .ok (.iastore, 1) := by decide +kernel
theorem dd_Mo_round_123 : decode bb_Mo_round 123 = .ok (.aload_n 0, 1) := by decide +kernel
theorem dd_Mo_round_124 : decode bb_Mo_round 124 = .ok (.iconst 0, 1) := by decide +kernel
theorem dd_Mo_round_125 : decode bb_Mo_round 125 = .ok (.invokevirtual 466, 3) := by decide +kernel
theorem dd_Mo_round_128 : decode bb_Mo_round 128 = .ok (.istore_n 2, 1) := by decide +kernel
theorem dd_Mo_round_129 : decode bb_Mo_round 129 = .ok (.goto (-63), 3) := by decide +kernel
theorem dd_Mo_round_132 : decode bb_Mo_round 132 = .ok (.iinc 1 1, 3) := by decide +kernel
theorem dd_Mo_round_135 : decode bb_Mo_round 135 = .ok (.goto (-111), 3) := by decide +kernel
theorem dd_Mo_round_138 : decode bb_Mo_round 138 = .ok (.iconst 0, 1) := by decide +kernel
theorem dd_Mo_round_139 : decode bb_Mo_round 139 = .ok (.istore_n 1, 1) := by decide +kernel
theorem dd_Mo_round_140 : decode bb_Mo_round 140 = .ok (.iconst 0, 1) := by decide +kernel
theorem dd_Mo_round_141 : decode bb_Mo_round 141 = .ok (.istore_n 2, 1) := by decide +kernel
theorem dd_Mo_round_142 : decode bb_Mo_round 142 = .ok (.iload_n 2, 1) := by decide +kernel
theorem dd_Mo_round_143 : decode bb_Mo_round 143 = .ok (.sipush 1024, 3) := by decide +kernel
theorem dd_Mo_round_146 : decode bb_Mo_round 146 = .ok (.if_icmp .ge 55, 3) := by decide +kernel
theorem dd_Mo_round_149 : decode bb_Mo_round 149 = .ok (.iload_n 1, 1) := by decide +kernel
theorem dd_Mo_round_150 : decode bb_Mo_round 150 = .ok (.aload_n 0, 1) := by decide +kernel
theorem dd_Mo_round_151 : decode bb_Mo_round 151 = .ok (.getfield 200, 3) := by decide +kernel
theorem dd_Mo_round_154 : decode bb_Mo_round 154 = .ok (.iload_n 2, 1) := by decide +kernel
theorem dd_Mo_round_155 : decode bb_Mo_round 155 = .ok (.iaload, 1) := by decide +kernel
theorem dd_Mo_round_156 : decode bb_Mo_round 156 = .ok (.aload_n 0, 1) := by decide +kernel
theorem dd_Mo_round_157 : decode bb_Mo_round 157 = .ok (.getfield 32, 3) := by decide +kernel
theorem dd_Mo_round_160 : decode bb_Mo_round 160 = .ok (.sipush 2048, 3) := by decide +kernel
theorem dd_Mo_round_163 : decode bb_Mo_round 163 = .ok (.iload_n 2, 1) := by decide +kernel
theorem dd_Mo_round_164 : decode bb_Mo_round 164 = .ok (.iadd, 1) := by decide +kernel
theorem dd_Mo_round_165 : decode bb_Mo_round 165 = .ok (.iaload, 1) := by decide +kernel
theorem dd_Mo_round_166 : decode bb_Mo_round 166 = .ok (.if_icmp .le 7, 3) := by decide +kernel
theorem dd_Mo_round_169 : decode bb_Mo_round 169 = .ok (.iconst 1, 1) := by decide +kernel
theorem dd_Mo_round_170 : decode bb_Mo_round 170 = .ok (.goto 4, 3) := by decide +kernel
theorem dd_Mo_round_173 : decode bb_Mo_round 173 = .ok (.iconst 0, 1) := by decide +kernel
theorem dd_Mo_round_174 : decode bb_Mo_round 174 = .ok (.ior, 1) := by decide +kernel
theorem dd_Mo_round_175 : decode bb_Mo_round 175 = .ok (.istore_n 1, 1) := by decide +kernel
theorem dd_Mo_round_176 : decode bb_Mo_round 176 = .ok (.aload_n 0, 1) := by decide +kernel
theorem dd_Mo_round_177 : decode bb_Mo_round 177 = .ok (.getfield 32, 3) := by decide +kernel
theorem dd_Mo_round_180 : decode bb_Mo_round 180 = .ok (.sipush 2048, 3) := by decide +kernel
theorem dd_Mo_round_183 : decode bb_Mo_round 183 = .ok (.iload_n 2, 1) := by decide +kernel
theorem dd_Mo_round_184 : decode bb_Mo_round 184 = .ok (.iadd, 1) := by decide +kernel
theorem dd_Mo_round_185 : decode bb_Mo_round 185 = .ok (.dup2, 1) := by decide +kernel
theorem dd_Mo_round_186 : decode bb_Mo_round 186 = .ok (.iaload, 1) := by decide +kernel
theorem dd_Mo_round_187 : decode bb_Mo_round 187 = .ok (.aload_n 0, 1) := by decide +kernel
theorem dd_Mo_round_188 : decode bb_Mo_round 188 = .ok (.getfield 200, 3) := by decide +kernel
theorem dd_Mo_round_191 : decode bb_Mo_round 191 = .ok (.iload_n 2, 1) := by decide +kernel
theorem dd_Mo_round_192 : decode bb_Mo_round 192 = .ok (.iaload, 1) := by decide +kernel
theorem dd_Mo_round_193 : decode bb_Mo_round 193 = .ok (.ior, 1) := by decide +kernel
theorem dd_Mo_round_194 : decode bb_Mo_round 194 = .ok (.iastore, 1) := by decide +kernel
theorem dd_Mo_round_195 : decode bb_Mo_round 195 = .ok (.iinc 2 1, 3) := by decide +kernel
theorem dd_Mo_round_198 : decode bb_Mo_round 198 = .ok (.goto (-56), 3) := by decide +kernel
theorem dd_Mo_round_201 : decode bb_Mo_round 201 = .ok (.iload_n 1, 1) := by decide +kernel
theorem dd_Mo_round_202 : decode bb_Mo_round 202 = .ok (.ireturn, 1) := by decide +kernel
def g_Mo_round_2 (nf : Nat) (x0 : Nat) (x1 : Int32) (c : Zc) : Option ((Nat × Int32 × Zc) ⊕ (Nat × Zc)) :=
  if 1024 ≤ x1 then (some (.inr (x0, c))) else ((zgr c x0 12 77).bind fun v2 => (zsi c v2 0 x1 0).bind fun c3 => some (.inl (x0, (x1 + 1), c3)))
def f_Mo_round_132 (nf : Nat) (x0 : Nat) (x1 : Int32) (c : Zc) : Option ((Nat × Int32 × Zc) ⊕ (Nat × Zc)) :=
  some (.inl (x0, (x1 + 1), c))
def f_Mo_round_123 (nf : Nat) (x0 : Nat) (x1 : Int32) (c : Zc) : Option ((Nat × Int32 × Int32 × Zc) ⊕ (Nat × Int32 × Zc)) :=
  (zob c x0 12).bind fun w22 => (f_Mo_goesOn nf x0 0 c).bind fun q21 => some (.inl (x0, x1, q21.1, q21.2))
def g_Mo_round_66 (nf : Nat) (x0 : Nat) (x1 : Int32) (x2 : Int32) (c : Zc) : Option ((Nat × Int32 × Int32 × Zc) ⊕ (Nat × Int32 × Zc)) :=
  if x2 = 0 then (some (.inr (x0, x1, c))) else ((zob c x0 12).bind fun w19 => (f_Mo_holds nf x0 c).bind fun q18 => if q18.1 = 0 then (f_Mo_round_123 nf x0 x1 q18.2) else ((zgr q18.2 x0 12 77).bind fun v23 => (zgr q18.2 x0 12 74).bind fun v24 => (zgr q18.2 x0 12 48).bind fun v25 => (zgi q18.2 x0 12 25).bind fun v26 => (zai q18.2 v25 0 v26).bind fun v27 => (zai q18.2 v24 0 v27).bind fun v28 => (zgr q18.2 x0 12 74).bind fun v29 => (zgr q18.2 x0 12 49).bind fun v30 => (zgi q18.2 x0 12 25).bind fun v31 => (zai q18.2 v30 0 v31).bind fun v32 => (zai q18.2 v29 0 v32).bind fun v33 => (zsi q18.2 v23 0 (((256 * (x1 - 4)) + (16 * v28)) + v33) 1).bind fun c34 => f_Mo_round_123 nf x0 x1 c34))
def f_Mo_round_66 (nf : Nat) (x0 : Nat) (x1 : Int32) (x2 : Int32) (c : Zc) : Option ((Nat × Int32 × Zc) ⊕ (Nat × Zc)) :=
  (zlp (fun a => g_Mo_round_66 nf a.1 a.2.1 a.2.2.1 a.2.2.2) nf (x0, x1, x2, c)).bind fun b => f_Mo_round_132 nf b.1 b.2.1 b.2.2
def g_Mo_round_24 (nf : Nat) (x0 : Nat) (x1 : Int32) (c : Zc) : Option ((Nat × Int32 × Zc) ⊕ (Nat × Zc)) :=
  if 8 ≤ x1 then (some (.inr (x0, c))) else ((zgr c x0 12 23).bind fun v5 => (zai c v5 6 x1).bind fun v6 => if v6 = 0 then (f_Mo_round_132 nf x0 x1 c) else ((zgi c x0 12 0).bind fun v8 => if v8 ≤ 0 then (f_Mo_round_132 nf x0 x1 c) else ((zgr c x0 12 22).bind fun v10 => (zai c v10 0 x1).bind fun v11 => (zpv c x0 12 25 (.int v11)).bind fun c12 => (zob c12 x0 12).bind fun w14 => (f_Mo_measureAll nf x0 c12).bind fun q13 => (zob q13 x0 12).bind fun w16 => (f_Mo_firstRow nf x0 q13).bind fun q15 => f_Mo_round_66 nf x0 x1 1 q15)))
def f_Mo_round_174 (nf : Nat) (x0 : Nat) (x2 : Int32) (s0 : Int32) (s1 : Int32) (c : Zc) : Option ((Nat × Int32 × Int32 × Zc) ⊕ (Int32 × Zc)) :=
  (zgr c x0 12 9).bind fun v41 => (zai c v41 0 (2048 + x2)).bind fun v42 => (zgr c x0 12 77).bind fun v43 => (zai c v43 0 x2).bind fun v44 => (zsi c v41 0 (2048 + x2) (v42 ||| v44)).bind fun c45 => some (.inl (x0, (s0 ||| s1), (x2 + 1), c45))
def g_Mo_round_142 (nf : Nat) (x0 : Nat) (x1 : Int32) (x2 : Int32) (c : Zc) : Option ((Nat × Int32 × Int32 × Zc) ⊕ (Int32 × Zc)) :=
  if 1024 ≤ x2 then (some (.inr (x1, c))) else ((zgr c x0 12 77).bind fun v36 => (zai c v36 0 x2).bind fun v37 => (zgr c x0 12 9).bind fun v38 => (zai c v38 0 (2048 + x2)).bind fun v39 => if v37 ≤ v39 then (f_Mo_round_174 nf x0 x2 x1 0 c) else (f_Mo_round_174 nf x0 x2 x1 1 c))
def f_Mo_round_142 (nf : Nat) (x0 : Nat) (x1 : Int32) (x2 : Int32) (c : Zc) : Option (Int32 × Zc) :=
  (zlp (fun a => g_Mo_round_142 nf a.1 a.2.1 a.2.2.1 a.2.2.2) nf (x0, x1, x2, c)).bind fun b => zrz b.1 b.2
def f_Mo_round_24 (nf : Nat) (x0 : Nat) (x1 : Int32) (c : Zc) : Option (Int32 × Zc) :=
  (zlp (fun a => g_Mo_round_24 nf a.1 a.2.1 a.2.2) nf (x0, x1, c)).bind fun b => f_Mo_round_142 nf b.1 0 0 b.2
def f_Mo_round_2 (nf : Nat) (x0 : Nat) (x1 : Int32) (c : Zc) : Option (Int32 × Zc) :=
  (zlp (fun a => g_Mo_round_2 nf a.1 a.2.1 a.2.2) nf (x0, x1, c)).bind fun b => f_Mo_round_24 nf b.1 4 b.2
def f_Mo_round (nf : Nat) (a0 : Nat) (c : Zc) : Option (Int32 × Zc) :=
  f_Mo_round_2 nf a0 0 c
set_option maxRecDepth 100000 in
set_option maxHeartbeats 4000000 in
theorem u_Mo_round_2  (X : zX p s m args cd D cid B bb_Mo_round 3 rr_Mo zT) (H : zH s meth B n0 (some (.boolean)) "round") {nf : Nat} {x0 : Nat} {x1 : Int32} {c : Zc} {r : (Nat × Int32 × Zc) ⊕ (Nat × Zc)} (h : g_Mo_round_2 nf x0 x1 c = some r) (k0 : ∀ a, r = .inl a → (fun a : Nat × Int32 × Zc => Zz p l e (zRm 5 114 0 0) s m args below meth cd Q D cid B 3 0 0 a.2.2 2 [(0, .ref a.1), (1, .int a.2.1)] []) a) (k1 : ∀ b, r = .inr b → (fun b : Nat × Zc => Zz p l e (zRm 5 114 0 0) s m args below meth cd Q D cid B 3 0 0 b.2 22 [(0, .ref b.1)] []) b) : Zz p l e (zRm 5 114 0 0) s m args below meth cd Q D cid B 3 0 0 c 2 [(0, .ref x0), (1, .int x1)] [] := by
  unfold g_Mo_round_2 at h
  refine z_iload_n X dd_Mo_round_2 rfl 1 rfl ?_
  refine z_sipush (v := 1024) X dd_Mo_round_3 (by decide) ?_
  refine z_icmp_ge (tgt := 22) X dd_Mo_round_6 (by decide) (fun q1 => ?_) (fun q1 => ?_)
  · rw [if_pos q1] at h
    refine z_sub [0] rfl ?_
    obtain rfl := Option.some.inj h
    exact k1 _ rfl
  · rw [if_neg q1] at h
    refine z_aload_n X dd_Mo_round_9 rfl 0 rfl ?_
    obtain ⟨v2, ev2, h⟩ := zb h
    refine z_get (j := 77) X dd_Mo_round_10 kc_12 ki_12 (by decide) km_1598 (zgr_v ev2) ?_
    refine z_iload_n X dd_Mo_round_13 rfl 1 rfl ?_
    refine z_iconst (v := 0) X dd_Mo_round_14 (by decide) ?_
    obtain ⟨c3, ec3, h⟩ := zb h
    refine z_iastore X dd_Mo_round_15 rfl ec3 ?_
    refine z_iinc (v := (x1 + 1)) (lv' := [(1, .int (x1 + 1)), (0, .ref x0)]) X dd_Mo_round_16 1 rfl rfl (by decide) rfl ?_
    refine z_goto (tgt := 2) X dd_Mo_round_19 (by decide) ?_
    refine z_sub [1, 0] rfl ?_
    obtain rfl := Option.some.inj h
    exact k0 _ rfl
set_option maxRecDepth 100000 in
set_option maxHeartbeats 4000000 in
theorem t_Mo_round_132  (X : zX p s m args cd D cid B bb_Mo_round 3 rr_Mo zT) (H : zH s meth B n0 (some (.boolean)) "round") {nf : Nat} {x0 : Nat} {x1 : Int32} {c : Zc} {r : (Nat × Int32 × Zc) ⊕ (Nat × Zc)} (h : f_Mo_round_132 nf x0 x1 c = some r) (k0 : ∀ a, r = .inl a → (fun a : Nat × Int32 × Zc => Zz p l e (zRm 5 114 0 0) s m args below meth cd Q D cid B 3 0 0 a.2.2 24 [(0, .ref a.1), (1, .int a.2.1)] []) a) (k1 : ∀ b, r = .inr b → (fun b : Nat × Zc => Zz p l e (zRm 5 114 0 0) s m args below meth cd Q D cid B 3 0 0 b.2 138 [(0, .ref b.1)] []) b) : Zz p l e (zRm 5 114 0 0) s m args below meth cd Q D cid B 3 0 0 c 132 [(0, .ref x0), (1, .int x1)] [] := by
  unfold f_Mo_round_132 at h
  refine z_iinc (v := (x1 + 1)) (lv' := [(1, .int (x1 + 1)), (0, .ref x0)]) X dd_Mo_round_132 1 rfl rfl (by decide) rfl ?_
  refine z_goto (tgt := 24) X dd_Mo_round_135 (by decide) ?_
  refine z_sub [1, 0] rfl ?_
  obtain rfl := Option.some.inj h
  exact k0 _ rfl
set_option maxRecDepth 100000 in
set_option maxHeartbeats 4000000 in
theorem t_Mo_round_123  (X : zX p s m args cd D cid B bb_Mo_round 3 rr_Mo zT) (H : zH s meth B n0 (some (.boolean)) "round") {nf : Nat} {x0 : Nat} {x1 : Int32} {c : Zc} {r : (Nat × Int32 × Int32 × Zc) ⊕ (Nat × Int32 × Zc)} (h : f_Mo_round_123 nf x0 x1 c = some r) (k0 : ∀ a, r = .inl a → (fun a : Nat × Int32 × Int32 × Zc => Zz p l e (zRm 5 114 0 0) s m args below meth cd Q D cid B 3 0 0 a.2.2.2 66 [(0, .ref a.1), (1, .int a.2.1), (2, .int a.2.2.1)] []) a) (k1 : ∀ b, r = .inr b → (fun b : Nat × Int32 × Zc => Zz p l e (zRm 5 114 0 0) s m args below meth cd Q D cid B 3 0 0 b.2.2 132 [(0, .ref b.1), (1, .int b.2.1)] []) b) : Zz p l e (zRm 5 114 0 0) s m args below meth cd Q D cid B 3 0 0 c 123 [(0, .ref x0), (1, .int x1)] [] := by
  unfold f_Mo_round_123 at h
  refine z_aload_n X dd_Mo_round_123 rfl 0 rfl ?_
  refine z_iconst (v := 0) X dd_Mo_round_124 (by decide) ?_
  obtain ⟨w22, ew22, h⟩ := zb h
  obtain ⟨q21, eq21, h⟩ := zb h
  refine z_callVi X [.int 0] rfl dd_Mo_round_125 (c_Mo_goesOn l eq21) (cwV 1 X.1.2.2.2.2 (zg_V km_2121 km_2123 km_117 km_138 km_2124) rfl rfl rfl (by decide +kernel) ⟨Nat.le_of_ble_eq_true rfl, Nat.le_of_ble_eq_true rfl⟩) (zob_s ew22) kc_12 rfl (Nat.le_of_ble_eq_true rfl) ⟨Nat.le_of_ble_eq_true rfl, Nat.le_of_ble_eq_true rfl⟩ ?_
  refine z_istore_n (lv' := [(2, .int q21.1), (0, .ref x0), (1, .int x1)]) X dd_Mo_round_128 rfl (by decide) rfl ?_
  refine z_goto (tgt := 66) X dd_Mo_round_129 (by decide) ?_
  refine z_sub [1, 2, 0] rfl ?_
  obtain rfl := Option.some.inj h
  exact k0 _ rfl
set_option maxRecDepth 100000 in
set_option maxHeartbeats 4000000 in
theorem u_Mo_round_66  (X : zX p s m args cd D cid B bb_Mo_round 3 rr_Mo zT) (H : zH s meth B n0 (some (.boolean)) "round") {nf : Nat} {x0 : Nat} {x1 : Int32} {x2 : Int32} {c : Zc} {r : (Nat × Int32 × Int32 × Zc) ⊕ (Nat × Int32 × Zc)} (h : g_Mo_round_66 nf x0 x1 x2 c = some r) (k0 : ∀ a, r = .inl a → (fun a : Nat × Int32 × Int32 × Zc => Zz p l e (zRm 5 114 0 0) s m args below meth cd Q D cid B 3 0 0 a.2.2.2 66 [(0, .ref a.1), (1, .int a.2.1), (2, .int a.2.2.1)] []) a) (k1 : ∀ b, r = .inr b → (fun b : Nat × Int32 × Zc => Zz p l e (zRm 5 114 0 0) s m args below meth cd Q D cid B 3 0 0 b.2.2 132 [(0, .ref b.1), (1, .int b.2.1)] []) b) : Zz p l e (zRm 5 114 0 0) s m args below meth cd Q D cid B 3 0 0 c 66 [(0, .ref x0), (1, .int x1), (2, .int x2)] [] := by
  unfold g_Mo_round_66 at h
  refine z_iload_n X dd_Mo_round_66 rfl 2 rfl ?_
  refine z_if_eq (tgt := 132) X dd_Mo_round_67 (by decide) (fun q17 => ?_) (fun q17 => ?_)
  · rw [if_pos q17] at h
    refine z_sub [0, 1] rfl ?_
    obtain rfl := Option.some.inj h
    exact k1 _ rfl
  · rw [if_neg q17] at h
    refine z_aload_n X dd_Mo_round_70 rfl 0 rfl ?_
    obtain ⟨w19, ew19, h⟩ := zb h
    obtain ⟨q18, eq18, h⟩ := zb h
    refine z_callVi X [] rfl dd_Mo_round_71 (c_Mo_holds l eq18) (cwV 0 X.1.2.2.2.2 (zg_V km_2101 km_2103 km_112 km_138 km_2104) rfl rfl rfl (by decide +kernel) ⟨Nat.le_of_ble_eq_true rfl, Nat.le_of_ble_eq_true rfl⟩) (zob_s ew19) kc_12 rfl (Nat.le_of_ble_eq_true rfl) ⟨Nat.le_of_ble_eq_true rfl, Nat.le_of_ble_eq_true rfl⟩ ?_
    refine z_if_eq (tgt := 123) X dd_Mo_round_74 (by decide) (fun q20 => ?_) (fun q20 => ?_)
    · rw [if_pos q20] at h
      refine z_sub [0, 1] rfl ?_
      exact t_Mo_round_123 X H h k0 k1
    · rw [if_neg q20] at h
      refine z_aload_n X dd_Mo_round_77 rfl 0 rfl ?_
      obtain ⟨v23, ev23, h⟩ := zb h
      refine z_get (j := 77) X dd_Mo_round_78 kc_12 ki_12 (by decide) km_1598 (zgr_v ev23) ?_
      refine z_sipush (v := 256) X dd_Mo_round_81 (by decide) ?_
      refine z_iload_n X dd_Mo_round_84 rfl 1 rfl ?_
      refine z_iconst (v := 4) X dd_Mo_round_85 (by decide) ?_
      refine z_isub X dd_Mo_round_86 ?_
      refine z_imul X dd_Mo_round_87 ?_
      refine z_bipush (v := 16) X dd_Mo_round_88 (by decide) ?_
      refine z_aload_n X dd_Mo_round_90 rfl 0 rfl ?_
      obtain ⟨v24, ev24, h⟩ := zb h
      refine z_get (j := 74) X dd_Mo_round_91 kc_12 ki_12 (by decide) km_1595 (zgr_v ev24) ?_
      refine z_aload_n X dd_Mo_round_94 rfl 0 rfl ?_
      obtain ⟨v25, ev25, h⟩ := zb h
      refine z_get (j := 48) X dd_Mo_round_95 kc_12 ki_12 (by decide) km_1569 (zgr_v ev25) ?_
      refine z_aload_n X dd_Mo_round_98 rfl 0 rfl ?_
      obtain ⟨v26, ev26, h⟩ := zb h
      refine z_get (j := 25) X dd_Mo_round_99 kc_12 ki_12 (by decide) km_1546 (zgi_v ev26) ?_
      obtain ⟨v27, ev27, h⟩ := zb h
      refine z_iaload X dd_Mo_round_102 rfl ev27 ?_
      obtain ⟨v28, ev28, h⟩ := zb h
      refine z_iaload X dd_Mo_round_103 rfl ev28 ?_
      refine z_imul X dd_Mo_round_104 ?_
      refine z_iadd X dd_Mo_round_105 ?_
      refine z_aload_n X dd_Mo_round_106 rfl 0 rfl ?_
      obtain ⟨v29, ev29, h⟩ := zb h
      refine z_get (j := 74) X dd_Mo_round_107 kc_12 ki_12 (by decide) km_1595 (zgr_v ev29) ?_
      refine z_aload_n X dd_Mo_round_110 rfl 0 rfl ?_
      obtain ⟨v30, ev30, h⟩ := zb h
      refine z_get (j := 49) X dd_Mo_round_111 kc_12 ki_12 (by decide) km_1570 (zgr_v ev30) ?_
      refine z_aload_n X dd_Mo_round_114 rfl 0 rfl ?_
      obtain ⟨v31, ev31, h⟩ := zb h
      refine z_get (j := 25) X dd_Mo_round_115 kc_12 ki_12 (by decide) km_1546 (zgi_v ev31) ?_
      obtain ⟨v32, ev32, h⟩ := zb h
      refine z_iaload X dd_Mo_round_118 rfl ev32 ?_
      obtain ⟨v33, ev33, h⟩ := zb h
      refine z_iaload X dd_Mo_round_119 rfl ev33 ?_
      refine z_iadd X dd_Mo_round_120 ?_
      refine z_iconst (v := 1) X dd_Mo_round_121 (by decide) ?_
      obtain ⟨c34, ec34, h⟩ := zb h
      refine z_iastore X dd_Mo_round_122 rfl ec34 ?_
      refine z_sub [0, 1] rfl ?_
      exact t_Mo_round_123 X H h k0 k1
set_option maxRecDepth 100000 in
set_option maxHeartbeats 4000000 in
theorem t_Mo_round_66  (X : zX p s m args cd D cid B bb_Mo_round 3 rr_Mo zT) (H : zH s meth B n0 (some (.boolean)) "round") {nf : Nat} {x0 : Nat} {x1 : Int32} {x2 : Int32} {c : Zc} {r : (Nat × Int32 × Zc) ⊕ (Nat × Zc)} (h : f_Mo_round_66 nf x0 x1 x2 c = some r) (k0 : ∀ a, r = .inl a → (fun a : Nat × Int32 × Zc => Zz p l e (zRm 5 114 0 0) s m args below meth cd Q D cid B 3 0 0 a.2.2 24 [(0, .ref a.1), (1, .int a.2.1)] []) a) (k1 : ∀ b, r = .inr b → (fun b : Nat × Zc => Zz p l e (zRm 5 114 0 0) s m args below meth cd Q D cid B 3 0 0 b.2 138 [(0, .ref b.1)] []) b) : Zz p l e (zRm 5 114 0 0) s m args below meth cd Q D cid B 3 0 0 c 66 [(0, .ref x0), (1, .int x1), (2, .int x2)] [] := by
  unfold f_Mo_round_66 at h
  obtain ⟨b, eb, h⟩ := zb h
  refine zlp_ok (P := fun a : Nat × Int32 × Int32 × Zc => Zz p l e (zRm 5 114 0 0) s m args below meth cd _ D cid B 3 0 0 a.2.2.2 66 [(0, .ref a.1), (1, .int a.2.1), (2, .int a.2.2.1)] []) (G := fun b : Nat × Int32 × Zc => Zz p l e (zRm 5 114 0 0) s m args below meth cd _ D cid B 3 0 0 b.2.2 132 [(0, .ref b.1), (1, .int b.2.1)] []) (fun a r ha k0 k1 => u_Mo_round_66 X H ha k0 k1) nf _ b eb ?_
  exact t_Mo_round_132 X H h k0 k1
set_option maxRecDepth 100000 in
set_option maxHeartbeats 4000000 in
theorem u_Mo_round_24  (X : zX p s m args cd D cid B bb_Mo_round 3 rr_Mo zT) (H : zH s meth B n0 (some (.boolean)) "round") {nf : Nat} {x0 : Nat} {x1 : Int32} {c : Zc} {r : (Nat × Int32 × Zc) ⊕ (Nat × Zc)} (h : g_Mo_round_24 nf x0 x1 c = some r) (k0 : ∀ a, r = .inl a → (fun a : Nat × Int32 × Zc => Zz p l e (zRm 5 114 0 0) s m args below meth cd Q D cid B 3 0 0 a.2.2 24 [(0, .ref a.1), (1, .int a.2.1)] []) a) (k1 : ∀ b, r = .inr b → (fun b : Nat × Zc => Zz p l e (zRm 5 114 0 0) s m args below meth cd Q D cid B 3 0 0 b.2 138 [(0, .ref b.1)] []) b) : Zz p l e (zRm 5 114 0 0) s m args below meth cd Q D cid B 3 0 0 c 24 [(0, .ref x0), (1, .int x1)] [] := by
  unfold g_Mo_round_24 at h
  refine z_iload_n X dd_Mo_round_24 rfl 1 rfl ?_
  refine z_bipush (v := 8) X dd_Mo_round_25 (by decide) ?_
  refine z_icmp_ge (tgt := 138) X dd_Mo_round_27 (by decide) (fun q4 => ?_) (fun q4 => ?_)
  · rw [if_pos q4] at h
    refine z_sub [0] rfl ?_
    obtain rfl := Option.some.inj h
    exact k1 _ rfl
  · rw [if_neg q4] at h
    refine z_aload_n X dd_Mo_round_30 rfl 0 rfl ?_
    obtain ⟨v5, ev5, h⟩ := zb h
    refine z_get (j := 23) X dd_Mo_round_31 kc_12 ki_12 (by decide) km_1544 (zgr_v ev5) ?_
    refine z_iload_n X dd_Mo_round_34 rfl 1 rfl ?_
    obtain ⟨v6, ev6, h⟩ := zb h
    refine z_zaload X dd_Mo_round_35 rfl ev6 ?_
    refine z_if_eq (tgt := 132) X dd_Mo_round_36 (by decide) (fun q7 => ?_) (fun q7 => ?_)
    · rw [if_pos q7] at h
      exact t_Mo_round_132 X H h k0 k1
    · rw [if_neg q7] at h
      refine z_aload_n X dd_Mo_round_39 rfl 0 rfl ?_
      obtain ⟨v8, ev8, h⟩ := zb h
      refine z_get (j := 0) X dd_Mo_round_40 kc_12 ki_12 (by decide) km_1521 (zgi_v ev8) ?_
      refine z_if_le (tgt := 132) X dd_Mo_round_43 (by decide) (fun q9 => ?_) (fun q9 => ?_)
      · rw [if_pos q9] at h
        exact t_Mo_round_132 X H h k0 k1
      · rw [if_neg q9] at h
        refine z_aload_n X dd_Mo_round_46 rfl 0 rfl ?_
        refine z_aload_n X dd_Mo_round_47 rfl 0 rfl ?_
        obtain ⟨v10, ev10, h⟩ := zb h
        refine z_get (j := 22) X dd_Mo_round_48 kc_12 ki_12 (by decide) km_1543 (zgr_v ev10) ?_
        refine z_iload_n X dd_Mo_round_51 rfl 1 rfl ?_
        obtain ⟨v11, ev11, h⟩ := zb h
        refine z_iaload X dd_Mo_round_52 rfl ev11 ?_
        obtain ⟨c12, ec12, h⟩ := zb h
        refine z_put (j := 25) X dd_Mo_round_53 kc_12 ki_12 tt_Mo tk_Mo nn_Mo (by decide) km_1546 rfl (tk_Mo 25 (by decide)) rfl rfl ec12 ?_
        refine z_aload_n X dd_Mo_round_56 rfl 0 rfl ?_
        obtain ⟨w14, ew14, h⟩ := zb h
        obtain ⟨q13, eq13, h⟩ := zb h
        refine z_callVv X [] rfl dd_Mo_round_57 (c_Mo_measureAll l eq13) (cwV 0 X.1.2.2.2.2 (zg_V km_2085 km_2087 km_108 km_138 km_2088) rfl rfl rfl (by decide +kernel) ⟨Nat.le_of_ble_eq_true rfl, Nat.le_of_ble_eq_true rfl⟩) (zob_s ew14) kc_12 rfl (Nat.le_of_ble_eq_true rfl) ⟨Nat.le_of_ble_eq_true rfl, Nat.le_of_ble_eq_true rfl⟩ ?_
        refine z_aload_n X dd_Mo_round_60 rfl 0 rfl ?_
        obtain ⟨w16, ew16, h⟩ := zb h
        obtain ⟨q15, eq15, h⟩ := zb h
        refine z_callVv X [] rfl dd_Mo_round_61 (c_Mo_firstRow l eq15) (cwV 0 X.1.2.2.2.2 (zg_V km_2097 km_2099 km_111 km_138 km_2100) rfl rfl rfl (by decide +kernel) ⟨Nat.le_of_ble_eq_true rfl, Nat.le_of_ble_eq_true rfl⟩) (zob_s ew16) kc_12 rfl (Nat.le_of_ble_eq_true rfl) ⟨Nat.le_of_ble_eq_true rfl, Nat.le_of_ble_eq_true rfl⟩ ?_
        refine z_iconst (v := 1) X dd_Mo_round_64 (by decide) ?_
        refine z_istore_n (lv' := [(2, .int 1), (0, .ref x0), (1, .int x1)]) X dd_Mo_round_65 rfl (by decide) rfl ?_
        refine z_sub [1, 2, 0] rfl ?_
        exact t_Mo_round_66 X H h k0 k1
set_option maxRecDepth 100000 in
set_option maxHeartbeats 4000000 in
theorem t_Mo_round_174  (X : zX p s m args cd D cid B bb_Mo_round 3 rr_Mo zT) (H : zH s meth B n0 (some (.boolean)) "round") {nf : Nat} {x0 : Nat} {x2 : Int32} {s0 : Int32} {s1 : Int32} {c : Zc} {r : (Nat × Int32 × Int32 × Zc) ⊕ (Int32 × Zc)} (h : f_Mo_round_174 nf x0 x2 s0 s1 c = some r) (k0 : ∀ a, r = .inl a → (fun a : Nat × Int32 × Int32 × Zc => Zz p l e (zRm 5 114 0 0) s m args below meth cd Q D cid B 3 0 0 a.2.2.2 142 [(0, .ref a.1), (1, .int a.2.1), (2, .int a.2.2.1)] []) a) (k1 : ∀ b, r = .inr b → (fun b : Int32 × Zc => Zz p l e (zRm 5 114 0 0) s m args below meth cd Q D cid B 3 0 0 b.2 201 [(1, .int b.1)] []) b) : Zz p l e (zRm 5 114 0 0) s m args below meth cd Q D cid B 3 0 0 c 174 [(0, .ref x0), (2, .int x2)] [.int s1, .int s0] := by
  unfold f_Mo_round_174 at h
  refine z_ior X dd_Mo_round_174 ?_
  refine z_istore_n (lv' := [(1, .int (s0 ||| s1)), (0, .ref x0), (2, .int x2)]) X dd_Mo_round_175 rfl (by decide) rfl ?_
  refine z_aload_n X dd_Mo_round_176 rfl 1 rfl ?_
  obtain ⟨v41, ev41, h⟩ := zb h
  refine z_get (j := 9) X dd_Mo_round_177 kc_12 ki_12 (by decide) km_1530 (zgr_v ev41) ?_
  refine z_sipush (v := 2048) X dd_Mo_round_180 (by decide) ?_
  refine z_iload_n X dd_Mo_round_183 rfl 2 rfl ?_
  refine z_iadd X dd_Mo_round_184 ?_
  refine z_dup2_11 X dd_Mo_round_185 rfl rfl ?_
  obtain ⟨v42, ev42, h⟩ := zb h
  refine z_iaload X dd_Mo_round_186 rfl ev42 ?_
  refine z_aload_n X dd_Mo_round_187 rfl 1 rfl ?_
  obtain ⟨v43, ev43, h⟩ := zb h
  refine z_get (j := 77) X dd_Mo_round_188 kc_12 ki_12 (by decide) km_1598 (zgr_v ev43) ?_
  refine z_iload_n X dd_Mo_round_191 rfl 2 rfl ?_
  obtain ⟨v44, ev44, h⟩ := zb h
  refine z_iaload X dd_Mo_round_192 rfl ev44 ?_
  refine z_ior X dd_Mo_round_193 ?_
  obtain ⟨c45, ec45, h⟩ := zb h
  refine z_iastore X dd_Mo_round_194 rfl ec45 ?_
  refine z_iinc (v := (x2 + 1)) (lv' := [(2, .int (x2 + 1)), (1, .int (s0 ||| s1)), (0, .ref x0)]) X dd_Mo_round_195 2 rfl rfl (by decide) rfl ?_
  refine z_goto (tgt := 142) X dd_Mo_round_198 (by decide) ?_
  refine z_sub [2, 1, 0] rfl ?_
  obtain rfl := Option.some.inj h
  exact k0 _ rfl
set_option maxRecDepth 100000 in
set_option maxHeartbeats 4000000 in
theorem u_Mo_round_142  (X : zX p s m args cd D cid B bb_Mo_round 3 rr_Mo zT) (H : zH s meth B n0 (some (.boolean)) "round") {nf : Nat} {x0 : Nat} {x1 : Int32} {x2 : Int32} {c : Zc} {r : (Nat × Int32 × Int32 × Zc) ⊕ (Int32 × Zc)} (h : g_Mo_round_142 nf x0 x1 x2 c = some r) (k0 : ∀ a, r = .inl a → (fun a : Nat × Int32 × Int32 × Zc => Zz p l e (zRm 5 114 0 0) s m args below meth cd Q D cid B 3 0 0 a.2.2.2 142 [(0, .ref a.1), (1, .int a.2.1), (2, .int a.2.2.1)] []) a) (k1 : ∀ b, r = .inr b → (fun b : Int32 × Zc => Zz p l e (zRm 5 114 0 0) s m args below meth cd Q D cid B 3 0 0 b.2 201 [(1, .int b.1)] []) b) : Zz p l e (zRm 5 114 0 0) s m args below meth cd Q D cid B 3 0 0 c 142 [(0, .ref x0), (1, .int x1), (2, .int x2)] [] := by
  unfold g_Mo_round_142 at h
  refine z_iload_n X dd_Mo_round_142 rfl 2 rfl ?_
  refine z_sipush (v := 1024) X dd_Mo_round_143 (by decide) ?_
  refine z_icmp_ge (tgt := 201) X dd_Mo_round_146 (by decide) (fun q35 => ?_) (fun q35 => ?_)
  · rw [if_pos q35] at h
    refine z_sub [1] rfl ?_
    obtain rfl := Option.some.inj h
    exact k1 _ rfl
  · rw [if_neg q35] at h
    refine z_iload_n X dd_Mo_round_149 rfl 1 rfl ?_
    refine z_aload_n X dd_Mo_round_150 rfl 0 rfl ?_
    obtain ⟨v36, ev36, h⟩ := zb h
    refine z_get (j := 77) X dd_Mo_round_151 kc_12 ki_12 (by decide) km_1598 (zgr_v ev36) ?_
    refine z_iload_n X dd_Mo_round_154 rfl 2 rfl ?_
    obtain ⟨v37, ev37, h⟩ := zb h
    refine z_iaload X dd_Mo_round_155 rfl ev37 ?_
    refine z_aload_n X dd_Mo_round_156 rfl 0 rfl ?_
    obtain ⟨v38, ev38, h⟩ := zb h
    refine z_get (j := 9) X dd_Mo_round_157 kc_12 ki_12 (by decide) km_1530 (zgr_v ev38) ?_
    refine z_sipush (v := 2048) X dd_Mo_round_160 (by decide) ?_
    refine z_iload_n X dd_Mo_round_163 rfl 2 rfl ?_
    refine z_iadd X dd_Mo_round_164 ?_
    obtain ⟨v39, ev39, h⟩ := zb h
    refine z_iaload X dd_Mo_round_165 rfl ev39 ?_
    refine z_icmp_le (tgt := 173) X dd_Mo_round_166 (by decide) (fun q40 => ?_) (fun q40 => ?_)
    · rw [if_pos q40] at h
      refine z_iconst (v := 0) X dd_Mo_round_173 (by decide) ?_
      refine z_sub [0, 2] rfl ?_
      exact t_Mo_round_174 X H h k0 k1
    · rw [if_neg q40] at h
      refine z_iconst (v := 1) X dd_Mo_round_169 (by decide) ?_
      refine z_goto (tgt := 174) X dd_Mo_round_170 (by decide) ?_
      refine z_sub [0, 2] rfl ?_
      exact t_Mo_round_174 X H h k0 k1
set_option maxRecDepth 100000 in
set_option maxHeartbeats 4000000 in
theorem t_Mo_round_142  (X : zX p s m args cd D cid B bb_Mo_round 3 rr_Mo zT) (H : zH s meth B n0 (some (.boolean)) "round") {nf : Nat} {x0 : Nat} {x1 : Int32} {x2 : Int32} {c : Zc} {res : Int32 × Zc} (h : f_Mo_round_142 nf x0 x1 x2 c = some res) : Zz p l e (zRm 5 114 0 0) s m args below meth cd (MQ below (zQi D cid B res.1 res.2 n0 0) args s 0 0 (fun q => B ≤ q)) D cid B 3 0 0 c 142 [(0, .ref x0), (1, .int x1), (2, .int x2)] [] := by
  unfold f_Mo_round_142 at h
  obtain ⟨b, eb, h⟩ := zb h
  refine zlp_ok (P := fun a : Nat × Int32 × Int32 × Zc => Zz p l e (zRm 5 114 0 0) s m args below meth cd _ D cid B 3 0 0 a.2.2.2 142 [(0, .ref a.1), (1, .int a.2.1), (2, .int a.2.2.1)] []) (G := fun b : Int32 × Zc => Zz p l e (zRm 5 114 0 0) s m args below meth cd _ D cid B 3 0 0 b.2 201 [(1, .int b.1)] []) (fun a r ha k0 k1 => u_Mo_round_142 X H ha k0 k1) nf _ b eb ?_
  refine z_iload_n X dd_Mo_round_201 rfl 0 rfl ?_
  obtain ⟨hz, h⟩ := zrz_s h
  obtain rfl := h
  exact z_zret X H.1 (zn_z hz) H.2.1 H.2.2.1 dd_Mo_round_202
set_option maxRecDepth 100000 in
set_option maxHeartbeats 4000000 in
theorem t_Mo_round_24  (X : zX p s m args cd D cid B bb_Mo_round 3 rr_Mo zT) (H : zH s meth B n0 (some (.boolean)) "round") {nf : Nat} {x0 : Nat} {x1 : Int32} {c : Zc} {res : Int32 × Zc} (h : f_Mo_round_24 nf x0 x1 c = some res) : Zz p l e (zRm 5 114 0 0) s m args below meth cd (MQ below (zQi D cid B res.1 res.2 n0 0) args s 0 0 (fun q => B ≤ q)) D cid B 3 0 0 c 24 [(0, .ref x0), (1, .int x1)] [] := by
  unfold f_Mo_round_24 at h
  obtain ⟨b, eb, h⟩ := zb h
  refine zlp_ok (P := fun a : Nat × Int32 × Zc => Zz p l e (zRm 5 114 0 0) s m args below meth cd _ D cid B 3 0 0 a.2.2 24 [(0, .ref a.1), (1, .int a.2.1)] []) (G := fun b : Nat × Zc => Zz p l e (zRm 5 114 0 0) s m args below meth cd _ D cid B 3 0 0 b.2 138 [(0, .ref b.1)] []) (fun a r ha k0 k1 => u_Mo_round_24 X H ha k0 k1) nf _ b eb ?_
  refine z_iconst (v := 0) X dd_Mo_round_138 (by decide) ?_
  refine z_istore_n (lv' := [(1, .int 0), (0, .ref b.1)]) X dd_Mo_round_139 rfl (by decide) rfl ?_
  refine z_iconst (v := 0) X dd_Mo_round_140 (by decide) ?_
  refine z_istore_n (lv' := [(2, .int 0), (1, .int 0), (0, .ref b.1)]) X dd_Mo_round_141 rfl (by decide) rfl ?_
  refine z_sub [2, 1, 0] rfl ?_
  exact t_Mo_round_142 X H h
set_option maxRecDepth 100000 in
set_option maxHeartbeats 4000000 in
theorem t_Mo_round_2  (X : zX p s m args cd D cid B bb_Mo_round 3 rr_Mo zT) (H : zH s meth B n0 (some (.boolean)) "round") {nf : Nat} {x0 : Nat} {x1 : Int32} {c : Zc} {res : Int32 × Zc} (h : f_Mo_round_2 nf x0 x1 c = some res) : Zz p l e (zRm 5 114 0 0) s m args below meth cd (MQ below (zQi D cid B res.1 res.2 n0 0) args s 0 0 (fun q => B ≤ q)) D cid B 3 0 0 c 2 [(0, .ref x0), (1, .int x1)] [] := by
  unfold f_Mo_round_2 at h
  obtain ⟨b, eb, h⟩ := zb h
  refine zlp_ok (P := fun a : Nat × Int32 × Zc => Zz p l e (zRm 5 114 0 0) s m args below meth cd _ D cid B 3 0 0 a.2.2 2 [(0, .ref a.1), (1, .int a.2.1)] []) (G := fun b : Nat × Zc => Zz p l e (zRm 5 114 0 0) s m args below meth cd _ D cid B 3 0 0 b.2 22 [(0, .ref b.1)] []) (fun a r ha k0 k1 => u_Mo_round_2 X H ha k0 k1) nf _ b eb ?_
  refine z_iconst (v := 4) X dd_Mo_round_22 (by decide) ?_
  refine z_istore_n (lv' := [(1, .int 4), (0, .ref b.1)]) X dd_Mo_round_23 rfl (by decide) rfl ?_
  refine z_sub [1, 0] rfl ?_
  exact t_Mo_round_24 X H h
set_option maxRecDepth 100000 in
set_option maxHeartbeats 4000000 in
theorem c_Mo_round (l : Launch) {nf : Nat} {a0 : Nat} {c : Zc} {res : Int32 × Zc} (h : f_Mo_round nf a0 c = some res) : zM l yy_Mo_round ww_Mo_round 5 114 0 0 [.ref a0] c (fun D cid B => zQi D cid B res.1 res.2 c.length 0) := by
  refine z_met (cc := bb_Mo_round) (maxL := 3) (ret := (some (.boolean))) (by decide +kernel) rfl (Nat.le_of_ble_eq_true rfl) ?_
  intro p e s m args below meth cd D cid B X h1 h2 h3 h4
  have X : zX p s m args cd D cid B bb_Mo_round 3 rr_Mo zT := X
  have H : zH s meth B c.length (some (.boolean)) "round" := ⟨h1, h2, h4, h3⟩
  unfold f_Mo_round at h
  show Zz p l e (zRm 5 114 0 0) s m args below meth cd _ D cid B 3 0 0 c 0 [(0, .ref a0)] []
  refine z_iconst (v := 0) X dd_Mo_round_0 (by decide) ?_
  refine z_istore_n (lv' := [(1, .int 0), (0, .ref a0)]) X dd_Mo_round_1 rfl (by decide) rfl ?_
  refine z_sub [1, 0] rfl ?_
  exact t_Mo_round_2 X H h
theorem dd_Mo_workRules_0 : decode bb_Mo_workRules 0 = .ok (.aload_n 0, 1) := by decide +kernel
theorem dd_Mo_workRules_1 : decode bb_Mo_workRules 1 = .ok (.getfield 35, 3) := by decide +kernel
theorem dd_Mo_workRules_4 : decode bb_Mo_workRules 4 = .ok (.ifCond .ne 4, 3) := by decide +kernel
theorem dd_Mo_workRules_7 : decode bb_Mo_workRules 7 = .ok (.return_, 1) := by decide +kernel
theorem dd_Mo_workRules_8 : decode bb_Mo_workRules 8 = .ok (.aload_n 0, 1) := by decide +kernel
theorem dd_Mo_workRules_9 : decode bb_Mo_workRules 9 = .ok (.iconst 0, 1) := by decide +kernel
theorem dd_Mo_workRules_10 : decode bb_Mo_workRules 10 = .ok (.putfield 35, 3) := by decide +kernel
theorem dd_Mo_workRules_13 : decode bb_Mo_workRules 13 = .ok (.aload_n 0, 1) := by decide +kernel
theorem dd_Mo_workRules_14 : decode bb_Mo_workRules 14 = .ok (.iconst 0, 1) := by decide +kernel
theorem dd_Mo_workRules_15 : decode bb_Mo_workRules 15 = .ok (.putfield 488, 3) := by decide +kernel
theorem dd_Mo_workRules_18 : decode bb_Mo_workRules 18 = .ok (.iconst 0, 1) := by decide +kernel
theorem dd_Mo_workRules_19 : decode bb_Mo_workRules 19 = .ok (.istore_n 1, 1) := by decide +kernel
theorem dd_Mo_workRules_20 : decode bb_Mo_workRules 20 = .ok (.iload_n 1, 1) := by decide +kernel
theorem dd_Mo_workRules_21 : decode bb_Mo_workRules 21 = .ok (.sipush 3328, 3) := by decide +kernel
theorem dd_Mo_workRules_24 : decode bb_Mo_workRules 24 = .ok (.if_icmp .ge 16, 3) := by decide +kernel
theorem dd_Mo_workRules_27 : decode bb_Mo_workRules 27 = .ok (.aload_n 0, 1) := by decide +kernel
theorem dd_Mo_workRules_28 : decode bb_Mo_workRules 28 = .ok (.getfield 32, 3) := by decide +kernel
theorem dd_Mo_workRules_31 : decode bb_Mo_workRules 31 = .ok (.iload_n 1, 1) := by decide +kernel
theorem dd_Mo_workRules_32 : decode bb_Mo_workRules 32 = .ok (.iconst 0, 1) := by decide +kernel
theorem dd_Mo_workRules_33 : decode bb_Mo_workRules 33 = .ok (.iastore, 1) := by decide +kernel
theorem dd_Mo_workRules_34 : decode bb_Mo_workRules 34 = .ok (.iinc 1 1, 3) := by decide +kernel
theorem dd_Mo_workRules_37 : decode bb_Mo_workRules 37 = .ok (.goto (-17), 3) := by decide +kernel
theorem dd_Mo_workRules_40 : decode bb_Mo_workRules 40 = .ok (.iconst 0, 1) := by decide +kernel
theorem dd_Mo_workRules_41 : decode bb_Mo_workRules 41 = .ok (.istore_n 1, 1) := by decide +kernel
theorem dd_Mo_workRules_42 : decode bb_Mo_workRules 42 = .ok (.iload_n 1, 1) := by decide +kernel
theorem dd_Mo_workRules_43 : decode bb_Mo_workRules 43 = .ok (.bipush 100, 2) := by decide +kernel
theorem dd_Mo_workRules_45 : decode bb_Mo_workRules 45 = .ok (.if_icmp .ge 83, 3) := by decide +kernel
theorem dd_Mo_workRules_48 : decode bb_Mo_workRules 48 = .ok (.aload_n 0, 1) := by decide +kernel
theorem dd_Mo_workRules_49 : decode bb_Mo_workRules 49 = .ok (.getfield 16, 3) := by decide +kernel
theorem dd_Mo_workRules_52 : decode bb_Mo_workRules 52 = .ok (.iload_n 1, 1) := by decide +kernel
theorem dd_Mo_workRules_53 : decode bb_Mo_workRules 53 = .ok (.baload, 1) := by decide +kernel
theorem dd_Mo_workRules_54 : decode bb_Mo_workRules 54 = .ok (.ifCond .eq 68, 3) := by decide +kernel
theorem dd_Mo_workRules_57 : decode bb_Mo_workRules 57 = .ok (.aload_n 0, 1) := by decide +kernel
theorem dd_Mo_workRules_58 : decode bb_Mo_workRules 58 = .ok (.getfield 32, 3) := by decide +kernel
theorem dd_Mo_workRules_61 : decode bb_Mo_workRules 61 = .ok (.sipush 256, 3) := by decide +kernel
theorem dd_Mo_workRules_64 : decode bb_Mo_workRules 64 = .ok (.aload_n 0, 1) := by decide +kernel
theorem dd_Mo_workRules_65 : decode bb_Mo_workRules 65 = .ok (.getfield 26, 3) := by decide +kernel
theorem dd_Mo_workRules_68 : decode bb_Mo_workRules 68 = .ok (.iload_n 1, 1) := by decide +kernel
theorem dd_Mo_workRules_69 : decode bb_Mo_workRules 69 = .ok (.iaload, 1) := by decide +kernel
theorem dd_Mo_workRules_70 : decode bb_Mo_workRules 70 = .ok (.imul, 1) := by decide +kernel
theorem dd_Mo_workRules_71 : decode bb_Mo_workRules 71 = .ok (.bipush 16, 2) := by decide +kernel
theorem dd_Mo_workRules_73 : decode bb_Mo_workRules 73 = .ok (.aload_n 0, 1) := by decide +kernel
theorem dd_Mo_workRules_74 : decode bb_Mo_workRules 74 = .ok (.getfield 20, 3) := by decide +kernel
theorem dd_Mo_workRules_77 : decode bb_Mo_workRules 77 = .ok (.iload_n 1, 1) := by decide +kernel
theorem dd_Mo_workRules_78 : decode bb_Mo_workRules 78 = .ok (.iaload, 1) := by decide +kernel
theorem dd_Mo_workRules_79 : decode bb_Mo_workRules 79 = .ok (.imul, 1) := by decide +kernel
theorem dd_Mo_workRules_80 : decode bb_Mo_workRules 80 = .ok (.iadd, 1) := by decide +kernel
theorem dd_Mo_workRules_81 : decode bb_Mo_workRules 81 = .ok (.aload_n 0, 1) := by decide +kernel
theorem dd_Mo_workRules_82 : decode bb_Mo_workRules 82 = .ok (.getfield 23, 3) := by decide +kernel
theorem dd_Mo_workRules_85 : decode bb_Mo_workRules 85 = .ok (.iload_n 1, 1) := by decide +kernel
theorem dd_Mo_workRules_86 : decode bb_Mo_workRules 86 = .ok (.iaload, 1) := by decide +kernel
theorem dd_Mo_workRules_87 : decode bb_Mo_workRules 87 = .ok (.iadd, 1) := by decide +kernel
theorem dd_Mo_workRules_88 : decode bb_Mo_workRules 88 = .ok (.dup2, 1) := by decide +kernel
theorem dd_Mo_workRules_89 : decode bb_Mo_workRules 89 = .ok (.iaload, 1) := by decide +kernel
theorem dd_Mo_workRules_90 : decode bb_Mo_workRules 90 = .ok (.iconst 1, 1) := by decide +kernel
theorem dd_Mo_workRules_91 : decode bb_Mo_workRules 91 = .ok (.iadd, 1) := by decide +kernel
theorem dd_Mo_workRules_92 : decode bb_Mo_workRules 92 = .ok (.iastore, 1) := by decide +kernel
theorem dd_Mo_workRules_93 : decode bb_Mo_workRules 93 = .ok (.aload_n 0, 1) := by decide +kernel
theorem dd_Mo_workRules_94 : decode bb_Mo_workRules 94 = .ok (.getfield 32, 3) := by decide +kernel
theorem dd_Mo_workRules_97 : decode bb_Mo_workRules 97 = .ok (.sipush 3072, 3) := by decide +kernel
theorem dd_Mo_workRules_100 : decode bb_Mo_workRules 100 = .ok (.bipush 16, 2) := by decide +kernel
theorem dd_Mo_workRules_102 : decode bb_Mo_workRules 102 = .ok (.aload_n 0, 1) := by decide +kernel
theorem dd_Mo_workRules_103 : decode bb_Mo_workRules 103 = .ok (.getfield 20, 3) := by decide +kernel
theorem dd_Mo_workRules_106 : decode bb_Mo_workRules 106 = .ok (.iload_n 1, 1) := by decide +kernel
theorem dd_Mo_workRules_107 : decode bb_Mo_workRules 107 = .ok (.iaload, 1) := by decide +kernel
theorem dd_Mo_workRules_108 : decode bb_Mo_workRules 108 = .ok (.imul, 1) := by decide +kernel
theorem dd_Mo_workRules_109 : decode bb_Mo_workRules 109 = .ok (.iadd, 1) := by decide +kernel
theorem dd_Mo_workRules_110 : decode bb_Mo_workRules 110 = .ok (.aload_n 0, 1) := by decide +kernel
theorem dd_Mo_workRules_111 : decode bb_Mo_workRules 111 = .ok (.getfield 23, 3) := by decide +kernel
theorem dd_Mo_workRules_114 : decode bb_Mo_workRules 114 = .ok (.iload_n 1, 1) := by decide +kernel
theorem dd_Mo_workRules_115 : decode bb_Mo_workRules 115 = .ok (.iaload, 1) := by decide +kernel
theorem dd_Mo_workRules_116 : decode bb_Mo_workRules 116 = .ok (.iadd, 1) := by decide +kernel
theorem dd_Mo_workRules_117 : decode bb_Mo_workRules 117 = .ok (.dup2, 1) := by decide +kernel
theorem dd_Mo_workRules_118 : decode bb_Mo_workRules 118 = .ok (.iaload, 1) := by decide +kernel
theorem dd_Mo_workRules_119 : decode bb_Mo_workRules 119 = .ok (.iconst 1, 1) := by decide +kernel
theorem dd_Mo_workRules_120 : decode bb_Mo_workRules 120 = .ok (.iadd, 1) := by decide +kernel
theorem dd_Mo_workRules_121 : decode bb_Mo_workRules 121 = .ok (.iastore, 1) := by decide +kernel
theorem dd_Mo_workRules_122 : decode bb_Mo_workRules 122 = .ok (.iinc 1 1, 3) := by decide +kernel
theorem dd_Mo_workRules_125 : decode bb_Mo_workRules 125 = .ok (.goto (-83), 3) := by decide +kernel
theorem dd_Mo_workRules_128 : decode bb_Mo_workRules 128 = .ok (.lconst 0, 1) := by decide +kernel
theorem dd_Mo_workRules_129 : decode bb_Mo_workRules 129 = .ok (.lstore_n 1, 1) := by decide +kernel
theorem dd_Mo_workRules_130 : decode bb_Mo_workRules 130 = .ok (.iconst 4, 1) := by decide +kernel
theorem dd_Mo_workRules_131 : decode bb_Mo_workRules 131 = .ok (.istore_n 3, 1) := by decide +kernel
theorem dd_Mo_workRules_132 : decode bb_Mo_workRules 132 = .ok (.iload_n 3, 1) := by decide +kernel
theorem dd_Mo_workRules_133 : decode bb_Mo_workRules 133 = .ok (.bipush 8, 2) := by decide +kernel
theorem dd_Mo_workRules_135 : decode bb_Mo_workRules 135 = .ok (.if_icmp .ge 58, 3) := by decide +kernel
theorem dd_Mo_workRules_138 : decode bb_Mo_workRules 138 = .ok (.aload_n 0, 1) := by decide +kernel
theorem dd_Mo_workRules_139 : decode bb_Mo_workRules 139 = .ok (.getfield 59, 3) := by decide +kernel
theorem dd_Mo_workRules_142 : decode bb_Mo_workRules 142 = .ok (.iload_n 3, 1) := by decide +kernel
theorem dd_Mo_workRules_143 : decode bb_Mo_workRules 143 = .ok (.baload, 1) := by decide +kernel
theorem dd_Mo_workRules_144 : decode bb_Mo_workRules 144 = .ok (.ifCond .eq 43, 3) := by decide +kernel
theorem dd_Mo_workRules_147 : decode bb_Mo_workRules 147 = .ok (.aload_n 0, 1) := by decide +kernel
theorem dd_Mo_workRules_148 : decode bb_Mo_workRules 148 = .ok (.aload_n 0, 1) := by decide +kernel
theorem dd_Mo_workRules_149 : decode bb_Mo_workRules 149 = .ok (.getfield 56, 3) := by decide +kernel
theorem dd_Mo_workRules_152 : decode bb_Mo_workRules 152 = .ok (.iload_n 3, 1) := by decide +kernel
theorem dd_Mo_workRules_153 : decode bb_Mo_workRules 153 = .ok (.iaload, 1) := by decide +kernel
theorem dd_Mo_workRules_154 : decode bb_Mo_workRules 154 = .ok (.invokevirtual 491, 3) := by decide +kernel
theorem dd_Mo_workRules_157 : decode bb_Mo_workRules 157 = .ok (.lstore 4, 2) := by decide +kernel
theorem dd_Mo_workRules_159 : decode bb_Mo_workRules 159 = .ok (.aload_n 0, 1) := by decide +kernel
theorem dd_Mo_workRules_160 : decode bb_Mo_workRules 160 = .ok (.dup, 1) := by decide +kernel
theorem dd_Mo_workRules_161 : decode bb_Mo_workRules 161 = .ok (.getfield 488, 3) := by decide +kernel
theorem dd_Mo_workRules_164 : decode bb_Mo_workRules 164 = .ok (.lload 4, 2) := by decide +kernel
theorem dd_Mo_workRules_166 : decode bb_Mo_workRules 166 = .ok (.ldc2_w 495, 3) := by decide +kernel
theorem dd_Mo_workRules_169 : decode bb_Mo_workRules 169 = .ok (.lcmp, 1) := by decide +kernel
theorem dd_Mo_workRules_170 : decode bb_Mo_workRules 170 = .ok (.ifCond .le 7, 3) := by decide +kernel
theorem dd_Mo_workRules_173 : decode bb_Mo_workRules 173 = .ok (.iconst 1, 1) := by decide +kernel
theorem dd_Mo_workRules_174 : decode bb_Mo_workRules 174 = .ok (.goto 4, 3) := by decide +kernel
theorem dd_Mo_workRules_177 : decode bb_Mo_workRules 177 = .ok (.iconst 0, 1) := by decide +kernel
theorem dd_Mo_workRules_178 : decode bb_Mo_workRules 178 = .ok (.ior, 1) := by decide +kernel
theorem dd_Mo_workRules_179 : decode bb_Mo_workRules 179 = .ok (.putfield 488, 3) := by decide +kernel
theorem dd_Mo_workRules_182 : decode bb_Mo_workRules 182 = .ok (.lload_n 1, 1) := by decide +kernel
theorem dd_Mo_workRules_183 : decode bb_Mo_workRules 183 = .ok (.lload 4, 2) := by decide +kernel
theorem dd_Mo_workRules_185 : decode bb_Mo_workRules 185 = .ok (.ladd, 1) := by decide +kernel
theorem dd_Mo_workRules_186 : decode bb_Mo_workRules 186 = .ok (.lstore_n 1, 1) := by decide +kernel
theorem dd_Mo_workRules_187 : decode bb_Mo_workRules 187 = .ok (.iinc 3 1, 3) := by decide +kernel
theorem dd_Mo_workRules_190 : decode bb_Mo_workRules 190 = .ok (.goto (-58), 3) := by decide +kernel
theorem dd_Mo_workRules_193 : decode bb_Mo_workRules 193 = .ok (.lconst 0, 1) := by decide +kernel
theorem dd_Mo_workRules_194 : decode bb_Mo_workRules 194 = .ok (.lstore_n 3, 1) := by decide +kernel
theorem dd_Mo_workRules_195 : decode bb_Mo_workRules 195 = .ok (.aload_n 0, 1) := by decide +kernel
theorem dd_Mo_workRules_196 : decode bb_Mo_workRules 196 = .ok (.getfield 488, 3) := by decide +kernel
theorem dd_Mo_workRules_199 : decode bb_Mo_workRules 199 = .ok (.ifCond .ne 7, 3) := by decide +kernel
theorem dd_Mo_workRules_202 : decode bb_Mo_workRules 202 = .ok (.iconst 1, 1) := by decide +kernel
theorem dd_Mo_workRules_203 : decode bb_Mo_workRules 203 = .ok (.goto 4, 3) := by decide +kernel
theorem dd_Mo_workRules_206 : decode bb_Mo_workRules 206 = .ok (.iconst 0, 1) := by decide +kernel
theorem dd_Mo_workRules_207 : decode bb_Mo_workRules 207 = .ok (.istore 5, 2) := by decide +kernel
theorem dd_Mo_workRules_209 : decode bb_Mo_workRules 209 = .ok (.iload 5, 2) := by decide +kernel
theorem dd_Mo_workRules_211 : decode bb_Mo_workRules 211 = .ok (.ifCond .eq 32, 3) := by decide +kernel
theorem dd_Mo_workRules_214 : decode bb_Mo_workRules 214 = .ok (.lload_n 3, 1) := by decide +kernel
theorem dd_Mo_workRules_215 : decode bb_Mo_workRules 215 = .ok (.lconst 1, 1) := by decide +kernel
theorem dd_Mo_workRules_216 : decode bb_Mo_workRules 216 = .ok (.ladd, 1) := by decide +kernel
theorem dd_Mo_workRules_217 : decode bb_Mo_workRules 217 = .ok (.lstore_n 3, 1) := by decide +kernel
theorem dd_Mo_workRules_218 : decode bb_Mo_workRules 218 = .ok (.lload_n 1, 1) := by decide +kernel
theorem dd_Mo_workRules_219 : decode bb_Mo_workRules 219 = .ok (.lload_n 3, 1) := by decide +kernel
theorem dd_Mo_workRules_220 : decode bb_Mo_workRules 220 = .ok (.lmul, 1) := by decide +kernel
theorem dd_Mo_workRules_221 : decode bb_Mo_workRules 221 = .ok (.ldc2_w 497, 3) := by decide +kernel
theorem dd_Mo_workRules_224 : decode bb_Mo_workRules 224 = .ok (.lcmp, 1) := by decide +kernel
theorem dd_Mo_workRules_225 : decode bb_Mo_workRules 225 = .ok (.ifCond .le 9, 3) := by decide +kernel
theorem dd_Mo_workRules_228 : decode bb_Mo_workRules 228 = .ok (.aload_n 0, 1) := by decide +kernel
theorem dd_Mo_workRules_229 : decode bb_Mo_workRules 229 = .ok (.iconst 1, 1) := by decide +kernel
theorem dd_Mo_workRules_230 : decode bb_Mo_workRules 230 = .ok (.putfield 488, 3) := by decide +kernel
theorem dd_Mo_workRules_233 : decode bb_Mo_workRules 233 = .ok (.return_, 1) := by decide +kernel
theorem dd_Mo_workRules_234 : decode bb_Mo_workRules 234 = .ok (.aload_n 0, 1) := by decide +kernel
theorem dd_Mo_workRules_235 : decode bb_Mo_workRules 235 = .ok (.invokevirtual 499, 3) := by decide +kernel
theorem dd_Mo_workRules_238 : decode bb_Mo_workRules 238 = .ok (.istore 5, 2) := by decide +kernel
theorem dd_Mo_workRules_240 : decode bb_Mo_workRules 240 = .ok (.goto (-31), 3) := by decide +kernel
theorem dd_Mo_workRules_243 : decode bb_Mo_workRules 243 = .ok (.return_, 1) := by decide +kernel
def g_Mo_workRules_20 (nf : Nat) (x0 : Nat) (x1 : Int32) (c : Zc) : Option ((Nat × Int32 × Zc) ⊕ (Nat × Zc)) :=
  if 3328 ≤ x1 then (some (.inr (x0, c))) else ((zgr c x0 12 9).bind fun v6 => (zsi c v6 0 x1 0).bind fun c7 => some (.inl (x0, (x1 + 1), c7)))
def f_Mo_workRules_122 (nf : Nat) (x0 : Nat) (x1 : Int32) (c : Zc) : Option ((Nat × Int32 × Zc) ⊕ (Nat × Zc)) :=
  some (.inl (x0, (x1 + 1), c))
def g_Mo_workRules_42 (nf : Nat) (x0 : Nat) (x1 : Int32) (c : Zc) : Option ((Nat × Int32 × Zc) ⊕ (Nat × Zc)) :=
  if 100 ≤ x1 then (some (.inr (x0, c))) else ((zgr c x0 12 3).bind fun v9 => (zai c v9 6 x1).bind fun v10 => if v10 = 0 then (f_Mo_workRules_122 nf x0 x1 c) else ((zgr c x0 12 9).bind fun v12 => (zgr c x0 12 6).bind fun v13 => (zai c v13 0 x1).bind fun v14 => (zgr c x0 12 4).bind fun v15 => (zai c v15 0 x1).bind fun v16 => (zgr c x0 12 5).bind fun v17 => (zai c v17 0 x1).bind fun v18 => (zai c v12 0 (((256 * v14) + (16 * v16)) + v18)).bind fun v19 => (zsi c v12 0 (((256 * v14) + (16 * v16)) + v18) (v19 + 1)).bind fun c20 => (zgr c20 x0 12 9).bind fun v21 => (zgr c20 x0 12 4).bind fun v22 => (zai c20 v22 0 x1).bind fun v23 => (zgr c20 x0 12 5).bind fun v24 => (zai c20 v24 0 x1).bind fun v25 => (zai c20 v21 0 ((3072 + (16 * v23)) + v25)).bind fun v26 => (zsi c20 v21 0 ((3072 + (16 * v23)) + v25) (v26 + 1)).bind fun c27 => f_Mo_workRules_122 nf x0 x1 c27))
def f_Mo_workRules_187 (nf : Nat) (x0 : Nat) (x1 : Int64) (x3 : Int32) (c : Zc) : Option ((Nat × Int64 × Int32 × Zc) ⊕ (Nat × Int64 × Zc)) :=
  some (.inl (x0, x1, (x3 + 1), c))
def f_Mo_workRules_178 (nf : Nat) (x0 : Nat) (x1 : Int64) (x3 : Int32) (x4 : Int64) (s0 : Nat) (s1 : Int32) (s2 : Int32) (c : Zc) : Option ((Nat × Int64 × Int32 × Zc) ⊕ (Nat × Int64 × Zc)) :=
  (zpz c s0 12 11 (s1 ||| s2)).bind fun c38 => f_Mo_workRules_187 nf x0 (x1 + x4) x3 c38
def g_Mo_workRules_132 (nf : Nat) (x0 : Nat) (x1 : Int64) (x3 : Int32) (c : Zc) : Option ((Nat × Int64 × Int32 × Zc) ⊕ (Nat × Int64 × Zc)) :=
  if 8 ≤ x3 then (some (.inr (x0, x1, c))) else ((zgr c x0 12 23).bind fun v29 => (zai c v29 6 x3).bind fun v30 => if v30 = 0 then (f_Mo_workRules_187 nf x0 x1 x3 c) else ((zgr c x0 12 22).bind fun v32 => (zai c v32 0 x3).bind fun v33 => (zob c x0 12).bind fun w35 => (f_Mo_workOf nf x0 v33 c).bind fun q34 => (zgi q34.2 x0 12 11).bind fun v36 => if (lg_cmp q34.1 20000) ≤ 0 then (f_Mo_workRules_178 nf x0 x1 x3 q34.1 x0 v36 0 q34.2) else (f_Mo_workRules_178 nf x0 x1 x3 q34.1 x0 v36 1 q34.2)))
def g_Mo_workRules_209 (nf : Nat) (x0 : Nat) (x1 : Int64) (x3 : Int64) (x5 : Int32) (c : Zc) : Option ((Nat × Int64 × Int64 × Int32 × Zc) ⊕ ((Nat × Zc) ⊕ (Zc))) :=
  if x5 = 0 then (some (.inr (.inr c))) else (if (lg_cmp (x1 * (x3 + 1)) 1000000) ≤ 0 then ((zob c x0 12).bind fun w44 => (f_Mo_round nf x0 c).bind fun q43 => some (.inl (x0, x1, (x3 + 1), q43.1, q43.2))) else (some (.inr (.inl (x0, c)))))
def f_Mo_workRules_209 (nf : Nat) (x0 : Nat) (x1 : Int64) (x3 : Int64) (x5 : Int32) (c : Zc) : Option (Zc) :=
  (zlp (fun a => g_Mo_workRules_209 nf a.1 a.2.1 a.2.2.1 a.2.2.2.1 a.2.2.2.2) nf (x0, x1, x3, x5, c)).bind fun b => Sum.elim (fun b => (zpv b.2 b.1 12 11 (.int 1)).bind fun c45 => some c45) (fun b => some b) b
def f_Mo_workRules_207 (nf : Nat) (x0 : Nat) (x1 : Int64) (x3 : Int64) (s0 : Int32) (c : Zc) : Option (Zc) :=
  f_Mo_workRules_209 nf x0 x1 x3 s0 c
def f_Mo_workRules_132 (nf : Nat) (x0 : Nat) (x1 : Int64) (x3 : Int32) (c : Zc) : Option (Zc) :=
  (zlp (fun a => g_Mo_workRules_132 nf a.1 a.2.1 a.2.2.1 a.2.2.2) nf (x0, x1, x3, c)).bind fun b => (zgi b.2.2 b.1 12 11).bind fun v39 => if v39 = 0 then (f_Mo_workRules_207 nf b.1 b.2.1 0 1 b.2.2) else (f_Mo_workRules_207 nf b.1 b.2.1 0 0 b.2.2)
def f_Mo_workRules_42 (nf : Nat) (x0 : Nat) (x1 : Int32) (c : Zc) : Option (Zc) :=
  (zlp (fun a => g_Mo_workRules_42 nf a.1 a.2.1 a.2.2) nf (x0, x1, c)).bind fun b => f_Mo_workRules_132 nf b.1 0 4 b.2
def f_Mo_workRules_20 (nf : Nat) (x0 : Nat) (x1 : Int32) (c : Zc) : Option (Zc) :=
  (zlp (fun a => g_Mo_workRules_20 nf a.1 a.2.1 a.2.2) nf (x0, x1, c)).bind fun b => f_Mo_workRules_42 nf b.1 0 b.2
def f_Mo_workRules (nf : Nat) (a0 : Nat) (c : Zc) : Option (Zc) :=
  (zgi c a0 12 10).bind fun v1 => if v1 = 0 then (some c) else ((zpv c a0 12 10 (.int 0)).bind fun c3 => (zpv c3 a0 12 11 (.int 0)).bind fun c4 => f_Mo_workRules_20 nf a0 0 c4)
set_option maxRecDepth 100000 in
set_option maxHeartbeats 4000000 in
theorem u_Mo_workRules_20  (X : zX p s m args cd D cid B bb_Mo_workRules 6 rr_Mo zT) (H : zH s meth B n0 none "workRules") {nf : Nat} {x0 : Nat} {x1 : Int32} {c : Zc} {r : (Nat × Int32 × Zc) ⊕ (Nat × Zc)} (h : g_Mo_workRules_20 nf x0 x1 c = some r) (k0 : ∀ a, r = .inl a → (fun a : Nat × Int32 × Zc => Zz p l e (zRm 6 136 0 0) s m args below meth cd Q D cid B 6 0 0 a.2.2 20 [(0, .ref a.1), (1, .int a.2.1)] []) a) (k1 : ∀ b, r = .inr b → (fun b : Nat × Zc => Zz p l e (zRm 6 136 0 0) s m args below meth cd Q D cid B 6 0 0 b.2 40 [(0, .ref b.1)] []) b) : Zz p l e (zRm 6 136 0 0) s m args below meth cd Q D cid B 6 0 0 c 20 [(0, .ref x0), (1, .int x1)] [] := by
  unfold g_Mo_workRules_20 at h
  refine z_iload_n X dd_Mo_workRules_20 rfl 1 rfl ?_
  refine z_sipush (v := 3328) X dd_Mo_workRules_21 (by decide) ?_
  refine z_icmp_ge (tgt := 40) X dd_Mo_workRules_24 (by decide) (fun q5 => ?_) (fun q5 => ?_)
  · rw [if_pos q5] at h
    refine z_sub [0] rfl ?_
    obtain rfl := Option.some.inj h
    exact k1 _ rfl
  · rw [if_neg q5] at h
    refine z_aload_n X dd_Mo_workRules_27 rfl 0 rfl ?_
    obtain ⟨v6, ev6, h⟩ := zb h
    refine z_get (j := 9) X dd_Mo_workRules_28 kc_12 ki_12 (by decide) km_1530 (zgr_v ev6) ?_
    refine z_iload_n X dd_Mo_workRules_31 rfl 1 rfl ?_
    refine z_iconst (v := 0) X dd_Mo_workRules_32 (by decide) ?_
    obtain ⟨c7, ec7, h⟩ := zb h
    refine z_iastore X dd_Mo_workRules_33 rfl ec7 ?_
    refine z_iinc (v := (x1 + 1)) (lv' := [(1, .int (x1 + 1)), (0, .ref x0)]) X dd_Mo_workRules_34 1 rfl rfl (by decide) rfl ?_
    refine z_goto (tgt := 20) X dd_Mo_workRules_37 (by decide) ?_
    refine z_sub [1, 0] rfl ?_
    obtain rfl := Option.some.inj h
    exact k0 _ rfl
set_option maxRecDepth 100000 in
set_option maxHeartbeats 4000000 in
theorem t_Mo_workRules_122  (X : zX p s m args cd D cid B bb_Mo_workRules 6 rr_Mo zT) (H : zH s meth B n0 none "workRules") {nf : Nat} {x0 : Nat} {x1 : Int32} {c : Zc} {r : (Nat × Int32 × Zc) ⊕ (Nat × Zc)} (h : f_Mo_workRules_122 nf x0 x1 c = some r) (k0 : ∀ a, r = .inl a → (fun a : Nat × Int32 × Zc => Zz p l e (zRm 6 136 0 0) s m args below meth cd Q D cid B 6 0 0 a.2.2 42 [(0, .ref a.1), (1, .int a.2.1)] []) a) (k1 : ∀ b, r = .inr b → (fun b : Nat × Zc => Zz p l e (zRm 6 136 0 0) s m args below meth cd Q D cid B 6 0 0 b.2 128 [(0, .ref b.1)] []) b) : Zz p l e (zRm 6 136 0 0) s m args below meth cd Q D cid B 6 0 0 c 122 [(0, .ref x0), (1, .int x1)] [] := by
  unfold f_Mo_workRules_122 at h
  refine z_iinc (v := (x1 + 1)) (lv' := [(1, .int (x1 + 1)), (0, .ref x0)]) X dd_Mo_workRules_122 1 rfl rfl (by decide) rfl ?_
  refine z_goto (tgt := 42) X dd_Mo_workRules_125 (by decide) ?_
  refine z_sub [1, 0] rfl ?_
  obtain rfl := Option.some.inj h
  exact k0 _ rfl
set_option maxRecDepth 100000 in
set_option maxHeartbeats 4000000 in
theorem u_Mo_workRules_42  (X : zX p s m args cd D cid B bb_Mo_workRules 6 rr_Mo zT) (H : zH s meth B n0 none "workRules") {nf : Nat} {x0 : Nat} {x1 : Int32} {c : Zc} {r : (Nat × Int32 × Zc) ⊕ (Nat × Zc)} (h : g_Mo_workRules_42 nf x0 x1 c = some r) (k0 : ∀ a, r = .inl a → (fun a : Nat × Int32 × Zc => Zz p l e (zRm 6 136 0 0) s m args below meth cd Q D cid B 6 0 0 a.2.2 42 [(0, .ref a.1), (1, .int a.2.1)] []) a) (k1 : ∀ b, r = .inr b → (fun b : Nat × Zc => Zz p l e (zRm 6 136 0 0) s m args below meth cd Q D cid B 6 0 0 b.2 128 [(0, .ref b.1)] []) b) : Zz p l e (zRm 6 136 0 0) s m args below meth cd Q D cid B 6 0 0 c 42 [(0, .ref x0), (1, .int x1)] [] := by
  unfold g_Mo_workRules_42 at h
  refine z_iload_n X dd_Mo_workRules_42 rfl 1 rfl ?_
  refine z_bipush (v := 100) X dd_Mo_workRules_43 (by decide) ?_
  refine z_icmp_ge (tgt := 128) X dd_Mo_workRules_45 (by decide) (fun q8 => ?_) (fun q8 => ?_)
  · rw [if_pos q8] at h
    refine z_sub [0] rfl ?_
    obtain rfl := Option.some.inj h
    exact k1 _ rfl
  · rw [if_neg q8] at h
    refine z_aload_n X dd_Mo_workRules_48 rfl 0 rfl ?_
    obtain ⟨v9, ev9, h⟩ := zb h
    refine z_get (j := 3) X dd_Mo_workRules_49 kc_12 ki_12 (by decide) km_1524 (zgr_v ev9) ?_
    refine z_iload_n X dd_Mo_workRules_52 rfl 1 rfl ?_
    obtain ⟨v10, ev10, h⟩ := zb h
    refine z_zaload X dd_Mo_workRules_53 rfl ev10 ?_
    refine z_if_eq (tgt := 122) X dd_Mo_workRules_54 (by decide) (fun q11 => ?_) (fun q11 => ?_)
    · rw [if_pos q11] at h
      exact t_Mo_workRules_122 X H h k0 k1
    · rw [if_neg q11] at h
      refine z_aload_n X dd_Mo_workRules_57 rfl 0 rfl ?_
      obtain ⟨v12, ev12, h⟩ := zb h
      refine z_get (j := 9) X dd_Mo_workRules_58 kc_12 ki_12 (by decide) km_1530 (zgr_v ev12) ?_
      refine z_sipush (v := 256) X dd_Mo_workRules_61 (by decide) ?_
      refine z_aload_n X dd_Mo_workRules_64 rfl 0 rfl ?_
      obtain ⟨v13, ev13, h⟩ := zb h
      refine z_get (j := 6) X dd_Mo_workRules_65 kc_12 ki_12 (by decide) km_1527 (zgr_v ev13) ?_
      refine z_iload_n X dd_Mo_workRules_68 rfl 1 rfl ?_
      obtain ⟨v14, ev14, h⟩ := zb h
      refine z_iaload X dd_Mo_workRules_69 rfl ev14 ?_
      refine z_imul X dd_Mo_workRules_70 ?_
      refine z_bipush (v := 16) X dd_Mo_workRules_71 (by decide) ?_
      refine z_aload_n X dd_Mo_workRules_73 rfl 0 rfl ?_
      obtain ⟨v15, ev15, h⟩ := zb h
      refine z_get (j := 4) X dd_Mo_workRules_74 kc_12 ki_12 (by decide) km_1525 (zgr_v ev15) ?_
      refine z_iload_n X dd_Mo_workRules_77 rfl 1 rfl ?_
      obtain ⟨v16, ev16, h⟩ := zb h
      refine z_iaload X dd_Mo_workRules_78 rfl ev16 ?_
      refine z_imul X dd_Mo_workRules_79 ?_
      refine z_iadd X dd_Mo_workRules_80 ?_
      refine z_aload_n X dd_Mo_workRules_81 rfl 0 rfl ?_
      obtain ⟨v17, ev17, h⟩ := zb h
      refine z_get (j := 5) X dd_Mo_workRules_82 kc_12 ki_12 (by decide) km_1526 (zgr_v ev17) ?_
      refine z_iload_n X dd_Mo_workRules_85 rfl 1 rfl ?_
      obtain ⟨v18, ev18, h⟩ := zb h
      refine z_iaload X dd_Mo_workRules_86 rfl ev18 ?_
      refine z_iadd X dd_Mo_workRules_87 ?_
      refine z_dup2_11 X dd_Mo_workRules_88 rfl rfl ?_
      obtain ⟨v19, ev19, h⟩ := zb h
      refine z_iaload X dd_Mo_workRules_89 rfl ev19 ?_
      refine z_iconst (v := 1) X dd_Mo_workRules_90 (by decide) ?_
      refine z_iadd X dd_Mo_workRules_91 ?_
      obtain ⟨c20, ec20, h⟩ := zb h
      refine z_iastore X dd_Mo_workRules_92 rfl ec20 ?_
      refine z_aload_n X dd_Mo_workRules_93 rfl 0 rfl ?_
      obtain ⟨v21, ev21, h⟩ := zb h
      refine z_get (j := 9) X dd_Mo_workRules_94 kc_12 ki_12 (by decide) km_1530 (zgr_v ev21) ?_
      refine z_sipush (v := 3072) X dd_Mo_workRules_97 (by decide) ?_
      refine z_bipush (v := 16) X dd_Mo_workRules_100 (by decide) ?_
      refine z_aload_n X dd_Mo_workRules_102 rfl 0 rfl ?_
      obtain ⟨v22, ev22, h⟩ := zb h
      refine z_get (j := 4) X dd_Mo_workRules_103 kc_12 ki_12 (by decide) km_1525 (zgr_v ev22) ?_
      refine z_iload_n X dd_Mo_workRules_106 rfl 1 rfl ?_
      obtain ⟨v23, ev23, h⟩ := zb h
      refine z_iaload X dd_Mo_workRules_107 rfl ev23 ?_
      refine z_imul X dd_Mo_workRules_108 ?_
      refine z_iadd X dd_Mo_workRules_109 ?_
      refine z_aload_n X dd_Mo_workRules_110 rfl 0 rfl ?_
      obtain ⟨v24, ev24, h⟩ := zb h
      refine z_get (j := 5) X dd_Mo_workRules_111 kc_12 ki_12 (by decide) km_1526 (zgr_v ev24) ?_
      refine z_iload_n X dd_Mo_workRules_114 rfl 1 rfl ?_
      obtain ⟨v25, ev25, h⟩ := zb h
      refine z_iaload X dd_Mo_workRules_115 rfl ev25 ?_
      refine z_iadd X dd_Mo_workRules_116 ?_
      refine z_dup2_11 X dd_Mo_workRules_117 rfl rfl ?_
      obtain ⟨v26, ev26, h⟩ := zb h
      refine z_iaload X dd_Mo_workRules_118 rfl ev26 ?_
      refine z_iconst (v := 1) X dd_Mo_workRules_119 (by decide) ?_
      refine z_iadd X dd_Mo_workRules_120 ?_
      obtain ⟨c27, ec27, h⟩ := zb h
      refine z_iastore X dd_Mo_workRules_121 rfl ec27 ?_
      exact t_Mo_workRules_122 X H h k0 k1
set_option maxRecDepth 100000 in
set_option maxHeartbeats 4000000 in
theorem t_Mo_workRules_187  (X : zX p s m args cd D cid B bb_Mo_workRules 6 rr_Mo zT) (H : zH s meth B n0 none "workRules") {nf : Nat} {x0 : Nat} {x1 : Int64} {x3 : Int32} {c : Zc} {r : (Nat × Int64 × Int32 × Zc) ⊕ (Nat × Int64 × Zc)} (h : f_Mo_workRules_187 nf x0 x1 x3 c = some r) (k0 : ∀ a, r = .inl a → (fun a : Nat × Int64 × Int32 × Zc => Zz p l e (zRm 6 136 0 0) s m args below meth cd Q D cid B 6 0 0 a.2.2.2 132 [(0, .ref a.1), (1, .long a.2.1), (3, .int a.2.2.1)] []) a) (k1 : ∀ b, r = .inr b → (fun b : Nat × Int64 × Zc => Zz p l e (zRm 6 136 0 0) s m args below meth cd Q D cid B 6 0 0 b.2.2 193 [(0, .ref b.1), (1, .long b.2.1)] []) b) : Zz p l e (zRm 6 136 0 0) s m args below meth cd Q D cid B 6 0 0 c 187 [(0, .ref x0), (1, .long x1), (3, .int x3)] [] := by
  unfold f_Mo_workRules_187 at h
  refine z_iinc (v := (x3 + 1)) (lv' := [(3, .int (x3 + 1)), (0, .ref x0), (1, .long x1)]) X dd_Mo_workRules_187 2 rfl rfl (by decide) rfl ?_
  refine z_goto (tgt := 132) X dd_Mo_workRules_190 (by decide) ?_
  refine z_sub [1, 2, 0] rfl ?_
  obtain rfl := Option.some.inj h
  exact k0 _ rfl
set_option maxRecDepth 100000 in
set_option maxHeartbeats 4000000 in
theorem t_Mo_workRules_178  (X : zX p s m args cd D cid B bb_Mo_workRules 6 rr_Mo zT) (H : zH s meth B n0 none "workRules") {nf : Nat} {x0 : Nat} {x1 : Int64} {x3 : Int32} {x4 : Int64} {s0 : Nat} {s1 : Int32} {s2 : Int32} {c : Zc} {r : (Nat × Int64 × Int32 × Zc) ⊕ (Nat × Int64 × Zc)} (h : f_Mo_workRules_178 nf x0 x1 x3 x4 s0 s1 s2 c = some r) (k0 : ∀ a, r = .inl a → (fun a : Nat × Int64 × Int32 × Zc => Zz p l e (zRm 6 136 0 0) s m args below meth cd Q D cid B 6 0 0 a.2.2.2 132 [(0, .ref a.1), (1, .long a.2.1), (3, .int a.2.2.1)] []) a) (k1 : ∀ b, r = .inr b → (fun b : Nat × Int64 × Zc => Zz p l e (zRm 6 136 0 0) s m args below meth cd Q D cid B 6 0 0 b.2.2 193 [(0, .ref b.1), (1, .long b.2.1)] []) b) : Zz p l e (zRm 6 136 0 0) s m args below meth cd Q D cid B 6 0 0 c 178 [(0, .ref x0), (1, .long x1), (3, .int x3), (4, .long x4)] [.int s2, .int s1, .ref s0] := by
  unfold f_Mo_workRules_178 at h
  refine z_ior X dd_Mo_workRules_178 ?_
  obtain ⟨c38, ec38, h⟩ := zb h
  obtain ⟨bc38, ec38⟩ := zpz_s ec38
  refine z_put (j := 11) X dd_Mo_workRules_179 kc_12 ki_12 tt_Mo tk_Mo nn_Mo (by decide) km_1532 rfl (tk_Mo 11 (by decide)) (zn_z bc38) (zf_z bc38) ec38 ?_
  refine z_lload_n X dd_Mo_workRules_182 rfl 1 rfl ?_
  refine z_lload X dd_Mo_workRules_183 3 rfl ?_
  refine z_ladd X dd_Mo_workRules_185 ?_
  refine z_lstore_n (lv' := [(1, .long (x1 + x4)), (0, .ref x0), (3, .int x3), (4, .long x4)]) X dd_Mo_workRules_186 rfl (by decide) rfl ?_
  refine z_sub [1, 0, 2] rfl ?_
  exact t_Mo_workRules_187 X H h k0 k1
set_option maxRecDepth 100000 in
set_option maxHeartbeats 4000000 in
theorem u_Mo_workRules_132  (X : zX p s m args cd D cid B bb_Mo_workRules 6 rr_Mo zT) (H : zH s meth B n0 none "workRules") {nf : Nat} {x0 : Nat} {x1 : Int64} {x3 : Int32} {c : Zc} {r : (Nat × Int64 × Int32 × Zc) ⊕ (Nat × Int64 × Zc)} (h : g_Mo_workRules_132 nf x0 x1 x3 c = some r) (k0 : ∀ a, r = .inl a → (fun a : Nat × Int64 × Int32 × Zc => Zz p l e (zRm 6 136 0 0) s m args below meth cd Q D cid B 6 0 0 a.2.2.2 132 [(0, .ref a.1), (1, .long a.2.1), (3, .int a.2.2.1)] []) a) (k1 : ∀ b, r = .inr b → (fun b : Nat × Int64 × Zc => Zz p l e (zRm 6 136 0 0) s m args below meth cd Q D cid B 6 0 0 b.2.2 193 [(0, .ref b.1), (1, .long b.2.1)] []) b) : Zz p l e (zRm 6 136 0 0) s m args below meth cd Q D cid B 6 0 0 c 132 [(0, .ref x0), (1, .long x1), (3, .int x3)] [] := by
  unfold g_Mo_workRules_132 at h
  refine z_iload_n X dd_Mo_workRules_132 rfl 2 rfl ?_
  refine z_bipush (v := 8) X dd_Mo_workRules_133 (by decide) ?_
  refine z_icmp_ge (tgt := 193) X dd_Mo_workRules_135 (by decide) (fun q28 => ?_) (fun q28 => ?_)
  · rw [if_pos q28] at h
    refine z_sub [0, 1] rfl ?_
    obtain rfl := Option.some.inj h
    exact k1 _ rfl
  · rw [if_neg q28] at h
    refine z_aload_n X dd_Mo_workRules_138 rfl 0 rfl ?_
    obtain ⟨v29, ev29, h⟩ := zb h
    refine z_get (j := 23) X dd_Mo_workRules_139 kc_12 ki_12 (by decide) km_1544 (zgr_v ev29) ?_
    refine z_iload_n X dd_Mo_workRules_142 rfl 2 rfl ?_
    obtain ⟨v30, ev30, h⟩ := zb h
    refine z_zaload X dd_Mo_workRules_143 rfl ev30 ?_
    refine z_if_eq (tgt := 187) X dd_Mo_workRules_144 (by decide) (fun q31 => ?_) (fun q31 => ?_)
    · rw [if_pos q31] at h
      exact t_Mo_workRules_187 X H h k0 k1
    · rw [if_neg q31] at h
      refine z_aload_n X dd_Mo_workRules_147 rfl 0 rfl ?_
      refine z_aload_n X dd_Mo_workRules_148 rfl 0 rfl ?_
      obtain ⟨v32, ev32, h⟩ := zb h
      refine z_get (j := 22) X dd_Mo_workRules_149 kc_12 ki_12 (by decide) km_1543 (zgr_v ev32) ?_
      refine z_iload_n X dd_Mo_workRules_152 rfl 2 rfl ?_
      obtain ⟨v33, ev33, h⟩ := zb h
      refine z_iaload X dd_Mo_workRules_153 rfl ev33 ?_
      obtain ⟨w35, ew35, h⟩ := zb h
      obtain ⟨q34, eq34, h⟩ := zb h
      refine z_callVl X [.int v33] rfl dd_Mo_workRules_154 (c_Mo_workOf l eq34) (cwV 1 X.1.2.2.2.2 (zg_V km_2075 km_2077 km_106 km_138 km_2078) rfl rfl rfl (by decide +kernel) ⟨Nat.le_of_ble_eq_true rfl, Nat.le_of_ble_eq_true rfl⟩) (zob_s ew35) kc_12 rfl (Nat.le_of_ble_eq_true rfl) ⟨Nat.le_of_ble_eq_true rfl, Nat.le_of_ble_eq_true rfl⟩ ?_
      refine z_lstore (lv' := [(4, .long q34.1), (0, .ref x0), (1, .long x1), (3, .int x3)]) X dd_Mo_workRules_157 (by decide) rfl ?_
      refine z_aload_n X dd_Mo_workRules_159 rfl 1 rfl ?_
      refine z_dup X dd_Mo_workRules_160 rfl ?_
      obtain ⟨v36, ev36, h⟩ := zb h
      refine z_get (j := 11) X dd_Mo_workRules_161 kc_12 ki_12 (by decide) km_1532 (zgi_v ev36) ?_
      refine z_lload X dd_Mo_workRules_164 0 rfl ?_
      refine z_ldc2 (v := 20000) X dd_Mo_workRules_166 km_2079 ?_
      refine z_lcmp X dd_Mo_workRules_169 ?_
      refine z_if_le (tgt := 177) X dd_Mo_workRules_170 (by decide) (fun q37 => ?_) (fun q37 => ?_)
      · rw [if_pos q37] at h
        refine z_iconst (v := 0) X dd_Mo_workRules_177 (by decide) ?_
        refine z_sub [1, 2, 3, 0] rfl ?_
        exact t_Mo_workRules_178 X H h k0 k1
      · rw [if_neg q37] at h
        refine z_iconst (v := 1) X dd_Mo_workRules_173 (by decide) ?_
        refine z_goto (tgt := 178) X dd_Mo_workRules_174 (by decide) ?_
        refine z_sub [1, 2, 3, 0] rfl ?_
        exact t_Mo_workRules_178 X H h k0 k1
set_option maxRecDepth 100000 in
set_option maxHeartbeats 4000000 in
theorem u_Mo_workRules_209  (X : zX p s m args cd D cid B bb_Mo_workRules 6 rr_Mo zT) (H : zH s meth B n0 none "workRules") {nf : Nat} {x0 : Nat} {x1 : Int64} {x3 : Int64} {x5 : Int32} {c : Zc} {r : (Nat × Int64 × Int64 × Int32 × Zc) ⊕ ((Nat × Zc) ⊕ (Zc))} (h : g_Mo_workRules_209 nf x0 x1 x3 x5 c = some r) (k0 : ∀ a, r = .inl a → (fun a : Nat × Int64 × Int64 × Int32 × Zc => Zz p l e (zRm 6 136 0 0) s m args below meth cd Q D cid B 6 0 0 a.2.2.2.2 209 [(0, .ref a.1), (1, .long a.2.1), (3, .long a.2.2.1), (5, .int a.2.2.2.1)] []) a) (k1 : ∀ b, r = .inr b → (fun b : (Nat × Zc) ⊕ (Zc) => Sum.elim (fun b => Zz p l e (zRm 6 136 0 0) s m args below meth cd Q D cid B 6 0 0 b.2 228 [(0, .ref b.1)] []) (fun b => Zz p l e (zRm 6 136 0 0) s m args below meth cd Q D cid B 6 0 0 b 243 [] []) b) b) : Zz p l e (zRm 6 136 0 0) s m args below meth cd Q D cid B 6 0 0 c 209 [(0, .ref x0), (1, .long x1), (3, .long x3), (5, .int x5)] [] := by
  unfold g_Mo_workRules_209 at h
  refine z_iload X dd_Mo_workRules_209 3 rfl ?_
  refine z_if_eq (tgt := 243) X dd_Mo_workRules_211 (by decide) (fun q41 => ?_) (fun q41 => ?_)
  · rw [if_pos q41] at h
    refine z_sub [] rfl ?_
    obtain rfl := Option.some.inj h
    exact k1 _ rfl
  · rw [if_neg q41] at h
    refine z_lload_n X dd_Mo_workRules_214 rfl 2 rfl ?_
    refine z_lconst (v := 1) X dd_Mo_workRules_215 (by decide) ?_
    refine z_ladd X dd_Mo_workRules_216 ?_
    refine z_lstore_n (lv' := [(3, .long (x3 + 1)), (0, .ref x0), (1, .long x1), (5, .int x5)]) X dd_Mo_workRules_217 rfl (by decide) rfl ?_
    refine z_lload_n X dd_Mo_workRules_218 rfl 2 rfl ?_
    refine z_lload_n X dd_Mo_workRules_219 rfl 0 rfl ?_
    refine z_lmul X dd_Mo_workRules_220 ?_
    refine z_ldc2 (v := 1000000) X dd_Mo_workRules_221 km_2080 ?_
    refine z_lcmp X dd_Mo_workRules_224 ?_
    refine z_if_le (tgt := 234) X dd_Mo_workRules_225 (by decide) (fun q42 => ?_) (fun q42 => ?_)
    · rw [if_pos q42] at h
      refine z_aload_n X dd_Mo_workRules_234 rfl 1 rfl ?_
      obtain ⟨w44, ew44, h⟩ := zb h
      obtain ⟨q43, eq43, h⟩ := zb h
      refine z_callVi X [] rfl dd_Mo_workRules_235 (c_Mo_round l eq43) (cwV 0 X.1.2.2.2.2 (zg_V km_2081 km_2083 km_107 km_138 km_2084) rfl rfl rfl (by decide +kernel) ⟨Nat.le_of_ble_eq_true rfl, Nat.le_of_ble_eq_true rfl⟩) (zob_s ew44) kc_12 rfl (Nat.le_of_ble_eq_true rfl) ⟨Nat.le_of_ble_eq_true rfl, Nat.le_of_ble_eq_true rfl⟩ ?_
      refine z_istore (lv' := [(5, .int q43.1), (3, .long (x3 + 1)), (0, .ref x0), (1, .long x1)]) X dd_Mo_workRules_238 (by decide) rfl ?_
      refine z_goto (tgt := 209) X dd_Mo_workRules_240 (by decide) ?_
      refine z_sub [2, 3, 1, 0] rfl ?_
      obtain rfl := Option.some.inj h
      exact k0 _ rfl
    · rw [if_neg q42] at h
      refine z_sub [1] rfl ?_
      obtain rfl := Option.some.inj h
      exact k1 _ rfl
set_option maxRecDepth 100000 in
set_option maxHeartbeats 4000000 in
theorem t_Mo_workRules_209  (X : zX p s m args cd D cid B bb_Mo_workRules 6 rr_Mo zT) (H : zH s meth B n0 none "workRules") {nf : Nat} {x0 : Nat} {x1 : Int64} {x3 : Int64} {x5 : Int32} {c : Zc} {res : Zc} (h : f_Mo_workRules_209 nf x0 x1 x3 x5 c = some res) : Zz p l e (zRm 6 136 0 0) s m args below meth cd (MQ below (zQv D cid B res n0 0) args s 0 0 (fun q => B ≤ q)) D cid B 6 0 0 c 209 [(0, .ref x0), (1, .long x1), (3, .long x3), (5, .int x5)] [] := by
  unfold f_Mo_workRules_209 at h
  obtain ⟨b, eb, h⟩ := zb h
  refine zlp_ok (P := fun a : Nat × Int64 × Int64 × Int32 × Zc => Zz p l e (zRm 6 136 0 0) s m args below meth cd _ D cid B 6 0 0 a.2.2.2.2 209 [(0, .ref a.1), (1, .long a.2.1), (3, .long a.2.2.1), (5, .int a.2.2.2.1)] []) (G := fun b : (Nat × Zc) ⊕ (Zc) => Sum.elim (fun b => Zz p l e (zRm 6 136 0 0) s m args below meth cd _ D cid B 6 0 0 b.2 228 [(0, .ref b.1)] []) (fun b => Zz p l e (zRm 6 136 0 0) s m args below meth cd _ D cid B 6 0 0 b 243 [] []) b) (fun a r ha k0 k1 => u_Mo_workRules_209 X H ha k0 k1) nf _ b eb ?_
  rcases b with b | b
  · simp only [Sum.elim_inl] at h ⊢
    refine z_aload_n X dd_Mo_workRules_228 rfl 0 rfl ?_
    refine z_iconst (v := 1) X dd_Mo_workRules_229 (by decide) ?_
    obtain ⟨c45, ec45, h⟩ := zb h
    refine z_put (j := 11) X dd_Mo_workRules_230 kc_12 ki_12 tt_Mo tk_Mo nn_Mo (by decide) km_1532 rfl (tk_Mo 11 (by decide)) rfl rfl ec45 ?_
    obtain rfl := Option.some.inj h
    exact z_vret X H.1 H.2.1 H.2.2.1 dd_Mo_workRules_233
  · simp only [Sum.elim_inr] at h ⊢
    obtain rfl := Option.some.inj h
    exact z_vret X H.1 H.2.1 H.2.2.1 dd_Mo_workRules_243
set_option maxRecDepth 100000 in
set_option maxHeartbeats 4000000 in
theorem t_Mo_workRules_207  (X : zX p s m args cd D cid B bb_Mo_workRules 6 rr_Mo zT) (H : zH s meth B n0 none "workRules") {nf : Nat} {x0 : Nat} {x1 : Int64} {x3 : Int64} {s0 : Int32} {c : Zc} {res : Zc} (h : f_Mo_workRules_207 nf x0 x1 x3 s0 c = some res) : Zz p l e (zRm 6 136 0 0) s m args below meth cd (MQ below (zQv D cid B res n0 0) args s 0 0 (fun q => B ≤ q)) D cid B 6 0 0 c 207 [(0, .ref x0), (1, .long x1), (3, .long x3)] [.int s0] := by
  unfold f_Mo_workRules_207 at h
  refine z_istore (lv' := [(5, .int s0), (0, .ref x0), (1, .long x1), (3, .long x3)]) X dd_Mo_workRules_207 (by decide) rfl ?_
  refine z_sub [1, 2, 3, 0] rfl ?_
  exact t_Mo_workRules_209 X H h
set_option maxRecDepth 100000 in
set_option maxHeartbeats 4000000 in
theorem t_Mo_workRules_132  (X : zX p s m args cd D cid B bb_Mo_workRules 6 rr_Mo zT) (H : zH s meth B n0 none "workRules") {nf : Nat} {x0 : Nat} {x1 : Int64} {x3 : Int32} {c : Zc} {res : Zc} (h : f_Mo_workRules_132 nf x0 x1 x3 c = some res) : Zz p l e (zRm 6 136 0 0) s m args below meth cd (MQ below (zQv D cid B res n0 0) args s 0 0 (fun q => B ≤ q)) D cid B 6 0 0 c 132 [(0, .ref x0), (1, .long x1), (3, .int x3)] [] := by
  unfold f_Mo_workRules_132 at h
  obtain ⟨b, eb, h⟩ := zb h
  refine zlp_ok (P := fun a : Nat × Int64 × Int32 × Zc => Zz p l e (zRm 6 136 0 0) s m args below meth cd _ D cid B 6 0 0 a.2.2.2 132 [(0, .ref a.1), (1, .long a.2.1), (3, .int a.2.2.1)] []) (G := fun b : Nat × Int64 × Zc => Zz p l e (zRm 6 136 0 0) s m args below meth cd _ D cid B 6 0 0 b.2.2 193 [(0, .ref b.1), (1, .long b.2.1)] []) (fun a r ha k0 k1 => u_Mo_workRules_132 X H ha k0 k1) nf _ b eb ?_
  refine z_lconst (v := 0) X dd_Mo_workRules_193 (by decide) ?_
  refine z_lstore_n (lv' := [(3, .long 0), (0, .ref b.1), (1, .long b.2.1)]) X dd_Mo_workRules_194 rfl (by decide) rfl ?_
  refine z_aload_n X dd_Mo_workRules_195 rfl 1 rfl ?_
  obtain ⟨v39, ev39, h⟩ := zb h
  refine z_get (j := 11) X dd_Mo_workRules_196 kc_12 ki_12 (by decide) km_1532 (zgi_v ev39) ?_
  refine z_if_ne (tgt := 206) X dd_Mo_workRules_199 (by decide) (fun q40 => ?_) (fun q40 => ?_)
  · rw [if_neg q40] at h
    refine z_iconst (v := 0) X dd_Mo_workRules_206 (by decide) ?_
    refine z_sub [1, 2, 0] rfl ?_
    exact t_Mo_workRules_207 X H h
  · rw [if_pos q40] at h
    refine z_iconst (v := 1) X dd_Mo_workRules_202 (by decide) ?_
    refine z_goto (tgt := 207) X dd_Mo_workRules_203 (by decide) ?_
    refine z_sub [1, 2, 0] rfl ?_
    exact t_Mo_workRules_207 X H h
set_option maxRecDepth 100000 in
set_option maxHeartbeats 4000000 in
theorem t_Mo_workRules_42  (X : zX p s m args cd D cid B bb_Mo_workRules 6 rr_Mo zT) (H : zH s meth B n0 none "workRules") {nf : Nat} {x0 : Nat} {x1 : Int32} {c : Zc} {res : Zc} (h : f_Mo_workRules_42 nf x0 x1 c = some res) : Zz p l e (zRm 6 136 0 0) s m args below meth cd (MQ below (zQv D cid B res n0 0) args s 0 0 (fun q => B ≤ q)) D cid B 6 0 0 c 42 [(0, .ref x0), (1, .int x1)] [] := by
  unfold f_Mo_workRules_42 at h
  obtain ⟨b, eb, h⟩ := zb h
  refine zlp_ok (P := fun a : Nat × Int32 × Zc => Zz p l e (zRm 6 136 0 0) s m args below meth cd _ D cid B 6 0 0 a.2.2 42 [(0, .ref a.1), (1, .int a.2.1)] []) (G := fun b : Nat × Zc => Zz p l e (zRm 6 136 0 0) s m args below meth cd _ D cid B 6 0 0 b.2 128 [(0, .ref b.1)] []) (fun a r ha k0 k1 => u_Mo_workRules_42 X H ha k0 k1) nf _ b eb ?_
  refine z_lconst (v := 0) X dd_Mo_workRules_128 (by decide) ?_
  refine z_lstore_n (lv' := [(1, .long 0), (0, .ref b.1)]) X dd_Mo_workRules_129 rfl (by decide) rfl ?_
  refine z_iconst (v := 4) X dd_Mo_workRules_130 (by decide) ?_
  refine z_istore_n (lv' := [(3, .int 4), (1, .long 0), (0, .ref b.1)]) X dd_Mo_workRules_131 rfl (by decide) rfl ?_
  refine z_sub [2, 1, 0] rfl ?_
  exact t_Mo_workRules_132 X H h
set_option maxRecDepth 100000 in
set_option maxHeartbeats 4000000 in
theorem t_Mo_workRules_20  (X : zX p s m args cd D cid B bb_Mo_workRules 6 rr_Mo zT) (H : zH s meth B n0 none "workRules") {nf : Nat} {x0 : Nat} {x1 : Int32} {c : Zc} {res : Zc} (h : f_Mo_workRules_20 nf x0 x1 c = some res) : Zz p l e (zRm 6 136 0 0) s m args below meth cd (MQ below (zQv D cid B res n0 0) args s 0 0 (fun q => B ≤ q)) D cid B 6 0 0 c 20 [(0, .ref x0), (1, .int x1)] [] := by
  unfold f_Mo_workRules_20 at h
  obtain ⟨b, eb, h⟩ := zb h
  refine zlp_ok (P := fun a : Nat × Int32 × Zc => Zz p l e (zRm 6 136 0 0) s m args below meth cd _ D cid B 6 0 0 a.2.2 20 [(0, .ref a.1), (1, .int a.2.1)] []) (G := fun b : Nat × Zc => Zz p l e (zRm 6 136 0 0) s m args below meth cd _ D cid B 6 0 0 b.2 40 [(0, .ref b.1)] []) (fun a r ha k0 k1 => u_Mo_workRules_20 X H ha k0 k1) nf _ b eb ?_
  refine z_iconst (v := 0) X dd_Mo_workRules_40 (by decide) ?_
  refine z_istore_n (lv' := [(1, .int 0), (0, .ref b.1)]) X dd_Mo_workRules_41 rfl (by decide) rfl ?_
  refine z_sub [1, 0] rfl ?_
  exact t_Mo_workRules_42 X H h
set_option maxRecDepth 100000 in
set_option maxHeartbeats 4000000 in
theorem c_Mo_workRules (l : Launch) {nf : Nat} {a0 : Nat} {c : Zc} {res : Zc} (h : f_Mo_workRules nf a0 c = some res) : zM l yy_Mo_workRules ww_Mo_workRules 6 136 0 0 [.ref a0] c (fun D cid B => zQv D cid B res c.length 0) := by
  refine z_met (cc := bb_Mo_workRules) (maxL := 6) (ret := none) (by decide +kernel) rfl (Nat.le_of_ble_eq_true rfl) ?_
  intro p e s m args below meth cd D cid B X h1 h2 h3 h4
  have X : zX p s m args cd D cid B bb_Mo_workRules 6 rr_Mo zT := X
  have H : zH s meth B c.length none "workRules" := ⟨h1, h2, h4, h3⟩
  unfold f_Mo_workRules at h
  show Zz p l e (zRm 6 136 0 0) s m args below meth cd _ D cid B 6 0 0 c 0 [(0, .ref a0)] []
  refine z_aload_n X dd_Mo_workRules_0 rfl 0 rfl ?_
  obtain ⟨v1, ev1, h⟩ := zb h
  refine z_get (j := 10) X dd_Mo_workRules_1 kc_12 ki_12 (by decide) km_1531 (zgi_v ev1) ?_
  refine z_if_ne (tgt := 8) X dd_Mo_workRules_4 (by decide) (fun q2 => ?_) (fun q2 => ?_)
  · rw [if_neg q2] at h
    refine z_aload_n X dd_Mo_workRules_8 rfl 0 rfl ?_
    refine z_iconst (v := 0) X dd_Mo_workRules_9 (by decide) ?_
    obtain ⟨c3, ec3, h⟩ := zb h
    refine z_put (j := 10) X dd_Mo_workRules_10 kc_12 ki_12 tt_Mo tk_Mo nn_Mo (by decide) km_1531 rfl (tk_Mo 10 (by decide)) rfl rfl ec3 ?_
    refine z_aload_n X dd_Mo_workRules_13 rfl 0 rfl ?_
    refine z_iconst (v := 0) X dd_Mo_workRules_14 (by decide) ?_
    obtain ⟨c4, ec4, h⟩ := zb h
    refine z_put (j := 11) X dd_Mo_workRules_15 kc_12 ki_12 tt_Mo tk_Mo nn_Mo (by decide) km_1532 rfl (tk_Mo 11 (by decide)) rfl rfl ec4 ?_
    refine z_iconst (v := 0) X dd_Mo_workRules_18 (by decide) ?_
    refine z_istore_n (lv' := [(1, .int 0), (0, .ref a0)]) X dd_Mo_workRules_19 rfl (by decide) rfl ?_
    refine z_sub [1, 0] rfl ?_
    exact t_Mo_workRules_20 X H h
  · rw [if_pos q2] at h
    obtain rfl := Option.some.inj h
    exact z_vret X H.1 H.2.1 H.2.2.1 dd_Mo_workRules_7
theorem dd_Mo_compareRows_0 : decode bb_Mo_compareRows 0 = .ok (.iconst 0, 1) := by decide +kernel
theorem dd_Mo_compareRows_1 : decode bb_Mo_compareRows 1 = .ok (.istore_n 3, 1) := by decide +kernel
theorem dd_Mo_compareRows_2 : decode bb_Mo_compareRows 2 = .ok (.iload_n 3, 1) := by decide +kernel
theorem dd_Mo_compareRows_3 : decode bb_Mo_compareRows 3 = .ok (.aload_n 0, 1) := by decide +kernel
theorem dd_Mo_compareRows_4 : decode bb_Mo_compareRows 4 = .ok (.getfield 512, 3) := by decide +kernel
theorem dd_Mo_compareRows_7 : decode bb_Mo_compareRows 7 = .ok (.if_icmp .ge 65, 3) := by decide +kernel
theorem dd_Mo_compareRows_10 : decode bb_Mo_compareRows 10 = .ok (.aload_n 0, 1) := by decide +kernel
theorem dd_Mo_compareRows_11 : decode bb_Mo_compareRows 11 = .ok (.getfield 204, 3) := by decide +kernel
theorem dd_Mo_compareRows_14 : decode bb_Mo_compareRows 14 = .ok (.bipush 8, 2) := by decide +kernel
theorem dd_Mo_compareRows_16 : decode bb_Mo_compareRows 16 = .ok (.iload_n 1, 1) := by decide +kernel
theorem dd_Mo_compareRows_17 : decode bb_Mo_compareRows 17 = .ok (.imul, 1) := by decide +kernel
theorem dd_Mo_compareRows_18 : decode bb_Mo_compareRows 18 = .ok (.aload_n 0, 1) := by decide +kernel
theorem dd_Mo_compareRows_19 : decode bb_Mo_compareRows 19 = .ok (.getfield 226, 3) := by decide +kernel
theorem dd_Mo_compareRows_22 : decode bb_Mo_compareRows 22 = .ok (.iload_n 3, 1) := by decide +kernel
theorem dd_Mo_compareRows_23 : decode bb_Mo_compareRows 23 = .ok (.iaload, 1) := by decide +kernel
theorem dd_Mo_compareRows_24 : decode bb_Mo_compareRows 24 = .ok (.iadd, 1) := by decide +kernel
theorem dd_Mo_compareRows_25 : decode bb_Mo_compareRows 25 = .ok (.iaload, 1) := by decide +kernel
theorem dd_Mo_compareRows_26 : decode bb_Mo_compareRows 26 = .ok (.istore 4, 2) := by decide +kernel
theorem dd_Mo_compareRows_28 : decode bb_Mo_compareRows 28 = .ok (.aload_n 0, 1) := by decide +kernel
theorem dd_Mo_compareRows_29 : decode bb_Mo_compareRows 29 = .ok (.getfield 204, 3) := by decide +kernel
theorem dd_Mo_compareRows_32 : decode bb_Mo_compareRows 32 = .ok (.bipush 8, 2) := by decide +kernel
theorem dd_Mo_compareRows_34 : decode bb_Mo_compareRows 34 = .ok (.iload_n 2, 1) := by decide +kernel
theorem dd_Mo_compareRows_35 : decode bb_Mo_compareRows 35 = .ok (.imul, 1) := by decide +kernel
theorem dd_Mo_compareRows_36 : decode bb_Mo_compareRows 36 = .ok (.aload_n 0, 1) := by decide +kernel
theorem dd_Mo_compareRows_37 : decode bb_Mo_compareRows 37 = .ok (.getfield 226, 3) := by decide +kernel
theorem dd_Mo_compareRows_40 : decode bb_Mo_compareRows 40 = .ok (.iload_n 3, 1) := by decide +kernel
theorem dd_Mo_compareRows_41 : decode bb_Mo_compareRows 41 = .ok (.iaload, 1) := by decide +kernel
theorem dd_Mo_compareRows_42 : decode bb_Mo_compareRows 42 = .ok (.iadd, 1) := by decide +kernel
theorem dd_Mo_compareRows_43 : decode bb_Mo_compareRows 43 = .ok (.iaload, 1) := by decide +kernel
theorem dd_Mo_compareRows_44 : decode bb_Mo_compareRows 44 = .ok (.istore 5, 2) := by decide +kernel
theorem dd_Mo_compareRows_46 : decode bb_Mo_compareRows 46 = .ok (.iload 4, 2) := by decide +kernel
theorem dd_Mo_compareRows_48 : decode bb_Mo_compareRows 48 = .ok (.iload 5, 2) := by decide +kernel
theorem dd_Mo_compareRows_50 : decode bb_Mo_compareRows 50 = .ok (.if_icmp .eq 16, 3) := by decide +kernel
theorem dd_Mo_compareRows_53 : decode bb_Mo_compareRows 53 = .ok (.iload 4, 2) := by decide +kernel
theorem dd_Mo_compareRows_55 : decode bb_Mo_compareRows 55 = .ok (.iload 5, 2) := by decide +kernel
theorem dd_Mo_compareRows_57 : decode bb_Mo_compareRows 57 = .ok (.if_icmp .ge 7, 3) := by decide +kernel
theorem dd_Mo_compareRows_60 : decode bb_Mo_compareRows 60 = .ok (.iconst (-1), 1) := by decide +kernel
theorem dd_Mo_compareRows_61 : decode bb_Mo_compareRows 61 = .ok (.goto 4, 3) := by decide +kernel
theorem dd_Mo_compareRows_64 : decode bb_Mo_compareRows 64 = .ok (.iconst 1, 1) := by decide +kernel
theorem dd_Mo_compareRows_65 : decode bb_Mo_compareRows 65 = .ok (.ireturn, 1) := by decide +kernel
theorem dd_Mo_compareRows_66 : decode bb_Mo_compareRows 66 = .ok (.iinc 3 1, 3) := by decide +kernel
theorem dd_Mo_compareRows_69 : decode bb_Mo_compareRows 69 = .ok (.goto (-67), 3) := by decide +kernel
theorem dd_Mo_compareRows_72 : decode bb_Mo_compareRows 72 = .ok (.iconst 0, 1) := by decide +kernel
theorem dd_Mo_compareRows_73 : decode bb_Mo_compareRows 73 = .ok (.ireturn, 1) := by decide +kernel
def g_Mo_compareRows_2 (nf : Nat) (x0 : Nat) (x1 : Int32) (x2 : Int32) (x3 : Int32) (c : Zc) : Option ((Nat × Int32 × Int32 × Int32 × Zc) ⊕ ((Int32 × Int32 × Zc) ⊕ (Zc))) :=
  (zgi c x0 12 87).bind fun v1 => if v1 ≤ x3 then (some (.inr (.inr c))) else ((zgr c x0 12 78).bind fun v3 => (zgr c x0 12 86).bind fun v4 => (zai c v4 0 x3).bind fun v5 => (zai c v3 0 ((8 * x1) + v5)).bind fun v6 => (zgr c x0 12 78).bind fun v7 => (zgr c x0 12 86).bind fun v8 => (zai c v8 0 x3).bind fun v9 => (zai c v7 0 ((8 * x2) + v9)).bind fun v10 => if v6 = v10 then (some (.inl (x0, x1, x2, (x3 + 1), c))) else (some (.inr (.inl (v6, v10, c)))))
def f_Mo_compareRows_65 (nf : Nat) (s0 : Int32) (c : Zc) : Option (Int32 × Zc) :=
  some (s0, c)
def f_Mo_compareRows_2 (nf : Nat) (x0 : Nat) (x1 : Int32) (x2 : Int32) (x3 : Int32) (c : Zc) : Option (Int32 × Zc) :=
  (zlp (fun a => g_Mo_compareRows_2 nf a.1 a.2.1 a.2.2.1 a.2.2.2.1 a.2.2.2.2) nf (x0, x1, x2, x3, c)).bind fun b => Sum.elim (fun b => if b.2.1 ≤ b.1 then (f_Mo_compareRows_65 nf 1 b.2.2) else (f_Mo_compareRows_65 nf (-1) b.2.2)) (fun b => some (0, b)) b
def f_Mo_compareRows (nf : Nat) (a0 : Nat) (a1 : Int32) (a2 : Int32) (c : Zc) : Option (Int32 × Zc) :=
  f_Mo_compareRows_2 nf a0 a1 a2 0 c
set_option maxRecDepth 100000 in
set_option maxHeartbeats 4000000 in
theorem u_Mo_compareRows_2  (X : zX p s m args cd D cid B bb_Mo_compareRows 6 rr_Mo zT) (H : zH s meth B n0 (some (.int)) "compareRows") {nf : Nat} {x0 : Nat} {x1 : Int32} {x2 : Int32} {x3 : Int32} {c : Zc} {r : (Nat × Int32 × Int32 × Int32 × Zc) ⊕ ((Int32 × Int32 × Zc) ⊕ (Zc))} (h : g_Mo_compareRows_2 nf x0 x1 x2 x3 c = some r) (k0 : ∀ a, r = .inl a → (fun a : Nat × Int32 × Int32 × Int32 × Zc => Zz p l e (zRm 0 0 0 0) s m args below meth cd Q D cid B 6 0 0 a.2.2.2.2 2 [(0, .ref a.1), (1, .int a.2.1), (2, .int a.2.2.1), (3, .int a.2.2.2.1)] []) a) (k1 : ∀ b, r = .inr b → (fun b : (Int32 × Int32 × Zc) ⊕ (Zc) => Sum.elim (fun b => Zz p l e (zRm 0 0 0 0) s m args below meth cd Q D cid B 6 0 0 b.2.2 53 [(4, .int b.1), (5, .int b.2.1)] []) (fun b => Zz p l e (zRm 0 0 0 0) s m args below meth cd Q D cid B 6 0 0 b 72 [] []) b) b) : Zz p l e (zRm 0 0 0 0) s m args below meth cd Q D cid B 6 0 0 c 2 [(0, .ref x0), (1, .int x1), (2, .int x2), (3, .int x3)] [] := by
  unfold g_Mo_compareRows_2 at h
  refine z_iload_n X dd_Mo_compareRows_2 rfl 3 rfl ?_
  refine z_aload_n X dd_Mo_compareRows_3 rfl 0 rfl ?_
  obtain ⟨v1, ev1, h⟩ := zb h
  refine z_get (j := 87) X dd_Mo_compareRows_4 kc_12 ki_12 (by decide) km_1608 (zgi_v ev1) ?_
  refine z_icmp_ge (tgt := 72) X dd_Mo_compareRows_7 (by decide) (fun q2 => ?_) (fun q2 => ?_)
  · rw [if_pos q2] at h
    refine z_sub [] rfl ?_
    obtain rfl := Option.some.inj h
    exact k1 _ rfl
  · rw [if_neg q2] at h
    refine z_aload_n X dd_Mo_compareRows_10 rfl 0 rfl ?_
    obtain ⟨v3, ev3, h⟩ := zb h
    refine z_get (j := 78) X dd_Mo_compareRows_11 kc_12 ki_12 (by decide) km_1599 (zgr_v ev3) ?_
    refine z_bipush (v := 8) X dd_Mo_compareRows_14 (by decide) ?_
    refine z_iload_n X dd_Mo_compareRows_16 rfl 1 rfl ?_
    refine z_imul X dd_Mo_compareRows_17 ?_
    refine z_aload_n X dd_Mo_compareRows_18 rfl 0 rfl ?_
    obtain ⟨v4, ev4, h⟩ := zb h
    refine z_get (j := 86) X dd_Mo_compareRows_19 kc_12 ki_12 (by decide) km_1607 (zgr_v ev4) ?_
    refine z_iload_n X dd_Mo_compareRows_22 rfl 3 rfl ?_
    obtain ⟨v5, ev5, h⟩ := zb h
    refine z_iaload X dd_Mo_compareRows_23 rfl ev5 ?_
    refine z_iadd X dd_Mo_compareRows_24 ?_
    obtain ⟨v6, ev6, h⟩ := zb h
    refine z_iaload X dd_Mo_compareRows_25 rfl ev6 ?_
    refine z_istore (lv' := [(4, .int v6), (0, .ref x0), (1, .int x1), (2, .int x2), (3, .int x3)]) X dd_Mo_compareRows_26 (by decide) rfl ?_
    refine z_aload_n X dd_Mo_compareRows_28 rfl 1 rfl ?_
    obtain ⟨v7, ev7, h⟩ := zb h
    refine z_get (j := 78) X dd_Mo_compareRows_29 kc_12 ki_12 (by decide) km_1599 (zgr_v ev7) ?_
    refine z_bipush (v := 8) X dd_Mo_compareRows_32 (by decide) ?_
    refine z_iload_n X dd_Mo_compareRows_34 rfl 3 rfl ?_
    refine z_imul X dd_Mo_compareRows_35 ?_
    refine z_aload_n X dd_Mo_compareRows_36 rfl 1 rfl ?_
    obtain ⟨v8, ev8, h⟩ := zb h
    refine z_get (j := 86) X dd_Mo_compareRows_37 kc_12 ki_12 (by decide) km_1607 (zgr_v ev8) ?_
    refine z_iload_n X dd_Mo_compareRows_40 rfl 4 rfl ?_
    obtain ⟨v9, ev9, h⟩ := zb h
    refine z_iaload X dd_Mo_compareRows_41 rfl ev9 ?_
    refine z_iadd X dd_Mo_compareRows_42 ?_
    obtain ⟨v10, ev10, h⟩ := zb h
    refine z_iaload X dd_Mo_compareRows_43 rfl ev10 ?_
    refine z_istore (lv' := [(5, .int v10), (4, .int v6), (0, .ref x0), (1, .int x1), (2, .int x2), (3, .int x3)]) X dd_Mo_compareRows_44 (by decide) rfl ?_
    refine z_iload X dd_Mo_compareRows_46 1 rfl ?_
    refine z_iload X dd_Mo_compareRows_48 0 rfl ?_
    refine z_icmp_eq (tgt := 66) X dd_Mo_compareRows_50 (by decide) (fun q11 => ?_) (fun q11 => ?_)
    · rw [if_pos q11] at h
      refine z_iinc (v := (x3 + 1)) (lv' := [(3, .int (x3 + 1)), (5, .int v10), (4, .int v6), (0, .ref x0), (1, .int x1), (2, .int x2)]) X dd_Mo_compareRows_66 5 rfl rfl (by decide) rfl ?_
      refine z_goto (tgt := 2) X dd_Mo_compareRows_69 (by decide) ?_
      refine z_sub [3, 4, 5, 0] rfl ?_
      obtain rfl := Option.some.inj h
      exact k0 _ rfl
    · rw [if_neg q11] at h
      refine z_sub [1, 0] rfl ?_
      obtain rfl := Option.some.inj h
      exact k1 _ rfl
set_option maxRecDepth 100000 in
set_option maxHeartbeats 4000000 in
theorem t_Mo_compareRows_65  (X : zX p s m args cd D cid B bb_Mo_compareRows 6 rr_Mo zT) (H : zH s meth B n0 (some (.int)) "compareRows") {nf : Nat} {s0 : Int32} {c : Zc} {res : Int32 × Zc} (h : f_Mo_compareRows_65 nf s0 c = some res) : Zz p l e (zRm 0 0 0 0) s m args below meth cd (MQ below (zQi D cid B res.1 res.2 n0 0) args s 0 0 (fun q => B ≤ q)) D cid B 6 0 0 c 65 [] [.int s0] := by
  unfold f_Mo_compareRows_65 at h
  obtain rfl := Option.some.inj h
  exact z_iret X H.1 H.2.1 H.2.2.1 dd_Mo_compareRows_65
set_option maxRecDepth 100000 in
set_option maxHeartbeats 4000000 in
theorem t_Mo_compareRows_2  (X : zX p s m args cd D cid B bb_Mo_compareRows 6 rr_Mo zT) (H : zH s meth B n0 (some (.int)) "compareRows") {nf : Nat} {x0 : Nat} {x1 : Int32} {x2 : Int32} {x3 : Int32} {c : Zc} {res : Int32 × Zc} (h : f_Mo_compareRows_2 nf x0 x1 x2 x3 c = some res) : Zz p l e (zRm 0 0 0 0) s m args below meth cd (MQ below (zQi D cid B res.1 res.2 n0 0) args s 0 0 (fun q => B ≤ q)) D cid B 6 0 0 c 2 [(0, .ref x0), (1, .int x1), (2, .int x2), (3, .int x3)] [] := by
  unfold f_Mo_compareRows_2 at h
  obtain ⟨b, eb, h⟩ := zb h
  refine zlp_ok (P := fun a : Nat × Int32 × Int32 × Int32 × Zc => Zz p l e (zRm 0 0 0 0) s m args below meth cd _ D cid B 6 0 0 a.2.2.2.2 2 [(0, .ref a.1), (1, .int a.2.1), (2, .int a.2.2.1), (3, .int a.2.2.2.1)] []) (G := fun b : (Int32 × Int32 × Zc) ⊕ (Zc) => Sum.elim (fun b => Zz p l e (zRm 0 0 0 0) s m args below meth cd _ D cid B 6 0 0 b.2.2 53 [(4, .int b.1), (5, .int b.2.1)] []) (fun b => Zz p l e (zRm 0 0 0 0) s m args below meth cd _ D cid B 6 0 0 b 72 [] []) b) (fun a r ha k0 k1 => u_Mo_compareRows_2 X H ha k0 k1) nf _ b eb ?_
  rcases b with b | b
  · simp only [Sum.elim_inl] at h ⊢
    refine z_iload X dd_Mo_compareRows_53 0 rfl ?_
    refine z_iload X dd_Mo_compareRows_55 1 rfl ?_
    refine z_icmp_ge (tgt := 64) X dd_Mo_compareRows_57 (by decide) (fun q12 => ?_) (fun q12 => ?_)
    · rw [if_pos q12] at h
      refine z_iconst (v := 1) X dd_Mo_compareRows_64 (by decide) ?_
      refine z_sub [] rfl ?_
      exact t_Mo_compareRows_65 X H h
    · rw [if_neg q12] at h
      refine z_iconst (v := (-1)) X dd_Mo_compareRows_60 (by decide) ?_
      refine z_goto (tgt := 65) X dd_Mo_compareRows_61 (by decide) ?_
      refine z_sub [] rfl ?_
      exact t_Mo_compareRows_65 X H h
  · simp only [Sum.elim_inr] at h ⊢
    refine z_iconst (v := 0) X dd_Mo_compareRows_72 (by decide) ?_
    obtain rfl := Option.some.inj h
    exact z_iret X H.1 H.2.1 H.2.2.1 dd_Mo_compareRows_73
set_option maxRecDepth 100000 in
set_option maxHeartbeats 4000000 in
theorem c_Mo_compareRows (l : Launch) {nf : Nat} {a0 : Nat} {a1 : Int32} {a2 : Int32} {c : Zc} {res : Int32 × Zc} (h : f_Mo_compareRows nf a0 a1 a2 c = some res) : zM l yy_Mo_compareRows ww_Mo_compareRows 0 0 0 0 [.ref a0, .int a1, .int a2] c (fun D cid B => zQi D cid B res.1 res.2 c.length 0) := by
  refine z_met (cc := bb_Mo_compareRows) (maxL := 6) (ret := (some (.int))) (by decide +kernel) rfl (Nat.le_of_ble_eq_true rfl) ?_
  intro p e s m args below meth cd D cid B X h1 h2 h3 h4
  have X : zX p s m args cd D cid B bb_Mo_compareRows 6 rr_Mo zT := X
  have H : zH s meth B c.length (some (.int)) "compareRows" := ⟨h1, h2, h4, h3⟩
  unfold f_Mo_compareRows at h
  show Zz p l e (zRm 0 0 0 0) s m args below meth cd _ D cid B 6 0 0 c 0 [(0, .ref a0), (1, .int a1), (2, .int a2)] []
  refine z_iconst (v := 0) X dd_Mo_compareRows_0 (by decide) ?_
  refine z_istore_n (lv' := [(3, .int 0), (0, .ref a0), (1, .int a1), (2, .int a2)]) X dd_Mo_compareRows_1 rfl (by decide) rfl ?_
  refine z_sub [1, 2, 3, 0] rfl ?_
  exact t_Mo_compareRows_2 X H h
theorem dd_Mo_sortRows_0 : decode bb_Mo_sortRows 0 = .ok (.iconst 0, 1) := by decide +kernel
theorem dd_Mo_sortRows_1 : decode bb_Mo_sortRows 1 = .ok (.istore_n 1, 1) := by decide +kernel
theorem dd_Mo_sortRows_2 : decode bb_Mo_sortRows 2 = .ok (.iload_n 1, 1) := by decide +kernel
theorem dd_Mo_sortRows_3 : decode bb_Mo_sortRows 3 = .ok (.aload_n 0, 1) := by decide +kernel
theorem dd_Mo_sortRows_4 : decode bb_Mo_sortRows 4 = .ok (.getfield 515, 3) := by decide +kernel
theorem dd_Mo_sortRows_7 : decode bb_Mo_sortRows 7 = .ok (.if_icmp .ge 16, 3) := by decide +kernel
theorem dd_Mo_sortRows_10 : decode bb_Mo_sortRows 10 = .ok (.aload_n 0, 1) := by decide +kernel
theorem dd_Mo_sortRows_11 : decode bb_Mo_sortRows 11 = .ok (.getfield 207, 3) := by decide +kernel
theorem dd_Mo_sortRows_14 : decode bb_Mo_sortRows 14 = .ok (.iload_n 1, 1) := by decide +kernel
theorem dd_Mo_sortRows_15 : decode bb_Mo_sortRows 15 = .ok (.iload_n 1, 1) := by decide +kernel
theorem dd_Mo_sortRows_16 : decode bb_Mo_sortRows 16 = .ok (.iastore, 1) := by decide +kernel
theorem dd_Mo_sortRows_17 : decode bb_Mo_sortRows 17 = .ok (.iinc 1 1, 3) := by decide +kernel
theorem dd_Mo_sortRows_20 : decode bb_Mo_sortRows 20 = .ok (.goto (-18), 3) := by decide +kernel
theorem dd_Mo_sortRows_23 : decode bb_Mo_sortRows 23 = .ok (.iconst 1, 1) := by decide +kernel
theorem dd_Mo_sortRows_24 : decode bb_Mo_sortRows 24 = .ok (.istore_n 1, 1) := by decide +kernel
theorem dd_Mo_sortRows_25 : decode bb_Mo_sortRows 25 = .ok (.iload_n 1, 1) := by decide +kernel
theorem dd_Mo_sortRows_26 : decode bb_Mo_sortRows 26 = .ok (.aload_n 0, 1) := by decide +kernel
theorem dd_Mo_sortRows_27 : decode bb_Mo_sortRows 27 = .ok (.getfield 515, 3) := by decide +kernel
theorem dd_Mo_sortRows_30 : decode bb_Mo_sortRows 30 = .ok (.if_icmp .ge 226, 3) := by decide +kernel
theorem dd_Mo_sortRows_33 : decode bb_Mo_sortRows 33 = .ok (.iconst 0, 1) := by decide +kernel
theorem dd_Mo_sortRows_34 : decode bb_Mo_sortRows 34 = .ok (.istore_n 2, 1) := by decide +kernel
theorem dd_Mo_sortRows_35 : decode bb_Mo_sortRows 35 = .ok (.iload_n 2, 1) := by decide +kernel
theorem dd_Mo_sortRows_36 : decode bb_Mo_sortRows 36 = .ok (.aload_n 0, 1) := by decide +kernel
theorem dd_Mo_sortRows_37 : decode bb_Mo_sortRows 37 = .ok (.getfield 515, 3) := by decide +kernel
theorem dd_Mo_sortRows_40 : decode bb_Mo_sortRows 40 = .ok (.if_icmp .ge 181, 3) := by decide +kernel
theorem dd_Mo_sortRows_43 : decode bb_Mo_sortRows 43 = .ok (.iload_n 2, 1) := by decide +kernel
theorem dd_Mo_sortRows_44 : decode bb_Mo_sortRows 44 = .ok (.iload_n 1, 1) := by decide +kernel
theorem dd_Mo_sortRows_45 : decode bb_Mo_sortRows 45 = .ok (.iadd, 1) := by decide +kernel
theorem dd_Mo_sortRows_46 : decode bb_Mo_sortRows 46 = .ok (.aload_n 0, 1) := by decide +kernel
theorem dd_Mo_sortRows_47 : decode bb_Mo_sortRows 47 = .ok (.getfield 515, 3) := by decide +kernel
theorem dd_Mo_sortRows_50 : decode bb_Mo_sortRows 50 = .ok (.if_icmp .ge 9, 3) := by decide +kernel
theorem dd_Mo_sortRows_53 : decode bb_Mo_sortRows 53 = .ok (.iload_n 2, 1) := by decide +kernel
theorem dd_Mo_sortRows_54 : decode bb_Mo_sortRows 54 = .ok (.iload_n 1, 1) := by decide +kernel
theorem dd_Mo_sortRows_55 : decode bb_Mo_sortRows 55 = .ok (.iadd, 1) := by decide +kernel
theorem dd_Mo_sortRows_56 : decode bb_Mo_sortRows 56 = .ok (.goto 7, 3) := by decide +kernel
theorem dd_Mo_sortRows_59 : decode bb_Mo_sortRows 59 = .ok (.aload_n 0, 1) := by decide +kernel
theorem dd_Mo_sortRows_60 : decode bb_Mo_sortRows 60 = .ok (.getfield 515, 3) := by decide +kernel
theorem dd_Mo_sortRows_63 : decode bb_Mo_sortRows 63 = .ok (.istore_n 3, 1) := by decide +kernel
theorem dd_Mo_sortRows_64 : decode bb_Mo_sortRows 64 = .ok (.iload_n 2, 1) := by decide +kernel
theorem dd_Mo_sortRows_65 : decode bb_Mo_sortRows 65 = .ok (.iconst 2, 1) := by decide +kernel
theorem dd_Mo_sortRows_66 : decode bb_Mo_sortRows 66 = .ok (.iload_n 1, 1) := by decide +kernel
theorem dd_Mo_sortRows_67 : decode bb_Mo_sortRows 67 = .ok (.imul, 1) := by decide +kernel
theorem dd_Mo_sortRows_68 : decode bb_Mo_sortRows 68 = .ok (.iadd, 1) := by decide +kernel
theorem dd_Mo_sortRows_69 : decode bb_Mo_sortRows 69 = .ok (.aload_n 0, 1) := by decide +kernel
theorem dd_Mo_sortRows_70 : decode bb_Mo_sortRows 70 = .ok (.getfield 515, 3) := by decide +kernel
theorem dd_Mo_sortRows_73 : decode bb_Mo_sortRows 73 = .ok (.if_icmp .ge 11, 3) := by decide +kernel
theorem dd_Mo_sortRows_76 : decode bb_Mo_sortRows 76 = .ok (.iload_n 2, 1) := by decide +kernel
theorem dd_Mo_sortRows_77 : decode bb_Mo_sortRows 77 = .ok (.iconst 2, 1) := by decide +kernel
theorem dd_Mo_sortRows_78 : decode bb_Mo_sortRows 78 = .ok (.iload_n 1, 1) := by decide +kernel
theorem dd_Mo_sortRows_79 : decode bb_Mo_sortRows 79 = .ok (.imul, 1) := by decide +kernel
theorem dd_Mo_sortRows_80 : decode bb_Mo_sortRows 80 = .ok (.iadd, 1) := by decide +kernel
theorem dd_Mo_sortRows_81 : decode bb_Mo_sortRows 81 = .ok (.goto 7, 3) := by decide +kernel
theorem dd_Mo_sortRows_84 : decode bb_Mo_sortRows 84 = .ok (.aload_n 0, 1) := by decide +kernel
theorem dd_Mo_sortRows_85 : decode bb_Mo_sortRows 85 = .ok (.getfield 515, 3) := by decide +kernel
theorem dd_Mo_sortRows_88 : decode bb_Mo_sortRows 88 = .ok (.istore 4, 2) := by decide +kernel
theorem dd_Mo_sortRows_90 : decode bb_Mo_sortRows 90 = .ok (.iload_n 2, 1) := by decide +kernel
theorem dd_Mo_sortRows_91 : decode bb_Mo_sortRows 91 = .ok (.istore 5, 2) := by decide +kernel
theorem dd_Mo_sortRows_93 : decode bb_Mo_sortRows 93 = .ok (.iload_n 3, 1) := by decide +kernel
theorem dd_Mo_sortRows_94 : decode bb_Mo_sortRows 94 = .ok (.istore 6, 2) := by decide +kernel
theorem dd_Mo_sortRows_96 : decode bb_Mo_sortRows 96 = .ok (.iload_n 2, 1) := by decide +kernel
theorem dd_Mo_sortRows_97 : decode bb_Mo_sortRows 97 = .ok (.istore 7, 2) := by decide +kernel
theorem dd_Mo_sortRows_99 : decode bb_Mo_sortRows 99 = .ok (.iload 7, 2) := by decide +kernel
theorem dd_Mo_sortRows_101 : decode bb_Mo_sortRows 101 = .ok (.iload 4, 2) := by decide +kernel
theorem dd_Mo_sortRows_103 : decode bb_Mo_sortRows 103 = .ok (.if_icmp .ge 109, 3) := by decide +kernel
theorem dd_Mo_sortRows_106 : decode bb_Mo_sortRows 106 = .ok (.iload 6, 2) := by decide +kernel
theorem dd_Mo_sortRows_108 : decode bb_Mo_sortRows 108 = .ok (.iload 4, 2) := by decide +kernel
theorem dd_Mo_sortRows_110 : decode bb_Mo_sortRows 110 = .ok (.if_icmp .eq 30, 3) := by decide +kernel
theorem dd_Mo_sortRows_113 : decode bb_Mo_sortRows 113 = .ok (.iload 5, 2) := by decide +kernel
theorem dd_Mo_sortRows_115 : decode bb_Mo_sortRows 115 = .ok (.iload_n 3, 1) := by decide +kernel
theorem dd_Mo_sortRows_116 : decode bb_Mo_sortRows 116 = .ok (.if_icmp .ge 28, 3) := by decide +kernel
theorem dd_Mo_sortRows_119 : decode bb_Mo_sortRows 119 = .ok (.aload_n 0, 1) := by decide +kernel
theorem dd_Mo_sortRows_120 : decode bb_Mo_sortRows 120 = .ok (.aload_n 0, 1) := by decide +kernel
theorem dd_Mo_sortRows_121 : decode bb_Mo_sortRows 121 = .ok (.getfield 207, 3) := by decide +kernel
theorem dd_Mo_sortRows_124 : decode bb_Mo_sortRows 124 = .ok (.iload 5, 2) := by decide +kernel
theorem dd_Mo_sortRows_126 : decode bb_Mo_sortRows 126 = .ok (.iaload, 1) := by decide +kernel
theorem dd_Mo_sortRows_127 : decode bb_Mo_sortRows 127 = .ok (.aload_n 0, 1) := by decide +kernel
theorem dd_Mo_sortRows_128 : decode bb_Mo_sortRows 128 = .ok (.getfield 207, 3) := by decide +kernel
theorem dd_Mo_sortRows_131 : decode bb_Mo_sortRows 131 = .ok (.iload 6, 2) := by decide +kernel
theorem dd_Mo_sortRows_133 : decode bb_Mo_sortRows 133 = .ok (.iaload, 1) := by decide +kernel
theorem dd_Mo_sortRows_134 : decode bb_Mo_sortRows 134 = .ok (.invokevirtual 518, 3) := by decide +kernel
theorem dd_Mo_sortRows_137 : decode bb_Mo_sortRows 137 = .ok (.ifCond .gt 7, 3) := by decide +kernel
theorem dd_Mo_sortRows_140 : decode bb_Mo_sortRows 140 = .ok (.iconst 1, 1) := by decide +kernel
theorem dd_Mo_sortRows_141 : decode bb_Mo_sortRows 141 = .ok (.goto 4, 3) := by decide +kernel
theorem dd_Mo_sortRows_144 : decode bb_Mo_sortRows 144 = .ok (.iconst 0, 1) := by decide +kernel
theorem dd_Mo_sortRows_145 : decode bb_Mo_sortRows 145 = .ok (.istore 8, 2) := by decide +kernel
theorem dd_Mo_sortRows_147 : decode bb_Mo_sortRows 147 = .ok (.aload_n 0, 1) := by decide +kernel
theorem dd_Mo_sortRows_148 : decode bb_Mo_sortRows 148 = .ok (.getfield 210, 3) := by decide +kernel
theorem dd_Mo_sortRows_151 : decode bb_Mo_sortRows 151 = .ok (.iload 7, 2) := by decide +kernel
theorem dd_Mo_sortRows_153 : decode bb_Mo_sortRows 153 = .ok (.iload 8, 2) := by decide +kernel
theorem dd_Mo_sortRows_155 : decode bb_Mo_sortRows 155 = .ok (.ifCond .eq 13, 3) := by decide +kernel
theorem dd_Mo_sortRows_158 : decode bb_Mo_sortRows 158 = .ok (.aload_n 0, 1) := by decide +kernel
theorem dd_Mo_sortRows_159 : decode bb_Mo_sortRows 159 = .ok (.getfield 207, 3) := by decide +kernel
theorem dd_Mo_sortRows_162 : decode bb_Mo_sortRows 162 = .ok (.iload 5, 2) := by decide +kernel
theorem dd_Mo_sortRows_164 : decode bb_Mo_sortRows 164 = .ok (.iaload, 1) := by decide +kernel
theorem dd_Mo_sortRows_165 : decode bb_Mo_sortRows 165 = .ok (.goto 10, 3) := by decide +kernel
theorem dd_Mo_sortRows_168 : decode bb_Mo_sortRows 168 = .ok (.aload_n 0, 1) := by decide +kernel
theorem dd_Mo_sortRows_169 : decode bb_Mo_sortRows 169 = .ok (.getfield 207, 3) := by decide +kernel
theorem dd_Mo_sortRows_172 : decode bb_Mo_sortRows 172 = .ok (.iload 6, 2) := by decide +kernel
theorem dd_Mo_sortRows_174 : decode bb_Mo_sortRows 174 = .ok (.iaload, 1) := by decide +kernel
theorem dd_Mo_sortRows_175 : decode bb_Mo_sortRows 175 = .ok (.iastore, 1) := by decide +kernel
theorem dd_Mo_sortRows_176 : decode bb_Mo_sortRows 176 = .ok (.iload 5, 2) := by decide +kernel
theorem dd_Mo_sortRows_178 : decode bb_Mo_sortRows 178 = .ok (.iload 8, 2) := by decide +kernel
theorem dd_Mo_sortRows_180 : decode bb_Mo_sortRows 180 = .ok (.ifCond .eq 7, 3) := by decide +kernel
theorem dd_Mo_sortRows_183 : decode bb_Mo_sortRows 183 = .ok (.iconst 1, 1) := by decide +kernel
theorem dd_Mo_sortRows_184 : decode bb_Mo_sortRows 184 = .ok (.goto 4, 3) := by decide +kernel
theorem dd_Mo_sortRows_187 : decode bb_Mo_sortRows 187 = .ok (.iconst 0, 1) := by decide +kernel
theorem dd_Mo_sortRows_188 : decode bb_Mo_sortRows 188 = .ok (.iadd, 1) := by decide +kernel
theorem dd_Mo_sortRows_189 : decode bb_Mo_sortRows 189 = .ok (.istore 5, 2) := by decide +kernel
theorem dd_Mo_sortRows_191 : decode bb_Mo_sortRows 191 = .ok (.iload 6, 2) := by decide +kernel
theorem dd_Mo_sortRows_193 : decode bb_Mo_sortRows 193 = .ok (.iload 8, 2) := by decide +kernel
theorem dd_Mo_sortRows_195 : decode bb_Mo_sortRows 195 = .ok (.ifCond .eq 7, 3) := by decide +kernel
theorem dd_Mo_sortRows_198 : decode bb_Mo_sortRows 198 = .ok (.iconst 0, 1) := by decide +kernel
theorem dd_Mo_sortRows_199 : decode bb_Mo_sortRows 199 = .ok (.goto 4, 3) := by decide +kernel
theorem dd_Mo_sortRows_202 : decode bb_Mo_sortRows 202 = .ok (.iconst 1, 1) := by decide +kernel
theorem dd_Mo_sortRows_203 : decode bb_Mo_sortRows 203 = .ok (.iadd, 1) := by decide +kernel
theorem dd_Mo_sortRows_204 : decode bb_Mo_sortRows 204 = .ok (.istore 6, 2) := by decide +kernel
theorem dd_Mo_sortRows_206 : decode bb_Mo_sortRows 206 = .ok (.iinc 7 1, 3) := by decide +kernel
theorem dd_Mo_sortRows_209 : decode bb_Mo_sortRows 209 = .ok (.goto (-110), 3) := by decide +kernel
theorem dd_Mo_sortRows_212 : decode bb_Mo_sortRows 212 = .ok (.iload_n 2, 1) := by decide +kernel
theorem dd_Mo_sortRows_213 : decode bb_Mo_sortRows 213 = .ok (.iconst 2, 1) := by decide +kernel
theorem dd_Mo_sortRows_214 : decode bb_Mo_sortRows 214 = .ok (.iload_n 1, 1) := by decide +kernel
theorem dd_Mo_sortRows_215 : decode bb_Mo_sortRows 215 = .ok (.imul, 1) := by decide +kernel
theorem dd_Mo_sortRows_216 : decode bb_Mo_sortRows 216 = .ok (.iadd, 1) := by decide +kernel
theorem dd_Mo_sortRows_217 : decode bb_Mo_sortRows 217 = .ok (.istore_n 2, 1) := by decide +kernel
theorem dd_Mo_sortRows_218 : decode bb_Mo_sortRows 218 = .ok (.goto (-183), 3) := by decide +kernel
theorem dd_Mo_sortRows_221 : decode bb_Mo_sortRows 221 = .ok (.iconst 0, 1) := by decide +kernel
theorem dd_Mo_sortRows_222 : decode bb_Mo_sortRows 222 = .ok (.istore_n 2, 1) := by decide +kernel
theorem dd_Mo_sortRows_223 : decode bb_Mo_sortRows 223 = .ok (.iload_n 2, 1) := by decide +kernel
theorem dd_Mo_sortRows_224 : decode bb_Mo_sortRows 224 = .ok (.aload_n 0, 1) := by decide +kernel
theorem dd_Mo_sortRows_225 : decode bb_Mo_sortRows 225 = .ok (.getfield 515, 3) := by decide +kernel
theorem dd_Mo_sortRows_228 : decode bb_Mo_sortRows 228 = .ok (.if_icmp .ge 21, 3) := by decide +kernel
theorem dd_Mo_sortRows_231 : decode bb_Mo_sortRows 231 = .ok (.aload_n 0, 1) := by decide +kernel
theorem dd_Mo_sortRows_232 : decode bb_Mo_sortRows 232 = .ok (.getfield 207, 3) := by decide +kernel
theorem dd_Mo_sortRows_235 : decode bb_Mo_sortRows 235 = .ok (.iload_n 2, 1) := by decide +kernel
theorem dd_Mo_sortRows_236 : decode bb_Mo_sortRows 236 = .ok (.aload_n 0, 1) := by decide +kernel
theorem dd_Mo_sortRows_237 : decode bb_Mo_sortRows 237 = .ok (.getfield 210, 3) := by decide +kernel
theorem dd_Mo_sortRows_240 : decode bb_Mo_sortRows 240 = .ok (.iload_n 2, 1) := by decide +kernel
theorem dd_Mo_sortRows_241 : decode bb_Mo_sortRows 241 = .ok (.iaload, 1) := by decide +kernel
theorem dd_Mo_sortRows_242 : decode bb_Mo_sortRows 242 = .ok (.iastore, 1) := by decide +kernel
theorem dd_Mo_sortRows_243 : decode bb_Mo_sortRows 243 = .ok (.iinc 2 1, 3) := by decide +kernel
theorem dd_Mo_sortRows_246 : decode bb_Mo_sortRows 246 = .ok (.goto (-23), 3) := by decide +kernel
theorem dd_Mo_sortRows_249 : decode bb_Mo_sortRows 249 = .ok (.iload_n 1, 1) := by decide +kernel
theorem dd_Mo_sortRows_250 : decode bb_Mo_sortRows 250 = .ok (.iconst 2, 1) := by decide +kernel
theorem dd_Mo_sortRows_251 : decode bb_Mo_sortRows 251 = .ok (.imul, 1) := by decide +kernel
theorem dd_Mo_sortRows_252 : decode bb_Mo_sortRows 252 = .ok (.istore_n 1, 1) := by decide +kernel
theorem dd_Mo_sortRows_253 : decode bb_Mo_sortRows 253 = .ok (.goto (-228), 3) := by decide +kernel
theorem dd_Mo_sortRows_256 : decode bb_Mo_sortRows 256 = .ok (.return_, 1) := by decide +kernel
def g_Mo_sortRows_2 (nf : Nat) (x0 : Nat) (x1 : Int32) (c : Zc) : Option ((Nat × Int32 × Zc) ⊕ (Nat × Zc)) :=
  (zgi c x0 12 81).bind fun v1 => if v1 ≤ x1 then (some (.inr (x0, c))) else ((zgr c x0 12 79).bind fun v3 => (zsi c v3 0 x1 x1).bind fun c4 => some (.inl (x0, (x1 + 1), c4)))
def f_Mo_sortRows_203 (nf : Nat) (x0 : Nat) (x1 : Int32) (x2 : Int32) (x3 : Int32) (x4 : Int32) (x5 : Int32) (x7 : Int32) (s0 : Int32) (s1 : Int32) (c : Zc) : Option ((Nat × Int32 × Int32 × Int32 × Int32 × Int32 × Int32 × Int32 × Zc) ⊕ (Nat × Int32 × Int32 × Zc)) :=
  some (.inl (x0, x1, x2, x3, x4, x5, (s0 + s1), (x7 + 1), c))
def f_Mo_sortRows_188 (nf : Nat) (x0 : Nat) (x1 : Int32) (x2 : Int32) (x3 : Int32) (x4 : Int32) (x6 : Int32) (x7 : Int32) (x8 : Int32) (s0 : Int32) (s1 : Int32) (c : Zc) : Option ((Nat × Int32 × Int32 × Int32 × Int32 × Int32 × Int32 × Int32 × Zc) ⊕ (Nat × Int32 × Int32 × Zc)) :=
  if x8 = 0 then (f_Mo_sortRows_203 nf x0 x1 x2 x3 x4 (s0 + s1) x7 x6 1 c) else (f_Mo_sortRows_203 nf x0 x1 x2 x3 x4 (s0 + s1) x7 x6 0 c)
def f_Mo_sortRows_175 (nf : Nat) (x0 : Nat) (x1 : Int32) (x2 : Int32) (x3 : Int32) (x4 : Int32) (x5 : Int32) (x6 : Int32) (x7 : Int32) (x8 : Int32) (s0 : Nat) (s1 : Int32) (s2 : Int32) (c : Zc) : Option ((Nat × Int32 × Int32 × Int32 × Int32 × Int32 × Int32 × Int32 × Zc) ⊕ (Nat × Int32 × Int32 × Zc)) :=
  (zsi c s0 0 s1 s2).bind fun c21 => if x8 = 0 then (f_Mo_sortRows_188 nf x0 x1 x2 x3 x4 x6 x7 x8 x5 0 c21) else (f_Mo_sortRows_188 nf x0 x1 x2 x3 x4 x6 x7 x8 x5 1 c21)
def f_Mo_sortRows_145 (nf : Nat) (x0 : Nat) (x1 : Int32) (x2 : Int32) (x3 : Int32) (x4 : Int32) (x5 : Int32) (x6 : Int32) (x7 : Int32) (s0 : Int32) (c : Zc) : Option ((Nat × Int32 × Int32 × Int32 × Int32 × Int32 × Int32 × Int32 × Zc) ⊕ (Nat × Int32 × Int32 × Zc)) :=
  (zgr c x0 12 80).bind fun v17 => if s0 = 0 then ((zgr c x0 12 79).bind fun v19 => (zai c v19 0 x6).bind fun v20 => f_Mo_sortRows_175 nf x0 x1 x2 x3 x4 x5 x6 x7 s0 v17 x7 v20 c) else ((zgr c x0 12 79).bind fun v24 => (zai c v24 0 x5).bind fun v25 => f_Mo_sortRows_175 nf x0 x1 x2 x3 x4 x5 x6 x7 s0 v17 x7 v25 c)
def f_Mo_sortRows_140 (nf : Nat) (x0 : Nat) (x1 : Int32) (x2 : Int32) (x3 : Int32) (x4 : Int32) (x5 : Int32) (x6 : Int32) (x7 : Int32) (c : Zc) : Option ((Nat × Int32 × Int32 × Int32 × Int32 × Int32 × Int32 × Int32 × Zc) ⊕ (Nat × Int32 × Int32 × Zc)) :=
  f_Mo_sortRows_145 nf x0 x1 x2 x3 x4 x5 x6 x7 1 c
def f_Mo_sortRows_144 (nf : Nat) (x0 : Nat) (x1 : Int32) (x2 : Int32) (x3 : Int32) (x4 : Int32) (x5 : Int32) (x6 : Int32) (x7 : Int32) (c : Zc) : Option ((Nat × Int32 × Int32 × Int32 × Int32 × Int32 × Int32 × Int32 × Zc) ⊕ (Nat × Int32 × Int32 × Zc)) :=
  f_Mo_sortRows_145 nf x0 x1 x2 x3 x4 x5 x6 x7 0 c
def g_Mo_sortRows_99 (nf : Nat) (x0 : Nat) (x1 : Int32) (x2 : Int32) (x3 : Int32) (x4 : Int32) (x5 : Int32) (x6 : Int32) (x7 : Int32) (c : Zc) : Option ((Nat × Int32 × Int32 × Int32 × Int32 × Int32 × Int32 × Int32 × Zc) ⊕ (Nat × Int32 × Int32 × Zc)) :=
  if x4 ≤ x7 then (some (.inr (x0, x1, x2, c))) else (if x6 = x4 then (f_Mo_sortRows_140 nf x0 x1 x2 x3 x4 x5 x6 x7 c) else (if x3 ≤ x5 then (f_Mo_sortRows_144 nf x0 x1 x2 x3 x4 x5 x6 x7 c) else ((zgr c x0 12 79).bind fun v27 => (zai c v27 0 x5).bind fun v28 => (zgr c x0 12 79).bind fun v29 => (zai c v29 0 x6).bind fun v30 => (zob c x0 12).bind fun w32 => (f_Mo_compareRows nf x0 v28 v30 c).bind fun q31 => if 0 < q31.1 then (f_Mo_sortRows_144 nf x0 x1 x2 x3 x4 x5 x6 x7 q31.2) else (f_Mo_sortRows_140 nf x0 x1 x2 x3 x4 x5 x6 x7 q31.2))))
def f_Mo_sortRows_99 (nf : Nat) (x0 : Nat) (x1 : Int32) (x2 : Int32) (x3 : Int32) (x4 : Int32) (x5 : Int32) (x6 : Int32) (x7 : Int32) (c : Zc) : Option ((Nat × Int32 × Int32 × Zc) ⊕ (Nat × Int32 × Zc)) :=
  (zlp (fun a => g_Mo_sortRows_99 nf a.1 a.2.1 a.2.2.1 a.2.2.2.1 a.2.2.2.2.1 a.2.2.2.2.2.1 a.2.2.2.2.2.2.1 a.2.2.2.2.2.2.2.1 a.2.2.2.2.2.2.2.2) nf (x0, x1, x2, x3, x4, x5, x6, x7, c)).bind fun b => some (.inl (b.1, b.2.1, (b.2.2.1 + (2 * b.2.1)), b.2.2.2))
def f_Mo_sortRows_88 (nf : Nat) (x0 : Nat) (x1 : Int32) (x2 : Int32) (x3 : Int32) (s0 : Int32) (c : Zc) : Option ((Nat × Int32 × Int32 × Zc) ⊕ (Nat × Int32 × Zc)) :=
  f_Mo_sortRows_99 nf x0 x1 x2 x3 s0 x2 x3 x2 c
def f_Mo_sortRows_63 (nf : Nat) (x0 : Nat) (x1 : Int32) (x2 : Int32) (s0 : Int32) (c : Zc) : Option ((Nat × Int32 × Int32 × Zc) ⊕ (Nat × Int32 × Zc)) :=
  (zgi c x0 12 81).bind fun v12 => if v12 ≤ (x2 + (2 * x1)) then ((zgi c x0 12 81).bind fun v14 => f_Mo_sortRows_88 nf x0 x1 x2 s0 v14 c) else (f_Mo_sortRows_88 nf x0 x1 x2 s0 (x2 + (2 * x1)) c)
def g_Mo_sortRows_35 (nf : Nat) (x0 : Nat) (x1 : Int32) (x2 : Int32) (c : Zc) : Option ((Nat × Int32 × Int32 × Zc) ⊕ (Nat × Int32 × Zc)) :=
  (zgi c x0 12 81).bind fun v7 => if v7 ≤ x2 then (some (.inr (x0, x1, c))) else ((zgi c x0 12 81).bind fun v9 => if v9 ≤ (x2 + x1) then ((zgi c x0 12 81).bind fun v11 => f_Mo_sortRows_63 nf x0 x1 x2 v11 c) else (f_Mo_sortRows_63 nf x0 x1 x2 (x2 + x1) c))
def g_Mo_sortRows_223 (nf : Nat) (x0 : Nat) (x1 : Int32) (x2 : Int32) (c : Zc) : Option ((Nat × Int32 × Int32 × Zc) ⊕ (Nat × Int32 × Zc)) :=
  (zgi c x0 12 81).bind fun v34 => if v34 ≤ x2 then (some (.inr (x0, x1, c))) else ((zgr c x0 12 79).bind fun v36 => (zgr c x0 12 80).bind fun v37 => (zai c v37 0 x2).bind fun v38 => (zsi c v36 0 x2 v38).bind fun c39 => some (.inl (x0, x1, (x2 + 1), c39)))
def f_Mo_sortRows_223 (nf : Nat) (x0 : Nat) (x1 : Int32) (x2 : Int32) (c : Zc) : Option ((Nat × Int32 × Zc) ⊕ (Zc)) :=
  (zlp (fun a => g_Mo_sortRows_223 nf a.1 a.2.1 a.2.2.1 a.2.2.2) nf (x0, x1, x2, c)).bind fun b => some (.inl (b.1, (b.2.1 * 2), b.2.2))
def f_Mo_sortRows_35 (nf : Nat) (x0 : Nat) (x1 : Int32) (x2 : Int32) (c : Zc) : Option ((Nat × Int32 × Zc) ⊕ (Zc)) :=
  (zlp (fun a => g_Mo_sortRows_35 nf a.1 a.2.1 a.2.2.1 a.2.2.2) nf (x0, x1, x2, c)).bind fun b => f_Mo_sortRows_223 nf b.1 b.2.1 0 b.2.2
def g_Mo_sortRows_25 (nf : Nat) (x0 : Nat) (x1 : Int32) (c : Zc) : Option ((Nat × Int32 × Zc) ⊕ (Zc)) :=
  (zgi c x0 12 81).bind fun v5 => if v5 ≤ x1 then (some (.inr c)) else (f_Mo_sortRows_35 nf x0 x1 0 c)
def f_Mo_sortRows_25 (nf : Nat) (x0 : Nat) (x1 : Int32) (c : Zc) : Option (Zc) :=
  (zlp (fun a => g_Mo_sortRows_25 nf a.1 a.2.1 a.2.2) nf (x0, x1, c)).bind fun b => some b
def f_Mo_sortRows_2 (nf : Nat) (x0 : Nat) (x1 : Int32) (c : Zc) : Option (Zc) :=
  (zlp (fun a => g_Mo_sortRows_2 nf a.1 a.2.1 a.2.2) nf (x0, x1, c)).bind fun b => f_Mo_sortRows_25 nf b.1 1 b.2
def f_Mo_sortRows (nf : Nat) (a0 : Nat) (c : Zc) : Option (Zc) :=
  f_Mo_sortRows_2 nf a0 0 c
set_option maxRecDepth 100000 in
set_option maxHeartbeats 4000000 in
theorem u_Mo_sortRows_2  (X : zX p s m args cd D cid B bb_Mo_sortRows 9 rr_Mo zT) (H : zH s meth B n0 none "sortRows") {nf : Nat} {x0 : Nat} {x1 : Int32} {c : Zc} {r : (Nat × Int32 × Zc) ⊕ (Nat × Zc)} (h : g_Mo_sortRows_2 nf x0 x1 c = some r) (k0 : ∀ a, r = .inl a → (fun a : Nat × Int32 × Zc => Zz p l e (zRm 1 25 0 0) s m args below meth cd Q D cid B 9 0 0 a.2.2 2 [(0, .ref a.1), (1, .int a.2.1)] []) a) (k1 : ∀ b, r = .inr b → (fun b : Nat × Zc => Zz p l e (zRm 1 25 0 0) s m args below meth cd Q D cid B 9 0 0 b.2 23 [(0, .ref b.1)] []) b) : Zz p l e (zRm 1 25 0 0) s m args below meth cd Q D cid B 9 0 0 c 2 [(0, .ref x0), (1, .int x1)] [] := by
  unfold g_Mo_sortRows_2 at h
  refine z_iload_n X dd_Mo_sortRows_2 rfl 1 rfl ?_
  refine z_aload_n X dd_Mo_sortRows_3 rfl 0 rfl ?_
  obtain ⟨v1, ev1, h⟩ := zb h
  refine z_get (j := 81) X dd_Mo_sortRows_4 kc_12 ki_12 (by decide) km_1602 (zgi_v ev1) ?_
  refine z_icmp_ge (tgt := 23) X dd_Mo_sortRows_7 (by decide) (fun q2 => ?_) (fun q2 => ?_)
  · rw [if_pos q2] at h
    refine z_sub [0] rfl ?_
    obtain rfl := Option.some.inj h
    exact k1 _ rfl
  · rw [if_neg q2] at h
    refine z_aload_n X dd_Mo_sortRows_10 rfl 0 rfl ?_
    obtain ⟨v3, ev3, h⟩ := zb h
    refine z_get (j := 79) X dd_Mo_sortRows_11 kc_12 ki_12 (by decide) km_1600 (zgr_v ev3) ?_
    refine z_iload_n X dd_Mo_sortRows_14 rfl 1 rfl ?_
    refine z_iload_n X dd_Mo_sortRows_15 rfl 1 rfl ?_
    obtain ⟨c4, ec4, h⟩ := zb h
    refine z_iastore X dd_Mo_sortRows_16 rfl ec4 ?_
    refine z_iinc (v := (x1 + 1)) (lv' := [(1, .int (x1 + 1)), (0, .ref x0)]) X dd_Mo_sortRows_17 1 rfl rfl (by decide) rfl ?_
    refine z_goto (tgt := 2) X dd_Mo_sortRows_20 (by decide) ?_
    refine z_sub [1, 0] rfl ?_
    obtain rfl := Option.some.inj h
    exact k0 _ rfl
set_option maxRecDepth 100000 in
set_option maxHeartbeats 4000000 in
theorem t_Mo_sortRows_203  (X : zX p s m args cd D cid B bb_Mo_sortRows 9 rr_Mo zT) (H : zH s meth B n0 none "sortRows") {nf : Nat} {x0 : Nat} {x1 : Int32} {x2 : Int32} {x3 : Int32} {x4 : Int32} {x5 : Int32} {x7 : Int32} {s0 : Int32} {s1 : Int32} {c : Zc} {r : (Nat × Int32 × Int32 × Int32 × Int32 × Int32 × Int32 × Int32 × Zc) ⊕ (Nat × Int32 × Int32 × Zc)} (h : f_Mo_sortRows_203 nf x0 x1 x2 x3 x4 x5 x7 s0 s1 c = some r) (k0 : ∀ a, r = .inl a → (fun a : Nat × Int32 × Int32 × Int32 × Int32 × Int32 × Int32 × Int32 × Zc => Zz p l e (zRm 1 25 0 0) s m args below meth cd Q D cid B 9 0 0 a.2.2.2.2.2.2.2.2 99 [(0, .ref a.1), (1, .int a.2.1), (2, .int a.2.2.1), (3, .int a.2.2.2.1), (4, .int a.2.2.2.2.1), (5, .int a.2.2.2.2.2.1), (6, .int a.2.2.2.2.2.2.1), (7, .int a.2.2.2.2.2.2.2.1)] []) a) (k1 : ∀ b, r = .inr b → (fun b : Nat × Int32 × Int32 × Zc => Zz p l e (zRm 1 25 0 0) s m args below meth cd Q D cid B 9 0 0 b.2.2.2 212 [(0, .ref b.1), (1, .int b.2.1), (2, .int b.2.2.1)] []) b) : Zz p l e (zRm 1 25 0 0) s m args below meth cd Q D cid B 9 0 0 c 203 [(0, .ref x0), (1, .int x1), (2, .int x2), (3, .int x3), (4, .int x4), (5, .int x5), (7, .int x7)] [.int s1, .int s0] := by
  unfold f_Mo_sortRows_203 at h
  refine z_iadd X dd_Mo_sortRows_203 ?_
  refine z_istore (lv' := [(6, .int (s0 + s1)), (0, .ref x0), (1, .int x1), (2, .int x2), (3, .int x3), (4, .int x4), (5, .int x5), (7, .int x7)]) X dd_Mo_sortRows_204 (by decide) rfl ?_
  refine z_iinc (v := (x7 + 1)) (lv' := [(7, .int (x7 + 1)), (6, .int (s0 + s1)), (0, .ref x0), (1, .int x1), (2, .int x2), (3, .int x3), (4, .int x4), (5, .int x5)]) X dd_Mo_sortRows_206 7 rfl rfl (by decide) rfl ?_
  refine z_goto (tgt := 99) X dd_Mo_sortRows_209 (by decide) ?_
  refine z_sub [2, 3, 4, 5, 6, 7, 1, 0] rfl ?_
  obtain rfl := Option.some.inj h
  exact k0 _ rfl
set_option maxRecDepth 100000 in
set_option maxHeartbeats 4000000 in
theorem t_Mo_sortRows_188  (X : zX p s m args cd D cid B bb_Mo_sortRows 9 rr_Mo zT) (H : zH s meth B n0 none "sortRows") {nf : Nat} {x0 : Nat} {x1 : Int32} {x2 : Int32} {x3 : Int32} {x4 : Int32} {x6 : Int32} {x7 : Int32} {x8 : Int32} {s0 : Int32} {s1 : Int32} {c : Zc} {r : (Nat × Int32 × Int32 × Int32 × Int32 × Int32 × Int32 × Int32 × Zc) ⊕ (Nat × Int32 × Int32 × Zc)} (h : f_Mo_sortRows_188 nf x0 x1 x2 x3 x4 x6 x7 x8 s0 s1 c = some r) (k0 : ∀ a, r = .inl a → (fun a : Nat × Int32 × Int32 × Int32 × Int32 × Int32 × Int32 × Int32 × Zc => Zz p l e (zRm 1 25 0 0) s m args below meth cd Q D cid B 9 0 0 a.2.2.2.2.2.2.2.2 99 [(0, .ref a.1), (1, .int a.2.1), (2, .int a.2.2.1), (3, .int a.2.2.2.1), (4, .int a.2.2.2.2.1), (5, .int a.2.2.2.2.2.1), (6, .int a.2.2.2.2.2.2.1), (7, .int a.2.2.2.2.2.2.2.1)] []) a) (k1 : ∀ b, r = .inr b → (fun b : Nat × Int32 × Int32 × Zc => Zz p l e (zRm 1 25 0 0) s m args below meth cd Q D cid B 9 0 0 b.2.2.2 212 [(0, .ref b.1), (1, .int b.2.1), (2, .int b.2.2.1)] []) b) : Zz p l e (zRm 1 25 0 0) s m args below meth cd Q D cid B 9 0 0 c 188 [(0, .ref x0), (1, .int x1), (2, .int x2), (3, .int x3), (4, .int x4), (6, .int x6), (7, .int x7), (8, .int x8)] [.int s1, .int s0] := by
  unfold f_Mo_sortRows_188 at h
  refine z_iadd X dd_Mo_sortRows_188 ?_
  refine z_istore (lv' := [(5, .int (s0 + s1)), (0, .ref x0), (1, .int x1), (2, .int x2), (3, .int x3), (4, .int x4), (6, .int x6), (7, .int x7), (8, .int x8)]) X dd_Mo_sortRows_189 (by decide) rfl ?_
  refine z_iload X dd_Mo_sortRows_191 6 rfl ?_
  refine z_iload X dd_Mo_sortRows_193 8 rfl ?_
  refine z_if_eq (tgt := 202) X dd_Mo_sortRows_195 (by decide) (fun q23 => ?_) (fun q23 => ?_)
  · rw [if_pos q23] at h
    refine z_iconst (v := 1) X dd_Mo_sortRows_202 (by decide) ?_
    refine z_sub [1, 2, 3, 4, 5, 0, 7] rfl ?_
    exact t_Mo_sortRows_203 X H h k0 k1
  · rw [if_neg q23] at h
    refine z_iconst (v := 0) X dd_Mo_sortRows_198 (by decide) ?_
    refine z_goto (tgt := 203) X dd_Mo_sortRows_199 (by decide) ?_
    refine z_sub [1, 2, 3, 4, 5, 0, 7] rfl ?_
    exact t_Mo_sortRows_203 X H h k0 k1
set_option maxRecDepth 100000 in
set_option maxHeartbeats 4000000 in
theorem t_Mo_sortRows_175  (X : zX p s m args cd D cid B bb_Mo_sortRows 9 rr_Mo zT) (H : zH s meth B n0 none "sortRows") {nf : Nat} {x0 : Nat} {x1 : Int32} {x2 : Int32} {x3 : Int32} {x4 : Int32} {x5 : Int32} {x6 : Int32} {x7 : Int32} {x8 : Int32} {s0 : Nat} {s1 : Int32} {s2 : Int32} {c : Zc} {r : (Nat × Int32 × Int32 × Int32 × Int32 × Int32 × Int32 × Int32 × Zc) ⊕ (Nat × Int32 × Int32 × Zc)} (h : f_Mo_sortRows_175 nf x0 x1 x2 x3 x4 x5 x6 x7 x8 s0 s1 s2 c = some r) (k0 : ∀ a, r = .inl a → (fun a : Nat × Int32 × Int32 × Int32 × Int32 × Int32 × Int32 × Int32 × Zc => Zz p l e (zRm 1 25 0 0) s m args below meth cd Q D cid B 9 0 0 a.2.2.2.2.2.2.2.2 99 [(0, .ref a.1), (1, .int a.2.1), (2, .int a.2.2.1), (3, .int a.2.2.2.1), (4, .int a.2.2.2.2.1), (5, .int a.2.2.2.2.2.1), (6, .int a.2.2.2.2.2.2.1), (7, .int a.2.2.2.2.2.2.2.1)] []) a) (k1 : ∀ b, r = .inr b → (fun b : Nat × Int32 × Int32 × Zc => Zz p l e (zRm 1 25 0 0) s m args below meth cd Q D cid B 9 0 0 b.2.2.2 212 [(0, .ref b.1), (1, .int b.2.1), (2, .int b.2.2.1)] []) b) : Zz p l e (zRm 1 25 0 0) s m args below meth cd Q D cid B 9 0 0 c 175 [(0, .ref x0), (1, .int x1), (2, .int x2), (3, .int x3), (4, .int x4), (5, .int x5), (6, .int x6), (7, .int x7), (8, .int x8)] [.int s2, .int s1, .ref s0] := by
  unfold f_Mo_sortRows_175 at h
  obtain ⟨c21, ec21, h⟩ := zb h
  refine z_iastore X dd_Mo_sortRows_175 rfl ec21 ?_
  refine z_iload X dd_Mo_sortRows_176 5 rfl ?_
  refine z_iload X dd_Mo_sortRows_178 8 rfl ?_
  refine z_if_eq (tgt := 187) X dd_Mo_sortRows_180 (by decide) (fun q22 => ?_) (fun q22 => ?_)
  · rw [if_pos q22] at h
    refine z_iconst (v := 0) X dd_Mo_sortRows_187 (by decide) ?_
    refine z_sub [0, 1, 2, 3, 4, 6, 7, 8] rfl ?_
    exact t_Mo_sortRows_188 X H h k0 k1
  · rw [if_neg q22] at h
    refine z_iconst (v := 1) X dd_Mo_sortRows_183 (by decide) ?_
    refine z_goto (tgt := 188) X dd_Mo_sortRows_184 (by decide) ?_
    refine z_sub [0, 1, 2, 3, 4, 6, 7, 8] rfl ?_
    exact t_Mo_sortRows_188 X H h k0 k1
set_option maxRecDepth 100000 in
set_option maxHeartbeats 4000000 in
theorem t_Mo_sortRows_145  (X : zX p s m args cd D cid B bb_Mo_sortRows 9 rr_Mo zT) (H : zH s meth B n0 none "sortRows") {nf : Nat} {x0 : Nat} {x1 : Int32} {x2 : Int32} {x3 : Int32} {x4 : Int32} {x5 : Int32} {x6 : Int32} {x7 : Int32} {s0 : Int32} {c : Zc} {r : (Nat × Int32 × Int32 × Int32 × Int32 × Int32 × Int32 × Int32 × Zc) ⊕ (Nat × Int32 × Int32 × Zc)} (h : f_Mo_sortRows_145 nf x0 x1 x2 x3 x4 x5 x6 x7 s0 c = some r) (k0 : ∀ a, r = .inl a → (fun a : Nat × Int32 × Int32 × Int32 × Int32 × Int32 × Int32 × Int32 × Zc => Zz p l e (zRm 1 25 0 0) s m args below meth cd Q D cid B 9 0 0 a.2.2.2.2.2.2.2.2 99 [(0, .ref a.1), (1, .int a.2.1), (2, .int a.2.2.1), (3, .int a.2.2.2.1), (4, .int a.2.2.2.2.1), (5, .int a.2.2.2.2.2.1), (6, .int a.2.2.2.2.2.2.1), (7, .int a.2.2.2.2.2.2.2.1)] []) a) (k1 : ∀ b, r = .inr b → (fun b : Nat × Int32 × Int32 × Zc => Zz p l e (zRm 1 25 0 0) s m args below meth cd Q D cid B 9 0 0 b.2.2.2 212 [(0, .ref b.1), (1, .int b.2.1), (2, .int b.2.2.1)] []) b) : Zz p l e (zRm 1 25 0 0) s m args below meth cd Q D cid B 9 0 0 c 145 [(0, .ref x0), (1, .int x1), (2, .int x2), (3, .int x3), (4, .int x4), (5, .int x5), (6, .int x6), (7, .int x7)] [.int s0] := by
  unfold f_Mo_sortRows_145 at h
  refine z_istore (lv' := [(8, .int s0), (0, .ref x0), (1, .int x1), (2, .int x2), (3, .int x3), (4, .int x4), (5, .int x5), (6, .int x6), (7, .int x7)]) X dd_Mo_sortRows_145 (by decide) rfl ?_
  refine z_aload_n X dd_Mo_sortRows_147 rfl 1 rfl ?_
  obtain ⟨v17, ev17, h⟩ := zb h
  refine z_get (j := 80) X dd_Mo_sortRows_148 kc_12 ki_12 (by decide) km_1601 (zgr_v ev17) ?_
  refine z_iload X dd_Mo_sortRows_151 8 rfl ?_
  refine z_iload X dd_Mo_sortRows_153 0 rfl ?_
  refine z_if_eq (tgt := 168) X dd_Mo_sortRows_155 (by decide) (fun q18 => ?_) (fun q18 => ?_)
  · rw [if_pos q18] at h
    refine z_aload_n X dd_Mo_sortRows_168 rfl 1 rfl ?_
    obtain ⟨v19, ev19, h⟩ := zb h
    refine z_get (j := 79) X dd_Mo_sortRows_169 kc_12 ki_12 (by decide) km_1600 (zgr_v ev19) ?_
    refine z_iload X dd_Mo_sortRows_172 7 rfl ?_
    obtain ⟨v20, ev20, h⟩ := zb h
    refine z_iaload X dd_Mo_sortRows_174 rfl ev20 ?_
    refine z_sub [1, 2, 3, 4, 5, 6, 7, 8, 0] rfl ?_
    exact t_Mo_sortRows_175 X H h k0 k1
  · rw [if_neg q18] at h
    refine z_aload_n X dd_Mo_sortRows_158 rfl 1 rfl ?_
    obtain ⟨v24, ev24, h⟩ := zb h
    refine z_get (j := 79) X dd_Mo_sortRows_159 kc_12 ki_12 (by decide) km_1600 (zgr_v ev24) ?_
    refine z_iload X dd_Mo_sortRows_162 6 rfl ?_
    obtain ⟨v25, ev25, h⟩ := zb h
    refine z_iaload X dd_Mo_sortRows_164 rfl ev25 ?_
    refine z_goto (tgt := 175) X dd_Mo_sortRows_165 (by decide) ?_
    refine z_sub [1, 2, 3, 4, 5, 6, 7, 8, 0] rfl ?_
    exact t_Mo_sortRows_175 X H h k0 k1
set_option maxRecDepth 100000 in
set_option maxHeartbeats 4000000 in
theorem t_Mo_sortRows_140  (X : zX p s m args cd D cid B bb_Mo_sortRows 9 rr_Mo zT) (H : zH s meth B n0 none "sortRows") {nf : Nat} {x0 : Nat} {x1 : Int32} {x2 : Int32} {x3 : Int32} {x4 : Int32} {x5 : Int32} {x6 : Int32} {x7 : Int32} {c : Zc} {r : (Nat × Int32 × Int32 × Int32 × Int32 × Int32 × Int32 × Int32 × Zc) ⊕ (Nat × Int32 × Int32 × Zc)} (h : f_Mo_sortRows_140 nf x0 x1 x2 x3 x4 x5 x6 x7 c = some r) (k0 : ∀ a, r = .inl a → (fun a : Nat × Int32 × Int32 × Int32 × Int32 × Int32 × Int32 × Int32 × Zc => Zz p l e (zRm 1 25 0 0) s m args below meth cd Q D cid B 9 0 0 a.2.2.2.2.2.2.2.2 99 [(0, .ref a.1), (1, .int a.2.1), (2, .int a.2.2.1), (3, .int a.2.2.2.1), (4, .int a.2.2.2.2.1), (5, .int a.2.2.2.2.2.1), (6, .int a.2.2.2.2.2.2.1), (7, .int a.2.2.2.2.2.2.2.1)] []) a) (k1 : ∀ b, r = .inr b → (fun b : Nat × Int32 × Int32 × Zc => Zz p l e (zRm 1 25 0 0) s m args below meth cd Q D cid B 9 0 0 b.2.2.2 212 [(0, .ref b.1), (1, .int b.2.1), (2, .int b.2.2.1)] []) b) : Zz p l e (zRm 1 25 0 0) s m args below meth cd Q D cid B 9 0 0 c 140 [(0, .ref x0), (1, .int x1), (2, .int x2), (3, .int x3), (4, .int x4), (5, .int x5), (6, .int x6), (7, .int x7)] [] := by
  unfold f_Mo_sortRows_140 at h
  refine z_iconst (v := 1) X dd_Mo_sortRows_140 (by decide) ?_
  refine z_goto (tgt := 145) X dd_Mo_sortRows_141 (by decide) ?_
  exact t_Mo_sortRows_145 X H h k0 k1
set_option maxRecDepth 100000 in
set_option maxHeartbeats 4000000 in
theorem t_Mo_sortRows_144  (X : zX p s m args cd D cid B bb_Mo_sortRows 9 rr_Mo zT) (H : zH s meth B n0 none "sortRows") {nf : Nat} {x0 : Nat} {x1 : Int32} {x2 : Int32} {x3 : Int32} {x4 : Int32} {x5 : Int32} {x6 : Int32} {x7 : Int32} {c : Zc} {r : (Nat × Int32 × Int32 × Int32 × Int32 × Int32 × Int32 × Int32 × Zc) ⊕ (Nat × Int32 × Int32 × Zc)} (h : f_Mo_sortRows_144 nf x0 x1 x2 x3 x4 x5 x6 x7 c = some r) (k0 : ∀ a, r = .inl a → (fun a : Nat × Int32 × Int32 × Int32 × Int32 × Int32 × Int32 × Int32 × Zc => Zz p l e (zRm 1 25 0 0) s m args below meth cd Q D cid B 9 0 0 a.2.2.2.2.2.2.2.2 99 [(0, .ref a.1), (1, .int a.2.1), (2, .int a.2.2.1), (3, .int a.2.2.2.1), (4, .int a.2.2.2.2.1), (5, .int a.2.2.2.2.2.1), (6, .int a.2.2.2.2.2.2.1), (7, .int a.2.2.2.2.2.2.2.1)] []) a) (k1 : ∀ b, r = .inr b → (fun b : Nat × Int32 × Int32 × Zc => Zz p l e (zRm 1 25 0 0) s m args below meth cd Q D cid B 9 0 0 b.2.2.2 212 [(0, .ref b.1), (1, .int b.2.1), (2, .int b.2.2.1)] []) b) : Zz p l e (zRm 1 25 0 0) s m args below meth cd Q D cid B 9 0 0 c 144 [(0, .ref x0), (1, .int x1), (2, .int x2), (3, .int x3), (4, .int x4), (5, .int x5), (6, .int x6), (7, .int x7)] [] := by
  unfold f_Mo_sortRows_144 at h
  refine z_iconst (v := 0) X dd_Mo_sortRows_144 (by decide) ?_
  exact t_Mo_sortRows_145 X H h k0 k1
set_option maxRecDepth 100000 in
set_option maxHeartbeats 4000000 in
theorem u_Mo_sortRows_99  (X : zX p s m args cd D cid B bb_Mo_sortRows 9 rr_Mo zT) (H : zH s meth B n0 none "sortRows") {nf : Nat} {x0 : Nat} {x1 : Int32} {x2 : Int32} {x3 : Int32} {x4 : Int32} {x5 : Int32} {x6 : Int32} {x7 : Int32} {c : Zc} {r : (Nat × Int32 × Int32 × Int32 × Int32 × Int32 × Int32 × Int32 × Zc) ⊕ (Nat × Int32 × Int32 × Zc)} (h : g_Mo_sortRows_99 nf x0 x1 x2 x3 x4 x5 x6 x7 c = some r) (k0 : ∀ a, r = .inl a → (fun a : Nat × Int32 × Int32 × Int32 × Int32 × Int32 × Int32 × Int32 × Zc => Zz p l e (zRm 1 25 0 0) s m args below meth cd Q D cid B 9 0 0 a.2.2.2.2.2.2.2.2 99 [(0, .ref a.1), (1, .int a.2.1), (2, .int a.2.2.1), (3, .int a.2.2.2.1), (4, .int a.2.2.2.2.1), (5, .int a.2.2.2.2.2.1), (6, .int a.2.2.2.2.2.2.1), (7, .int a.2.2.2.2.2.2.2.1)] []) a) (k1 : ∀ b, r = .inr b → (fun b : Nat × Int32 × Int32 × Zc => Zz p l e (zRm 1 25 0 0) s m args below meth cd Q D cid B 9 0 0 b.2.2.2 212 [(0, .ref b.1), (1, .int b.2.1), (2, .int b.2.2.1)] []) b) : Zz p l e (zRm 1 25 0 0) s m args below meth cd Q D cid B 9 0 0 c 99 [(0, .ref x0), (1, .int x1), (2, .int x2), (3, .int x3), (4, .int x4), (5, .int x5), (6, .int x6), (7, .int x7)] [] := by
  unfold g_Mo_sortRows_99 at h
  refine z_iload X dd_Mo_sortRows_99 7 rfl ?_
  refine z_iload X dd_Mo_sortRows_101 4 rfl ?_
  refine z_icmp_ge (tgt := 212) X dd_Mo_sortRows_103 (by decide) (fun q15 => ?_) (fun q15 => ?_)
  · rw [if_pos q15] at h
    refine z_sub [0, 1, 2] rfl ?_
    obtain rfl := Option.some.inj h
    exact k1 _ rfl
  · rw [if_neg q15] at h
    refine z_iload X dd_Mo_sortRows_106 6 rfl ?_
    refine z_iload X dd_Mo_sortRows_108 4 rfl ?_
    refine z_icmp_eq (tgt := 140) X dd_Mo_sortRows_110 (by decide) (fun q16 => ?_) (fun q16 => ?_)
    · rw [if_pos q16] at h
      exact t_Mo_sortRows_140 X H h k0 k1
    · rw [if_neg q16] at h
      refine z_iload X dd_Mo_sortRows_113 5 rfl ?_
      refine z_iload_n X dd_Mo_sortRows_115 rfl 3 rfl ?_
      refine z_icmp_ge (tgt := 144) X dd_Mo_sortRows_116 (by decide) (fun q26 => ?_) (fun q26 => ?_)
      · rw [if_pos q26] at h
        exact t_Mo_sortRows_144 X H h k0 k1
      · rw [if_neg q26] at h
        refine z_aload_n X dd_Mo_sortRows_119 rfl 0 rfl ?_
        refine z_aload_n X dd_Mo_sortRows_120 rfl 0 rfl ?_
        obtain ⟨v27, ev27, h⟩ := zb h
        refine z_get (j := 79) X dd_Mo_sortRows_121 kc_12 ki_12 (by decide) km_1600 (zgr_v ev27) ?_
        refine z_iload X dd_Mo_sortRows_124 5 rfl ?_
        obtain ⟨v28, ev28, h⟩ := zb h
        refine z_iaload X dd_Mo_sortRows_126 rfl ev28 ?_
        refine z_aload_n X dd_Mo_sortRows_127 rfl 0 rfl ?_
        obtain ⟨v29, ev29, h⟩ := zb h
        refine z_get (j := 79) X dd_Mo_sortRows_128 kc_12 ki_12 (by decide) km_1600 (zgr_v ev29) ?_
        refine z_iload X dd_Mo_sortRows_131 6 rfl ?_
        obtain ⟨v30, ev30, h⟩ := zb h
        refine z_iaload X dd_Mo_sortRows_133 rfl ev30 ?_
        obtain ⟨w32, ew32, h⟩ := zb h
        obtain ⟨q31, eq31, h⟩ := zb h
        refine z_callVi X [.int v28, .int v30] rfl dd_Mo_sortRows_134 (c_Mo_compareRows l eq31) (cwV 2 X.1.2.2.2.2 (zg_V km_2151 km_2153 km_122 km_138 km_2154) rfl rfl rfl (by decide +kernel) ⟨Nat.le_of_ble_eq_true rfl, Nat.le_of_ble_eq_true rfl⟩) (zob_s ew32) kc_12 rfl (Nat.le_of_ble_eq_true rfl) ⟨Nat.le_of_ble_eq_true rfl, Nat.le_of_ble_eq_true rfl⟩ ?_
        refine z_if_gt (tgt := 144) X dd_Mo_sortRows_137 (by decide) (fun q33 => ?_) (fun q33 => ?_)
        · rw [if_pos q33] at h
          exact t_Mo_sortRows_144 X H h k0 k1
        · rw [if_neg q33] at h
          exact t_Mo_sortRows_140 X H h k0 k1
set_option maxRecDepth 100000 in
set_option maxHeartbeats 4000000 in
theorem t_Mo_sortRows_99  (X : zX p s m args cd D cid B bb_Mo_sortRows 9 rr_Mo zT) (H : zH s meth B n0 none "sortRows") {nf : Nat} {x0 : Nat} {x1 : Int32} {x2 : Int32} {x3 : Int32} {x4 : Int32} {x5 : Int32} {x6 : Int32} {x7 : Int32} {c : Zc} {r : (Nat × Int32 × Int32 × Zc) ⊕ (Nat × Int32 × Zc)} (h : f_Mo_sortRows_99 nf x0 x1 x2 x3 x4 x5 x6 x7 c = some r) (k0 : ∀ a, r = .inl a → (fun a : Nat × Int32 × Int32 × Zc => Zz p l e (zRm 1 25 0 0) s m args below meth cd Q D cid B 9 0 0 a.2.2.2 35 [(0, .ref a.1), (1, .int a.2.1), (2, .int a.2.2.1)] []) a) (k1 : ∀ b, r = .inr b → (fun b : Nat × Int32 × Zc => Zz p l e (zRm 1 25 0 0) s m args below meth cd Q D cid B 9 0 0 b.2.2 221 [(0, .ref b.1), (1, .int b.2.1)] []) b) : Zz p l e (zRm 1 25 0 0) s m args below meth cd Q D cid B 9 0 0 c 99 [(0, .ref x0), (1, .int x1), (2, .int x2), (3, .int x3), (4, .int x4), (5, .int x5), (6, .int x6), (7, .int x7)] [] := by
  unfold f_Mo_sortRows_99 at h
  obtain ⟨b, eb, h⟩ := zb h
  refine zlp_ok (P := fun a : Nat × Int32 × Int32 × Int32 × Int32 × Int32 × Int32 × Int32 × Zc => Zz p l e (zRm 1 25 0 0) s m args below meth cd _ D cid B 9 0 0 a.2.2.2.2.2.2.2.2 99 [(0, .ref a.1), (1, .int a.2.1), (2, .int a.2.2.1), (3, .int a.2.2.2.1), (4, .int a.2.2.2.2.1), (5, .int a.2.2.2.2.2.1), (6, .int a.2.2.2.2.2.2.1), (7, .int a.2.2.2.2.2.2.2.1)] []) (G := fun b : Nat × Int32 × Int32 × Zc => Zz p l e (zRm 1 25 0 0) s m args below meth cd _ D cid B 9 0 0 b.2.2.2 212 [(0, .ref b.1), (1, .int b.2.1), (2, .int b.2.2.1)] []) (fun a r ha k0 k1 => u_Mo_sortRows_99 X H ha k0 k1) nf _ b eb ?_
  refine z_iload_n X dd_Mo_sortRows_212 rfl 2 rfl ?_
  refine z_iconst (v := 2) X dd_Mo_sortRows_213 (by decide) ?_
  refine z_iload_n X dd_Mo_sortRows_214 rfl 1 rfl ?_
  refine z_imul X dd_Mo_sortRows_215 ?_
  refine z_iadd X dd_Mo_sortRows_216 ?_
  refine z_istore_n (lv' := [(2, .int (b.2.2.1 + (2 * b.2.1))), (0, .ref b.1), (1, .int b.2.1)]) X dd_Mo_sortRows_217 rfl (by decide) rfl ?_
  refine z_goto (tgt := 35) X dd_Mo_sortRows_218 (by decide) ?_
  refine z_sub [1, 2, 0] rfl ?_
  obtain rfl := Option.some.inj h
  exact k0 _ rfl
set_option maxRecDepth 100000 in
set_option maxHeartbeats 4000000 in
theorem t_Mo_sortRows_88  (X : zX p s m args cd D cid B bb_Mo_sortRows 9 rr_Mo zT) (H : zH s meth B n0 none "sortRows") {nf : Nat} {x0 : Nat} {x1 : Int32} {x2 : Int32} {x3 : Int32} {s0 : Int32} {c : Zc} {r : (Nat × Int32 × Int32 × Zc) ⊕ (Nat × Int32 × Zc)} (h : f_Mo_sortRows_88 nf x0 x1 x2 x3 s0 c = some r) (k0 : ∀ a, r = .inl a → (fun a : Nat × Int32 × Int32 × Zc => Zz p l e (zRm 1 25 0 0) s m args below meth cd Q D cid B 9 0 0 a.2.2.2 35 [(0, .ref a.1), (1, .int a.2.1), (2, .int a.2.2.1)] []) a) (k1 : ∀ b, r = .inr b → (fun b : Nat × Int32 × Zc => Zz p l e (zRm 1 25 0 0) s m args below meth cd Q D cid B 9 0 0 b.2.2 221 [(0, .ref b.1), (1, .int b.2.1)] []) b) : Zz p l e (zRm 1 25 0 0) s m args below meth cd Q D cid B 9 0 0 c 88 [(0, .ref x0), (1, .int x1), (2, .int x2), (3, .int x3)] [.int s0] := by
  unfold f_Mo_sortRows_88 at h
  refine z_istore (lv' := [(4, .int s0), (0, .ref x0), (1, .int x1), (2, .int x2), (3, .int x3)]) X dd_Mo_sortRows_88 (by decide) rfl ?_
  refine z_iload_n X dd_Mo_sortRows_90 rfl 3 rfl ?_
  refine z_istore (lv' := [(5, .int x2), (4, .int s0), (0, .ref x0), (1, .int x1), (2, .int x2), (3, .int x3)]) X dd_Mo_sortRows_91 (by decide) rfl ?_
  refine z_iload_n X dd_Mo_sortRows_93 rfl 5 rfl ?_
  refine z_istore (lv' := [(6, .int x3), (5, .int x2), (4, .int s0), (0, .ref x0), (1, .int x1), (2, .int x2), (3, .int x3)]) X dd_Mo_sortRows_94 (by decide) rfl ?_
  refine z_iload_n X dd_Mo_sortRows_96 rfl 5 rfl ?_
  refine z_istore (lv' := [(7, .int x2), (6, .int x3), (5, .int x2), (4, .int s0), (0, .ref x0), (1, .int x1), (2, .int x2), (3, .int x3)]) X dd_Mo_sortRows_97 (by decide) rfl ?_
  refine z_sub [4, 5, 6, 7, 3, 2, 1, 0] rfl ?_
  exact t_Mo_sortRows_99 X H h k0 k1
set_option maxRecDepth 100000 in
set_option maxHeartbeats 4000000 in
theorem t_Mo_sortRows_63  (X : zX p s m args cd D cid B bb_Mo_sortRows 9 rr_Mo zT) (H : zH s meth B n0 none "sortRows") {nf : Nat} {x0 : Nat} {x1 : Int32} {x2 : Int32} {s0 : Int32} {c : Zc} {r : (Nat × Int32 × Int32 × Zc) ⊕ (Nat × Int32 × Zc)} (h : f_Mo_sortRows_63 nf x0 x1 x2 s0 c = some r) (k0 : ∀ a, r = .inl a → (fun a : Nat × Int32 × Int32 × Zc => Zz p l e (zRm 1 25 0 0) s m args below meth cd Q D cid B 9 0 0 a.2.2.2 35 [(0, .ref a.1), (1, .int a.2.1), (2, .int a.2.2.1)] []) a) (k1 : ∀ b, r = .inr b → (fun b : Nat × Int32 × Zc => Zz p l e (zRm 1 25 0 0) s m args below meth cd Q D cid B 9 0 0 b.2.2 221 [(0, .ref b.1), (1, .int b.2.1)] []) b) : Zz p l e (zRm 1 25 0 0) s m args below meth cd Q D cid B 9 0 0 c 63 [(0, .ref x0), (1, .int x1), (2, .int x2)] [.int s0] := by
  unfold f_Mo_sortRows_63 at h
  refine z_istore_n (lv' := [(3, .int s0), (0, .ref x0), (1, .int x1), (2, .int x2)]) X dd_Mo_sortRows_63 rfl (by decide) rfl ?_
  refine z_iload_n X dd_Mo_sortRows_64 rfl 3 rfl ?_
  refine z_iconst (v := 2) X dd_Mo_sortRows_65 (by decide) ?_
  refine z_iload_n X dd_Mo_sortRows_66 rfl 2 rfl ?_
  refine z_imul X dd_Mo_sortRows_67 ?_
  refine z_iadd X dd_Mo_sortRows_68 ?_
  refine z_aload_n X dd_Mo_sortRows_69 rfl 1 rfl ?_
  obtain ⟨v12, ev12, h⟩ := zb h
  refine z_get (j := 81) X dd_Mo_sortRows_70 kc_12 ki_12 (by decide) km_1602 (zgi_v ev12) ?_
  refine z_icmp_ge (tgt := 84) X dd_Mo_sortRows_73 (by decide) (fun q13 => ?_) (fun q13 => ?_)
  · rw [if_pos q13] at h
    refine z_aload_n X dd_Mo_sortRows_84 rfl 1 rfl ?_
    obtain ⟨v14, ev14, h⟩ := zb h
    refine z_get (j := 81) X dd_Mo_sortRows_85 kc_12 ki_12 (by decide) km_1602 (zgi_v ev14) ?_
    refine z_sub [1, 2, 3, 0] rfl ?_
    exact t_Mo_sortRows_88 X H h k0 k1
  · rw [if_neg q13] at h
    refine z_iload_n X dd_Mo_sortRows_76 rfl 3 rfl ?_
    refine z_iconst (v := 2) X dd_Mo_sortRows_77 (by decide) ?_
    refine z_iload_n X dd_Mo_sortRows_78 rfl 2 rfl ?_
    refine z_imul X dd_Mo_sortRows_79 ?_
    refine z_iadd X dd_Mo_sortRows_80 ?_
    refine z_goto (tgt := 88) X dd_Mo_sortRows_81 (by decide) ?_
    refine z_sub [1, 2, 3, 0] rfl ?_
    exact t_Mo_sortRows_88 X H h k0 k1
set_option maxRecDepth 100000 in
set_option maxHeartbeats 4000000 in
theorem u_Mo_sortRows_35  (X : zX p s m args cd D cid B bb_Mo_sortRows 9 rr_Mo zT) (H : zH s meth B n0 none "sortRows") {nf : Nat} {x0 : Nat} {x1 : Int32} {x2 : Int32} {c : Zc} {r : (Nat × Int32 × Int32 × Zc) ⊕ (Nat × Int32 × Zc)} (h : g_Mo_sortRows_35 nf x0 x1 x2 c = some r) (k0 : ∀ a, r = .inl a → (fun a : Nat × Int32 × Int32 × Zc => Zz p l e (zRm 1 25 0 0) s m args below meth cd Q D cid B 9 0 0 a.2.2.2 35 [(0, .ref a.1), (1, .int a.2.1), (2, .int a.2.2.1)] []) a) (k1 : ∀ b, r = .inr b → (fun b : Nat × Int32 × Zc => Zz p l e (zRm 1 25 0 0) s m args below meth cd Q D cid B 9 0 0 b.2.2 221 [(0, .ref b.1), (1, .int b.2.1)] []) b) : Zz p l e (zRm 1 25 0 0) s m args below meth cd Q D cid B 9 0 0 c 35 [(0, .ref x0), (1, .int x1), (2, .int x2)] [] := by
  unfold g_Mo_sortRows_35 at h
  refine z_iload_n X dd_Mo_sortRows_35 rfl 2 rfl ?_
  refine z_aload_n X dd_Mo_sortRows_36 rfl 0 rfl ?_
  obtain ⟨v7, ev7, h⟩ := zb h
  refine z_get (j := 81) X dd_Mo_sortRows_37 kc_12 ki_12 (by decide) km_1602 (zgi_v ev7) ?_
  refine z_icmp_ge (tgt := 221) X dd_Mo_sortRows_40 (by decide) (fun q8 => ?_) (fun q8 => ?_)
  · rw [if_pos q8] at h
    refine z_sub [0, 1] rfl ?_
    obtain rfl := Option.some.inj h
    exact k1 _ rfl
  · rw [if_neg q8] at h
    refine z_iload_n X dd_Mo_sortRows_43 rfl 2 rfl ?_
    refine z_iload_n X dd_Mo_sortRows_44 rfl 1 rfl ?_
    refine z_iadd X dd_Mo_sortRows_45 ?_
    refine z_aload_n X dd_Mo_sortRows_46 rfl 0 rfl ?_
    obtain ⟨v9, ev9, h⟩ := zb h
    refine z_get (j := 81) X dd_Mo_sortRows_47 kc_12 ki_12 (by decide) km_1602 (zgi_v ev9) ?_
    refine z_icmp_ge (tgt := 59) X dd_Mo_sortRows_50 (by decide) (fun q10 => ?_) (fun q10 => ?_)
    · rw [if_pos q10] at h
      refine z_aload_n X dd_Mo_sortRows_59 rfl 0 rfl ?_
      obtain ⟨v11, ev11, h⟩ := zb h
      refine z_get (j := 81) X dd_Mo_sortRows_60 kc_12 ki_12 (by decide) km_1602 (zgi_v ev11) ?_
      exact t_Mo_sortRows_63 X H h k0 k1
    · rw [if_neg q10] at h
      refine z_iload_n X dd_Mo_sortRows_53 rfl 2 rfl ?_
      refine z_iload_n X dd_Mo_sortRows_54 rfl 1 rfl ?_
      refine z_iadd X dd_Mo_sortRows_55 ?_
      refine z_goto (tgt := 63) X dd_Mo_sortRows_56 (by decide) ?_
      exact t_Mo_sortRows_63 X H h k0 k1
set_option maxRecDepth 100000 in
set_option maxHeartbeats 4000000 in
theorem u_Mo_sortRows_223  (X : zX p s m args cd D cid B bb_Mo_sortRows 9 rr_Mo zT) (H : zH s meth B n0 none "sortRows") {nf : Nat} {x0 : Nat} {x1 : Int32} {x2 : Int32} {c : Zc} {r : (Nat × Int32 × Int32 × Zc) ⊕ (Nat × Int32 × Zc)} (h : g_Mo_sortRows_223 nf x0 x1 x2 c = some r) (k0 : ∀ a, r = .inl a → (fun a : Nat × Int32 × Int32 × Zc => Zz p l e (zRm 1 25 0 0) s m args below meth cd Q D cid B 9 0 0 a.2.2.2 223 [(0, .ref a.1), (1, .int a.2.1), (2, .int a.2.2.1)] []) a) (k1 : ∀ b, r = .inr b → (fun b : Nat × Int32 × Zc => Zz p l e (zRm 1 25 0 0) s m args below meth cd Q D cid B 9 0 0 b.2.2 249 [(0, .ref b.1), (1, .int b.2.1)] []) b) : Zz p l e (zRm 1 25 0 0) s m args below meth cd Q D cid B 9 0 0 c 223 [(0, .ref x0), (1, .int x1), (2, .int x2)] [] := by
  unfold g_Mo_sortRows_223 at h
  refine z_iload_n X dd_Mo_sortRows_223 rfl 2 rfl ?_
  refine z_aload_n X dd_Mo_sortRows_224 rfl 0 rfl ?_
  obtain ⟨v34, ev34, h⟩ := zb h
  refine z_get (j := 81) X dd_Mo_sortRows_225 kc_12 ki_12 (by decide) km_1602 (zgi_v ev34) ?_
  refine z_icmp_ge (tgt := 249) X dd_Mo_sortRows_228 (by decide) (fun q35 => ?_) (fun q35 => ?_)
  · rw [if_pos q35] at h
    refine z_sub [0, 1] rfl ?_
    obtain rfl := Option.some.inj h
    exact k1 _ rfl
  · rw [if_neg q35] at h
    refine z_aload_n X dd_Mo_sortRows_231 rfl 0 rfl ?_
    obtain ⟨v36, ev36, h⟩ := zb h
    refine z_get (j := 79) X dd_Mo_sortRows_232 kc_12 ki_12 (by decide) km_1600 (zgr_v ev36) ?_
    refine z_iload_n X dd_Mo_sortRows_235 rfl 2 rfl ?_
    refine z_aload_n X dd_Mo_sortRows_236 rfl 0 rfl ?_
    obtain ⟨v37, ev37, h⟩ := zb h
    refine z_get (j := 80) X dd_Mo_sortRows_237 kc_12 ki_12 (by decide) km_1601 (zgr_v ev37) ?_
    refine z_iload_n X dd_Mo_sortRows_240 rfl 2 rfl ?_
    obtain ⟨v38, ev38, h⟩ := zb h
    refine z_iaload X dd_Mo_sortRows_241 rfl ev38 ?_
    obtain ⟨c39, ec39, h⟩ := zb h
    refine z_iastore X dd_Mo_sortRows_242 rfl ec39 ?_
    refine z_iinc (v := (x2 + 1)) (lv' := [(2, .int (x2 + 1)), (0, .ref x0), (1, .int x1)]) X dd_Mo_sortRows_243 2 rfl rfl (by decide) rfl ?_
    refine z_goto (tgt := 223) X dd_Mo_sortRows_246 (by decide) ?_
    refine z_sub [1, 2, 0] rfl ?_
    obtain rfl := Option.some.inj h
    exact k0 _ rfl
set_option maxRecDepth 100000 in
set_option maxHeartbeats 4000000 in
theorem t_Mo_sortRows_223  (X : zX p s m args cd D cid B bb_Mo_sortRows 9 rr_Mo zT) (H : zH s meth B n0 none "sortRows") {nf : Nat} {x0 : Nat} {x1 : Int32} {x2 : Int32} {c : Zc} {r : (Nat × Int32 × Zc) ⊕ (Zc)} (h : f_Mo_sortRows_223 nf x0 x1 x2 c = some r) (k0 : ∀ a, r = .inl a → (fun a : Nat × Int32 × Zc => Zz p l e (zRm 1 25 0 0) s m args below meth cd Q D cid B 9 0 0 a.2.2 25 [(0, .ref a.1), (1, .int a.2.1)] []) a) (k1 : ∀ b, r = .inr b → (fun b : Zc => Zz p l e (zRm 1 25 0 0) s m args below meth cd Q D cid B 9 0 0 b 256 [] []) b) : Zz p l e (zRm 1 25 0 0) s m args below meth cd Q D cid B 9 0 0 c 223 [(0, .ref x0), (1, .int x1), (2, .int x2)] [] := by
  unfold f_Mo_sortRows_223 at h
  obtain ⟨b, eb, h⟩ := zb h
  refine zlp_ok (P := fun a : Nat × Int32 × Int32 × Zc => Zz p l e (zRm 1 25 0 0) s m args below meth cd _ D cid B 9 0 0 a.2.2.2 223 [(0, .ref a.1), (1, .int a.2.1), (2, .int a.2.2.1)] []) (G := fun b : Nat × Int32 × Zc => Zz p l e (zRm 1 25 0 0) s m args below meth cd _ D cid B 9 0 0 b.2.2 249 [(0, .ref b.1), (1, .int b.2.1)] []) (fun a r ha k0 k1 => u_Mo_sortRows_223 X H ha k0 k1) nf _ b eb ?_
  refine z_iload_n X dd_Mo_sortRows_249 rfl 1 rfl ?_
  refine z_iconst (v := 2) X dd_Mo_sortRows_250 (by decide) ?_
  refine z_imul X dd_Mo_sortRows_251 ?_
  refine z_istore_n (lv' := [(1, .int (b.2.1 * 2)), (0, .ref b.1)]) X dd_Mo_sortRows_252 rfl (by decide) rfl ?_
  refine z_goto (tgt := 25) X dd_Mo_sortRows_253 (by decide) ?_
  refine z_sub [1, 0] rfl ?_
  obtain rfl := Option.some.inj h
  exact k0 _ rfl
set_option maxRecDepth 100000 in
set_option maxHeartbeats 4000000 in
theorem t_Mo_sortRows_35  (X : zX p s m args cd D cid B bb_Mo_sortRows 9 rr_Mo zT) (H : zH s meth B n0 none "sortRows") {nf : Nat} {x0 : Nat} {x1 : Int32} {x2 : Int32} {c : Zc} {r : (Nat × Int32 × Zc) ⊕ (Zc)} (h : f_Mo_sortRows_35 nf x0 x1 x2 c = some r) (k0 : ∀ a, r = .inl a → (fun a : Nat × Int32 × Zc => Zz p l e (zRm 1 25 0 0) s m args below meth cd Q D cid B 9 0 0 a.2.2 25 [(0, .ref a.1), (1, .int a.2.1)] []) a) (k1 : ∀ b, r = .inr b → (fun b : Zc => Zz p l e (zRm 1 25 0 0) s m args below meth cd Q D cid B 9 0 0 b 256 [] []) b) : Zz p l e (zRm 1 25 0 0) s m args below meth cd Q D cid B 9 0 0 c 35 [(0, .ref x0), (1, .int x1), (2, .int x2)] [] := by
  unfold f_Mo_sortRows_35 at h
  obtain ⟨b, eb, h⟩ := zb h
  refine zlp_ok (P := fun a : Nat × Int32 × Int32 × Zc => Zz p l e (zRm 1 25 0 0) s m args below meth cd _ D cid B 9 0 0 a.2.2.2 35 [(0, .ref a.1), (1, .int a.2.1), (2, .int a.2.2.1)] []) (G := fun b : Nat × Int32 × Zc => Zz p l e (zRm 1 25 0 0) s m args below meth cd _ D cid B 9 0 0 b.2.2 221 [(0, .ref b.1), (1, .int b.2.1)] []) (fun a r ha k0 k1 => u_Mo_sortRows_35 X H ha k0 k1) nf _ b eb ?_
  refine z_iconst (v := 0) X dd_Mo_sortRows_221 (by decide) ?_
  refine z_istore_n (lv' := [(2, .int 0), (0, .ref b.1), (1, .int b.2.1)]) X dd_Mo_sortRows_222 rfl (by decide) rfl ?_
  refine z_sub [1, 2, 0] rfl ?_
  exact t_Mo_sortRows_223 X H h k0 k1
set_option maxRecDepth 100000 in
set_option maxHeartbeats 4000000 in
theorem u_Mo_sortRows_25  (X : zX p s m args cd D cid B bb_Mo_sortRows 9 rr_Mo zT) (H : zH s meth B n0 none "sortRows") {nf : Nat} {x0 : Nat} {x1 : Int32} {c : Zc} {r : (Nat × Int32 × Zc) ⊕ (Zc)} (h : g_Mo_sortRows_25 nf x0 x1 c = some r) (k0 : ∀ a, r = .inl a → (fun a : Nat × Int32 × Zc => Zz p l e (zRm 1 25 0 0) s m args below meth cd Q D cid B 9 0 0 a.2.2 25 [(0, .ref a.1), (1, .int a.2.1)] []) a) (k1 : ∀ b, r = .inr b → (fun b : Zc => Zz p l e (zRm 1 25 0 0) s m args below meth cd Q D cid B 9 0 0 b 256 [] []) b) : Zz p l e (zRm 1 25 0 0) s m args below meth cd Q D cid B 9 0 0 c 25 [(0, .ref x0), (1, .int x1)] [] := by
  unfold g_Mo_sortRows_25 at h
  refine z_iload_n X dd_Mo_sortRows_25 rfl 1 rfl ?_
  refine z_aload_n X dd_Mo_sortRows_26 rfl 0 rfl ?_
  obtain ⟨v5, ev5, h⟩ := zb h
  refine z_get (j := 81) X dd_Mo_sortRows_27 kc_12 ki_12 (by decide) km_1602 (zgi_v ev5) ?_
  refine z_icmp_ge (tgt := 256) X dd_Mo_sortRows_30 (by decide) (fun q6 => ?_) (fun q6 => ?_)
  · rw [if_pos q6] at h
    refine z_sub [] rfl ?_
    obtain rfl := Option.some.inj h
    exact k1 _ rfl
  · rw [if_neg q6] at h
    refine z_iconst (v := 0) X dd_Mo_sortRows_33 (by decide) ?_
    refine z_istore_n (lv' := [(2, .int 0), (0, .ref x0), (1, .int x1)]) X dd_Mo_sortRows_34 rfl (by decide) rfl ?_
    refine z_sub [1, 2, 0] rfl ?_
    exact t_Mo_sortRows_35 X H h k0 k1
set_option maxRecDepth 100000 in
set_option maxHeartbeats 4000000 in
theorem t_Mo_sortRows_25  (X : zX p s m args cd D cid B bb_Mo_sortRows 9 rr_Mo zT) (H : zH s meth B n0 none "sortRows") {nf : Nat} {x0 : Nat} {x1 : Int32} {c : Zc} {res : Zc} (h : f_Mo_sortRows_25 nf x0 x1 c = some res) : Zz p l e (zRm 1 25 0 0) s m args below meth cd (MQ below (zQv D cid B res n0 0) args s 0 0 (fun q => B ≤ q)) D cid B 9 0 0 c 25 [(0, .ref x0), (1, .int x1)] [] := by
  unfold f_Mo_sortRows_25 at h
  obtain ⟨b, eb, h⟩ := zb h
  refine zlp_ok (P := fun a : Nat × Int32 × Zc => Zz p l e (zRm 1 25 0 0) s m args below meth cd _ D cid B 9 0 0 a.2.2 25 [(0, .ref a.1), (1, .int a.2.1)] []) (G := fun b : Zc => Zz p l e (zRm 1 25 0 0) s m args below meth cd _ D cid B 9 0 0 b 256 [] []) (fun a r ha k0 k1 => u_Mo_sortRows_25 X H ha k0 k1) nf _ b eb ?_
  obtain rfl := Option.some.inj h
  exact z_vret X H.1 H.2.1 H.2.2.1 dd_Mo_sortRows_256
set_option maxRecDepth 100000 in
set_option maxHeartbeats 4000000 in
theorem t_Mo_sortRows_2  (X : zX p s m args cd D cid B bb_Mo_sortRows 9 rr_Mo zT) (H : zH s meth B n0 none "sortRows") {nf : Nat} {x0 : Nat} {x1 : Int32} {c : Zc} {res : Zc} (h : f_Mo_sortRows_2 nf x0 x1 c = some res) : Zz p l e (zRm 1 25 0 0) s m args below meth cd (MQ below (zQv D cid B res n0 0) args s 0 0 (fun q => B ≤ q)) D cid B 9 0 0 c 2 [(0, .ref x0), (1, .int x1)] [] := by
  unfold f_Mo_sortRows_2 at h
  obtain ⟨b, eb, h⟩ := zb h
  refine zlp_ok (P := fun a : Nat × Int32 × Zc => Zz p l e (zRm 1 25 0 0) s m args below meth cd _ D cid B 9 0 0 a.2.2 2 [(0, .ref a.1), (1, .int a.2.1)] []) (G := fun b : Nat × Zc => Zz p l e (zRm 1 25 0 0) s m args below meth cd _ D cid B 9 0 0 b.2 23 [(0, .ref b.1)] []) (fun a r ha k0 k1 => u_Mo_sortRows_2 X H ha k0 k1) nf _ b eb ?_
  refine z_iconst (v := 1) X dd_Mo_sortRows_23 (by decide) ?_
  refine z_istore_n (lv' := [(1, .int 1), (0, .ref b.1)]) X dd_Mo_sortRows_24 rfl (by decide) rfl ?_
  refine z_sub [1, 0] rfl ?_
  exact t_Mo_sortRows_25 X H h
set_option maxRecDepth 100000 in
set_option maxHeartbeats 4000000 in
theorem c_Mo_sortRows (l : Launch) {nf : Nat} {a0 : Nat} {c : Zc} {res : Zc} (h : f_Mo_sortRows nf a0 c = some res) : zM l yy_Mo_sortRows ww_Mo_sortRows 1 25 0 0 [.ref a0] c (fun D cid B => zQv D cid B res c.length 0) := by
  refine z_met (cc := bb_Mo_sortRows) (maxL := 9) (ret := none) (by decide +kernel) rfl (Nat.le_of_ble_eq_true rfl) ?_
  intro p e s m args below meth cd D cid B X h1 h2 h3 h4
  have X : zX p s m args cd D cid B bb_Mo_sortRows 9 rr_Mo zT := X
  have H : zH s meth B c.length none "sortRows" := ⟨h1, h2, h4, h3⟩
  unfold f_Mo_sortRows at h
  show Zz p l e (zRm 1 25 0 0) s m args below meth cd _ D cid B 9 0 0 c 0 [(0, .ref a0)] []
  refine z_iconst (v := 0) X dd_Mo_sortRows_0 (by decide) ?_
  refine z_istore_n (lv' := [(1, .int 0), (0, .ref a0)]) X dd_Mo_sortRows_1 rfl (by decide) rfl ?_
  refine z_sub [1, 0] rfl ?_
  exact t_Mo_sortRows_2 X H h
end ZzM
