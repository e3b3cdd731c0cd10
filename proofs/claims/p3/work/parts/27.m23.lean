section ZzM
variable {p : Program} {l : Launch} {e : Env} {s : State} {m : MethodId} {args : Array Value} {below : List Frame} {meth : Method} {cd : Code} {Q : State → Prop} {D : va_G} {cid : Nat → ClassId} {B n0 : Nat}
theorem dd_Mo_measureAll_0 : decode bb_Mo_measureAll 0 = .ok (.iconst 0, 1) := by decide +kernel
theorem dd_Mo_measureAll_1 : decode bb_Mo_measureAll 1 = .ok (.istore_n 1, 1) := by decide +kernel
theorem dd_Mo_measureAll_2 : decode bb_Mo_measureAll 2 = .ok (.iload_n 1, 1) := by decide +kernel
theorem dd_Mo_measureAll_3 : decode bb_Mo_measureAll 3 = .ok (.aload_n 0, 1) := by decide +kernel
theorem dd_Mo_measureAll_4 : decode bb_Mo_measureAll 4 = .ok (.getfield 80, 3) := by decide +kernel
theorem dd_Mo_measureAll_7 : decode bb_Mo_measureAll 7 = .ok (.aload_n 0, 1) := by decide +kernel
theorem dd_Mo_measureAll_8 : decode bb_Mo_measureAll 8 = .ok (.getfield 331, 3) := by decide +kernel
theorem dd_Mo_measureAll_11 : decode bb_Mo_measureAll 11 = .ok (.iaload, 1) := by decide +kernel
theorem dd_Mo_measureAll_12 : decode bb_Mo_measureAll 12 = .ok (.if_icmp .ge 39, 3) := by decide +kernel
theorem dd_Mo_measureAll_15 : decode bb_Mo_measureAll 15 = .ok (.iconst 0, 1) := by decide +kernel
theorem dd_Mo_measureAll_16 : decode bb_Mo_measureAll 16 = .ok (.istore_n 2, 1) := by decide +kernel
theorem dd_Mo_measureAll_17 : decode bb_Mo_measureAll 17 = .ok (.iload_n 2, 1) := by decide +kernel
theorem dd_Mo_measureAll_18 : decode bb_Mo_measureAll 18 = .ok (.aload_n 0, 1) := by decide +kernel
theorem dd_Mo_measureAll_19 : decode bb_Mo_measureAll 19 = .ok (.getfield 450, 3) := by decide +kernel
theorem dd_Mo_measureAll_22 : decode bb_Mo_measureAll 22 = .ok (.if_icmp .ge 23, 3) := by decide +kernel
theorem dd_Mo_measureAll_25 : decode bb_Mo_measureAll 25 = .ok (.aload_n 0, 1) := by decide +kernel
theorem dd_Mo_measureAll_26 : decode bb_Mo_measureAll 26 = .ok (.bipush 11, 2) := by decide +kernel
theorem dd_Mo_measureAll_28 : decode bb_Mo_measureAll 28 = .ok (.aload_n 0, 1) := by decide +kernel
theorem dd_Mo_measureAll_29 : decode bb_Mo_measureAll 29 = .ok (.getfield 331, 3) := by decide +kernel
theorem dd_Mo_measureAll_32 : decode bb_Mo_measureAll 32 = .ok (.imul, 1) := by decide +kernel
theorem dd_Mo_measureAll_33 : decode bb_Mo_measureAll 33 = .ok (.iload_n 1, 1) := by decide +kernel
theorem dd_Mo_measureAll_34 : decode bb_Mo_measureAll 34 = .ok (.iadd, 1) := by decide +kernel
theorem dd_Mo_measureAll_35 : decode bb_Mo_measureAll 35 = .ok (.iload_n 2, 1) := by decide +kernel
theorem dd_Mo_measureAll_36 : decode bb_Mo_measureAll 36 = .ok (.invokevirtual 457, 3) := by decide +kernel
theorem dd_Mo_measureAll_39 : decode bb_Mo_measureAll 39 = .ok (.iinc 2 1, 3) := by decide +kernel
theorem dd_Mo_measureAll_42 : decode bb_Mo_measureAll 42 = .ok (.goto (-25), 3) := by decide +kernel
theorem dd_Mo_measureAll_45 : decode bb_Mo_measureAll 45 = .ok (.iinc 1 1, 3) := by decide +kernel
theorem dd_Mo_measureAll_48 : decode bb_Mo_measureAll 48 = .ok (.goto (-46), 3) := by decide +kernel
theorem dd_Mo_measureAll_51 : decode bb_Mo_measureAll 51 = .ok (.return_, 1) := by decide +kernel
def g_Mo_measureAll_17 (nf : Nat) (x0 : Nat) (x1 : Int32) (x2 : Int32) (c : Zc) : Option ((Nat × Int32 × Int32 × Zc) ⊕ (Nat × Int32 × Zc)) :=
  (zgi c x0 12 0).bind fun v5 => if v5 ≤ x2 then (some (.inr (x0, x1, c))) else ((zgi c x0 12 25).bind fun v7 => (zob c x0 12).bind fun w9 => (f_Mo_measure nf x0 ((11 * v7) + x1) x2 c).bind fun q8 => some (.inl (x0, x1, (x2 + 1), q8)))
def f_Mo_measureAll_17 (nf : Nat) (x0 : Nat) (x1 : Int32) (x2 : Int32) (c : Zc) : Option ((Nat × Int32 × Zc) ⊕ (Zc)) :=
  (zlp (fun a => g_Mo_measureAll_17 nf a.1 a.2.1 a.2.2.1 a.2.2.2) nf (x0, x1, x2, c)).bind fun b => some (.inl (b.1, (b.2.1 + 1), b.2.2))
def g_Mo_measureAll_2 (nf : Nat) (x0 : Nat) (x1 : Int32) (c : Zc) : Option ((Nat × Int32 × Zc) ⊕ (Zc)) :=
  (zgr c x0 12 31).bind fun v1 => (zgi c x0 12 25).bind fun v2 => (zai c v1 0 v2).bind fun v3 => if v3 ≤ x1 then (some (.inr c)) else (f_Mo_measureAll_17 nf x0 x1 0 c)
def f_Mo_measureAll_2 (nf : Nat) (x0 : Nat) (x1 : Int32) (c : Zc) : Option (Zc) :=
  (zlp (fun a => g_Mo_measureAll_2 nf a.1 a.2.1 a.2.2) nf (x0, x1, c)).bind fun b => some b
def f_Mo_measureAll (nf : Nat) (a0 : Nat) (c : Zc) : Option (Zc) :=
  f_Mo_measureAll_2 nf a0 0 c
set_option maxRecDepth 100000 in
set_option maxHeartbeats 4000000 in
theorem u_Mo_measureAll_17  (X : zX p s m args cd D cid B bb_Mo_measureAll 3 rr_Mo zT) (H : zH s meth B n0 none "measureAll") {nf : Nat} {x0 : Nat} {x1 : Int32} {x2 : Int32} {c : Zc} {r : (Nat × Int32 × Int32 × Zc) ⊕ (Nat × Int32 × Zc)} (h : g_Mo_measureAll_17 nf x0 x1 x2 c = some r) (k0 : ∀ a, r = .inl a → (fun a : Nat × Int32 × Int32 × Zc => Zz p l e (zRm 2 55 0 0) s m args below meth cd Q D cid B 3 0 0 a.2.2.2 17 [(0, .ref a.1), (1, .int a.2.1), (2, .int a.2.2.1)] []) a) (k1 : ∀ b, r = .inr b → (fun b : Nat × Int32 × Zc => Zz p l e (zRm 2 55 0 0) s m args below meth cd Q D cid B 3 0 0 b.2.2 45 [(0, .ref b.1), (1, .int b.2.1)] []) b) : Zz p l e (zRm 2 55 0 0) s m args below meth cd Q D cid B 3 0 0 c 17 [(0, .ref x0), (1, .int x1), (2, .int x2)] [] := by
  unfold g_Mo_measureAll_17 at h
  refine z_iload_n X dd_Mo_measureAll_17 rfl 2 rfl ?_
  refine z_aload_n X dd_Mo_measureAll_18 rfl 0 rfl ?_
  obtain ⟨v5, ev5, h⟩ := zb h
  refine z_get (j := 0) X dd_Mo_measureAll_19 kc_12 ki_12 (by decide) km_1521 (zgi_v ev5) ?_
  refine z_icmp_ge (tgt := 45) X dd_Mo_measureAll_22 (by decide) (fun q6 => ?_) (fun q6 => ?_)
  · rw [if_pos q6] at h
    refine z_sub [0, 1] rfl ?_
    obtain rfl := Option.some.inj h
    exact k1 _ rfl
  · rw [if_neg q6] at h
    refine z_aload_n X dd_Mo_measureAll_25 rfl 0 rfl ?_
    refine z_bipush (v := 11) X dd_Mo_measureAll_26 (by decide) ?_
    refine z_aload_n X dd_Mo_measureAll_28 rfl 0 rfl ?_
    obtain ⟨v7, ev7, h⟩ := zb h
    refine z_get (j := 25) X dd_Mo_measureAll_29 kc_12 ki_12 (by decide) km_1546 (zgi_v ev7) ?_
    refine z_imul X dd_Mo_measureAll_32 ?_
    refine z_iload_n X dd_Mo_measureAll_33 rfl 1 rfl ?_
    refine z_iadd X dd_Mo_measureAll_34 ?_
    refine z_iload_n X dd_Mo_measureAll_35 rfl 2 rfl ?_
    obtain ⟨w9, ew9, h⟩ := zb h
    obtain ⟨q8, eq8, h⟩ := zb h
    refine z_callVv X [.int ((11 * v7) + x1), .int x2] rfl dd_Mo_measureAll_36 (c_Mo_measure l eq8) (cwV 2 X.1.2.2.2.2 (zg_V km_2089 km_2091 km_109 km_138 km_2092) rfl rfl rfl (by decide +kernel) ⟨Nat.le_of_ble_eq_true rfl, Nat.le_of_ble_eq_true rfl⟩) (zob_s ew9) kc_12 rfl (Nat.le_of_ble_eq_true rfl) ⟨Nat.le_of_ble_eq_true rfl, Nat.le_of_ble_eq_true rfl⟩ ?_
    refine z_iinc (v := (x2 + 1)) (lv' := [(2, .int (x2 + 1)), (0, .ref x0), (1, .int x1)]) X dd_Mo_measureAll_39 2 rfl rfl (by decide) rfl ?_
    refine z_goto (tgt := 17) X dd_Mo_measureAll_42 (by decide) ?_
    refine z_sub [1, 2, 0] rfl ?_
    obtain rfl := Option.some.inj h
    exact k0 _ rfl
set_option maxRecDepth 100000 in
set_option maxHeartbeats 4000000 in
theorem t_Mo_measureAll_17  (X : zX p s m args cd D cid B bb_Mo_measureAll 3 rr_Mo zT) (H : zH s meth B n0 none "measureAll") {nf : Nat} {x0 : Nat} {x1 : Int32} {x2 : Int32} {c : Zc} {r : (Nat × Int32 × Zc) ⊕ (Zc)} (h : f_Mo_measureAll_17 nf x0 x1 x2 c = some r) (k0 : ∀ a, r = .inl a → (fun a : Nat × Int32 × Zc => Zz p l e (zRm 2 55 0 0) s m args below meth cd Q D cid B 3 0 0 a.2.2 2 [(0, .ref a.1), (1, .int a.2.1)] []) a) (k1 : ∀ b, r = .inr b → (fun b : Zc => Zz p l e (zRm 2 55 0 0) s m args below meth cd Q D cid B 3 0 0 b 51 [] []) b) : Zz p l e (zRm 2 55 0 0) s m args below meth cd Q D cid B 3 0 0 c 17 [(0, .ref x0), (1, .int x1), (2, .int x2)] [] := by
  unfold f_Mo_measureAll_17 at h
  obtain ⟨b, eb, h⟩ := zb h
  refine zlp_ok (P := fun a : Nat × Int32 × Int32 × Zc => Zz p l e (zRm 2 55 0 0) s m args below meth cd _ D cid B 3 0 0 a.2.2.2 17 [(0, .ref a.1), (1, .int a.2.1), (2, .int a.2.2.1)] []) (G := fun b : Nat × Int32 × Zc => Zz p l e (zRm 2 55 0 0) s m args below meth cd _ D cid B 3 0 0 b.2.2 45 [(0, .ref b.1), (1, .int b.2.1)] []) (fun a r ha k0 k1 => u_Mo_measureAll_17 X H ha k0 k1) nf _ b eb ?_
  refine z_iinc (v := (b.2.1 + 1)) (lv' := [(1, .int (b.2.1 + 1)), (0, .ref b.1)]) X dd_Mo_measureAll_45 1 rfl rfl (by decide) rfl ?_
  refine z_goto (tgt := 2) X dd_Mo_measureAll_48 (by decide) ?_
  refine z_sub [1, 0] rfl ?_
  obtain rfl := Option.some.inj h
  exact k0 _ rfl
set_option maxRecDepth 100000 in
set_option maxHeartbeats 4000000 in
theorem u_Mo_measureAll_2  (X : zX p s m args cd D cid B bb_Mo_measureAll 3 rr_Mo zT) (H : zH s meth B n0 none "measureAll") {nf : Nat} {x0 : Nat} {x1 : Int32} {c : Zc} {r : (Nat × Int32 × Zc) ⊕ (Zc)} (h : g_Mo_measureAll_2 nf x0 x1 c = some r) (k0 : ∀ a, r = .inl a → (fun a : Nat × Int32 × Zc => Zz p l e (zRm 2 55 0 0) s m args below meth cd Q D cid B 3 0 0 a.2.2 2 [(0, .ref a.1), (1, .int a.2.1)] []) a) (k1 : ∀ b, r = .inr b → (fun b : Zc => Zz p l e (zRm 2 55 0 0) s m args below meth cd Q D cid B 3 0 0 b 51 [] []) b) : Zz p l e (zRm 2 55 0 0) s m args below meth cd Q D cid B 3 0 0 c 2 [(0, .ref x0), (1, .int x1)] [] := by
  unfold g_Mo_measureAll_2 at h
  refine z_iload_n X dd_Mo_measureAll_2 rfl 1 rfl ?_
  refine z_aload_n X dd_Mo_measureAll_3 rfl 0 rfl ?_
  obtain ⟨v1, ev1, h⟩ := zb h
  refine z_get (j := 31) X dd_Mo_measureAll_4 kc_12 ki_12 (by decide) km_1552 (zgr_v ev1) ?_
  refine z_aload_n X dd_Mo_measureAll_7 rfl 0 rfl ?_
  obtain ⟨v2, ev2, h⟩ := zb h
  refine z_get (j := 25) X dd_Mo_measureAll_8 kc_12 ki_12 (by decide) km_1546 (zgi_v ev2) ?_
  obtain ⟨v3, ev3, h⟩ := zb h
  refine z_iaload X dd_Mo_measureAll_11 rfl ev3 ?_
  refine z_icmp_ge (tgt := 51) X dd_Mo_measureAll_12 (by decide) (fun q4 => ?_) (fun q4 => ?_)
  · rw [if_pos q4] at h
    refine z_sub [] rfl ?_
    obtain rfl := Option.some.inj h
    exact k1 _ rfl
  · rw [if_neg q4] at h
    refine z_iconst (v := 0) X dd_Mo_measureAll_15 (by decide) ?_
    refine z_istore_n (lv' := [(2, .int 0), (0, .ref x0), (1, .int x1)]) X dd_Mo_measureAll_16 rfl (by decide) rfl ?_
    refine z_sub [1, 2, 0] rfl ?_
    exact t_Mo_measureAll_17 X H h k0 k1
set_option maxRecDepth 100000 in
set_option maxHeartbeats 4000000 in
theorem t_Mo_measureAll_2  (X : zX p s m args cd D cid B bb_Mo_measureAll 3 rr_Mo zT) (H : zH s meth B n0 none "measureAll") {nf : Nat} {x0 : Nat} {x1 : Int32} {c : Zc} {res : Zc} (h : f_Mo_measureAll_2 nf x0 x1 c = some res) : Zz p l e (zRm 2 55 0 0) s m args below meth cd (MQ below (zQv D cid B res n0 0) args s 0 0 (fun q => B ≤ q)) D cid B 3 0 0 c 2 [(0, .ref x0), (1, .int x1)] [] := by
  unfold f_Mo_measureAll_2 at h
  obtain ⟨b, eb, h⟩ := zb h
  refine zlp_ok (P := fun a : Nat × Int32 × Zc => Zz p l e (zRm 2 55 0 0) s m args below meth cd _ D cid B 3 0 0 a.2.2 2 [(0, .ref a.1), (1, .int a.2.1)] []) (G := fun b : Zc => Zz p l e (zRm 2 55 0 0) s m args below meth cd _ D cid B 3 0 0 b 51 [] []) (fun a r ha k0 k1 => u_Mo_measureAll_2 X H ha k0 k1) nf _ b eb ?_
  obtain rfl := Option.some.inj h
  exact z_vret X H.1 H.2.1 H.2.2.1 dd_Mo_measureAll_51
set_option maxRecDepth 100000 in
set_option maxHeartbeats 4000000 in
theorem c_Mo_measureAll (l : Launch) {nf : Nat} {a0 : Nat} {c : Zc} {res : Zc} (h : f_Mo_measureAll nf a0 c = some res) : zM l yy_Mo_measureAll ww_Mo_measureAll 2 55 0 0 [.ref a0] c (fun D cid B => zQv D cid B res c.length 0) := by
  refine z_met (cc := bb_Mo_measureAll) (maxL := 3) (ret := none) (by decide +kernel) rfl (Nat.le_of_ble_eq_true rfl) ?_
  intro p e s m args below meth cd D cid B X h1 h2 h3 h4
  have X : zX p s m args cd D cid B bb_Mo_measureAll 3 rr_Mo zT := X
  have H : zH s meth B c.length none "measureAll" := ⟨h1, h2, h4, h3⟩
  unfold f_Mo_measureAll at h
  show Zz p l e (zRm 2 55 0 0) s m args below meth cd _ D cid B 3 0 0 c 0 [(0, .ref a0)] []
  refine z_iconst (v := 0) X dd_Mo_measureAll_0 (by decide) ?_
  refine z_istore_n (lv' := [(1, .int 0), (0, .ref a0)]) X dd_Mo_measureAll_1 rfl (by decide) rfl ?_
  refine z_sub [1, 0] rfl ?_
  exact t_Mo_measureAll_2 X H h
theorem dd_Mo_distance_0 : decode bb_Mo_distance 0 = .ok (.aload_n 0, 1) := by decide +kernel
theorem dd_Mo_distance_1 : decode bb_Mo_distance 1 = .ok (.getfield 179, 3) := by decide +kernel
theorem dd_Mo_distance_4 : decode bb_Mo_distance 4 = .ok (.sipush 256, 3) := by decide +kernel
theorem dd_Mo_distance_7 : decode bb_Mo_distance 7 = .ok (.iload_n 1, 1) := by decide +kernel
theorem dd_Mo_distance_8 : decode bb_Mo_distance 8 = .ok (.bipush 11, 2) := by decide +kernel
theorem dd_Mo_distance_10 : decode bb_Mo_distance 10 = .ok (.irem, 1) := by decide +kernel
theorem dd_Mo_distance_11 : decode bb_Mo_distance 11 = .ok (.imul, 1) := by decide +kernel
theorem dd_Mo_distance_12 : decode bb_Mo_distance 12 = .ok (.bipush 16, 2) := by decide +kernel
theorem dd_Mo_distance_14 : decode bb_Mo_distance 14 = .ok (.aload_n 0, 1) := by decide +kernel
theorem dd_Mo_distance_15 : decode bb_Mo_distance 15 = .ok (.getfield 191, 3) := by decide +kernel
theorem dd_Mo_distance_18 : decode bb_Mo_distance 18 = .ok (.aload_n 0, 1) := by decide +kernel
theorem dd_Mo_distance_19 : decode bb_Mo_distance 19 = .ok (.getfield 86, 3) := by decide +kernel
theorem dd_Mo_distance_22 : decode bb_Mo_distance 22 = .ok (.iload_n 1, 1) := by decide +kernel
theorem dd_Mo_distance_23 : decode bb_Mo_distance 23 = .ok (.iaload, 1) := by decide +kernel
theorem dd_Mo_distance_24 : decode bb_Mo_distance 24 = .ok (.iaload, 1) := by decide +kernel
theorem dd_Mo_distance_25 : decode bb_Mo_distance 25 = .ok (.imul, 1) := by decide +kernel
theorem dd_Mo_distance_26 : decode bb_Mo_distance 26 = .ok (.iadd, 1) := by decide +kernel
theorem dd_Mo_distance_27 : decode bb_Mo_distance 27 = .ok (.aload_n 0, 1) := by decide +kernel
theorem dd_Mo_distance_28 : decode bb_Mo_distance 28 = .ok (.getfield 191, 3) := by decide +kernel
theorem dd_Mo_distance_31 : decode bb_Mo_distance 31 = .ok (.aload_n 0, 1) := by decide +kernel
theorem dd_Mo_distance_32 : decode bb_Mo_distance 32 = .ok (.getfield 89, 3) := by decide +kernel
theorem dd_Mo_distance_35 : decode bb_Mo_distance 35 = .ok (.iload_n 1, 1) := by decide +kernel
theorem dd_Mo_distance_36 : decode bb_Mo_distance 36 = .ok (.iaload, 1) := by decide +kernel
theorem dd_Mo_distance_37 : decode bb_Mo_distance 37 = .ok (.iaload, 1) := by decide +kernel
theorem dd_Mo_distance_38 : decode bb_Mo_distance 38 = .ok (.iadd, 1) := by decide +kernel
theorem dd_Mo_distance_39 : decode bb_Mo_distance 39 = .ok (.iaload, 1) := by decide +kernel
theorem dd_Mo_distance_40 : decode bb_Mo_distance 40 = .ok (.ireturn, 1) := by decide +kernel
def f_Mo_distance (nf : Nat) (a0 : Nat) (a1 : Int32) (c : Zc) : Option (Int32 × Zc) :=
  (zgr c a0 12 70).bind fun v1 => (zgr c a0 12 74).bind fun v3 => (zgr c a0 12 33).bind fun v4 => (zai c v4 0 a1).bind fun v5 => (zai c v3 0 v5).bind fun v6 => (zgr c a0 12 74).bind fun v7 => (zgr c a0 12 34).bind fun v8 => (zai c v8 0 a1).bind fun v9 => (zai c v7 0 v9).bind fun v10 => (zai c v1 0 (((256 * (a1 - a1 / 11 * 11)) + (16 * v6)) + v10)).bind fun v11 => some (v11, c)
set_option maxRecDepth 100000 in
set_option maxHeartbeats 4000000 in
theorem c_Mo_distance (l : Launch) {nf : Nat} {a0 : Nat} {a1 : Int32} {c : Zc} {res : Int32 × Zc} (h : f_Mo_distance nf a0 a1 c = some res) : zM l yy_Mo_distance ww_Mo_distance 0 0 0 0 [.ref a0, .int a1] c (fun D cid B => zQi D cid B res.1 res.2 c.length 0) := by
  refine z_met (cc := bb_Mo_distance) (maxL := 2) (ret := (some (.int))) (by decide +kernel) rfl (Nat.le_of_ble_eq_true rfl) ?_
  intro p e s m args below meth cd D cid B X h1 h2 h3 h4
  have X : zX p s m args cd D cid B bb_Mo_distance 2 rr_Mo zT := X
  have H : zH s meth B c.length (some (.int)) "distance" := ⟨h1, h2, h4, h3⟩
  unfold f_Mo_distance at h
  show Zz p l e (zRm 0 0 0 0) s m args below meth cd _ D cid B 2 0 0 c 0 [(0, .ref a0), (1, .int a1)] []
  refine z_aload_n X dd_Mo_distance_0 rfl 0 rfl ?_
  obtain ⟨v1, ev1, h⟩ := zb h
  refine z_get (j := 70) X dd_Mo_distance_1 kc_12 ki_12 (by decide) km_1591 (zgr_v ev1) ?_
  refine z_sipush (v := 256) X dd_Mo_distance_4 (by decide) ?_
  refine z_iload_n X dd_Mo_distance_7 rfl 1 rfl ?_
  refine z_bipush (v := 11) X dd_Mo_distance_8 (by decide) ?_
  refine z_irem X dd_Mo_distance_10 (by decide) ?_
  refine z_imul X dd_Mo_distance_11 ?_
  refine z_bipush (v := 16) X dd_Mo_distance_12 (by decide) ?_
  refine z_aload_n X dd_Mo_distance_14 rfl 0 rfl ?_
  obtain ⟨v3, ev3, h⟩ := zb h
  refine z_get (j := 74) X dd_Mo_distance_15 kc_12 ki_12 (by decide) km_1595 (zgr_v ev3) ?_
  refine z_aload_n X dd_Mo_distance_18 rfl 0 rfl ?_
  obtain ⟨v4, ev4, h⟩ := zb h
  refine z_get (j := 33) X dd_Mo_distance_19 kc_12 ki_12 (by decide) km_1554 (zgr_v ev4) ?_
  refine z_iload_n X dd_Mo_distance_22 rfl 1 rfl ?_
  obtain ⟨v5, ev5, h⟩ := zb h
  refine z_iaload X dd_Mo_distance_23 rfl ev5 ?_
  obtain ⟨v6, ev6, h⟩ := zb h
  refine z_iaload X dd_Mo_distance_24 rfl ev6 ?_
  refine z_imul X dd_Mo_distance_25 ?_
  refine z_iadd X dd_Mo_distance_26 ?_
  refine z_aload_n X dd_Mo_distance_27 rfl 0 rfl ?_
  obtain ⟨v7, ev7, h⟩ := zb h
  refine z_get (j := 74) X dd_Mo_distance_28 kc_12 ki_12 (by decide) km_1595 (zgr_v ev7) ?_
  refine z_aload_n X dd_Mo_distance_31 rfl 0 rfl ?_
  obtain ⟨v8, ev8, h⟩ := zb h
  refine z_get (j := 34) X dd_Mo_distance_32 kc_12 ki_12 (by decide) km_1555 (zgr_v ev8) ?_
  refine z_iload_n X dd_Mo_distance_35 rfl 1 rfl ?_
  obtain ⟨v9, ev9, h⟩ := zb h
  refine z_iaload X dd_Mo_distance_36 rfl ev9 ?_
  obtain ⟨v10, ev10, h⟩ := zb h
  refine z_iaload X dd_Mo_distance_37 rfl ev10 ?_
  refine z_iadd X dd_Mo_distance_38 ?_
  obtain ⟨v11, ev11, h⟩ := zb h
  refine z_iaload X dd_Mo_distance_39 rfl ev11 ?_
  obtain rfl := Option.some.inj h
  exact z_iret X H.1 H.2.1 H.2.2.1 dd_Mo_distance_40
theorem dd_Mo_workOf_0 : decode bb_Mo_workOf 0 = .ok (.lconst 1, 1) := by decide +kernel
theorem dd_Mo_workOf_1 : decode bb_Mo_workOf 1 = .ok (.lstore_n 2, 1) := by decide +kernel
theorem dd_Mo_workOf_2 : decode bb_Mo_workOf 2 = .ok (.iconst 0, 1) := by decide +kernel
theorem dd_Mo_workOf_3 : decode bb_Mo_workOf 3 = .ok (.istore 4, 2) := by decide +kernel
theorem dd_Mo_workOf_5 : decode bb_Mo_workOf 5 = .ok (.iload 4, 2) := by decide +kernel
theorem dd_Mo_workOf_7 : decode bb_Mo_workOf 7 = .ok (.aload_n 0, 1) := by decide +kernel
theorem dd_Mo_workOf_8 : decode bb_Mo_workOf 8 = .ok (.getfield 65, 3) := by decide +kernel
theorem dd_Mo_workOf_11 : decode bb_Mo_workOf 11 = .ok (.iload_n 1, 1) := by decide +kernel
theorem dd_Mo_workOf_12 : decode bb_Mo_workOf 12 = .ok (.iaload, 1) := by decide +kernel
theorem dd_Mo_workOf_13 : decode bb_Mo_workOf 13 = .ok (.if_icmp .ge 17, 3) := by decide +kernel
theorem dd_Mo_workOf_16 : decode bb_Mo_workOf 16 = .ok (.lload_n 2, 1) := by decide +kernel
theorem dd_Mo_workOf_17 : decode bb_Mo_workOf 17 = .ok (.aload_n 0, 1) := by decide +kernel
theorem dd_Mo_workOf_18 : decode bb_Mo_workOf 18 = .ok (.getfield 450, 3) := by decide +kernel
theorem dd_Mo_workOf_21 : decode bb_Mo_workOf 21 = .ok (.i2l, 1) := by decide +kernel
theorem dd_Mo_workOf_22 : decode bb_Mo_workOf 22 = .ok (.lmul, 1) := by decide +kernel
theorem dd_Mo_workOf_23 : decode bb_Mo_workOf 23 = .ok (.lstore_n 2, 1) := by decide +kernel
theorem dd_Mo_workOf_24 : decode bb_Mo_workOf 24 = .ok (.iinc 4 1, 3) := by decide +kernel
theorem dd_Mo_workOf_27 : decode bb_Mo_workOf 27 = .ok (.goto (-22), 3) := by decide +kernel
theorem dd_Mo_workOf_30 : decode bb_Mo_workOf 30 = .ok (.lload_n 2, 1) := by decide +kernel
theorem dd_Mo_workOf_31 : decode bb_Mo_workOf 31 = .ok (.lreturn, 1) := by decide +kernel
def g_Mo_workOf_5 (nf : Nat) (x0 : Nat) (x1 : Int32) (x2 : Int64) (x4 : Int32) (c : Zc) : Option ((Nat × Int32 × Int64 × Int32 × Zc) ⊕ (Int64 × Zc)) :=
  (zgr c x0 12 26).bind fun v1 => (zai c v1 0 x1).bind fun v2 => if v2 ≤ x4 then (some (.inr (x2, c))) else ((zgi c x0 12 0).bind fun v4 => some (.inl (x0, x1, (x2 * (Int32.toInt64 v4)), (x4 + 1), c)))
def f_Mo_workOf_5 (nf : Nat) (x0 : Nat) (x1 : Int32) (x2 : Int64) (x4 : Int32) (c : Zc) : Option (Int64 × Zc) :=
  (zlp (fun a => g_Mo_workOf_5 nf a.1 a.2.1 a.2.2.1 a.2.2.2.1 a.2.2.2.2) nf (x0, x1, x2, x4, c)).bind fun b => some (b.1, b.2)
def f_Mo_workOf (nf : Nat) (a0 : Nat) (a1 : Int32) (c : Zc) : Option (Int64 × Zc) :=
  f_Mo_workOf_5 nf a0 a1 1 0 c
set_option maxRecDepth 100000 in
set_option maxHeartbeats 4000000 in
theorem u_Mo_workOf_5  (X : zX p s m args cd D cid B bb_Mo_workOf 5 rr_Mo zT) (H : zH s meth B n0 (some (.long)) "workOf") {nf : Nat} {x0 : Nat} {x1 : Int32} {x2 : Int64} {x4 : Int32} {c : Zc} {r : (Nat × Int32 × Int64 × Int32 × Zc) ⊕ (Int64 × Zc)} (h : g_Mo_workOf_5 nf x0 x1 x2 x4 c = some r) (k0 : ∀ a, r = .inl a → (fun a : Nat × Int32 × Int64 × Int32 × Zc => Zz p l e (zRm 0 0 0 0) s m args below meth cd Q D cid B 5 0 0 a.2.2.2.2 5 [(0, .ref a.1), (1, .int a.2.1), (2, .long a.2.2.1), (4, .int a.2.2.2.1)] []) a) (k1 : ∀ b, r = .inr b → (fun b : Int64 × Zc => Zz p l e (zRm 0 0 0 0) s m args below meth cd Q D cid B 5 0 0 b.2 30 [(2, .long b.1)] []) b) : Zz p l e (zRm 0 0 0 0) s m args below meth cd Q D cid B 5 0 0 c 5 [(0, .ref x0), (1, .int x1), (2, .long x2), (4, .int x4)] [] := by
  unfold g_Mo_workOf_5 at h
  refine z_iload X dd_Mo_workOf_5 3 rfl ?_
  refine z_aload_n X dd_Mo_workOf_7 rfl 0 rfl ?_
  obtain ⟨v1, ev1, h⟩ := zb h
  refine z_get (j := 26) X dd_Mo_workOf_8 kc_12 ki_12 (by decide) km_1547 (zgr_v ev1) ?_
  refine z_iload_n X dd_Mo_workOf_11 rfl 1 rfl ?_
  obtain ⟨v2, ev2, h⟩ := zb h
  refine z_iaload X dd_Mo_workOf_12 rfl ev2 ?_
  refine z_icmp_ge (tgt := 30) X dd_Mo_workOf_13 (by decide) (fun q3 => ?_) (fun q3 => ?_)
  · rw [if_pos q3] at h
    refine z_sub [2] rfl ?_
    obtain rfl := Option.some.inj h
    exact k1 _ rfl
  · rw [if_neg q3] at h
    refine z_lload_n X dd_Mo_workOf_16 rfl 2 rfl ?_
    refine z_aload_n X dd_Mo_workOf_17 rfl 0 rfl ?_
    obtain ⟨v4, ev4, h⟩ := zb h
    refine z_get (j := 0) X dd_Mo_workOf_18 kc_12 ki_12 (by decide) km_1521 (zgi_v ev4) ?_
    refine z_i2l X dd_Mo_workOf_21 ?_
    refine z_lmul X dd_Mo_workOf_22 ?_
    refine z_lstore_n (lv' := [(2, .long (x2 * (Int32.toInt64 v4))), (0, .ref x0), (1, .int x1), (4, .int x4)]) X dd_Mo_workOf_23 rfl (by decide) rfl ?_
    refine z_iinc (v := (x4 + 1)) (lv' := [(4, .int (x4 + 1)), (2, .long (x2 * (Int32.toInt64 v4))), (0, .ref x0), (1, .int x1)]) X dd_Mo_workOf_24 3 rfl rfl (by decide) rfl ?_
    refine z_goto (tgt := 5) X dd_Mo_workOf_27 (by decide) ?_
    refine z_sub [2, 3, 1, 0] rfl ?_
    obtain rfl := Option.some.inj h
    exact k0 _ rfl
set_option maxRecDepth 100000 in
set_option maxHeartbeats 4000000 in
theorem t_Mo_workOf_5  (X : zX p s m args cd D cid B bb_Mo_workOf 5 rr_Mo zT) (H : zH s meth B n0 (some (.long)) "workOf") {nf : Nat} {x0 : Nat} {x1 : Int32} {x2 : Int64} {x4 : Int32} {c : Zc} {res : Int64 × Zc} (h : f_Mo_workOf_5 nf x0 x1 x2 x4 c = some res) : Zz p l e (zRm 0 0 0 0) s m args below meth cd (MQ below (zQl D cid B res.1 res.2 n0 0) args s 0 0 (fun q => B ≤ q)) D cid B 5 0 0 c 5 [(0, .ref x0), (1, .int x1), (2, .long x2), (4, .int x4)] [] := by
  unfold f_Mo_workOf_5 at h
  obtain ⟨b, eb, h⟩ := zb h
  refine zlp_ok (P := fun a : Nat × Int32 × Int64 × Int32 × Zc => Zz p l e (zRm 0 0 0 0) s m args below meth cd _ D cid B 5 0 0 a.2.2.2.2 5 [(0, .ref a.1), (1, .int a.2.1), (2, .long a.2.2.1), (4, .int a.2.2.2.1)] []) (G := fun b : Int64 × Zc => Zz p l e (zRm 0 0 0 0) s m args below meth cd _ D cid B 5 0 0 b.2 30 [(2, .long b.1)] []) (fun a r ha k0 k1 => u_Mo_workOf_5 X H ha k0 k1) nf _ b eb ?_
  refine z_lload_n X dd_Mo_workOf_30 rfl 0 rfl ?_
  obtain rfl := Option.some.inj h
  exact z_lret X H.1 H.2.1 H.2.2.1 dd_Mo_workOf_31
set_option maxRecDepth 100000 in
set_option maxHeartbeats 4000000 in
theorem c_Mo_workOf (l : Launch) {nf : Nat} {a0 : Nat} {a1 : Int32} {c : Zc} {res : Int64 × Zc} (h : f_Mo_workOf nf a0 a1 c = some res) : zM l yy_Mo_workOf ww_Mo_workOf 0 0 0 0 [.ref a0, .int a1] c (fun D cid B => zQl D cid B res.1 res.2 c.length 0) := by
  refine z_met (cc := bb_Mo_workOf) (maxL := 5) (ret := (some (.long))) (by decide +kernel) rfl (Nat.le_of_ble_eq_true rfl) ?_
  intro p e s m args below meth cd D cid B X h1 h2 h3 h4
  have X : zX p s m args cd D cid B bb_Mo_workOf 5 rr_Mo zT := X
  have H : zH s meth B c.length (some (.long)) "workOf" := ⟨h1, h2, h4, h3⟩
  unfold f_Mo_workOf at h
  show Zz p l e (zRm 0 0 0 0) s m args below meth cd _ D cid B 5 0 0 c 0 [(0, .ref a0), (1, .int a1)] []
  refine z_lconst (v := 1) X dd_Mo_workOf_0 (by decide) ?_
  refine z_lstore_n (lv' := [(2, .long 1), (0, .ref a0), (1, .int a1)]) X dd_Mo_workOf_1 rfl (by decide) rfl ?_
  refine z_iconst (v := 0) X dd_Mo_workOf_2 (by decide) ?_
  refine z_istore (lv' := [(4, .int 0), (2, .long 1), (0, .ref a0), (1, .int a1)]) X dd_Mo_workOf_3 (by decide) rfl ?_
  refine z_sub [2, 3, 1, 0] rfl ?_
  exact t_Mo_workOf_5 X H h
theorem dd_Mo_goesOn_0 : decode bb_Mo_goesOn 0 = .ok (.aload_n 0, 1) := by decide +kernel
theorem dd_Mo_goesOn_1 : decode bb_Mo_goesOn 1 = .ok (.getfield 65, 3) := by decide +kernel
theorem dd_Mo_goesOn_4 : decode bb_Mo_goesOn 4 = .ok (.aload_n 0, 1) := by decide +kernel
theorem dd_Mo_goesOn_5 : decode bb_Mo_goesOn 5 = .ok (.getfield 331, 3) := by decide +kernel
theorem dd_Mo_goesOn_8 : decode bb_Mo_goesOn 8 = .ok (.iaload, 1) := by decide +kernel
theorem dd_Mo_goesOn_9 : decode bb_Mo_goesOn 9 = .ok (.iconst 1, 1) := by decide +kernel
theorem dd_Mo_goesOn_10 : decode bb_Mo_goesOn 10 = .ok (.isub, 1) := by decide +kernel
theorem dd_Mo_goesOn_11 : decode bb_Mo_goesOn 11 = .ok (.istore_n 2, 1) := by decide +kernel
theorem dd_Mo_goesOn_12 : decode bb_Mo_goesOn 12 = .ok (.iload_n 2, 1) := by decide +kernel
theorem dd_Mo_goesOn_13 : decode bb_Mo_goesOn 13 = .ok (.ifCond .lt 59, 3) := by decide +kernel
theorem dd_Mo_goesOn_16 : decode bb_Mo_goesOn 16 = .ok (.aload_n 0, 1) := by decide +kernel
theorem dd_Mo_goesOn_17 : decode bb_Mo_goesOn 17 = .ok (.getfield 74, 3) := by decide +kernel
theorem dd_Mo_goesOn_20 : decode bb_Mo_goesOn 20 = .ok (.bipush 8, 2) := by decide +kernel
theorem dd_Mo_goesOn_22 : decode bb_Mo_goesOn 22 = .ok (.aload_n 0, 1) := by decide +kernel
theorem dd_Mo_goesOn_23 : decode bb_Mo_goesOn 23 = .ok (.getfield 331, 3) := by decide +kernel
theorem dd_Mo_goesOn_26 : decode bb_Mo_goesOn 26 = .ok (.imul, 1) := by decide +kernel
theorem dd_Mo_goesOn_27 : decode bb_Mo_goesOn 27 = .ok (.iload_n 2, 1) := by decide +kernel
theorem dd_Mo_goesOn_28 : decode bb_Mo_goesOn 28 = .ok (.iadd, 1) := by decide +kernel
theorem dd_Mo_goesOn_29 : decode bb_Mo_goesOn 29 = .ok (.iaload, 1) := by decide +kernel
theorem dd_Mo_goesOn_30 : decode bb_Mo_goesOn 30 = .ok (.iload_n 1, 1) := by decide +kernel
theorem dd_Mo_goesOn_31 : decode bb_Mo_goesOn 31 = .ok (.if_icmp .ne 35, 3) := by decide +kernel
theorem dd_Mo_goesOn_34 : decode bb_Mo_goesOn 34 = .ok (.aload_n 0, 1) := by decide +kernel
theorem dd_Mo_goesOn_35 : decode bb_Mo_goesOn 35 = .ok (.getfield 191, 3) := by decide +kernel
theorem dd_Mo_goesOn_38 : decode bb_Mo_goesOn 38 = .ok (.iload_n 2, 1) := by decide +kernel
theorem dd_Mo_goesOn_39 : decode bb_Mo_goesOn 39 = .ok (.dup2, 1) := by decide +kernel
theorem dd_Mo_goesOn_40 : decode bb_Mo_goesOn 40 = .ok (.iaload, 1) := by decide +kernel
theorem dd_Mo_goesOn_41 : decode bb_Mo_goesOn 41 = .ok (.iconst 1, 1) := by decide +kernel
theorem dd_Mo_goesOn_42 : decode bb_Mo_goesOn 42 = .ok (.iadd, 1) := by decide +kernel
theorem dd_Mo_goesOn_43 : decode bb_Mo_goesOn 43 = .ok (.iastore, 1) := by decide +kernel
theorem dd_Mo_goesOn_44 : decode bb_Mo_goesOn 44 = .ok (.aload_n 0, 1) := by decide +kernel
theorem dd_Mo_goesOn_45 : decode bb_Mo_goesOn 45 = .ok (.getfield 191, 3) := by decide +kernel
theorem dd_Mo_goesOn_48 : decode bb_Mo_goesOn 48 = .ok (.iload_n 2, 1) := by decide +kernel
theorem dd_Mo_goesOn_49 : decode bb_Mo_goesOn 49 = .ok (.iaload, 1) := by decide +kernel
theorem dd_Mo_goesOn_50 : decode bb_Mo_goesOn 50 = .ok (.aload_n 0, 1) := by decide +kernel
theorem dd_Mo_goesOn_51 : decode bb_Mo_goesOn 51 = .ok (.getfield 450, 3) := by decide +kernel
theorem dd_Mo_goesOn_54 : decode bb_Mo_goesOn 54 = .ok (.if_icmp .ge 5, 3) := by decide +kernel
theorem dd_Mo_goesOn_57 : decode bb_Mo_goesOn 57 = .ok (.iconst 1, 1) := by decide +kernel
theorem dd_Mo_goesOn_58 : decode bb_Mo_goesOn 58 = .ok (.ireturn, 1) := by decide +kernel
theorem dd_Mo_goesOn_59 : decode bb_Mo_goesOn 59 = .ok (.aload_n 0, 1) := by decide +kernel
theorem dd_Mo_goesOn_60 : decode bb_Mo_goesOn 60 = .ok (.getfield 191, 3) := by decide +kernel
theorem dd_Mo_goesOn_63 : decode bb_Mo_goesOn 63 = .ok (.iload_n 2, 1) := by decide +kernel
theorem dd_Mo_goesOn_64 : decode bb_Mo_goesOn 64 = .ok (.iconst 0, 1) := by decide +kernel
theorem dd_Mo_goesOn_65 : decode bb_Mo_goesOn 65 = .ok (.iastore, 1) := by decide +kernel
theorem dd_Mo_goesOn_66 : decode bb_Mo_goesOn 66 = .ok (.iinc 2 (-1), 3) := by decide +kernel
theorem dd_Mo_goesOn_69 : decode bb_Mo_goesOn 69 = .ok (.goto (-57), 3) := by decide +kernel
theorem dd_Mo_goesOn_72 : decode bb_Mo_goesOn 72 = .ok (.iconst 0, 1) := by decide +kernel
theorem dd_Mo_goesOn_73 : decode bb_Mo_goesOn 73 = .ok (.ireturn, 1) := by decide +kernel
def f_Mo_goesOn_66 (nf : Nat) (x0 : Nat) (x1 : Int32) (x2 : Int32) (c : Zc) : Option ((Nat × Int32 × Int32 × Zc) ⊕ ((Zc) ⊕ (Zc))) :=
  some (.inl (x0, x1, (x2 + (-1)), c))
def g_Mo_goesOn_12 (nf : Nat) (x0 : Nat) (x1 : Int32) (x2 : Int32) (c : Zc) : Option ((Nat × Int32 × Int32 × Zc) ⊕ ((Zc) ⊕ (Zc))) :=
  if x2 < 0 then (some (.inr (.inr c))) else ((zgr c x0 12 29).bind fun v5 => (zgi c x0 12 25).bind fun v6 => (zai c v5 0 ((8 * v6) + x2)).bind fun v7 => if v7 = x1 then ((zgr c x0 12 74).bind fun v9 => (zai c v9 0 x2).bind fun v10 => (zsi c v9 0 x2 (v10 + 1)).bind fun c11 => (zgr c11 x0 12 74).bind fun v12 => (zai c11 v12 0 x2).bind fun v13 => (zgi c11 x0 12 0).bind fun v14 => if v14 ≤ v13 then ((zgr c11 x0 12 74).bind fun v16 => (zsi c11 v16 0 x2 0).bind fun c17 => f_Mo_goesOn_66 nf x0 x1 x2 c17) else (some (.inr (.inl c11)))) else (f_Mo_goesOn_66 nf x0 x1 x2 c))
def f_Mo_goesOn_12 (nf : Nat) (x0 : Nat) (x1 : Int32) (x2 : Int32) (c : Zc) : Option (Int32 × Zc) :=
  (zlp (fun a => g_Mo_goesOn_12 nf a.1 a.2.1 a.2.2.1 a.2.2.2) nf (x0, x1, x2, c)).bind fun b => Sum.elim (fun b => zrz 1 b) (fun b => zrz 0 b) b
def f_Mo_goesOn (nf : Nat) (a0 : Nat) (a1 : Int32) (c : Zc) : Option (Int32 × Zc) :=
  (zgr c a0 12 26).bind fun v1 => (zgi c a0 12 25).bind fun v2 => (zai c v1 0 v2).bind fun v3 => f_Mo_goesOn_12 nf a0 a1 (v3 - 1) c
set_option maxRecDepth 100000 in
set_option maxHeartbeats 4000000 in
theorem t_Mo_goesOn_66  (X : zX p s m args cd D cid B bb_Mo_goesOn 3 rr_Mo zT) (H : zH s meth B n0 (some (.boolean)) "goesOn") {nf : Nat} {x0 : Nat} {x1 : Int32} {x2 : Int32} {c : Zc} {r : (Nat × Int32 × Int32 × Zc) ⊕ ((Zc) ⊕ (Zc))} (h : f_Mo_goesOn_66 nf x0 x1 x2 c = some r) (k0 : ∀ a, r = .inl a → (fun a : Nat × Int32 × Int32 × Zc => Zz p l e (zRm 0 0 0 0) s m args below meth cd Q D cid B 3 0 0 a.2.2.2 12 [(0, .ref a.1), (1, .int a.2.1), (2, .int a.2.2.1)] []) a) (k1 : ∀ b, r = .inr b → (fun b : (Zc) ⊕ (Zc) => Sum.elim (fun b => Zz p l e (zRm 0 0 0 0) s m args below meth cd Q D cid B 3 0 0 b 57 [] []) (fun b => Zz p l e (zRm 0 0 0 0) s m args below meth cd Q D cid B 3 0 0 b 72 [] []) b) b) : Zz p l e (zRm 0 0 0 0) s m args below meth cd Q D cid B 3 0 0 c 66 [(0, .ref x0), (1, .int x1), (2, .int x2)] [] := by
  unfold f_Mo_goesOn_66 at h
  refine z_iinc (v := (x2 + (-1))) (lv' := [(2, .int (x2 + (-1))), (0, .ref x0), (1, .int x1)]) X dd_Mo_goesOn_66 2 rfl rfl (by decide) rfl ?_
  refine z_goto (tgt := 12) X dd_Mo_goesOn_69 (by decide) ?_
  refine z_sub [1, 2, 0] rfl ?_
  obtain rfl := Option.some.inj h
  exact k0 _ rfl
set_option maxRecDepth 100000 in
set_option maxHeartbeats 4000000 in
theorem u_Mo_goesOn_12  (X : zX p s m args cd D cid B bb_Mo_goesOn 3 rr_Mo zT) (H : zH s meth B n0 (some (.boolean)) "goesOn") {nf : Nat} {x0 : Nat} {x1 : Int32} {x2 : Int32} {c : Zc} {r : (Nat × Int32 × Int32 × Zc) ⊕ ((Zc) ⊕ (Zc))} (h : g_Mo_goesOn_12 nf x0 x1 x2 c = some r) (k0 : ∀ a, r = .inl a → (fun a : Nat × Int32 × Int32 × Zc => Zz p l e (zRm 0 0 0 0) s m args below meth cd Q D cid B 3 0 0 a.2.2.2 12 [(0, .ref a.1), (1, .int a.2.1), (2, .int a.2.2.1)] []) a) (k1 : ∀ b, r = .inr b → (fun b : (Zc) ⊕ (Zc) => Sum.elim (fun b => Zz p l e (zRm 0 0 0 0) s m args below meth cd Q D cid B 3 0 0 b 57 [] []) (fun b => Zz p l e (zRm 0 0 0 0) s m args below meth cd Q D cid B 3 0 0 b 72 [] []) b) b) : Zz p l e (zRm 0 0 0 0) s m args below meth cd Q D cid B 3 0 0 c 12 [(0, .ref x0), (1, .int x1), (2, .int x2)] [] := by
  unfold g_Mo_goesOn_12 at h
  refine z_iload_n X dd_Mo_goesOn_12 rfl 2 rfl ?_
  refine z_if_lt (tgt := 72) X dd_Mo_goesOn_13 (by decide) (fun q4 => ?_) (fun q4 => ?_)
  · rw [if_pos q4] at h
    refine z_sub [] rfl ?_
    obtain rfl := Option.some.inj h
    exact k1 _ rfl
  · rw [if_neg q4] at h
    refine z_aload_n X dd_Mo_goesOn_16 rfl 0 rfl ?_
    obtain ⟨v5, ev5, h⟩ := zb h
    refine z_get (j := 29) X dd_Mo_goesOn_17 kc_12 ki_12 (by decide) km_1550 (zgr_v ev5) ?_
    refine z_bipush (v := 8) X dd_Mo_goesOn_20 (by decide) ?_
    refine z_aload_n X dd_Mo_goesOn_22 rfl 0 rfl ?_
    obtain ⟨v6, ev6, h⟩ := zb h
    refine z_get (j := 25) X dd_Mo_goesOn_23 kc_12 ki_12 (by decide) km_1546 (zgi_v ev6) ?_
    refine z_imul X dd_Mo_goesOn_26 ?_
    refine z_iload_n X dd_Mo_goesOn_27 rfl 2 rfl ?_
    refine z_iadd X dd_Mo_goesOn_28 ?_
    obtain ⟨v7, ev7, h⟩ := zb h
    refine z_iaload X dd_Mo_goesOn_29 rfl ev7 ?_
    refine z_iload_n X dd_Mo_goesOn_30 rfl 1 rfl ?_
    refine z_icmp_ne (tgt := 66) X dd_Mo_goesOn_31 (by decide) (fun q8 => ?_) (fun q8 => ?_)
    · rw [if_neg q8] at h
      exact t_Mo_goesOn_66 X H h k0 k1
    · rw [if_pos q8] at h
      refine z_aload_n X dd_Mo_goesOn_34 rfl 0 rfl ?_
      obtain ⟨v9, ev9, h⟩ := zb h
      refine z_get (j := 74) X dd_Mo_goesOn_35 kc_12 ki_12 (by decide) km_1595 (zgr_v ev9) ?_
      refine z_iload_n X dd_Mo_goesOn_38 rfl 2 rfl ?_
      refine z_dup2_11 X dd_Mo_goesOn_39 rfl rfl ?_
      obtain ⟨v10, ev10, h⟩ := zb h
      refine z_iaload X dd_Mo_goesOn_40 rfl ev10 ?_
      refine z_iconst (v := 1) X dd_Mo_goesOn_41 (by decide) ?_
      refine z_iadd X dd_Mo_goesOn_42 ?_
      obtain ⟨c11, ec11, h⟩ := zb h
      refine z_iastore X dd_Mo_goesOn_43 rfl ec11 ?_
      refine z_aload_n X dd_Mo_goesOn_44 rfl 0 rfl ?_
      obtain ⟨v12, ev12, h⟩ := zb h
      refine z_get (j := 74) X dd_Mo_goesOn_45 kc_12 ki_12 (by decide) km_1595 (zgr_v ev12) ?_
      refine z_iload_n X dd_Mo_goesOn_48 rfl 2 rfl ?_
      obtain ⟨v13, ev13, h⟩ := zb h
      refine z_iaload X dd_Mo_goesOn_49 rfl ev13 ?_
      refine z_aload_n X dd_Mo_goesOn_50 rfl 0 rfl ?_
      obtain ⟨v14, ev14, h⟩ := zb h
      refine z_get (j := 0) X dd_Mo_goesOn_51 kc_12 ki_12 (by decide) km_1521 (zgi_v ev14) ?_
      refine z_icmp_ge (tgt := 59) X dd_Mo_goesOn_54 (by decide) (fun q15 => ?_) (fun q15 => ?_)
      · rw [if_pos q15] at h
        refine z_aload_n X dd_Mo_goesOn_59 rfl 0 rfl ?_
        obtain ⟨v16, ev16, h⟩ := zb h
        refine z_get (j := 74) X dd_Mo_goesOn_60 kc_12 ki_12 (by decide) km_1595 (zgr_v ev16) ?_
        refine z_iload_n X dd_Mo_goesOn_63 rfl 2 rfl ?_
        refine z_iconst (v := 0) X dd_Mo_goesOn_64 (by decide) ?_
        obtain ⟨c17, ec17, h⟩ := zb h
        refine z_iastore X dd_Mo_goesOn_65 rfl ec17 ?_
        exact t_Mo_goesOn_66 X H h k0 k1
      · rw [if_neg q15] at h
        refine z_sub [] rfl ?_
        obtain rfl := Option.some.inj h
        exact k1 _ rfl
set_option maxRecDepth 100000 in
set_option maxHeartbeats 4000000 in
theorem t_Mo_goesOn_12  (X : zX p s m args cd D cid B bb_Mo_goesOn 3 rr_Mo zT) (H : zH s meth B n0 (some (.boolean)) "goesOn") {nf : Nat} {x0 : Nat} {x1 : Int32} {x2 : Int32} {c : Zc} {res : Int32 × Zc} (h : f_Mo_goesOn_12 nf x0 x1 x2 c = some res) : Zz p l e (zRm 0 0 0 0) s m args below meth cd (MQ below (zQi D cid B res.1 res.2 n0 0) args s 0 0 (fun q => B ≤ q)) D cid B 3 0 0 c 12 [(0, .ref x0), (1, .int x1), (2, .int x2)] [] := by
  unfold f_Mo_goesOn_12 at h
  obtain ⟨b, eb, h⟩ := zb h
  refine zlp_ok (P := fun a : Nat × Int32 × Int32 × Zc => Zz p l e (zRm 0 0 0 0) s m args below meth cd _ D cid B 3 0 0 a.2.2.2 12 [(0, .ref a.1), (1, .int a.2.1), (2, .int a.2.2.1)] []) (G := fun b : (Zc) ⊕ (Zc) => Sum.elim (fun b => Zz p l e (zRm 0 0 0 0) s m args below meth cd _ D cid B 3 0 0 b 57 [] []) (fun b => Zz p l e (zRm 0 0 0 0) s m args below meth cd _ D cid B 3 0 0 b 72 [] []) b) (fun a r ha k0 k1 => u_Mo_goesOn_12 X H ha k0 k1) nf _ b eb ?_
  rcases b with b | b
  · simp only [Sum.elim_inl] at h ⊢
    refine z_iconst (v := 1) X dd_Mo_goesOn_57 (by decide) ?_
    obtain ⟨hz, h⟩ := zrz_s h
    obtain rfl := h
    exact z_zret X H.1 (zn_z hz) H.2.1 H.2.2.1 dd_Mo_goesOn_58
  · simp only [Sum.elim_inr] at h ⊢
    refine z_iconst (v := 0) X dd_Mo_goesOn_72 (by decide) ?_
    obtain ⟨hz, h⟩ := zrz_s h
    obtain rfl := h
    exact z_zret X H.1 (zn_z hz) H.2.1 H.2.2.1 dd_Mo_goesOn_73
set_option maxRecDepth 100000 in
set_option maxHeartbeats 4000000 in
theorem c_Mo_goesOn (l : Launch) {nf : Nat} {a0 : Nat} {a1 : Int32} {c : Zc} {res : Int32 × Zc} (h : f_Mo_goesOn nf a0 a1 c = some res) : zM l yy_Mo_goesOn ww_Mo_goesOn 0 0 0 0 [.ref a0, .int a1] c (fun D cid B => zQi D cid B res.1 res.2 c.length 0) := by
  refine z_met (cc := bb_Mo_goesOn) (maxL := 3) (ret := (some (.boolean))) (by decide +kernel) rfl (Nat.le_of_ble_eq_true rfl) ?_
  intro p e s m args below meth cd D cid B X h1 h2 h3 h4
  have X : zX p s m args cd D cid B bb_Mo_goesOn 3 rr_Mo zT := X
  have H : zH s meth B c.length (some (.boolean)) "goesOn" := ⟨h1, h2, h4, h3⟩
  unfold f_Mo_goesOn at h
  show Zz p l e (zRm 0 0 0 0) s m args below meth cd _ D cid B 3 0 0 c 0 [(0, .ref a0), (1, .int a1)] []
  refine z_aload_n X dd_Mo_goesOn_0 rfl 0 rfl ?_
  obtain ⟨v1, ev1, h⟩ := zb h
  refine z_get (j := 26) X dd_Mo_goesOn_1 kc_12 ki_12 (by decide) km_1547 (zgr_v ev1) ?_
  refine z_aload_n X dd_Mo_goesOn_4 rfl 0 rfl ?_
  obtain ⟨v2, ev2, h⟩ := zb h
  refine z_get (j := 25) X dd_Mo_goesOn_5 kc_12 ki_12 (by decide) km_1546 (zgi_v ev2) ?_
  obtain ⟨v3, ev3, h⟩ := zb h
  refine z_iaload X dd_Mo_goesOn_8 rfl ev3 ?_
  refine z_iconst (v := 1) X dd_Mo_goesOn_9 (by decide) ?_
  refine z_isub X dd_Mo_goesOn_10 ?_
  refine z_istore_n (lv' := [(2, .int (v3 - 1)), (0, .ref a0), (1, .int a1)]) X dd_Mo_goesOn_11 rfl (by decide) rfl ?_
  refine z_sub [1, 2, 0] rfl ?_
  exact t_Mo_goesOn_12 X H h
theorem dd_Mo_fits_0 : decode bb_Mo_fits 0 = .ok (.iconst 1, 1) := by decide +kernel
theorem dd_Mo_fits_1 : decode bb_Mo_fits 1 = .ok (.istore_n 2, 1) := by decide +kernel
theorem dd_Mo_fits_2 : decode bb_Mo_fits 2 = .ok (.iconst 0, 1) := by decide +kernel
theorem dd_Mo_fits_3 : decode bb_Mo_fits 3 = .ok (.istore_n 3, 1) := by decide +kernel
theorem dd_Mo_fits_4 : decode bb_Mo_fits 4 = .ok (.iload_n 3, 1) := by decide +kernel
theorem dd_Mo_fits_5 : decode bb_Mo_fits 5 = .ok (.aload_n 0, 1) := by decide +kernel
theorem dd_Mo_fits_6 : decode bb_Mo_fits 6 = .ok (.getfield 65, 3) := by decide +kernel
theorem dd_Mo_fits_9 : decode bb_Mo_fits 9 = .ok (.aload_n 0, 1) := by decide +kernel
theorem dd_Mo_fits_10 : decode bb_Mo_fits 10 = .ok (.getfield 331, 3) := by decide +kernel
theorem dd_Mo_fits_13 : decode bb_Mo_fits 13 = .ok (.iaload, 1) := by decide +kernel
theorem dd_Mo_fits_14 : decode bb_Mo_fits 14 = .ok (.if_icmp .ge 64, 3) := by decide +kernel
theorem dd_Mo_fits_17 : decode bb_Mo_fits 17 = .ok (.iload_n 2, 1) := by decide +kernel
theorem dd_Mo_fits_18 : decode bb_Mo_fits 18 = .ok (.ifCond .eq 60, 3) := by decide +kernel
theorem dd_Mo_fits_21 : decode bb_Mo_fits 21 = .ok (.aload_n 0, 1) := by decide +kernel
theorem dd_Mo_fits_22 : decode bb_Mo_fits 22 = .ok (.getfield 77, 3) := by decide +kernel
theorem dd_Mo_fits_25 : decode bb_Mo_fits 25 = .ok (.bipush 80, 2) := by decide +kernel
theorem dd_Mo_fits_27 : decode bb_Mo_fits 27 = .ok (.aload_n 0, 1) := by decide +kernel
theorem dd_Mo_fits_28 : decode bb_Mo_fits 28 = .ok (.getfield 331, 3) := by decide +kernel
theorem dd_Mo_fits_31 : decode bb_Mo_fits 31 = .ok (.imul, 1) := by decide +kernel
theorem dd_Mo_fits_32 : decode bb_Mo_fits 32 = .ok (.iload_n 1, 1) := by decide +kernel
theorem dd_Mo_fits_33 : decode bb_Mo_fits 33 = .ok (.iadd, 1) := by decide +kernel
theorem dd_Mo_fits_34 : decode bb_Mo_fits 34 = .ok (.bipush 8, 2) := by decide +kernel
theorem dd_Mo_fits_36 : decode bb_Mo_fits 36 = .ok (.imul, 1) := by decide +kernel
theorem dd_Mo_fits_37 : decode bb_Mo_fits 37 = .ok (.iload_n 3, 1) := by decide +kernel
theorem dd_Mo_fits_38 : decode bb_Mo_fits 38 = .ok (.iadd, 1) := by decide +kernel
theorem dd_Mo_fits_39 : decode bb_Mo_fits 39 = .ok (.iaload, 1) := by decide +kernel
theorem dd_Mo_fits_40 : decode bb_Mo_fits 40 = .ok (.istore 4, 2) := by decide +kernel
theorem dd_Mo_fits_42 : decode bb_Mo_fits 42 = .ok (.iload 4, 2) := by decide +kernel
theorem dd_Mo_fits_44 : decode bb_Mo_fits 44 = .ok (.ifCond .eq 22, 3) := by decide +kernel
theorem dd_Mo_fits_47 : decode bb_Mo_fits 47 = .ok (.aload_n 0, 1) := by decide +kernel
theorem dd_Mo_fits_48 : decode bb_Mo_fits 48 = .ok (.getfield 7, 3) := by decide +kernel
theorem dd_Mo_fits_51 : decode bb_Mo_fits 51 = .ok (.aload_n 0, 1) := by decide +kernel
theorem dd_Mo_fits_52 : decode bb_Mo_fits 52 = .ok (.getfield 191, 3) := by decide +kernel
theorem dd_Mo_fits_55 : decode bb_Mo_fits 55 = .ok (.iload_n 3, 1) := by decide +kernel
theorem dd_Mo_fits_56 : decode bb_Mo_fits 56 = .ok (.iaload, 1) := by decide +kernel
theorem dd_Mo_fits_57 : decode bb_Mo_fits 57 = .ok (.iaload, 1) := by decide +kernel
theorem dd_Mo_fits_58 : decode bb_Mo_fits 58 = .ok (.iload 4, 2) := by decide +kernel
theorem dd_Mo_fits_60 : decode bb_Mo_fits 60 = .ok (.iand, 1) := by decide +kernel
theorem dd_Mo_fits_61 : decode bb_Mo_fits 61 = .ok (.iload 4, 2) := by decide +kernel
theorem dd_Mo_fits_63 : decode bb_Mo_fits 63 = .ok (.if_icmp .ne 7, 3) := by decide +kernel
theorem dd_Mo_fits_66 : decode bb_Mo_fits 66 = .ok (.iconst 1, 1) := by decide +kernel
theorem dd_Mo_fits_67 : decode bb_Mo_fits 67 = .ok (.goto 4, 3) := by decide +kernel
theorem dd_Mo_fits_70 : decode bb_Mo_fits 70 = .ok (.iconst 0, 1) := by decide +kernel
theorem dd_Mo_fits_71 : decode bb_Mo_fits 71 = .ok (.istore_n 2, 1) := by decide +kernel
theorem dd_Mo_fits_72 : decode bb_Mo_fits 72 = .ok (.iinc 3 1, 3) := by decide +kernel
theorem dd_Mo_fits_75 : decode bb_Mo_fits 75 = .ok (.goto (-71), 3) := by decide +kernel
theorem dd_Mo_fits_78 : decode bb_Mo_fits 78 = .ok (.bipush 11, 2) := by decide +kernel
theorem dd_Mo_fits_80 : decode bb_Mo_fits 80 = .ok (.aload_n 0, 1) := by decide +kernel
theorem dd_Mo_fits_81 : decode bb_Mo_fits 81 = .ok (.getfield 331, 3) := by decide +kernel
theorem dd_Mo_fits_84 : decode bb_Mo_fits 84 = .ok (.imul, 1) := by decide +kernel
theorem dd_Mo_fits_85 : decode bb_Mo_fits 85 = .ok (.istore_n 3, 1) := by decide +kernel
theorem dd_Mo_fits_86 : decode bb_Mo_fits 86 = .ok (.iload_n 3, 1) := by decide +kernel
theorem dd_Mo_fits_87 : decode bb_Mo_fits 87 = .ok (.bipush 11, 2) := by decide +kernel
theorem dd_Mo_fits_89 : decode bb_Mo_fits 89 = .ok (.aload_n 0, 1) := by decide +kernel
theorem dd_Mo_fits_90 : decode bb_Mo_fits 90 = .ok (.getfield 331, 3) := by decide +kernel
theorem dd_Mo_fits_93 : decode bb_Mo_fits 93 = .ok (.imul, 1) := by decide +kernel
theorem dd_Mo_fits_94 : decode bb_Mo_fits 94 = .ok (.aload_n 0, 1) := by decide +kernel
theorem dd_Mo_fits_95 : decode bb_Mo_fits 95 = .ok (.getfield 80, 3) := by decide +kernel
theorem dd_Mo_fits_98 : decode bb_Mo_fits 98 = .ok (.aload_n 0, 1) := by decide +kernel
theorem dd_Mo_fits_99 : decode bb_Mo_fits 99 = .ok (.getfield 331, 3) := by decide +kernel
theorem dd_Mo_fits_102 : decode bb_Mo_fits 102 = .ok (.iaload, 1) := by decide +kernel
theorem dd_Mo_fits_103 : decode bb_Mo_fits 103 = .ok (.iadd, 1) := by decide +kernel
theorem dd_Mo_fits_104 : decode bb_Mo_fits 104 = .ok (.if_icmp .ge 63, 3) := by decide +kernel
theorem dd_Mo_fits_107 : decode bb_Mo_fits 107 = .ok (.iload_n 2, 1) := by decide +kernel
theorem dd_Mo_fits_108 : decode bb_Mo_fits 108 = .ok (.ifCond .eq 59, 3) := by decide +kernel
theorem dd_Mo_fits_111 : decode bb_Mo_fits 111 = .ok (.aload_n 0, 1) := by decide +kernel
theorem dd_Mo_fits_112 : decode bb_Mo_fits 112 = .ok (.getfield 83, 3) := by decide +kernel
theorem dd_Mo_fits_115 : decode bb_Mo_fits 115 = .ok (.iload_n 3, 1) := by decide +kernel
theorem dd_Mo_fits_116 : decode bb_Mo_fits 116 = .ok (.iaload, 1) := by decide +kernel
theorem dd_Mo_fits_117 : decode bb_Mo_fits 117 = .ok (.iload_n 1, 1) := by decide +kernel
theorem dd_Mo_fits_118 : decode bb_Mo_fits 118 = .ok (.if_icmp .ne 43, 3) := by decide +kernel
theorem dd_Mo_fits_121 : decode bb_Mo_fits 121 = .ok (.aload_n 0, 1) := by decide +kernel
theorem dd_Mo_fits_122 : decode bb_Mo_fits 122 = .ok (.iload_n 3, 1) := by decide +kernel
theorem dd_Mo_fits_123 : decode bb_Mo_fits 123 = .ok (.invokevirtual 460, 3) := by decide +kernel
theorem dd_Mo_fits_126 : decode bb_Mo_fits 126 = .ok (.istore 4, 2) := by decide +kernel
theorem dd_Mo_fits_128 : decode bb_Mo_fits 128 = .ok (.iload 4, 2) := by decide +kernel
theorem dd_Mo_fits_130 : decode bb_Mo_fits 130 = .ok (.ifCond .lt 7, 3) := by decide +kernel
theorem dd_Mo_fits_133 : decode bb_Mo_fits 133 = .ok (.iconst 1, 1) := by decide +kernel
theorem dd_Mo_fits_134 : decode bb_Mo_fits 134 = .ok (.goto 4, 3) := by decide +kernel
theorem dd_Mo_fits_137 : decode bb_Mo_fits 137 = .ok (.iconst 0, 1) := by decide +kernel
theorem dd_Mo_fits_138 : decode bb_Mo_fits 138 = .ok (.istore_n 2, 1) := by decide +kernel
theorem dd_Mo_fits_139 : decode bb_Mo_fits 139 = .ok (.aload_n 0, 1) := by decide +kernel
theorem dd_Mo_fits_140 : decode bb_Mo_fits 140 = .ok (.getfield 92, 3) := by decide +kernel
theorem dd_Mo_fits_143 : decode bb_Mo_fits 143 = .ok (.iload_n 3, 1) := by decide +kernel
theorem dd_Mo_fits_144 : decode bb_Mo_fits 144 = .ok (.iaload, 1) := by decide +kernel
theorem dd_Mo_fits_145 : decode bb_Mo_fits 145 = .ok (.ifCond .lt 16, 3) := by decide +kernel
theorem dd_Mo_fits_148 : decode bb_Mo_fits 148 = .ok (.aload_n 0, 1) := by decide +kernel
theorem dd_Mo_fits_149 : decode bb_Mo_fits 149 = .ok (.getfield 194, 3) := by decide +kernel
theorem dd_Mo_fits_152 : decode bb_Mo_fits 152 = .ok (.aload_n 0, 1) := by decide +kernel
theorem dd_Mo_fits_153 : decode bb_Mo_fits 153 = .ok (.getfield 92, 3) := by decide +kernel
theorem dd_Mo_fits_156 : decode bb_Mo_fits 156 = .ok (.iload_n 3, 1) := by decide +kernel
theorem dd_Mo_fits_157 : decode bb_Mo_fits 157 = .ok (.iaload, 1) := by decide +kernel
theorem dd_Mo_fits_158 : decode bb_Mo_fits 158 = .ok (.iload 4, 2) := by decide +kernel
theorem dd_Mo_fits_160 : decode bb_Mo_fits 160 = .ok (.iastore, 1) := by decide +kernel
theorem dd_Mo_fits_161 : decode bb_Mo_fits 161 = .ok (.iinc 3 1, 3) := by decide +kernel
theorem dd_Mo_fits_164 : decode bb_Mo_fits 164 = .ok (.goto (-78), 3) := by decide +kernel
theorem dd_Mo_fits_167 : decode bb_Mo_fits 167 = .ok (.iload_n 2, 1) := by decide +kernel
theorem dd_Mo_fits_168 : decode bb_Mo_fits 168 = .ok (.ireturn, 1) := by decide +kernel
def f_Mo_fits_71 (nf : Nat) (x0 : Nat) (x1 : Int32) (x3 : Int32) (s0 : Int32) (c : Zc) : Option ((Nat × Int32 × Int32 × Int32 × Zc) ⊕ (Nat × Int32 × Int32 × Zc)) :=
  some (.inl (x0, x1, s0, (x3 + 1), c))
def f_Mo_fits_66 (nf : Nat) (x0 : Nat) (x1 : Int32) (x3 : Int32) (c : Zc) : Option ((Nat × Int32 × Int32 × Int32 × Zc) ⊕ (Nat × Int32 × Int32 × Zc)) :=
  f_Mo_fits_71 nf x0 x1 x3 1 c
def g_Mo_fits_4 (nf : Nat) (x0 : Nat) (x1 : Int32) (x2 : Int32) (x3 : Int32) (c : Zc) : Option ((Nat × Int32 × Int32 × Int32 × Zc) ⊕ (Nat × Int32 × Int32 × Zc)) :=
  (zgr c x0 12 26).bind fun v1 => (zgi c x0 12 25).bind fun v2 => (zai c v1 0 v2).bind fun v3 => if v3 ≤ x3 then (some (.inr (x0, x1, x2, c))) else (if x2 = 0 then (some (.inr (x0, x1, x2, c))) else ((zgr c x0 12 30).bind fun v6 => (zgi c x0 12 25).bind fun v7 => (zai c v6 0 ((((80 * v7) + x1) * 8) + x3)).bind fun v8 => if v8 = 0 then (f_Mo_fits_66 nf x0 x1 x3 c) else ((zgr c x0 12 1).bind fun v10 => (zgr c x0 12 74).bind fun v11 => (zai c v11 0 x3).bind fun v12 => (zai c v10 0 v12).bind fun v13 => if (v13 &&& v8) = v8 then (f_Mo_fits_66 nf x0 x1 x3 c) else (f_Mo_fits_71 nf x0 x1 x3 0 c))))
def f_Mo_fits_161 (nf : Nat) (x0 : Nat) (x1 : Int32) (x2 : Int32) (x3 : Int32) (c : Zc) : Option ((Nat × Int32 × Int32 × Int32 × Zc) ⊕ (Int32 × Zc)) :=
  some (.inl (x0, x1, x2, (x3 + 1), c))
def f_Mo_fits_138 (nf : Nat) (x0 : Nat) (x1 : Int32) (x3 : Int32) (x4 : Int32) (s0 : Int32) (c : Zc) : Option ((Nat × Int32 × Int32 × Int32 × Zc) ⊕ (Int32 × Zc)) :=
  (zgr c x0 12 35).bind fun v28 => (zai c v28 0 x3).bind fun v29 => if v29 < 0 then (f_Mo_fits_161 nf x0 x1 s0 x3 c) else ((zgr c x0 12 75).bind fun v31 => (zgr c x0 12 35).bind fun v32 => (zai c v32 0 x3).bind fun v33 => (zsi c v31 0 v33 x4).bind fun c34 => f_Mo_fits_161 nf x0 x1 s0 x3 c34)
def g_Mo_fits_86 (nf : Nat) (x0 : Nat) (x1 : Int32) (x2 : Int32) (x3 : Int32) (c : Zc) : Option ((Nat × Int32 × Int32 × Int32 × Zc) ⊕ (Int32 × Zc)) :=
  (zgi c x0 12 25).bind fun v16 => (zgr c x0 12 31).bind fun v17 => (zgi c x0 12 25).bind fun v18 => (zai c v17 0 v18).bind fun v19 => if ((11 * v16) + v19) ≤ x3 then (some (.inr (x2, c))) else (if x2 = 0 then (some (.inr (x2, c))) else ((zgr c x0 12 32).bind fun v22 => (zai c v22 0 x3).bind fun v23 => if v23 = x1 then ((zob c x0 12).bind fun w26 => (f_Mo_distance nf x0 x3 c).bind fun q25 => if q25.1 < 0 then (f_Mo_fits_138 nf x0 x1 x3 q25.1 0 q25.2) else (f_Mo_fits_138 nf x0 x1 x3 q25.1 1 q25.2)) else (f_Mo_fits_161 nf x0 x1 x2 x3 c)))
def f_Mo_fits_167 (nf : Nat) (x2 : Int32) (c : Zc) : Option (Int32 × Zc) :=
  zrz x2 c
def f_Mo_fits_86 (nf : Nat) (x0 : Nat) (x1 : Int32) (x2 : Int32) (x3 : Int32) (c : Zc) : Option (Int32 × Zc) :=
  (zlp (fun a => g_Mo_fits_86 nf a.1 a.2.1 a.2.2.1 a.2.2.2.1 a.2.2.2.2) nf (x0, x1, x2, x3, c)).bind fun b => f_Mo_fits_167 nf b.1 b.2
def f_Mo_fits_78 (nf : Nat) (x0 : Nat) (x1 : Int32) (x2 : Int32) (c : Zc) : Option (Int32 × Zc) :=
  (zgi c x0 12 25).bind fun v15 => f_Mo_fits_86 nf x0 x1 x2 (11 * v15) c
def f_Mo_fits_4 (nf : Nat) (x0 : Nat) (x1 : Int32) (x2 : Int32) (x3 : Int32) (c : Zc) : Option (Int32 × Zc) :=
  (zlp (fun a => g_Mo_fits_4 nf a.1 a.2.1 a.2.2.1 a.2.2.2.1 a.2.2.2.2) nf (x0, x1, x2, x3, c)).bind fun b => f_Mo_fits_78 nf b.1 b.2.1 b.2.2.1 b.2.2.2
def f_Mo_fits (nf : Nat) (a0 : Nat) (a1 : Int32) (c : Zc) : Option (Int32 × Zc) :=
  f_Mo_fits_4 nf a0 a1 1 0 c
set_option maxRecDepth 100000 in
set_option maxHeartbeats 4000000 in
theorem t_Mo_fits_71  (X : zX p s m args cd D cid B bb_Mo_fits 5 rr_Mo zT) (H : zH s meth B n0 (some (.boolean)) "fits") {nf : Nat} {x0 : Nat} {x1 : Int32} {x3 : Int32} {s0 : Int32} {c : Zc} {r : (Nat × Int32 × Int32 × Int32 × Zc) ⊕ (Nat × Int32 × Int32 × Zc)} (h : f_Mo_fits_71 nf x0 x1 x3 s0 c = some r) (k0 : ∀ a, r = .inl a → (fun a : Nat × Int32 × Int32 × Int32 × Zc => Zz p l e (zRm 1 21 0 0) s m args below meth cd Q D cid B 5 0 0 a.2.2.2.2 4 [(0, .ref a.1), (1, .int a.2.1), (2, .int a.2.2.1), (3, .int a.2.2.2.1)] []) a) (k1 : ∀ b, r = .inr b → (fun b : Nat × Int32 × Int32 × Zc => Zz p l e (zRm 1 21 0 0) s m args below meth cd Q D cid B 5 0 0 b.2.2.2 78 [(0, .ref b.1), (1, .int b.2.1), (2, .int b.2.2.1)] []) b) : Zz p l e (zRm 1 21 0 0) s m args below meth cd Q D cid B 5 0 0 c 71 [(0, .ref x0), (1, .int x1), (3, .int x3)] [.int s0] := by
  unfold f_Mo_fits_71 at h
  refine z_istore_n (lv' := [(2, .int s0), (0, .ref x0), (1, .int x1), (3, .int x3)]) X dd_Mo_fits_71 rfl (by decide) rfl ?_
  refine z_iinc (v := (x3 + 1)) (lv' := [(3, .int (x3 + 1)), (2, .int s0), (0, .ref x0), (1, .int x1)]) X dd_Mo_fits_72 3 rfl rfl (by decide) rfl ?_
  refine z_goto (tgt := 4) X dd_Mo_fits_75 (by decide) ?_
  refine z_sub [2, 3, 1, 0] rfl ?_
  obtain rfl := Option.some.inj h
  exact k0 _ rfl
set_option maxRecDepth 100000 in
set_option maxHeartbeats 4000000 in
theorem t_Mo_fits_66  (X : zX p s m args cd D cid B bb_Mo_fits 5 rr_Mo zT) (H : zH s meth B n0 (some (.boolean)) "fits") {nf : Nat} {x0 : Nat} {x1 : Int32} {x3 : Int32} {c : Zc} {r : (Nat × Int32 × Int32 × Int32 × Zc) ⊕ (Nat × Int32 × Int32 × Zc)} (h : f_Mo_fits_66 nf x0 x1 x3 c = some r) (k0 : ∀ a, r = .inl a → (fun a : Nat × Int32 × Int32 × Int32 × Zc => Zz p l e (zRm 1 21 0 0) s m args below meth cd Q D cid B 5 0 0 a.2.2.2.2 4 [(0, .ref a.1), (1, .int a.2.1), (2, .int a.2.2.1), (3, .int a.2.2.2.1)] []) a) (k1 : ∀ b, r = .inr b → (fun b : Nat × Int32 × Int32 × Zc => Zz p l e (zRm 1 21 0 0) s m args below meth cd Q D cid B 5 0 0 b.2.2.2 78 [(0, .ref b.1), (1, .int b.2.1), (2, .int b.2.2.1)] []) b) : Zz p l e (zRm 1 21 0 0) s m args below meth cd Q D cid B 5 0 0 c 66 [(0, .ref x0), (1, .int x1), (3, .int x3)] [] := by
  unfold f_Mo_fits_66 at h
  refine z_iconst (v := 1) X dd_Mo_fits_66 (by decide) ?_
  refine z_goto (tgt := 71) X dd_Mo_fits_67 (by decide) ?_
  exact t_Mo_fits_71 X H h k0 k1
set_option maxRecDepth 100000 in
set_option maxHeartbeats 4000000 in
theorem u_Mo_fits_4  (X : zX p s m args cd D cid B bb_Mo_fits 5 rr_Mo zT) (H : zH s meth B n0 (some (.boolean)) "fits") {nf : Nat} {x0 : Nat} {x1 : Int32} {x2 : Int32} {x3 : Int32} {c : Zc} {r : (Nat × Int32 × Int32 × Int32 × Zc) ⊕ (Nat × Int32 × Int32 × Zc)} (h : g_Mo_fits_4 nf x0 x1 x2 x3 c = some r) (k0 : ∀ a, r = .inl a → (fun a : Nat × Int32 × Int32 × Int32 × Zc => Zz p l e (zRm 1 21 0 0) s m args below meth cd Q D cid B 5 0 0 a.2.2.2.2 4 [(0, .ref a.1), (1, .int a.2.1), (2, .int a.2.2.1), (3, .int a.2.2.2.1)] []) a) (k1 : ∀ b, r = .inr b → (fun b : Nat × Int32 × Int32 × Zc => Zz p l e (zRm 1 21 0 0) s m args below meth cd Q D cid B 5 0 0 b.2.2.2 78 [(0, .ref b.1), (1, .int b.2.1), (2, .int b.2.2.1)] []) b) : Zz p l e (zRm 1 21 0 0) s m args below meth cd Q D cid B 5 0 0 c 4 [(0, .ref x0), (1, .int x1), (2, .int x2), (3, .int x3)] [] := by
  unfold g_Mo_fits_4 at h
  refine z_iload_n X dd_Mo_fits_4 rfl 3 rfl ?_
  refine z_aload_n X dd_Mo_fits_5 rfl 0 rfl ?_
  obtain ⟨v1, ev1, h⟩ := zb h
  refine z_get (j := 26) X dd_Mo_fits_6 kc_12 ki_12 (by decide) km_1547 (zgr_v ev1) ?_
  refine z_aload_n X dd_Mo_fits_9 rfl 0 rfl ?_
  obtain ⟨v2, ev2, h⟩ := zb h
  refine z_get (j := 25) X dd_Mo_fits_10 kc_12 ki_12 (by decide) km_1546 (zgi_v ev2) ?_
  obtain ⟨v3, ev3, h⟩ := zb h
  refine z_iaload X dd_Mo_fits_13 rfl ev3 ?_
  refine z_icmp_ge (tgt := 78) X dd_Mo_fits_14 (by decide) (fun q4 => ?_) (fun q4 => ?_)
  · rw [if_pos q4] at h
    refine z_sub [0, 1, 2] rfl ?_
    obtain rfl := Option.some.inj h
    exact k1 _ rfl
  · rw [if_neg q4] at h
    refine z_iload_n X dd_Mo_fits_17 rfl 2 rfl ?_
    refine z_if_eq (tgt := 78) X dd_Mo_fits_18 (by decide) (fun q5 => ?_) (fun q5 => ?_)
    · rw [if_pos q5] at h
      refine z_sub [0, 1, 2] rfl ?_
      obtain rfl := Option.some.inj h
      exact k1 _ rfl
    · rw [if_neg q5] at h
      refine z_aload_n X dd_Mo_fits_21 rfl 0 rfl ?_
      obtain ⟨v6, ev6, h⟩ := zb h
      refine z_get (j := 30) X dd_Mo_fits_22 kc_12 ki_12 (by decide) km_1551 (zgr_v ev6) ?_
      refine z_bipush (v := 80) X dd_Mo_fits_25 (by decide) ?_
      refine z_aload_n X dd_Mo_fits_27 rfl 0 rfl ?_
      obtain ⟨v7, ev7, h⟩ := zb h
      refine z_get (j := 25) X dd_Mo_fits_28 kc_12 ki_12 (by decide) km_1546 (zgi_v ev7) ?_
      refine z_imul X dd_Mo_fits_31 ?_
      refine z_iload_n X dd_Mo_fits_32 rfl 1 rfl ?_
      refine z_iadd X dd_Mo_fits_33 ?_
      refine z_bipush (v := 8) X dd_Mo_fits_34 (by decide) ?_
      refine z_imul X dd_Mo_fits_36 ?_
      refine z_iload_n X dd_Mo_fits_37 rfl 3 rfl ?_
      refine z_iadd X dd_Mo_fits_38 ?_
      obtain ⟨v8, ev8, h⟩ := zb h
      refine z_iaload X dd_Mo_fits_39 rfl ev8 ?_
      refine z_istore (lv' := [(4, .int v8), (0, .ref x0), (1, .int x1), (2, .int x2), (3, .int x3)]) X dd_Mo_fits_40 (by decide) rfl ?_
      refine z_iload X dd_Mo_fits_42 0 rfl ?_
      refine z_if_eq (tgt := 66) X dd_Mo_fits_44 (by decide) (fun q9 => ?_) (fun q9 => ?_)
      · rw [if_pos q9] at h
        refine z_sub [1, 2, 4] rfl ?_
        exact t_Mo_fits_66 X H h k0 k1
      · rw [if_neg q9] at h
        refine z_aload_n X dd_Mo_fits_47 rfl 1 rfl ?_
        obtain ⟨v10, ev10, h⟩ := zb h
        refine z_get (j := 1) X dd_Mo_fits_48 kc_12 ki_12 (by decide) km_1522 (zgr_v ev10) ?_
        refine z_aload_n X dd_Mo_fits_51 rfl 1 rfl ?_
        obtain ⟨v11, ev11, h⟩ := zb h
        refine z_get (j := 74) X dd_Mo_fits_52 kc_12 ki_12 (by decide) km_1595 (zgr_v ev11) ?_
        refine z_iload_n X dd_Mo_fits_55 rfl 4 rfl ?_
        obtain ⟨v12, ev12, h⟩ := zb h
        refine z_iaload X dd_Mo_fits_56 rfl ev12 ?_
        obtain ⟨v13, ev13, h⟩ := zb h
        refine z_iaload X dd_Mo_fits_57 rfl ev13 ?_
        refine z_iload X dd_Mo_fits_58 0 rfl ?_
        refine z_iand X dd_Mo_fits_60 ?_
        refine z_iload X dd_Mo_fits_61 0 rfl ?_
        refine z_icmp_ne (tgt := 70) X dd_Mo_fits_63 (by decide) (fun q14 => ?_) (fun q14 => ?_)
        · rw [if_neg q14] at h
          refine z_iconst (v := 0) X dd_Mo_fits_70 (by decide) ?_
          refine z_sub [1, 2, 4] rfl ?_
          exact t_Mo_fits_71 X H h k0 k1
        · rw [if_pos q14] at h
          refine z_sub [1, 2, 4] rfl ?_
          exact t_Mo_fits_66 X H h k0 k1
set_option maxRecDepth 100000 in
set_option maxHeartbeats 4000000 in
theorem t_Mo_fits_161  (X : zX p s m args cd D cid B bb_Mo_fits 5 rr_Mo zT) (H : zH s meth B n0 (some (.boolean)) "fits") {nf : Nat} {x0 : Nat} {x1 : Int32} {x2 : Int32} {x3 : Int32} {c : Zc} {r : (Nat × Int32 × Int32 × Int32 × Zc) ⊕ (Int32 × Zc)} (h : f_Mo_fits_161 nf x0 x1 x2 x3 c = some r) (k0 : ∀ a, r = .inl a → (fun a : Nat × Int32 × Int32 × Int32 × Zc => Zz p l e (zRm 1 21 0 0) s m args below meth cd Q D cid B 5 0 0 a.2.2.2.2 86 [(0, .ref a.1), (1, .int a.2.1), (2, .int a.2.2.1), (3, .int a.2.2.2.1)] []) a) (k1 : ∀ b, r = .inr b → (fun b : Int32 × Zc => Zz p l e (zRm 1 21 0 0) s m args below meth cd Q D cid B 5 0 0 b.2 167 [(2, .int b.1)] []) b) : Zz p l e (zRm 1 21 0 0) s m args below meth cd Q D cid B 5 0 0 c 161 [(0, .ref x0), (1, .int x1), (2, .int x2), (3, .int x3)] [] := by
  unfold f_Mo_fits_161 at h
  refine z_iinc (v := (x3 + 1)) (lv' := [(3, .int (x3 + 1)), (0, .ref x0), (1, .int x1), (2, .int x2)]) X dd_Mo_fits_161 3 rfl rfl (by decide) rfl ?_
  refine z_goto (tgt := 86) X dd_Mo_fits_164 (by decide) ?_
  refine z_sub [1, 2, 3, 0] rfl ?_
  obtain rfl := Option.some.inj h
  exact k0 _ rfl
set_option maxRecDepth 100000 in
set_option maxHeartbeats 4000000 in
theorem t_Mo_fits_138  (X : zX p s m args cd D cid B bb_Mo_fits 5 rr_Mo zT) (H : zH s meth B n0 (some (.boolean)) "fits") {nf : Nat} {x0 : Nat} {x1 : Int32} {x3 : Int32} {x4 : Int32} {s0 : Int32} {c : Zc} {r : (Nat × Int32 × Int32 × Int32 × Zc) ⊕ (Int32 × Zc)} (h : f_Mo_fits_138 nf x0 x1 x3 x4 s0 c = some r) (k0 : ∀ a, r = .inl a → (fun a : Nat × Int32 × Int32 × Int32 × Zc => Zz p l e (zRm 1 21 0 0) s m args below meth cd Q D cid B 5 0 0 a.2.2.2.2 86 [(0, .ref a.1), (1, .int a.2.1), (2, .int a.2.2.1), (3, .int a.2.2.2.1)] []) a) (k1 : ∀ b, r = .inr b → (fun b : Int32 × Zc => Zz p l e (zRm 1 21 0 0) s m args below meth cd Q D cid B 5 0 0 b.2 167 [(2, .int b.1)] []) b) : Zz p l e (zRm 1 21 0 0) s m args below meth cd Q D cid B 5 0 0 c 138 [(0, .ref x0), (1, .int x1), (3, .int x3), (4, .int x4)] [.int s0] := by
  unfold f_Mo_fits_138 at h
  refine z_istore_n (lv' := [(2, .int s0), (0, .ref x0), (1, .int x1), (3, .int x3), (4, .int x4)]) X dd_Mo_fits_138 rfl (by decide) rfl ?_
  refine z_aload_n X dd_Mo_fits_139 rfl 1 rfl ?_
  obtain ⟨v28, ev28, h⟩ := zb h
  refine z_get (j := 35) X dd_Mo_fits_140 kc_12 ki_12 (by decide) km_1556 (zgr_v ev28) ?_
  refine z_iload_n X dd_Mo_fits_143 rfl 3 rfl ?_
  obtain ⟨v29, ev29, h⟩ := zb h
  refine z_iaload X dd_Mo_fits_144 rfl ev29 ?_
  refine z_if_lt (tgt := 161) X dd_Mo_fits_145 (by decide) (fun q30 => ?_) (fun q30 => ?_)
  · rw [if_pos q30] at h
    refine z_sub [1, 2, 0, 3] rfl ?_
    exact t_Mo_fits_161 X H h k0 k1
  · rw [if_neg q30] at h
    refine z_aload_n X dd_Mo_fits_148 rfl 1 rfl ?_
    obtain ⟨v31, ev31, h⟩ := zb h
    refine z_get (j := 75) X dd_Mo_fits_149 kc_12 ki_12 (by decide) km_1596 (zgr_v ev31) ?_
    refine z_aload_n X dd_Mo_fits_152 rfl 1 rfl ?_
    obtain ⟨v32, ev32, h⟩ := zb h
    refine z_get (j := 35) X dd_Mo_fits_153 kc_12 ki_12 (by decide) km_1556 (zgr_v ev32) ?_
    refine z_iload_n X dd_Mo_fits_156 rfl 3 rfl ?_
    obtain ⟨v33, ev33, h⟩ := zb h
    refine z_iaload X dd_Mo_fits_157 rfl ev33 ?_
    refine z_iload X dd_Mo_fits_158 4 rfl ?_
    obtain ⟨c34, ec34, h⟩ := zb h
    refine z_iastore X dd_Mo_fits_160 rfl ec34 ?_
    refine z_sub [1, 2, 0, 3] rfl ?_
    exact t_Mo_fits_161 X H h k0 k1
set_option maxRecDepth 100000 in
set_option maxHeartbeats 4000000 in
theorem u_Mo_fits_86  (X : zX p s m args cd D cid B bb_Mo_fits 5 rr_Mo zT) (H : zH s meth B n0 (some (.boolean)) "fits") {nf : Nat} {x0 : Nat} {x1 : Int32} {x2 : Int32} {x3 : Int32} {c : Zc} {r : (Nat × Int32 × Int32 × Int32 × Zc) ⊕ (Int32 × Zc)} (h : g_Mo_fits_86 nf x0 x1 x2 x3 c = some r) (k0 : ∀ a, r = .inl a → (fun a : Nat × Int32 × Int32 × Int32 × Zc => Zz p l e (zRm 1 21 0 0) s m args below meth cd Q D cid B 5 0 0 a.2.2.2.2 86 [(0, .ref a.1), (1, .int a.2.1), (2, .int a.2.2.1), (3, .int a.2.2.2.1)] []) a) (k1 : ∀ b, r = .inr b → (fun b : Int32 × Zc => Zz p l e (zRm 1 21 0 0) s m args below meth cd Q D cid B 5 0 0 b.2 167 [(2, .int b.1)] []) b) : Zz p l e (zRm 1 21 0 0) s m args below meth cd Q D cid B 5 0 0 c 86 [(0, .ref x0), (1, .int x1), (2, .int x2), (3, .int x3)] [] := by
  unfold g_Mo_fits_86 at h
  refine z_iload_n X dd_Mo_fits_86 rfl 3 rfl ?_
  refine z_bipush (v := 11) X dd_Mo_fits_87 (by decide) ?_
  refine z_aload_n X dd_Mo_fits_89 rfl 0 rfl ?_
  obtain ⟨v16, ev16, h⟩ := zb h
  refine z_get (j := 25) X dd_Mo_fits_90 kc_12 ki_12 (by decide) km_1546 (zgi_v ev16) ?_
  refine z_imul X dd_Mo_fits_93 ?_
  refine z_aload_n X dd_Mo_fits_94 rfl 0 rfl ?_
  obtain ⟨v17, ev17, h⟩ := zb h
  refine z_get (j := 31) X dd_Mo_fits_95 kc_12 ki_12 (by decide) km_1552 (zgr_v ev17) ?_
  refine z_aload_n X dd_Mo_fits_98 rfl 0 rfl ?_
  obtain ⟨v18, ev18, h⟩ := zb h
  refine z_get (j := 25) X dd_Mo_fits_99 kc_12 ki_12 (by decide) km_1546 (zgi_v ev18) ?_
  obtain ⟨v19, ev19, h⟩ := zb h
  refine z_iaload X dd_Mo_fits_102 rfl ev19 ?_
  refine z_iadd X dd_Mo_fits_103 ?_
  refine z_icmp_ge (tgt := 167) X dd_Mo_fits_104 (by decide) (fun q20 => ?_) (fun q20 => ?_)
  · rw [if_pos q20] at h
    refine z_sub [2] rfl ?_
    obtain rfl := Option.some.inj h
    exact k1 _ rfl
  · rw [if_neg q20] at h
    refine z_iload_n X dd_Mo_fits_107 rfl 2 rfl ?_
    refine z_if_eq (tgt := 167) X dd_Mo_fits_108 (by decide) (fun q21 => ?_) (fun q21 => ?_)
    · rw [if_pos q21] at h
      refine z_sub [2] rfl ?_
      obtain rfl := Option.some.inj h
      exact k1 _ rfl
    · rw [if_neg q21] at h
      refine z_aload_n X dd_Mo_fits_111 rfl 0 rfl ?_
      obtain ⟨v22, ev22, h⟩ := zb h
      refine z_get (j := 32) X dd_Mo_fits_112 kc_12 ki_12 (by decide) km_1553 (zgr_v ev22) ?_
      refine z_iload_n X dd_Mo_fits_115 rfl 3 rfl ?_
      obtain ⟨v23, ev23, h⟩ := zb h
      refine z_iaload X dd_Mo_fits_116 rfl ev23 ?_
      refine z_iload_n X dd_Mo_fits_117 rfl 1 rfl ?_
      refine z_icmp_ne (tgt := 161) X dd_Mo_fits_118 (by decide) (fun q24 => ?_) (fun q24 => ?_)
      · rw [if_neg q24] at h
        exact t_Mo_fits_161 X H h k0 k1
      · rw [if_pos q24] at h
        refine z_aload_n X dd_Mo_fits_121 rfl 0 rfl ?_
        refine z_iload_n X dd_Mo_fits_122 rfl 3 rfl ?_
        obtain ⟨w26, ew26, h⟩ := zb h
        obtain ⟨q25, eq25, h⟩ := zb h
        refine z_callVi X [.int x3] rfl dd_Mo_fits_123 (c_Mo_distance l eq25) (cwV 1 X.1.2.2.2.2 (zg_V km_2109 km_2111 km_114 km_138 km_2112) rfl rfl rfl (by decide +kernel) ⟨Nat.le_of_ble_eq_true rfl, Nat.le_of_ble_eq_true rfl⟩) (zob_s ew26) kc_12 rfl (Nat.le_of_ble_eq_true rfl) ⟨Nat.le_of_ble_eq_true rfl, Nat.le_of_ble_eq_true rfl⟩ ?_
        refine z_istore (lv' := [(4, .int q25.1), (0, .ref x0), (1, .int x1), (2, .int x2), (3, .int x3)]) X dd_Mo_fits_126 (by decide) rfl ?_
        refine z_iload X dd_Mo_fits_128 0 rfl ?_
        refine z_if_lt (tgt := 137) X dd_Mo_fits_130 (by decide) (fun q27 => ?_) (fun q27 => ?_)
        · rw [if_pos q27] at h
          refine z_iconst (v := 0) X dd_Mo_fits_137 (by decide) ?_
          refine z_sub [1, 2, 4, 0] rfl ?_
          exact t_Mo_fits_138 X H h k0 k1
        · rw [if_neg q27] at h
          refine z_iconst (v := 1) X dd_Mo_fits_133 (by decide) ?_
          refine z_goto (tgt := 138) X dd_Mo_fits_134 (by decide) ?_
          refine z_sub [1, 2, 4, 0] rfl ?_
          exact t_Mo_fits_138 X H h k0 k1
set_option maxRecDepth 100000 in
set_option maxHeartbeats 4000000 in
theorem t_Mo_fits_167  (X : zX p s m args cd D cid B bb_Mo_fits 5 rr_Mo zT) (H : zH s meth B n0 (some (.boolean)) "fits") {nf : Nat} {x2 : Int32} {c : Zc} {res : Int32 × Zc} (h : f_Mo_fits_167 nf x2 c = some res) : Zz p l e (zRm 1 21 0 0) s m args below meth cd (MQ below (zQi D cid B res.1 res.2 n0 0) args s 0 0 (fun q => B ≤ q)) D cid B 5 0 0 c 167 [(2, .int x2)] [] := by
  unfold f_Mo_fits_167 at h
  refine z_iload_n X dd_Mo_fits_167 rfl 0 rfl ?_
  obtain ⟨hz, h⟩ := zrz_s h
  obtain rfl := h
  exact z_zret X H.1 (zn_z hz) H.2.1 H.2.2.1 dd_Mo_fits_168
set_option maxRecDepth 100000 in
set_option maxHeartbeats 4000000 in
theorem t_Mo_fits_86  (X : zX p s m args cd D cid B bb_Mo_fits 5 rr_Mo zT) (H : zH s meth B n0 (some (.boolean)) "fits") {nf : Nat} {x0 : Nat} {x1 : Int32} {x2 : Int32} {x3 : Int32} {c : Zc} {res : Int32 × Zc} (h : f_Mo_fits_86 nf x0 x1 x2 x3 c = some res) : Zz p l e (zRm 1 21 0 0) s m args below meth cd (MQ below (zQi D cid B res.1 res.2 n0 0) args s 0 0 (fun q => B ≤ q)) D cid B 5 0 0 c 86 [(0, .ref x0), (1, .int x1), (2, .int x2), (3, .int x3)] [] := by
  unfold f_Mo_fits_86 at h
  obtain ⟨b, eb, h⟩ := zb h
  refine zlp_ok (P := fun a : Nat × Int32 × Int32 × Int32 × Zc => Zz p l e (zRm 1 21 0 0) s m args below meth cd _ D cid B 5 0 0 a.2.2.2.2 86 [(0, .ref a.1), (1, .int a.2.1), (2, .int a.2.2.1), (3, .int a.2.2.2.1)] []) (G := fun b : Int32 × Zc => Zz p l e (zRm 1 21 0 0) s m args below meth cd _ D cid B 5 0 0 b.2 167 [(2, .int b.1)] []) (fun a r ha k0 k1 => u_Mo_fits_86 X H ha k0 k1) nf _ b eb ?_
  exact t_Mo_fits_167 X H h
set_option maxRecDepth 100000 in
set_option maxHeartbeats 4000000 in
theorem t_Mo_fits_78  (X : zX p s m args cd D cid B bb_Mo_fits 5 rr_Mo zT) (H : zH s meth B n0 (some (.boolean)) "fits") {nf : Nat} {x0 : Nat} {x1 : Int32} {x2 : Int32} {c : Zc} {res : Int32 × Zc} (h : f_Mo_fits_78 nf x0 x1 x2 c = some res) : Zz p l e (zRm 1 21 0 0) s m args below meth cd (MQ below (zQi D cid B res.1 res.2 n0 0) args s 0 0 (fun q => B ≤ q)) D cid B 5 0 0 c 78 [(0, .ref x0), (1, .int x1), (2, .int x2)] [] := by
  unfold f_Mo_fits_78 at h
  refine z_bipush (v := 11) X dd_Mo_fits_78 (by decide) ?_
  refine z_aload_n X dd_Mo_fits_80 rfl 0 rfl ?_
  obtain ⟨v15, ev15, h⟩ := zb h
  refine z_get (j := 25) X dd_Mo_fits_81 kc_12 ki_12 (by decide) km_1546 (zgi_v ev15) ?_
  refine z_imul X dd_Mo_fits_84 ?_
  refine z_istore_n (lv' := [(3, .int (11 * v15)), (0, .ref x0), (1, .int x1), (2, .int x2)]) X dd_Mo_fits_85 rfl (by decide) rfl ?_
  refine z_sub [1, 2, 3, 0] rfl ?_
  exact t_Mo_fits_86 X H h
set_option maxRecDepth 100000 in
set_option maxHeartbeats 4000000 in
theorem t_Mo_fits_4  (X : zX p s m args cd D cid B bb_Mo_fits 5 rr_Mo zT) (H : zH s meth B n0 (some (.boolean)) "fits") {nf : Nat} {x0 : Nat} {x1 : Int32} {x2 : Int32} {x3 : Int32} {c : Zc} {res : Int32 × Zc} (h : f_Mo_fits_4 nf x0 x1 x2 x3 c = some res) : Zz p l e (zRm 1 21 0 0) s m args below meth cd (MQ below (zQi D cid B res.1 res.2 n0 0) args s 0 0 (fun q => B ≤ q)) D cid B 5 0 0 c 4 [(0, .ref x0), (1, .int x1), (2, .int x2), (3, .int x3)] [] := by
  unfold f_Mo_fits_4 at h
  obtain ⟨b, eb, h⟩ := zb h
  refine zlp_ok (P := fun a : Nat × Int32 × Int32 × Int32 × Zc => Zz p l e (zRm 1 21 0 0) s m args below meth cd _ D cid B 5 0 0 a.2.2.2.2 4 [(0, .ref a.1), (1, .int a.2.1), (2, .int a.2.2.1), (3, .int a.2.2.2.1)] []) (G := fun b : Nat × Int32 × Int32 × Zc => Zz p l e (zRm 1 21 0 0) s m args below meth cd _ D cid B 5 0 0 b.2.2.2 78 [(0, .ref b.1), (1, .int b.2.1), (2, .int b.2.2.1)] []) (fun a r ha k0 k1 => u_Mo_fits_4 X H ha k0 k1) nf _ b eb ?_
  exact t_Mo_fits_78 X H h
set_option maxRecDepth 100000 in
set_option maxHeartbeats 4000000 in
theorem c_Mo_fits (l : Launch) {nf : Nat} {a0 : Nat} {a1 : Int32} {c : Zc} {res : Int32 × Zc} (h : f_Mo_fits nf a0 a1 c = some res) : zM l yy_Mo_fits ww_Mo_fits 1 21 0 0 [.ref a0, .int a1] c (fun D cid B => zQi D cid B res.1 res.2 c.length 0) := by
  refine z_met (cc := bb_Mo_fits) (maxL := 5) (ret := (some (.boolean))) (by decide +kernel) rfl (Nat.le_of_ble_eq_true rfl) ?_
  intro p e s m args below meth cd D cid B X h1 h2 h3 h4
  have X : zX p s m args cd D cid B bb_Mo_fits 5 rr_Mo zT := X
  have H : zH s meth B c.length (some (.boolean)) "fits" := ⟨h1, h2, h4, h3⟩
  unfold f_Mo_fits at h
  show Zz p l e (zRm 1 21 0 0) s m args below meth cd _ D cid B 5 0 0 c 0 [(0, .ref a0), (1, .int a1)] []
  refine z_iconst (v := 1) X dd_Mo_fits_0 (by decide) ?_
  refine z_istore_n (lv' := [(2, .int 1), (0, .ref a0), (1, .int a1)]) X dd_Mo_fits_1 rfl (by decide) rfl ?_
  refine z_iconst (v := 0) X dd_Mo_fits_2 (by decide) ?_
  refine z_istore_n (lv' := [(3, .int 0), (2, .int 1), (0, .ref a0), (1, .int a1)]) X dd_Mo_fits_3 rfl (by decide) rfl ?_
  refine z_sub [2, 3, 1, 0] rfl ?_
  exact t_Mo_fits_4 X H h
theorem dd_Mo_isWithout_0 : decode bb_Mo_isWithout 0 = .ok (.iconst 0, 1) := by decide +kernel
theorem dd_Mo_isWithout_1 : decode bb_Mo_isWithout 1 = .ok (.istore_n 2, 1) := by decide +kernel
theorem dd_Mo_isWithout_2 : decode bb_Mo_isWithout 2 = .ok (.iload_n 2, 1) := by decide +kernel
theorem dd_Mo_isWithout_3 : decode bb_Mo_isWithout 3 = .ok (.aload_n 0, 1) := by decide +kernel
theorem dd_Mo_isWithout_4 : decode bb_Mo_isWithout 4 = .ok (.getfield 65, 3) := by decide +kernel
theorem dd_Mo_isWithout_7 : decode bb_Mo_isWithout 7 = .ok (.aload_n 0, 1) := by decide +kernel
theorem dd_Mo_isWithout_8 : decode bb_Mo_isWithout 8 = .ok (.getfield 331, 3) := by decide +kernel
theorem dd_Mo_isWithout_11 : decode bb_Mo_isWithout 11 = .ok (.iaload, 1) := by decide +kernel
theorem dd_Mo_isWithout_12 : decode bb_Mo_isWithout 12 = .ok (.if_icmp .ge 34, 3) := by decide +kernel
theorem dd_Mo_isWithout_15 : decode bb_Mo_isWithout 15 = .ok (.aload_n 0, 1) := by decide +kernel
theorem dd_Mo_isWithout_16 : decode bb_Mo_isWithout 16 = .ok (.getfield 74, 3) := by decide +kernel
theorem dd_Mo_isWithout_19 : decode bb_Mo_isWithout 19 = .ok (.bipush 8, 2) := by decide +kernel
theorem dd_Mo_isWithout_21 : decode bb_Mo_isWithout 21 = .ok (.aload_n 0, 1) := by decide +kernel
theorem dd_Mo_isWithout_22 : decode bb_Mo_isWithout 22 = .ok (.getfield 331, 3) := by decide +kernel
theorem dd_Mo_isWithout_25 : decode bb_Mo_isWithout 25 = .ok (.imul, 1) := by decide +kernel
theorem dd_Mo_isWithout_26 : decode bb_Mo_isWithout 26 = .ok (.iload_n 2, 1) := by decide +kernel
theorem dd_Mo_isWithout_27 : decode bb_Mo_isWithout 27 = .ok (.iadd, 1) := by decide +kernel
theorem dd_Mo_isWithout_28 : decode bb_Mo_isWithout 28 = .ok (.iaload, 1) := by decide +kernel
theorem dd_Mo_isWithout_29 : decode bb_Mo_isWithout 29 = .ok (.iload_n 1, 1) := by decide +kernel
theorem dd_Mo_isWithout_30 : decode bb_Mo_isWithout 30 = .ok (.if_icmp .ne 10, 3) := by decide +kernel
theorem dd_Mo_isWithout_33 : decode bb_Mo_isWithout 33 = .ok (.aload_n 0, 1) := by decide +kernel
theorem dd_Mo_isWithout_34 : decode bb_Mo_isWithout 34 = .ok (.getfield 191, 3) := by decide +kernel
theorem dd_Mo_isWithout_37 : decode bb_Mo_isWithout 37 = .ok (.iload_n 2, 1) := by decide +kernel
theorem dd_Mo_isWithout_38 : decode bb_Mo_isWithout 38 = .ok (.iconst 0, 1) := by decide +kernel
theorem dd_Mo_isWithout_39 : decode bb_Mo_isWithout 39 = .ok (.iastore, 1) := by decide +kernel
theorem dd_Mo_isWithout_40 : decode bb_Mo_isWithout 40 = .ok (.iinc 2 1, 3) := by decide +kernel
theorem dd_Mo_isWithout_43 : decode bb_Mo_isWithout 43 = .ok (.goto (-41), 3) := by decide +kernel
theorem dd_Mo_isWithout_46 : decode bb_Mo_isWithout 46 = .ok (.iconst 1, 1) := by decide +kernel
theorem dd_Mo_isWithout_47 : decode bb_Mo_isWithout 47 = .ok (.istore_n 2, 1) := by decide +kernel
theorem dd_Mo_isWithout_48 : decode bb_Mo_isWithout 48 = .ok (.iconst 0, 1) := by decide +kernel
theorem dd_Mo_isWithout_49 : decode bb_Mo_isWithout 49 = .ok (.istore_n 3, 1) := by decide +kernel
theorem dd_Mo_isWithout_50 : decode bb_Mo_isWithout 50 = .ok (.iload_n 2, 1) := by decide +kernel
theorem dd_Mo_isWithout_51 : decode bb_Mo_isWithout 51 = .ok (.ifCond .eq 20, 3) := by decide +kernel
theorem dd_Mo_isWithout_54 : decode bb_Mo_isWithout 54 = .ok (.iload_n 3, 1) := by decide +kernel
theorem dd_Mo_isWithout_55 : decode bb_Mo_isWithout 55 = .ok (.aload_n 0, 1) := by decide +kernel
theorem dd_Mo_isWithout_56 : decode bb_Mo_isWithout 56 = .ok (.iload_n 1, 1) := by decide +kernel
theorem dd_Mo_isWithout_57 : decode bb_Mo_isWithout 57 = .ok (.invokevirtual 463, 3) := by decide +kernel
theorem dd_Mo_isWithout_60 : decode bb_Mo_isWithout 60 = .ok (.ior, 1) := by decide +kernel
theorem dd_Mo_isWithout_61 : decode bb_Mo_isWithout 61 = .ok (.istore_n 3, 1) := by decide +kernel
theorem dd_Mo_isWithout_62 : decode bb_Mo_isWithout 62 = .ok (.aload_n 0, 1) := by decide +kernel
theorem dd_Mo_isWithout_63 : decode bb_Mo_isWithout 63 = .ok (.iload_n 1, 1) := by decide +kernel
theorem dd_Mo_isWithout_64 : decode bb_Mo_isWithout 64 = .ok (.invokevirtual 466, 3) := by decide +kernel
theorem dd_Mo_isWithout_67 : decode bb_Mo_isWithout 67 = .ok (.istore_n 2, 1) := by decide +kernel
theorem dd_Mo_isWithout_68 : decode bb_Mo_isWithout 68 = .ok (.goto (-18), 3) := by decide +kernel
theorem dd_Mo_isWithout_71 : decode bb_Mo_isWithout 71 = .ok (.iload_n 3, 1) := by decide +kernel
theorem dd_Mo_isWithout_72 : decode bb_Mo_isWithout 72 = .ok (.ifCond .ne 7, 3) := by decide +kernel
theorem dd_Mo_isWithout_75 : decode bb_Mo_isWithout 75 = .ok (.iconst 1, 1) := by decide +kernel
theorem dd_Mo_isWithout_76 : decode bb_Mo_isWithout 76 = .ok (.goto 4, 3) := by decide +kernel
theorem dd_Mo_isWithout_79 : decode bb_Mo_isWithout 79 = .ok (.iconst 0, 1) := by decide +kernel
theorem dd_Mo_isWithout_80 : decode bb_Mo_isWithout 80 = .ok (.ireturn, 1) := by decide +kernel
def f_Mo_isWithout_40 (nf : Nat) (x0 : Nat) (x1 : Int32) (x2 : Int32) (c : Zc) : Option ((Nat × Int32 × Int32 × Zc) ⊕ (Nat × Int32 × Zc)) :=
  some (.inl (x0, x1, (x2 + 1), c))
def g_Mo_isWithout_2 (nf : Nat) (x0 : Nat) (x1 : Int32) (x2 : Int32) (c : Zc) : Option ((Nat × Int32 × Int32 × Zc) ⊕ (Nat × Int32 × Zc)) :=
  (zgr c x0 12 26).bind fun v1 => (zgi c x0 12 25).bind fun v2 => (zai c v1 0 v2).bind fun v3 => if v3 ≤ x2 then (some (.inr (x0, x1, c))) else ((zgr c x0 12 29).bind fun v5 => (zgi c x0 12 25).bind fun v6 => (zai c v5 0 ((8 * v6) + x2)).bind fun v7 => if v7 = x1 then ((zgr c x0 12 74).bind fun v9 => (zsi c v9 0 x2 0).bind fun c10 => f_Mo_isWithout_40 nf x0 x1 x2 c10) else (f_Mo_isWithout_40 nf x0 x1 x2 c))
def g_Mo_isWithout_50 (nf : Nat) (x0 : Nat) (x1 : Int32) (x2 : Int32) (x3 : Int32) (c : Zc) : Option ((Nat × Int32 × Int32 × Int32 × Zc) ⊕ (Int32 × Zc)) :=
  if x2 = 0 then (some (.inr (x3, c))) else ((zob c x0 12).bind fun w13 => (f_Mo_fits nf x0 x1 c).bind fun q12 => (zob q12.2 x0 12).bind fun w15 => (f_Mo_goesOn nf x0 x1 q12.2).bind fun q14 => some (.inl (x0, x1, q14.1, (x3 ||| q12.1), q14.2)))
def f_Mo_isWithout_80 (nf : Nat) (s0 : Int32) (c : Zc) : Option (Int32 × Zc) :=
  zrz s0 c
def f_Mo_isWithout_50 (nf : Nat) (x0 : Nat) (x1 : Int32) (x2 : Int32) (x3 : Int32) (c : Zc) : Option (Int32 × Zc) :=
  (zlp (fun a => g_Mo_isWithout_50 nf a.1 a.2.1 a.2.2.1 a.2.2.2.1 a.2.2.2.2) nf (x0, x1, x2, x3, c)).bind fun b => if b.1 = 0 then (f_Mo_isWithout_80 nf 1 b.2) else (f_Mo_isWithout_80 nf 0 b.2)
def f_Mo_isWithout_2 (nf : Nat) (x0 : Nat) (x1 : Int32) (x2 : Int32) (c : Zc) : Option (Int32 × Zc) :=
  (zlp (fun a => g_Mo_isWithout_2 nf a.1 a.2.1 a.2.2.1 a.2.2.2) nf (x0, x1, x2, c)).bind fun b => f_Mo_isWithout_50 nf b.1 b.2.1 1 0 b.2.2
def f_Mo_isWithout (nf : Nat) (a0 : Nat) (a1 : Int32) (c : Zc) : Option (Int32 × Zc) :=
  f_Mo_isWithout_2 nf a0 a1 0 c
set_option maxRecDepth 100000 in
set_option maxHeartbeats 4000000 in
theorem t_Mo_isWithout_40  (X : zX p s m args cd D cid B bb_Mo_isWithout 4 rr_Mo zT) (H : zH s meth B n0 (some (.boolean)) "isWithout") {nf : Nat} {x0 : Nat} {x1 : Int32} {x2 : Int32} {c : Zc} {r : (Nat × Int32 × Int32 × Zc) ⊕ (Nat × Int32 × Zc)} (h : f_Mo_isWithout_40 nf x0 x1 x2 c = some r) (k0 : ∀ a, r = .inl a → (fun a : Nat × Int32 × Int32 × Zc => Zz p l e (zRm 2 45 0 0) s m args below meth cd Q D cid B 4 0 0 a.2.2.2 2 [(0, .ref a.1), (1, .int a.2.1), (2, .int a.2.2.1)] []) a) (k1 : ∀ b, r = .inr b → (fun b : Nat × Int32 × Zc => Zz p l e (zRm 2 45 0 0) s m args below meth cd Q D cid B 4 0 0 b.2.2 46 [(0, .ref b.1), (1, .int b.2.1)] []) b) : Zz p l e (zRm 2 45 0 0) s m args below meth cd Q D cid B 4 0 0 c 40 [(0, .ref x0), (1, .int x1), (2, .int x2)] [] := by
  unfold f_Mo_isWithout_40 at h
  refine z_iinc (v := (x2 + 1)) (lv' := [(2, .int (x2 + 1)), (0, .ref x0), (1, .int x1)]) X dd_Mo_isWithout_40 2 rfl rfl (by decide) rfl ?_
  refine z_goto (tgt := 2) X dd_Mo_isWithout_43 (by decide) ?_
  refine z_sub [1, 2, 0] rfl ?_
  obtain rfl := Option.some.inj h
  exact k0 _ rfl
set_option maxRecDepth 100000 in
set_option maxHeartbeats 4000000 in
theorem u_Mo_isWithout_2  (X : zX p s m args cd D cid B bb_Mo_isWithout 4 rr_Mo zT) (H : zH s meth B n0 (some (.boolean)) "isWithout") {nf : Nat} {x0 : Nat} {x1 : Int32} {x2 : Int32} {c : Zc} {r : (Nat × Int32 × Int32 × Zc) ⊕ (Nat × Int32 × Zc)} (h : g_Mo_isWithout_2 nf x0 x1 x2 c = some r) (k0 : ∀ a, r = .inl a → (fun a : Nat × Int32 × Int32 × Zc => Zz p l e (zRm 2 45 0 0) s m args below meth cd Q D cid B 4 0 0 a.2.2.2 2 [(0, .ref a.1), (1, .int a.2.1), (2, .int a.2.2.1)] []) a) (k1 : ∀ b, r = .inr b → (fun b : Nat × Int32 × Zc => Zz p l e (zRm 2 45 0 0) s m args below meth cd Q D cid B 4 0 0 b.2.2 46 [(0, .ref b.1), (1, .int b.2.1)] []) b) : Zz p l e (zRm 2 45 0 0) s m args below meth cd Q D cid B 4 0 0 c 2 [(0, .ref x0), (1, .int x1), (2, .int x2)] [] := by
  unfold g_Mo_isWithout_2 at h
  refine z_iload_n X dd_Mo_isWithout_2 rfl 2 rfl ?_
  refine z_aload_n X dd_Mo_isWithout_3 rfl 0 rfl ?_
  obtain ⟨v1, ev1, h⟩ := zb h
  refine z_get (j := 26) X dd_Mo_isWithout_4 kc_12 ki_12 (by decide) km_1547 (zgr_v ev1) ?_
  refine z_aload_n X dd_Mo_isWithout_7 rfl 0 rfl ?_
  obtain ⟨v2, ev2, h⟩ := zb h
  refine z_get (j := 25) X dd_Mo_isWithout_8 kc_12 ki_12 (by decide) km_1546 (zgi_v ev2) ?_
  obtain ⟨v3, ev3, h⟩ := zb h
  refine z_iaload X dd_Mo_isWithout_11 rfl ev3 ?_
  refine z_icmp_ge (tgt := 46) X dd_Mo_isWithout_12 (by decide) (fun q4 => ?_) (fun q4 => ?_)
  · rw [if_pos q4] at h
    refine z_sub [0, 1] rfl ?_
    obtain rfl := Option.some.inj h
    exact k1 _ rfl
  · rw [if_neg q4] at h
    refine z_aload_n X dd_Mo_isWithout_15 rfl 0 rfl ?_
    obtain ⟨v5, ev5, h⟩ := zb h
    refine z_get (j := 29) X dd_Mo_isWithout_16 kc_12 ki_12 (by decide) km_1550 (zgr_v ev5) ?_
    refine z_bipush (v := 8) X dd_Mo_isWithout_19 (by decide) ?_
    refine z_aload_n X dd_Mo_isWithout_21 rfl 0 rfl ?_
    obtain ⟨v6, ev6, h⟩ := zb h
    refine z_get (j := 25) X dd_Mo_isWithout_22 kc_12 ki_12 (by decide) km_1546 (zgi_v ev6) ?_
    refine z_imul X dd_Mo_isWithout_25 ?_
    refine z_iload_n X dd_Mo_isWithout_26 rfl 2 rfl ?_
    refine z_iadd X dd_Mo_isWithout_27 ?_
    obtain ⟨v7, ev7, h⟩ := zb h
    refine z_iaload X dd_Mo_isWithout_28 rfl ev7 ?_
    refine z_iload_n X dd_Mo_isWithout_29 rfl 1 rfl ?_
    refine z_icmp_ne (tgt := 40) X dd_Mo_isWithout_30 (by decide) (fun q8 => ?_) (fun q8 => ?_)
    · rw [if_neg q8] at h
      exact t_Mo_isWithout_40 X H h k0 k1
    · rw [if_pos q8] at h
      refine z_aload_n X dd_Mo_isWithout_33 rfl 0 rfl ?_
      obtain ⟨v9, ev9, h⟩ := zb h
      refine z_get (j := 74) X dd_Mo_isWithout_34 kc_12 ki_12 (by decide) km_1595 (zgr_v ev9) ?_
      refine z_iload_n X dd_Mo_isWithout_37 rfl 2 rfl ?_
      refine z_iconst (v := 0) X dd_Mo_isWithout_38 (by decide) ?_
      obtain ⟨c10, ec10, h⟩ := zb h
      refine z_iastore X dd_Mo_isWithout_39 rfl ec10 ?_
      exact t_Mo_isWithout_40 X H h k0 k1
set_option maxRecDepth 100000 in
set_option maxHeartbeats 4000000 in
theorem u_Mo_isWithout_50  (X : zX p s m args cd D cid B bb_Mo_isWithout 4 rr_Mo zT) (H : zH s meth B n0 (some (.boolean)) "isWithout") {nf : Nat} {x0 : Nat} {x1 : Int32} {x2 : Int32} {x3 : Int32} {c : Zc} {r : (Nat × Int32 × Int32 × Int32 × Zc) ⊕ (Int32 × Zc)} (h : g_Mo_isWithout_50 nf x0 x1 x2 x3 c = some r) (k0 : ∀ a, r = .inl a → (fun a : Nat × Int32 × Int32 × Int32 × Zc => Zz p l e (zRm 2 45 0 0) s m args below meth cd Q D cid B 4 0 0 a.2.2.2.2 50 [(0, .ref a.1), (1, .int a.2.1), (2, .int a.2.2.1), (3, .int a.2.2.2.1)] []) a) (k1 : ∀ b, r = .inr b → (fun b : Int32 × Zc => Zz p l e (zRm 2 45 0 0) s m args below meth cd Q D cid B 4 0 0 b.2 71 [(3, .int b.1)] []) b) : Zz p l e (zRm 2 45 0 0) s m args below meth cd Q D cid B 4 0 0 c 50 [(0, .ref x0), (1, .int x1), (2, .int x2), (3, .int x3)] [] := by
  unfold g_Mo_isWithout_50 at h
  refine z_iload_n X dd_Mo_isWithout_50 rfl 2 rfl ?_
  refine z_if_eq (tgt := 71) X dd_Mo_isWithout_51 (by decide) (fun q11 => ?_) (fun q11 => ?_)
  · rw [if_pos q11] at h
    refine z_sub [3] rfl ?_
    obtain rfl := Option.some.inj h
    exact k1 _ rfl
  · rw [if_neg q11] at h
    refine z_iload_n X dd_Mo_isWithout_54 rfl 3 rfl ?_
    refine z_aload_n X dd_Mo_isWithout_55 rfl 0 rfl ?_
    refine z_iload_n X dd_Mo_isWithout_56 rfl 1 rfl ?_
    obtain ⟨w13, ew13, h⟩ := zb h
    obtain ⟨q12, eq12, h⟩ := zb h
    refine z_callVi X [.int x1] rfl dd_Mo_isWithout_57 (c_Mo_fits l eq12) (cwV 1 X.1.2.2.2.2 (zg_V km_2105 km_2107 km_113 km_138 km_2108) rfl rfl rfl (by decide +kernel) ⟨Nat.le_of_ble_eq_true rfl, Nat.le_of_ble_eq_true rfl⟩) (zob_s ew13) kc_12 rfl (Nat.le_of_ble_eq_true rfl) ⟨Nat.le_of_ble_eq_true rfl, Nat.le_of_ble_eq_true rfl⟩ ?_
    refine z_ior X dd_Mo_isWithout_60 ?_
    refine z_istore_n (lv' := [(3, .int (x3 ||| q12.1)), (0, .ref x0), (1, .int x1), (2, .int x2)]) X dd_Mo_isWithout_61 rfl (by decide) rfl ?_
    refine z_aload_n X dd_Mo_isWithout_62 rfl 1 rfl ?_
    refine z_iload_n X dd_Mo_isWithout_63 rfl 2 rfl ?_
    obtain ⟨w15, ew15, h⟩ := zb h
    obtain ⟨q14, eq14, h⟩ := zb h
    refine z_callVi X [.int x1] rfl dd_Mo_isWithout_64 (c_Mo_goesOn l eq14) (cwV 1 X.1.2.2.2.2 (zg_V km_2121 km_2123 km_117 km_138 km_2124) rfl rfl rfl (by decide +kernel) ⟨Nat.le_of_ble_eq_true rfl, Nat.le_of_ble_eq_true rfl⟩) (zob_s ew15) kc_12 rfl (Nat.le_of_ble_eq_true rfl) ⟨Nat.le_of_ble_eq_true rfl, Nat.le_of_ble_eq_true rfl⟩ ?_
    refine z_istore_n (lv' := [(2, .int q14.1), (3, .int (x3 ||| q12.1)), (0, .ref x0), (1, .int x1)]) X dd_Mo_isWithout_67 rfl (by decide) rfl ?_
    refine z_goto (tgt := 50) X dd_Mo_isWithout_68 (by decide) ?_
    refine z_sub [2, 3, 0, 1] rfl ?_
    obtain rfl := Option.some.inj h
    exact k0 _ rfl
set_option maxRecDepth 100000 in
set_option maxHeartbeats 4000000 in
theorem t_Mo_isWithout_80  (X : zX p s m args cd D cid B bb_Mo_isWithout 4 rr_Mo zT) (H : zH s meth B n0 (some (.boolean)) "isWithout") {nf : Nat} {s0 : Int32} {c : Zc} {res : Int32 × Zc} (h : f_Mo_isWithout_80 nf s0 c = some res) : Zz p l e (zRm 2 45 0 0) s m args below meth cd (MQ below (zQi D cid B res.1 res.2 n0 0) args s 0 0 (fun q => B ≤ q)) D cid B 4 0 0 c 80 [] [.int s0] := by
  unfold f_Mo_isWithout_80 at h
  obtain ⟨hz, h⟩ := zrz_s h
  obtain rfl := h
  exact z_zret X H.1 (zn_z hz) H.2.1 H.2.2.1 dd_Mo_isWithout_80
set_option maxRecDepth 100000 in
set_option maxHeartbeats 4000000 in
theorem t_Mo_isWithout_50  (X : zX p s m args cd D cid B bb_Mo_isWithout 4 rr_Mo zT) (H : zH s meth B n0 (some (.boolean)) "isWithout") {nf : Nat} {x0 : Nat} {x1 : Int32} {x2 : Int32} {x3 : Int32} {c : Zc} {res : Int32 × Zc} (h : f_Mo_isWithout_50 nf x0 x1 x2 x3 c = some res) : Zz p l e (zRm 2 45 0 0) s m args below meth cd (MQ below (zQi D cid B res.1 res.2 n0 0) args s 0 0 (fun q => B ≤ q)) D cid B 4 0 0 c 50 [(0, .ref x0), (1, .int x1), (2, .int x2), (3, .int x3)] [] := by
  unfold f_Mo_isWithout_50 at h
  obtain ⟨b, eb, h⟩ := zb h
  refine zlp_ok (P := fun a : Nat × Int32 × Int32 × Int32 × Zc => Zz p l e (zRm 2 45 0 0) s m args below meth cd _ D cid B 4 0 0 a.2.2.2.2 50 [(0, .ref a.1), (1, .int a.2.1), (2, .int a.2.2.1), (3, .int a.2.2.2.1)] []) (G := fun b : Int32 × Zc => Zz p l e (zRm 2 45 0 0) s m args below meth cd _ D cid B 4 0 0 b.2 71 [(3, .int b.1)] []) (fun a r ha k0 k1 => u_Mo_isWithout_50 X H ha k0 k1) nf _ b eb ?_
  refine z_iload_n X dd_Mo_isWithout_71 rfl 0 rfl ?_
  refine z_if_ne (tgt := 79) X dd_Mo_isWithout_72 (by decide) (fun q16 => ?_) (fun q16 => ?_)
  · rw [if_neg q16] at h
    refine z_iconst (v := 0) X dd_Mo_isWithout_79 (by decide) ?_
    refine z_sub [] rfl ?_
    exact t_Mo_isWithout_80 X H h
  · rw [if_pos q16] at h
    refine z_iconst (v := 1) X dd_Mo_isWithout_75 (by decide) ?_
    refine z_goto (tgt := 80) X dd_Mo_isWithout_76 (by decide) ?_
    refine z_sub [] rfl ?_
    exact t_Mo_isWithout_80 X H h
set_option maxRecDepth 100000 in
set_option maxHeartbeats 4000000 in
theorem t_Mo_isWithout_2  (X : zX p s m args cd D cid B bb_Mo_isWithout 4 rr_Mo zT) (H : zH s meth B n0 (some (.boolean)) "isWithout") {nf : Nat} {x0 : Nat} {x1 : Int32} {x2 : Int32} {c : Zc} {res : Int32 × Zc} (h : f_Mo_isWithout_2 nf x0 x1 x2 c = some res) : Zz p l e (zRm 2 45 0 0) s m args below meth cd (MQ below (zQi D cid B res.1 res.2 n0 0) args s 0 0 (fun q => B ≤ q)) D cid B 4 0 0 c 2 [(0, .ref x0), (1, .int x1), (2, .int x2)] [] := by
  unfold f_Mo_isWithout_2 at h
  obtain ⟨b, eb, h⟩ := zb h
  refine zlp_ok (P := fun a : Nat × Int32 × Int32 × Zc => Zz p l e (zRm 2 45 0 0) s m args below meth cd _ D cid B 4 0 0 a.2.2.2 2 [(0, .ref a.1), (1, .int a.2.1), (2, .int a.2.2.1)] []) (G := fun b : Nat × Int32 × Zc => Zz p l e (zRm 2 45 0 0) s m args below meth cd _ D cid B 4 0 0 b.2.2 46 [(0, .ref b.1), (1, .int b.2.1)] []) (fun a r ha k0 k1 => u_Mo_isWithout_2 X H ha k0 k1) nf _ b eb ?_
  refine z_iconst (v := 1) X dd_Mo_isWithout_46 (by decide) ?_
  refine z_istore_n (lv' := [(2, .int 1), (0, .ref b.1), (1, .int b.2.1)]) X dd_Mo_isWithout_47 rfl (by decide) rfl ?_
  refine z_iconst (v := 0) X dd_Mo_isWithout_48 (by decide) ?_
  refine z_istore_n (lv' := [(3, .int 0), (2, .int 1), (0, .ref b.1), (1, .int b.2.1)]) X dd_Mo_isWithout_49 rfl (by decide) rfl ?_
  refine z_sub [2, 3, 1, 0] rfl ?_
  exact t_Mo_isWithout_50 X H h
set_option maxRecDepth 100000 in
set_option maxHeartbeats 4000000 in
theorem c_Mo_isWithout (l : Launch) {nf : Nat} {a0 : Nat} {a1 : Int32} {c : Zc} {res : Int32 × Zc} (h : f_Mo_isWithout nf a0 a1 c = some res) : zM l yy_Mo_isWithout ww_Mo_isWithout 2 45 0 0 [.ref a0, .int a1] c (fun D cid B => zQi D cid B res.1 res.2 c.length 0) := by
  refine z_met (cc := bb_Mo_isWithout) (maxL := 4) (ret := (some (.boolean))) (by decide +kernel) rfl (Nat.le_of_ble_eq_true rfl) ?_
  intro p e s m args below meth cd D cid B X h1 h2 h3 h4
  have X : zX p s m args cd D cid B bb_Mo_isWithout 4 rr_Mo zT := X
  have H : zH s meth B c.length (some (.boolean)) "isWithout" := ⟨h1, h2, h4, h3⟩
  unfold f_Mo_isWithout at h
  show Zz p l e (zRm 2 45 0 0) s m args below meth cd _ D cid B 4 0 0 c 0 [(0, .ref a0), (1, .int a1)] []
  refine z_iconst (v := 0) X dd_Mo_isWithout_0 (by decide) ?_
  refine z_istore_n (lv' := [(2, .int 0), (0, .ref a0), (1, .int a1)]) X dd_Mo_isWithout_1 rfl (by decide) rfl ?_
  refine z_sub [1, 2, 0] rfl ?_
  exact t_Mo_isWithout_2 X H h
theorem dd_Mo_bounded_0 : decode bb_Mo_bounded 0 = .ok (.lload_n 0, 1) := by decide +kernel
theorem dd_Mo_bounded_1 : decode bb_Mo_bounded 1 = .ok (.ldc2_w 469, 3) := by decide +kernel
theorem dd_Mo_bounded_4 : decode bb_Mo_bounded 4 = .ok (.lcmp, 1) := by decide +kernel
theorem dd_Mo_bounded_5 : decode bb_Mo_bounded 5 = .ok (.ifCond .le 9, 3) := by decide +kernel
theorem dd_Mo_bounded_8 : decode bb_Mo_bounded 8 = .ok (.ldc_w 471, 3) := by decide +kernel
theorem dd_Mo_bounded_11 : decode bb_Mo_bounded 11 = .ok (.goto 19, 3) := by decide +kernel
theorem dd_Mo_bounded_14 : decode bb_Mo_bounded 14 = .ok (.lload_n 0, 1) := by decide +kernel
theorem dd_Mo_bounded_15 : decode bb_Mo_bounded 15 = .ok (.ldc2_w 472, 3) := by decide +kernel
theorem dd_Mo_bounded_18 : decode bb_Mo_bounded 18 = .ok (.lcmp, 1) := by decide +kernel
theorem dd_Mo_bounded_19 : decode bb_Mo_bounded 19 = .ok (.ifCond .ge 9, 3) := by decide +kernel
theorem dd_Mo_bounded_22 : decode bb_Mo_bounded 22 = .ok (.ldc_w 474, 3) := by decide +kernel
theorem dd_Mo_bounded_25 : decode bb_Mo_bounded 25 = .ok (.goto 5, 3) := by decide +kernel
theorem dd_Mo_bounded_28 : decode bb_Mo_bounded 28 = .ok (.lload_n 0, 1) := by decide +kernel
theorem dd_Mo_bounded_29 : decode bb_Mo_bounded 29 = .ok (.l2i, 1) := by decide +kernel
theorem dd_Mo_bounded_30 : decode bb_Mo_bounded 30 = .ok (.ireturn, 1) := by decide +kernel
def f_Mo_bounded_30 (nf : Nat) (s0 : Int32) (c : Zc) : Option (Int32 × Zc) :=
  some (s0, c)
def f_Mo_bounded (nf : Nat) (a0 : Int64) (c : Zc) : Option (Int32 × Zc) :=
  if (lg_cmp a0 1000000000) ≤ 0 then (if 0 ≤ (lg_cmp a0 (-1000000000)) then (f_Mo_bounded_30 nf (Int64.toInt32 a0) c) else (f_Mo_bounded_30 nf (-1000000000) c)) else (f_Mo_bounded_30 nf 1000000000 c)
set_option maxRecDepth 100000 in
set_option maxHeartbeats 4000000 in
theorem t_Mo_bounded_30  (X : zX p s m args cd D cid B bb_Mo_bounded 2 rr_Mo zT) (H : zH s meth B n0 (some (.int)) "bounded") {nf : Nat} {s0 : Int32} {c : Zc} {res : Int32 × Zc} (h : f_Mo_bounded_30 nf s0 c = some res) : Zz p l e (zRm 0 0 0 0) s m args below meth cd (MQ below (zQi D cid B res.1 res.2 n0 0) args s 0 0 (fun q => B ≤ q)) D cid B 2 0 0 c 30 [] [.int s0] := by
  unfold f_Mo_bounded_30 at h
  obtain rfl := Option.some.inj h
  exact z_iret X H.1 H.2.1 H.2.2.1 dd_Mo_bounded_30
set_option maxRecDepth 100000 in
set_option maxHeartbeats 4000000 in
theorem c_Mo_bounded (l : Launch) {nf : Nat} {a0 : Int64} {c : Zc} {res : Int32 × Zc} (h : f_Mo_bounded nf a0 c = some res) : zM l yy_Mo_bounded ww_Mo_bounded 0 0 0 0 [.long a0] c (fun D cid B => zQi D cid B res.1 res.2 c.length 0) := by
  refine z_met (cc := bb_Mo_bounded) (maxL := 2) (ret := (some (.int))) (by decide +kernel) rfl (Nat.le_of_ble_eq_true rfl) ?_
  intro p e s m args below meth cd D cid B X h1 h2 h3 h4
  have X : zX p s m args cd D cid B bb_Mo_bounded 2 rr_Mo zT := X
  have H : zH s meth B c.length (some (.int)) "bounded" := ⟨h1, h2, h4, h3⟩
  unfold f_Mo_bounded at h
  show Zz p l e (zRm 0 0 0 0) s m args below meth cd _ D cid B 2 0 0 c 0 [(0, .long a0)] []
  refine z_lload_n X dd_Mo_bounded_0 rfl 0 rfl ?_
  refine z_ldc2 (v := 1000000000) X dd_Mo_bounded_1 km_2131 ?_
  refine z_lcmp X dd_Mo_bounded_4 ?_
  refine z_if_le (tgt := 14) X dd_Mo_bounded_5 (by decide) (fun q1 => ?_) (fun q1 => ?_)
  · rw [if_pos q1] at h
    refine z_lload_n X dd_Mo_bounded_14 rfl 0 rfl ?_
    refine z_ldc2 (v := (-1000000000)) X dd_Mo_bounded_15 km_2133 ?_
    refine z_lcmp X dd_Mo_bounded_18 ?_
    refine z_if_ge (tgt := 28) X dd_Mo_bounded_19 (by decide) (fun q2 => ?_) (fun q2 => ?_)
    · rw [if_pos q2] at h
      refine z_lload_n X dd_Mo_bounded_28 rfl 0 rfl ?_
      refine z_l2i X dd_Mo_bounded_29 ?_
      refine z_sub [] rfl ?_
      exact t_Mo_bounded_30 X H h
    · rw [if_neg q2] at h
      refine z_ldcw (v := (-1000000000)) X dd_Mo_bounded_22 km_2134 ?_
      refine z_goto (tgt := 30) X dd_Mo_bounded_25 (by decide) ?_
      refine z_sub [] rfl ?_
      exact t_Mo_bounded_30 X H h
  · rw [if_neg q1] at h
    refine z_ldcw (v := 1000000000) X dd_Mo_bounded_8 km_2132 ?_
    refine z_goto (tgt := 30) X dd_Mo_bounded_11 (by decide) ?_
    refine z_sub [] rfl ?_
    exact t_Mo_bounded_30 X H h
theorem dd_Mo_both_0 : decode bb_Mo_both 0 = .ok (.iload_n 0, 1) := by decide +kernel
theorem dd_Mo_both_1 : decode bb_Mo_both 1 = .ok (.tableswitch 164 4 16 #[67, 76, 85, 164, 164, 164, 94, 105, 116, 127, 138, 149, 160], 67) := by decide +kernel
theorem dd_Mo_both_68 : decode bb_Mo_both 68 = .ok (.iload_n 1, 1) := by decide +kernel
theorem dd_Mo_both_69 : decode bb_Mo_both 69 = .ok (.i2l, 1) := by decide +kernel
theorem dd_Mo_both_70 : decode bb_Mo_both 70 = .ok (.iload_n 2, 1) := by decide +kernel
theorem dd_Mo_both_71 : decode bb_Mo_both 71 = .ok (.i2l, 1) := by decide +kernel
theorem dd_Mo_both_72 : decode bb_Mo_both 72 = .ok (.ladd, 1) := by decide +kernel
theorem dd_Mo_both_73 : decode bb_Mo_both 73 = .ok (.invokestatic 482, 3) := by decide +kernel
theorem dd_Mo_both_76 : decode bb_Mo_both 76 = .ok (.ireturn, 1) := by decide +kernel
theorem dd_Mo_both_77 : decode bb_Mo_both 77 = .ok (.iload_n 1, 1) := by decide +kernel
theorem dd_Mo_both_78 : decode bb_Mo_both 78 = .ok (.i2l, 1) := by decide +kernel
theorem dd_Mo_both_79 : decode bb_Mo_both 79 = .ok (.iload_n 2, 1) := by decide +kernel
theorem dd_Mo_both_80 : decode bb_Mo_both 80 = .ok (.i2l, 1) := by decide +kernel
theorem dd_Mo_both_81 : decode bb_Mo_both 81 = .ok (.lsub, 1) := by decide +kernel
theorem dd_Mo_both_82 : decode bb_Mo_both 82 = .ok (.invokestatic 482, 3) := by decide +kernel
theorem dd_Mo_both_85 : decode bb_Mo_both 85 = .ok (.ireturn, 1) := by decide +kernel
theorem dd_Mo_both_86 : decode bb_Mo_both 86 = .ok (.iload_n 1, 1) := by decide +kernel
theorem dd_Mo_both_87 : decode bb_Mo_both 87 = .ok (.i2l, 1) := by decide +kernel
theorem dd_Mo_both_88 : decode bb_Mo_both 88 = .ok (.iload_n 2, 1) := by decide +kernel
theorem dd_Mo_both_89 : decode bb_Mo_both 89 = .ok (.i2l, 1) := by decide +kernel
theorem dd_Mo_both_90 : decode bb_Mo_both 90 = .ok (.lmul, 1) := by decide +kernel
theorem dd_Mo_both_91 : decode bb_Mo_both 91 = .ok (.invokestatic 482, 3) := by decide +kernel
theorem dd_Mo_both_94 : decode bb_Mo_both 94 = .ok (.ireturn, 1) := by decide +kernel
theorem dd_Mo_both_95 : decode bb_Mo_both 95 = .ok (.iload_n 1, 1) := by decide +kernel
theorem dd_Mo_both_96 : decode bb_Mo_both 96 = .ok (.iload_n 2, 1) := by decide +kernel
theorem dd_Mo_both_97 : decode bb_Mo_both 97 = .ok (.if_icmp .ne 7, 3) := by decide +kernel
theorem dd_Mo_both_100 : decode bb_Mo_both 100 = .ok (.iconst 1, 1) := by decide +kernel
theorem dd_Mo_both_101 : decode bb_Mo_both 101 = .ok (.goto 4, 3) := by decide +kernel
theorem dd_Mo_both_104 : decode bb_Mo_both 104 = .ok (.iconst 0, 1) := by decide +kernel
theorem dd_Mo_both_105 : decode bb_Mo_both 105 = .ok (.ireturn, 1) := by decide +kernel
theorem dd_Mo_both_106 : decode bb_Mo_both 106 = .ok (.iload_n 1, 1) := by decide +kernel
theorem dd_Mo_both_107 : decode bb_Mo_both 107 = .ok (.iload_n 2, 1) := by decide +kernel
theorem dd_Mo_both_108 : decode bb_Mo_both 108 = .ok (.if_icmp .eq 7, 3) := by decide +kernel
theorem dd_Mo_both_111 : decode bb_Mo_both 111 = .ok (.iconst 1, 1) := by decide +kernel
theorem dd_Mo_both_112 : decode bb_Mo_both 112 = .ok (.goto 4, 3) := by decide +kernel
theorem dd_Mo_both_115 : decode bb_Mo_both 115 = .ok (.iconst 0, 1) := by decide +kernel
theorem dd_Mo_both_116 : decode bb_Mo_both 116 = .ok (.ireturn, 1) := by decide +kernel
theorem dd_Mo_both_117 : decode bb_Mo_both 117 = .ok (.iload_n 1, 1) := by decide +kernel
theorem dd_Mo_both_118 : decode bb_Mo_both 118 = .ok (.iload_n 2, 1) := by decide +kernel
theorem dd_Mo_both_119 : decode bb_Mo_both 119 = .ok (.if_icmp .ge 7, 3) := by decide +kernel
theorem dd_Mo_both_122 : decode bb_Mo_both 122 = .ok (.iconst 1, 1) := by decide +kernel
theorem dd_Mo_both_123 : decode bb_Mo_both 123 = .ok (.goto 4, 3) := by decide +kernel
theorem dd_Mo_both_126 : decode bb_Mo_both 126 = .ok (.iconst 0, 1) := by decide +kernel
theorem dd_Mo_both_127 : decode bb_Mo_both 127 = .ok (.ireturn, 1) := by decide +kernel
theorem dd_Mo_both_128 : decode bb_Mo_both 128 = .ok (.iload_n 1, 1) := by decide +kernel
theorem dd_Mo_both_129 : decode bb_Mo_both 129 = .ok (.iload_n 2, 1) := by decide +kernel
theorem dd_Mo_both_130 : decode bb_Mo_both 130 = .ok (.if_icmp .gt 7, 3) := by decide +kernel
theorem dd_Mo_both_133 : decode bb_Mo_both 133 = .ok (.iconst 1, 1) := by decide +kernel
theorem dd_Mo_both_134 : decode bb_Mo_both 134 = .ok (.goto 4, 3) := by decide +kernel
theorem dd_Mo_both_137 : decode bb_Mo_both 137 = .ok (.iconst 0, 1) := by decide +kernel
theorem dd_Mo_both_138 : decode bb_Mo_both 138 = .ok (.ireturn, 1) := by decide +kernel
theorem dd_Mo_both_139 : decode bb_Mo_both 139 = .ok (.iload_n 1, 1) := by decide +kernel
theorem dd_Mo_both_140 : decode bb_Mo_both 140 = .ok (.iload_n 2, 1) := by decide +kernel
theorem dd_Mo_both_141 : decode bb_Mo_both 141 = .ok (.if_icmp .le 7, 3) := by decide +kernel
theorem dd_Mo_both_144 : decode bb_Mo_both 144 = .ok (.iconst 1, 1) := by decide +kernel
theorem dd_Mo_both_145 : decode bb_Mo_both 145 = .ok (.goto 4, 3) := by decide +kernel
theorem dd_Mo_both_148 : decode bb_Mo_both 148 = .ok (.iconst 0, 1) := by decide +kernel
theorem dd_Mo_both_149 : decode bb_Mo_both 149 = .ok (.ireturn, 1) := by decide +kernel
theorem dd_Mo_both_150 : decode bb_Mo_both 150 = .ok (.iload_n 1, 1) := by decide +kernel
theorem dd_Mo_both_151 : decode bb_Mo_both 151 = .ok (.iload_n 2, 1) := by decide +kernel
theorem dd_Mo_both_152 : decode bb_Mo_both 152 = .ok (.if_icmp .lt 7, 3) := by decide +kernel
theorem dd_Mo_both_155 : decode bb_Mo_both 155 = .ok (.iconst 1, 1) := by decide +kernel
theorem dd_Mo_both_156 : decode bb_Mo_both 156 = .ok (.goto 4, 3) := by decide +kernel
theorem dd_Mo_both_159 : decode bb_Mo_both 159 = .ok (.iconst 0, 1) := by decide +kernel
theorem dd_Mo_both_160 : decode bb_Mo_both 160 = .ok (.ireturn, 1) := by decide +kernel
theorem dd_Mo_both_161 : decode bb_Mo_both 161 = .ok (.iload_n 1, 1) := by decide +kernel
theorem dd_Mo_both_162 : decode bb_Mo_both 162 = .ok (.iload_n 2, 1) := by decide +kernel
theorem dd_Mo_both_163 : decode bb_Mo_both 163 = .ok (.iand, 1) := by decide +kernel
theorem dd_Mo_both_164 : decode bb_Mo_both 164 = .ok (.ireturn, 1) := by decide +kernel
theorem dd_Mo_both_165 : decode bb_Mo_both 165 = .ok (.iload_n 1, 1) := by decide +kernel
theorem dd_Mo_both_166 : decode bb_Mo_both 166 = .ok (.iload_n 2, 1) := by decide +kernel
theorem dd_Mo_both_167 : decode bb_Mo_both 167 = .ok (.ior, 1) := by decide +kernel
theorem dd_Mo_both_168 : decode bb_Mo_both 168 = .ok (.ireturn, 1) := by decide +kernel
def f_Mo_both_105 (nf : Nat) (s0 : Int32) (c : Zc) : Option (Int32 × Zc) :=
  some (s0, c)
def f_Mo_both_116 (nf : Nat) (s0 : Int32) (c : Zc) : Option (Int32 × Zc) :=
  some (s0, c)
def f_Mo_both_127 (nf : Nat) (s0 : Int32) (c : Zc) : Option (Int32 × Zc) :=
  some (s0, c)
def f_Mo_both_138 (nf : Nat) (s0 : Int32) (c : Zc) : Option (Int32 × Zc) :=
  some (s0, c)
def f_Mo_both_149 (nf : Nat) (s0 : Int32) (c : Zc) : Option (Int32 × Zc) :=
  some (s0, c)
def f_Mo_both_160 (nf : Nat) (s0 : Int32) (c : Zc) : Option (Int32 × Zc) :=
  some (s0, c)
def f_Mo_both (nf : Nat) (a0 : Int32) (a1 : Int32) (a2 : Int32) (c : Zc) : Option (Int32 × Zc) :=
  if a0 = 4 then ((f_Mo_bounded nf ((Int32.toInt64 a1) + (Int32.toInt64 a2)) c).bind fun q2 => some (q2.1, q2.2)) else if a0 = 5 then ((f_Mo_bounded nf ((Int32.toInt64 a1) - (Int32.toInt64 a2)) c).bind fun q4 => some (q4.1, q4.2)) else if a0 = 6 then ((f_Mo_bounded nf ((Int32.toInt64 a1) * (Int32.toInt64 a2)) c).bind fun q6 => some (q6.1, q6.2)) else if a0 = 7 then (some ((a1 ||| a2), c)) else if a0 = 8 then (some ((a1 ||| a2), c)) else if a0 = 9 then (some ((a1 ||| a2), c)) else if a0 = 10 then (if a1 = a2 then (f_Mo_both_105 nf 1 c) else (f_Mo_both_105 nf 0 c)) else if a0 = 11 then (if a1 = a2 then (f_Mo_both_116 nf 0 c) else (f_Mo_both_116 nf 1 c)) else if a0 = 12 then (if a2 ≤ a1 then (f_Mo_both_127 nf 0 c) else (f_Mo_both_127 nf 1 c)) else if a0 = 13 then (if a2 < a1 then (f_Mo_both_138 nf 0 c) else (f_Mo_both_138 nf 1 c)) else if a0 = 14 then (if a1 ≤ a2 then (f_Mo_both_149 nf 0 c) else (f_Mo_both_149 nf 1 c)) else if a0 = 15 then (if a1 < a2 then (f_Mo_both_160 nf 0 c) else (f_Mo_both_160 nf 1 c)) else if a0 = 16 then (some ((a1 &&& a2), c)) else (some ((a1 ||| a2), c))
set_option maxRecDepth 100000 in
set_option maxHeartbeats 4000000 in
theorem t_Mo_both_105  (X : zX p s m args cd D cid B bb_Mo_both 3 rr_Mo zT) (H : zH s meth B n0 (some (.int)) "both") {nf : Nat} {s0 : Int32} {c : Zc} {res : Int32 × Zc} (h : f_Mo_both_105 nf s0 c = some res) : Zz p l e (zRm 1 21 0 0) s m args below meth cd (MQ below (zQi D cid B res.1 res.2 n0 0) args s 0 0 (fun q => B ≤ q)) D cid B 3 0 0 c 105 [] [.int s0] := by
  unfold f_Mo_both_105 at h
  obtain rfl := Option.some.inj h
  exact z_iret X H.1 H.2.1 H.2.2.1 dd_Mo_both_105
set_option maxRecDepth 100000 in
set_option maxHeartbeats 4000000 in
theorem t_Mo_both_116  (X : zX p s m args cd D cid B bb_Mo_both 3 rr_Mo zT) (H : zH s meth B n0 (some (.int)) "both") {nf : Nat} {s0 : Int32} {c : Zc} {res : Int32 × Zc} (h : f_Mo_both_116 nf s0 c = some res) : Zz p l e (zRm 1 21 0 0) s m args below meth cd (MQ below (zQi D cid B res.1 res.2 n0 0) args s 0 0 (fun q => B ≤ q)) D cid B 3 0 0 c 116 [] [.int s0] := by
  unfold f_Mo_both_116 at h
  obtain rfl := Option.some.inj h
  exact z_iret X H.1 H.2.1 H.2.2.1 dd_Mo_both_116
set_option maxRecDepth 100000 in
set_option maxHeartbeats 4000000 in
theorem t_Mo_both_127  (X : zX p s m args cd D cid B bb_Mo_both 3 rr_Mo zT) (H : zH s meth B n0 (some (.int)) "both") {nf : Nat} {s0 : Int32} {c : Zc} {res : Int32 × Zc} (h : f_Mo_both_127 nf s0 c = some res) : Zz p l e (zRm 1 21 0 0) s m args below meth cd (MQ below (zQi D cid B res.1 res.2 n0 0) args s 0 0 (fun q => B ≤ q)) D cid B 3 0 0 c 127 [] [.int s0] := by
  unfold f_Mo_both_127 at h
  obtain rfl := Option.some.inj h
  exact z_iret X H.1 H.2.1 H.2.2.1 dd_Mo_both_127
set_option maxRecDepth 100000 in
set_option maxHeartbeats 4000000 in
theorem t_Mo_both_138  (X : zX p s m args cd D cid B bb_Mo_both 3 rr_Mo zT) (H : zH s meth B n0 (some (.int)) "both") {nf : Nat} {s0 : Int32} {c : Zc} {res : Int32 × Zc} (h : f_Mo_both_138 nf s0 c = some res) : Zz p l e (zRm 1 21 0 0) s m args below meth cd (MQ below (zQi D cid B res.1 res.2 n0 0) args s 0 0 (fun q => B ≤ q)) D cid B 3 0 0 c 138 [] [.int s0] := by
  unfold f_Mo_both_138 at h
  obtain rfl := Option.some.inj h
  exact z_iret X H.1 H.2.1 H.2.2.1 dd_Mo_both_138
set_option maxRecDepth 100000 in
set_option maxHeartbeats 4000000 in
theorem t_Mo_both_149  (X : zX p s m args cd D cid B bb_Mo_both 3 rr_Mo zT) (H : zH s meth B n0 (some (.int)) "both") {nf : Nat} {s0 : Int32} {c : Zc} {res : Int32 × Zc} (h : f_Mo_both_149 nf s0 c = some res) : Zz p l e (zRm 1 21 0 0) s m args below meth cd (MQ below (zQi D cid B res.1 res.2 n0 0) args s 0 0 (fun q => B ≤ q)) D cid B 3 0 0 c 149 [] [.int s0] := by
  unfold f_Mo_both_149 at h
  obtain rfl := Option.some.inj h
  exact z_iret X H.1 H.2.1 H.2.2.1 dd_Mo_both_149
set_option maxRecDepth 100000 in
set_option maxHeartbeats 4000000 in
theorem t_Mo_both_160  (X : zX p s m args cd D cid B bb_Mo_both 3 rr_Mo zT) (H : zH s meth B n0 (some (.int)) "both") {nf : Nat} {s0 : Int32} {c : Zc} {res : Int32 × Zc} (h : f_Mo_both_160 nf s0 c = some res) : Zz p l e (zRm 1 21 0 0) s m args below meth cd (MQ below (zQi D cid B res.1 res.2 n0 0) args s 0 0 (fun q => B ≤ q)) D cid B 3 0 0 c 160 [] [.int s0] := by
  unfold f_Mo_both_160 at h
  obtain rfl := Option.some.inj h
  exact z_iret X H.1 H.2.1 H.2.2.1 dd_Mo_both_160
set_option maxRecDepth 100000 in
set_option maxHeartbeats 4000000 in
theorem c_Mo_both (l : Launch) {nf : Nat} {a0 : Int32} {a1 : Int32} {a2 : Int32} {c : Zc} {res : Int32 × Zc} (h : f_Mo_both nf a0 a1 a2 c = some res) : zM l yy_Mo_both ww_Mo_both 1 21 0 0 [.int a0, .int a1, .int a2] c (fun D cid B => zQi D cid B res.1 res.2 c.length 0) := by
  refine z_met (cc := bb_Mo_both) (maxL := 3) (ret := (some (.int))) (by decide +kernel) rfl (Nat.le_of_ble_eq_true rfl) ?_
  intro p e s m args below meth cd D cid B X h1 h2 h3 h4
  have X : zX p s m args cd D cid B bb_Mo_both 3 rr_Mo zT := X
  have H : zH s meth B c.length (some (.int)) "both" := ⟨h1, h2, h4, h3⟩
  unfold f_Mo_both at h
  show Zz p l e (zRm 1 21 0 0) s m args below meth cd _ D cid B 3 0 0 c 0 [(0, .int a0), (1, .int a1), (2, .int a2)] []
  refine z_iload_n X dd_Mo_both_0 rfl 0 rfl ?_
  by_cases q1 : a0 = 4
  · rw [if_pos q1] at h
    refine z_tableIn (tgt := 68) (off := 67) X dd_Mo_both_1 (by rw [q1]; decide) (by rw [q1]; decide) (by rw [q1]; rfl) (by decide) ?_
    refine z_iload_n X dd_Mo_both_68 rfl 1 rfl ?_
    refine z_i2l X dd_Mo_both_69 ?_
    refine z_iload_n X dd_Mo_both_70 rfl 2 rfl ?_
    refine z_i2l X dd_Mo_both_71 ?_
    refine z_ladd X dd_Mo_both_72 ?_
    obtain ⟨q2, eq2, h⟩ := zb h
    refine z_callSi X [.long ((Int32.toInt64 a1) + (Int32.toInt64 a2))] rfl dd_Mo_both_73 (c_Mo_bounded l eq2) (va_cwS 1 X.1.2.2.2.2 (zg_S km_2128 km_2129 km_138 km_2130) rfl rfl rfl (by decide +kernel) ⟨Nat.le_of_ble_eq_true rfl, Nat.le_of_ble_eq_true rfl⟩) rfl (Nat.le_of_ble_eq_true rfl) ⟨Nat.le_of_ble_eq_true rfl, Nat.le_of_ble_eq_true rfl⟩ ?_
    obtain rfl := Option.some.inj h
    exact z_iret X H.1 H.2.1 H.2.2.1 dd_Mo_both_76
  rw [if_neg q1] at h
  by_cases q3 : a0 = 5
  · rw [if_pos q3] at h
    refine z_tableIn (tgt := 77) (off := 76) X dd_Mo_both_1 (by rw [q3]; decide) (by rw [q3]; decide) (by rw [q3]; rfl) (by decide) ?_
    refine z_iload_n X dd_Mo_both_77 rfl 1 rfl ?_
    refine z_i2l X dd_Mo_both_78 ?_
    refine z_iload_n X dd_Mo_both_79 rfl 2 rfl ?_
    refine z_i2l X dd_Mo_both_80 ?_
    refine z_lsub X dd_Mo_both_81 ?_
    obtain ⟨q4, eq4, h⟩ := zb h
    refine z_callSi X [.long ((Int32.toInt64 a1) - (Int32.toInt64 a2))] rfl dd_Mo_both_82 (c_Mo_bounded l eq4) (va_cwS 1 X.1.2.2.2.2 (zg_S km_2128 km_2129 km_138 km_2130) rfl rfl rfl (by decide +kernel) ⟨Nat.le_of_ble_eq_true rfl, Nat.le_of_ble_eq_true rfl⟩) rfl (Nat.le_of_ble_eq_true rfl) ⟨Nat.le_of_ble_eq_true rfl, Nat.le_of_ble_eq_true rfl⟩ ?_
    obtain rfl := Option.some.inj h
    exact z_iret X H.1 H.2.1 H.2.2.1 dd_Mo_both_85
  rw [if_neg q3] at h
  by_cases q5 : a0 = 6
  · rw [if_pos q5] at h
    refine z_tableIn (tgt := 86) (off := 85) X dd_Mo_both_1 (by rw [q5]; decide) (by rw [q5]; decide) (by rw [q5]; rfl) (by decide) ?_
    refine z_iload_n X dd_Mo_both_86 rfl 1 rfl ?_
    refine z_i2l X dd_Mo_both_87 ?_
    refine z_iload_n X dd_Mo_both_88 rfl 2 rfl ?_
    refine z_i2l X dd_Mo_both_89 ?_
    refine z_lmul X dd_Mo_both_90 ?_
    obtain ⟨q6, eq6, h⟩ := zb h
    refine z_callSi X [.long ((Int32.toInt64 a1) * (Int32.toInt64 a2))] rfl dd_Mo_both_91 (c_Mo_bounded l eq6) (va_cwS 1 X.1.2.2.2.2 (zg_S km_2128 km_2129 km_138 km_2130) rfl rfl rfl (by decide +kernel) ⟨Nat.le_of_ble_eq_true rfl, Nat.le_of_ble_eq_true rfl⟩) rfl (Nat.le_of_ble_eq_true rfl) ⟨Nat.le_of_ble_eq_true rfl, Nat.le_of_ble_eq_true rfl⟩ ?_
    obtain rfl := Option.some.inj h
    exact z_iret X H.1 H.2.1 H.2.2.1 dd_Mo_both_94
  rw [if_neg q5] at h
  by_cases q7 : a0 = 7
  · rw [if_pos q7] at h
    refine z_tableIn (tgt := 165) (off := 164) X dd_Mo_both_1 (by rw [q7]; decide) (by rw [q7]; decide) (by rw [q7]; rfl) (by decide) ?_
    refine z_iload_n X dd_Mo_both_165 rfl 1 rfl ?_
    refine z_iload_n X dd_Mo_both_166 rfl 2 rfl ?_
    refine z_ior X dd_Mo_both_167 ?_
    obtain rfl := Option.some.inj h
    exact z_iret X H.1 H.2.1 H.2.2.1 dd_Mo_both_168
  rw [if_neg q7] at h
  by_cases q8 : a0 = 8
  · rw [if_pos q8] at h
    refine z_tableIn (tgt := 165) (off := 164) X dd_Mo_both_1 (by rw [q8]; decide) (by rw [q8]; decide) (by rw [q8]; rfl) (by decide) ?_
    refine z_iload_n X dd_Mo_both_165 rfl 1 rfl ?_
    refine z_iload_n X dd_Mo_both_166 rfl 2 rfl ?_
    refine z_ior X dd_Mo_both_167 ?_
    obtain rfl := Option.some.inj h
    exact z_iret X H.1 H.2.1 H.2.2.1 dd_Mo_both_168
  rw [if_neg q8] at h
  by_cases q9 : a0 = 9
  · rw [if_pos q9] at h
    refine z_tableIn (tgt := 165) (off := 164) X dd_Mo_both_1 (by rw [q9]; decide) (by rw [q9]; decide) (by rw [q9]; rfl) (by decide) ?_
    refine z_iload_n X dd_Mo_both_165 rfl 1 rfl ?_
    refine z_iload_n X dd_Mo_both_166 rfl 2 rfl ?_
    refine z_ior X dd_Mo_both_167 ?_
    obtain rfl := Option.some.inj h
    exact z_iret X H.1 H.2.1 H.2.2.1 dd_Mo_both_168
  rw [if_neg q9] at h
  by_cases q10 : a0 = 10
  · rw [if_pos q10] at h
    refine z_tableIn (tgt := 95) (off := 94) X dd_Mo_both_1 (by rw [q10]; decide) (by rw [q10]; decide) (by rw [q10]; rfl) (by decide) ?_
    refine z_iload_n X dd_Mo_both_95 rfl 1 rfl ?_
    refine z_iload_n X dd_Mo_both_96 rfl 2 rfl ?_
    refine z_icmp_ne (tgt := 104) X dd_Mo_both_97 (by decide) (fun q11 => ?_) (fun q11 => ?_)
    · rw [if_neg q11] at h
      refine z_iconst (v := 0) X dd_Mo_both_104 (by decide) ?_
      refine z_sub [] rfl ?_
      exact t_Mo_both_105 X H h
    · rw [if_pos q11] at h
      refine z_iconst (v := 1) X dd_Mo_both_100 (by decide) ?_
      refine z_goto (tgt := 105) X dd_Mo_both_101 (by decide) ?_
      refine z_sub [] rfl ?_
      exact t_Mo_both_105 X H h
  rw [if_neg q10] at h
  by_cases q12 : a0 = 11
  · rw [if_pos q12] at h
    refine z_tableIn (tgt := 106) (off := 105) X dd_Mo_both_1 (by rw [q12]; decide) (by rw [q12]; decide) (by rw [q12]; rfl) (by decide) ?_
    refine z_iload_n X dd_Mo_both_106 rfl 1 rfl ?_
    refine z_iload_n X dd_Mo_both_107 rfl 2 rfl ?_
    refine z_icmp_eq (tgt := 115) X dd_Mo_both_108 (by decide) (fun q13 => ?_) (fun q13 => ?_)
    · rw [if_pos q13] at h
      refine z_iconst (v := 0) X dd_Mo_both_115 (by decide) ?_
      refine z_sub [] rfl ?_
      exact t_Mo_both_116 X H h
    · rw [if_neg q13] at h
      refine z_iconst (v := 1) X dd_Mo_both_111 (by decide) ?_
      refine z_goto (tgt := 116) X dd_Mo_both_112 (by decide) ?_
      refine z_sub [] rfl ?_
      exact t_Mo_both_116 X H h
  rw [if_neg q12] at h
  by_cases q14 : a0 = 12
  · rw [if_pos q14] at h
    refine z_tableIn (tgt := 117) (off := 116) X dd_Mo_both_1 (by rw [q14]; decide) (by rw [q14]; decide) (by rw [q14]; rfl) (by decide) ?_
    refine z_iload_n X dd_Mo_both_117 rfl 1 rfl ?_
    refine z_iload_n X dd_Mo_both_118 rfl 2 rfl ?_
    refine z_icmp_ge (tgt := 126) X dd_Mo_both_119 (by decide) (fun q15 => ?_) (fun q15 => ?_)
    · rw [if_pos q15] at h
      refine z_iconst (v := 0) X dd_Mo_both_126 (by decide) ?_
      refine z_sub [] rfl ?_
      exact t_Mo_both_127 X H h
    · rw [if_neg q15] at h
      refine z_iconst (v := 1) X dd_Mo_both_122 (by decide) ?_
      refine z_goto (tgt := 127) X dd_Mo_both_123 (by decide) ?_
      refine z_sub [] rfl ?_
      exact t_Mo_both_127 X H h
  rw [if_neg q14] at h
  by_cases q16 : a0 = 13
  · rw [if_pos q16] at h
    refine z_tableIn (tgt := 128) (off := 127) X dd_Mo_both_1 (by rw [q16]; decide) (by rw [q16]; decide) (by rw [q16]; rfl) (by decide) ?_
    refine z_iload_n X dd_Mo_both_128 rfl 1 rfl ?_
    refine z_iload_n X dd_Mo_both_129 rfl 2 rfl ?_
    refine z_icmp_gt (tgt := 137) X dd_Mo_both_130 (by decide) (fun q17 => ?_) (fun q17 => ?_)
    · rw [if_pos q17] at h
      refine z_iconst (v := 0) X dd_Mo_both_137 (by decide) ?_
      refine z_sub [] rfl ?_
      exact t_Mo_both_138 X H h
    · rw [if_neg q17] at h
      refine z_iconst (v := 1) X dd_Mo_both_133 (by decide) ?_
      refine z_goto (tgt := 138) X dd_Mo_both_134 (by decide) ?_
      refine z_sub [] rfl ?_
      exact t_Mo_both_138 X H h
  rw [if_neg q16] at h
  by_cases q18 : a0 = 14
  · rw [if_pos q18] at h
    refine z_tableIn (tgt := 139) (off := 138) X dd_Mo_both_1 (by rw [q18]; decide) (by rw [q18]; decide) (by rw [q18]; rfl) (by decide) ?_
    refine z_iload_n X dd_Mo_both_139 rfl 1 rfl ?_
    refine z_iload_n X dd_Mo_both_140 rfl 2 rfl ?_
    refine z_icmp_le (tgt := 148) X dd_Mo_both_141 (by decide) (fun q19 => ?_) (fun q19 => ?_)
    · rw [if_pos q19] at h
      refine z_iconst (v := 0) X dd_Mo_both_148 (by decide) ?_
      refine z_sub [] rfl ?_
      exact t_Mo_both_149 X H h
    · rw [if_neg q19] at h
      refine z_iconst (v := 1) X dd_Mo_both_144 (by decide) ?_
      refine z_goto (tgt := 149) X dd_Mo_both_145 (by decide) ?_
      refine z_sub [] rfl ?_
      exact t_Mo_both_149 X H h
  rw [if_neg q18] at h
  by_cases q20 : a0 = 15
  · rw [if_pos q20] at h
    refine z_tableIn (tgt := 150) (off := 149) X dd_Mo_both_1 (by rw [q20]; decide) (by rw [q20]; decide) (by rw [q20]; rfl) (by decide) ?_
    refine z_iload_n X dd_Mo_both_150 rfl 1 rfl ?_
    refine z_iload_n X dd_Mo_both_151 rfl 2 rfl ?_
    refine z_icmp_lt (tgt := 159) X dd_Mo_both_152 (by decide) (fun q21 => ?_) (fun q21 => ?_)
    · rw [if_pos q21] at h
      refine z_iconst (v := 0) X dd_Mo_both_159 (by decide) ?_
      refine z_sub [] rfl ?_
      exact t_Mo_both_160 X H h
    · rw [if_neg q21] at h
      refine z_iconst (v := 1) X dd_Mo_both_155 (by decide) ?_
      refine z_goto (tgt := 160) X dd_Mo_both_156 (by decide) ?_
      refine z_sub [] rfl ?_
      exact t_Mo_both_160 X H h
  rw [if_neg q20] at h
  by_cases q22 : a0 = 16
  · rw [if_pos q22] at h
    refine z_tableIn (tgt := 161) (off := 160) X dd_Mo_both_1 (by rw [q22]; decide) (by rw [q22]; decide) (by rw [q22]; rfl) (by decide) ?_
    refine z_iload_n X dd_Mo_both_161 rfl 1 rfl ?_
    refine z_iload_n X dd_Mo_both_162 rfl 2 rfl ?_
    refine z_iand X dd_Mo_both_163 ?_
    obtain rfl := Option.some.inj h
    exact z_iret X H.1 H.2.1 H.2.2.1 dd_Mo_both_164
  rw [if_neg q22] at h
  refine z_tableOut (tgt := 165) X dd_Mo_both_1 (by have yq1 := lv_neT q1 (a := 4) (by decide); have yq3 := lv_neT q3 (a := 5) (by decide); have yq5 := lv_neT q5 (a := 6) (by decide); have yq7 := lv_neT q7 (a := 7) (by decide); have yq8 := lv_neT q8 (a := 8) (by decide); have yq9 := lv_neT q9 (a := 9) (by decide); have yq10 := lv_neT q10 (a := 10) (by decide); have yq12 := lv_neT q12 (a := 11) (by decide); have yq14 := lv_neT q14 (a := 12) (by decide); have yq16 := lv_neT q16 (a := 13) (by decide); have yq18 := lv_neT q18 (a := 14) (by decide); have yq20 := lv_neT q20 (a := 15) (by decide); have yq22 := lv_neT q22 (a := 16) (by decide); omega) (by decide) ?_
  refine z_iload_n X dd_Mo_both_165 rfl 1 rfl ?_
  refine z_iload_n X dd_Mo_both_166 rfl 2 rfl ?_
  refine z_ior X dd_Mo_both_167 ?_
  obtain rfl := Option.some.inj h
  exact z_iret X H.1 H.2.1 H.2.2.1 dd_Mo_both_168
theorem dd_Mo_work_0 : decode bb_Mo_work 0 = .ok (.iconst 0, 1) := by decide +kernel
theorem dd_Mo_work_1 : decode bb_Mo_work 1 = .ok (.istore_n 3, 1) := by decide +kernel
theorem dd_Mo_work_2 : decode bb_Mo_work 2 = .ok (.iload_n 1, 1) := by decide +kernel
theorem dd_Mo_work_3 : decode bb_Mo_work 3 = .ok (.istore 4, 2) := by decide +kernel
theorem dd_Mo_work_5 : decode bb_Mo_work 5 = .ok (.aload_n 0, 1) := by decide +kernel
theorem dd_Mo_work_6 : decode bb_Mo_work 6 = .ok (.getfield 137, 3) := by decide +kernel
theorem dd_Mo_work_9 : decode bb_Mo_work 9 = .ok (.iload_n 2, 1) := by decide +kernel
theorem dd_Mo_work_10 : decode bb_Mo_work 10 = .ok (.iload 4, 2) := by decide +kernel
theorem dd_Mo_work_12 : decode bb_Mo_work 12 = .ok (.iadd, 1) := by decide +kernel
theorem dd_Mo_work_13 : decode bb_Mo_work 13 = .ok (.iaload, 1) := by decide +kernel
theorem dd_Mo_work_14 : decode bb_Mo_work 14 = .ok (.bipush 99, 2) := by decide +kernel
theorem dd_Mo_work_16 : decode bb_Mo_work 16 = .ok (.if_icmp .eq 230, 3) := by decide +kernel
theorem dd_Mo_work_19 : decode bb_Mo_work 19 = .ok (.aload_n 0, 1) := by decide +kernel
theorem dd_Mo_work_20 : decode bb_Mo_work 20 = .ok (.getfield 137, 3) := by decide +kernel
theorem dd_Mo_work_23 : decode bb_Mo_work 23 = .ok (.iload_n 2, 1) := by decide +kernel
theorem dd_Mo_work_24 : decode bb_Mo_work 24 = .ok (.iload 4, 2) := by decide +kernel
theorem dd_Mo_work_26 : decode bb_Mo_work 26 = .ok (.iadd, 1) := by decide +kernel
theorem dd_Mo_work_27 : decode bb_Mo_work 27 = .ok (.iaload, 1) := by decide +kernel
theorem dd_Mo_work_28 : decode bb_Mo_work 28 = .ok (.istore 5, 2) := by decide +kernel
theorem dd_Mo_work_30 : decode bb_Mo_work 30 = .ok (.aload_n 0, 1) := by decide +kernel
theorem dd_Mo_work_31 : decode bb_Mo_work 31 = .ok (.getfield 140, 3) := by decide +kernel
theorem dd_Mo_work_34 : decode bb_Mo_work 34 = .ok (.iload_n 2, 1) := by decide +kernel
theorem dd_Mo_work_35 : decode bb_Mo_work 35 = .ok (.iload 4, 2) := by decide +kernel
theorem dd_Mo_work_37 : decode bb_Mo_work 37 = .ok (.iadd, 1) := by decide +kernel
theorem dd_Mo_work_38 : decode bb_Mo_work 38 = .ok (.iaload, 1) := by decide +kernel
theorem dd_Mo_work_39 : decode bb_Mo_work 39 = .ok (.istore 6, 2) := by decide +kernel
theorem dd_Mo_work_41 : decode bb_Mo_work 41 = .ok (.iinc 4 1, 3) := by decide +kernel
theorem dd_Mo_work_44 : decode bb_Mo_work 44 = .ok (.iload 5, 2) := by decide +kernel
theorem dd_Mo_work_46 : decode bb_Mo_work 46 = .ok (.iconst 3, 1) := by decide +kernel
theorem dd_Mo_work_47 : decode bb_Mo_work 47 = .ok (.if_icmp .gt 78, 3) := by decide +kernel
theorem dd_Mo_work_50 : decode bb_Mo_work 50 = .ok (.aload_n 0, 1) := by decide +kernel
theorem dd_Mo_work_51 : decode bb_Mo_work 51 = .ok (.getfield 197, 3) := by decide +kernel
theorem dd_Mo_work_54 : decode bb_Mo_work 54 = .ok (.iload_n 3, 1) := by decide +kernel
theorem dd_Mo_work_55 : decode bb_Mo_work 55 = .ok (.iload 5, 2) := by decide +kernel
theorem dd_Mo_work_57 : decode bb_Mo_work 57 = .ok (.ifCond .ne 8, 3) := by decide +kernel
theorem dd_Mo_work_60 : decode bb_Mo_work 60 = .ok (.iload 6, 2) := by decide +kernel
theorem dd_Mo_work_62 : decode bb_Mo_work 62 = .ok (.goto 56, 3) := by decide +kernel
theorem dd_Mo_work_65 : decode bb_Mo_work 65 = .ok (.iload 5, 2) := by decide +kernel
theorem dd_Mo_work_67 : decode bb_Mo_work 67 = .ok (.iconst 1, 1) := by decide +kernel
theorem dd_Mo_work_68 : decode bb_Mo_work 68 = .ok (.if_icmp .ne 13, 3) := by decide +kernel
theorem dd_Mo_work_71 : decode bb_Mo_work 71 = .ok (.aload_n 0, 1) := by decide +kernel
theorem dd_Mo_work_72 : decode bb_Mo_work 72 = .ok (.getfield 191, 3) := by decide +kernel
theorem dd_Mo_work_75 : decode bb_Mo_work 75 = .ok (.iload 6, 2) := by decide +kernel
theorem dd_Mo_work_77 : decode bb_Mo_work 77 = .ok (.iaload, 1) := by decide +kernel
theorem dd_Mo_work_78 : decode bb_Mo_work 78 = .ok (.goto 40, 3) := by decide +kernel
theorem dd_Mo_work_81 : decode bb_Mo_work 81 = .ok (.iload 5, 2) := by decide +kernel
theorem dd_Mo_work_83 : decode bb_Mo_work 83 = .ok (.iconst 2, 1) := by decide +kernel
theorem dd_Mo_work_84 : decode bb_Mo_work 84 = .ok (.if_icmp .ne 13, 3) := by decide +kernel
theorem dd_Mo_work_87 : decode bb_Mo_work 87 = .ok (.aload_n 0, 1) := by decide +kernel
theorem dd_Mo_work_88 : decode bb_Mo_work 88 = .ok (.getfield 194, 3) := by decide +kernel
theorem dd_Mo_work_91 : decode bb_Mo_work 91 = .ok (.iload 6, 2) := by decide +kernel
theorem dd_Mo_work_93 : decode bb_Mo_work 93 = .ok (.iaload, 1) := by decide +kernel
theorem dd_Mo_work_94 : decode bb_Mo_work 94 = .ok (.goto 24, 3) := by decide +kernel
theorem dd_Mo_work_97 : decode bb_Mo_work 97 = .ok (.aload_n 0, 1) := by decide +kernel
theorem dd_Mo_work_98 : decode bb_Mo_work 98 = .ok (.getfield 13, 3) := by decide +kernel
theorem dd_Mo_work_101 : decode bb_Mo_work 101 = .ok (.iconst 4, 1) := by decide +kernel
theorem dd_Mo_work_102 : decode bb_Mo_work 102 = .ok (.aload_n 0, 1) := by decide +kernel
theorem dd_Mo_work_103 : decode bb_Mo_work 103 = .ok (.getfield 191, 3) := by decide +kernel
theorem dd_Mo_work_106 : decode bb_Mo_work 106 = .ok (.iload 6, 2) := by decide +kernel
theorem dd_Mo_work_108 : decode bb_Mo_work 108 = .ok (.iconst 4, 1) := by decide +kernel
theorem dd_Mo_work_109 : decode bb_Mo_work 109 = .ok (.idiv, 1) := by decide +kernel
theorem dd_Mo_work_110 : decode bb_Mo_work 110 = .ok (.iaload, 1) := by decide +kernel
theorem dd_Mo_work_111 : decode bb_Mo_work 111 = .ok (.imul, 1) := by decide +kernel
theorem dd_Mo_work_112 : decode bb_Mo_work 112 = .ok (.iload 6, 2) := by decide +kernel
theorem dd_Mo_work_114 : decode bb_Mo_work 114 = .ok (.iconst 4, 1) := by decide +kernel
theorem dd_Mo_work_115 : decode bb_Mo_work 115 = .ok (.irem, 1) := by decide +kernel
theorem dd_Mo_work_116 : decode bb_Mo_work 116 = .ok (.iadd, 1) := by decide +kernel
theorem dd_Mo_work_117 : decode bb_Mo_work 117 = .ok (.iaload, 1) := by decide +kernel
theorem dd_Mo_work_118 : decode bb_Mo_work 118 = .ok (.iastore, 1) := by decide +kernel
theorem dd_Mo_work_119 : decode bb_Mo_work 119 = .ok (.iinc 3 1, 3) := by decide +kernel
theorem dd_Mo_work_122 : decode bb_Mo_work 122 = .ok (.goto 121, 3) := by decide +kernel
theorem dd_Mo_work_125 : decode bb_Mo_work 125 = .ok (.iload 5, 2) := by decide +kernel
theorem dd_Mo_work_127 : decode bb_Mo_work 127 = .ok (.bipush 19, 2) := by decide +kernel
theorem dd_Mo_work_129 : decode bb_Mo_work 129 = .ok (.if_icmp .ne 29, 3) := by decide +kernel
theorem dd_Mo_work_132 : decode bb_Mo_work 132 = .ok (.aload_n 0, 1) := by decide +kernel
theorem dd_Mo_work_133 : decode bb_Mo_work 133 = .ok (.getfield 197, 3) := by decide +kernel
theorem dd_Mo_work_136 : decode bb_Mo_work 136 = .ok (.iload_n 3, 1) := by decide +kernel
theorem dd_Mo_work_137 : decode bb_Mo_work 137 = .ok (.aload_n 0, 1) := by decide +kernel
theorem dd_Mo_work_138 : decode bb_Mo_work 138 = .ok (.iload 6, 2) := by decide +kernel
theorem dd_Mo_work_140 : decode bb_Mo_work 140 = .ok (.invokevirtual 475, 3) := by decide +kernel
theorem dd_Mo_work_143 : decode bb_Mo_work 143 = .ok (.ifCond .eq 7, 3) := by decide +kernel
theorem dd_Mo_work_146 : decode bb_Mo_work 146 = .ok (.iconst 1, 1) := by decide +kernel
theorem dd_Mo_work_147 : decode bb_Mo_work 147 = .ok (.goto 4, 3) := by decide +kernel
theorem dd_Mo_work_150 : decode bb_Mo_work 150 = .ok (.iconst 0, 1) := by decide +kernel
theorem dd_Mo_work_151 : decode bb_Mo_work 151 = .ok (.iastore, 1) := by decide +kernel
theorem dd_Mo_work_152 : decode bb_Mo_work 152 = .ok (.iinc 3 1, 3) := by decide +kernel
theorem dd_Mo_work_155 : decode bb_Mo_work 155 = .ok (.goto 88, 3) := by decide +kernel
theorem dd_Mo_work_158 : decode bb_Mo_work 158 = .ok (.iload 5, 2) := by decide +kernel
theorem dd_Mo_work_160 : decode bb_Mo_work 160 = .ok (.bipush 7, 2) := by decide +kernel
theorem dd_Mo_work_162 : decode bb_Mo_work 162 = .ok (.if_icmp .ne 23, 3) := by decide +kernel
theorem dd_Mo_work_165 : decode bb_Mo_work 165 = .ok (.aload_n 0, 1) := by decide +kernel
theorem dd_Mo_work_166 : decode bb_Mo_work 166 = .ok (.getfield 197, 3) := by decide +kernel
theorem dd_Mo_work_169 : decode bb_Mo_work 169 = .ok (.iload_n 3, 1) := by decide +kernel
theorem dd_Mo_work_170 : decode bb_Mo_work 170 = .ok (.iconst 1, 1) := by decide +kernel
theorem dd_Mo_work_171 : decode bb_Mo_work 171 = .ok (.isub, 1) := by decide +kernel
theorem dd_Mo_work_172 : decode bb_Mo_work 172 = .ok (.aload_n 0, 1) := by decide +kernel
theorem dd_Mo_work_173 : decode bb_Mo_work 173 = .ok (.getfield 197, 3) := by decide +kernel
theorem dd_Mo_work_176 : decode bb_Mo_work 176 = .ok (.iload_n 3, 1) := by decide +kernel
theorem dd_Mo_work_177 : decode bb_Mo_work 177 = .ok (.iconst 1, 1) := by decide +kernel
theorem dd_Mo_work_178 : decode bb_Mo_work 178 = .ok (.isub, 1) := by decide +kernel
theorem dd_Mo_work_179 : decode bb_Mo_work 179 = .ok (.iaload, 1) := by decide +kernel
theorem dd_Mo_work_180 : decode bb_Mo_work 180 = .ok (.ineg, 1) := by decide +kernel
theorem dd_Mo_work_181 : decode bb_Mo_work 181 = .ok (.iastore, 1) := by decide +kernel
theorem dd_Mo_work_182 : decode bb_Mo_work 182 = .ok (.goto 61, 3) := by decide +kernel
theorem dd_Mo_work_185 : decode bb_Mo_work 185 = .ok (.iload 5, 2) := by decide +kernel
theorem dd_Mo_work_187 : decode bb_Mo_work 187 = .ok (.bipush 18, 2) := by decide +kernel
theorem dd_Mo_work_189 : decode bb_Mo_work 189 = .ok (.if_icmp .ne 24, 3) := by decide +kernel
theorem dd_Mo_work_192 : decode bb_Mo_work 192 = .ok (.aload_n 0, 1) := by decide +kernel
theorem dd_Mo_work_193 : decode bb_Mo_work 193 = .ok (.getfield 197, 3) := by decide +kernel
theorem dd_Mo_work_196 : decode bb_Mo_work 196 = .ok (.iload_n 3, 1) := by decide +kernel
theorem dd_Mo_work_197 : decode bb_Mo_work 197 = .ok (.iconst 1, 1) := by decide +kernel
theorem dd_Mo_work_198 : decode bb_Mo_work 198 = .ok (.isub, 1) := by decide +kernel
theorem dd_Mo_work_199 : decode bb_Mo_work 199 = .ok (.iconst 1, 1) := by decide +kernel
theorem dd_Mo_work_200 : decode bb_Mo_work 200 = .ok (.aload_n 0, 1) := by decide +kernel
theorem dd_Mo_work_201 : decode bb_Mo_work 201 = .ok (.getfield 197, 3) := by decide +kernel
theorem dd_Mo_work_204 : decode bb_Mo_work 204 = .ok (.iload_n 3, 1) := by decide +kernel
theorem dd_Mo_work_205 : decode bb_Mo_work 205 = .ok (.iconst 1, 1) := by decide +kernel
theorem dd_Mo_work_206 : decode bb_Mo_work 206 = .ok (.isub, 1) := by decide +kernel
theorem dd_Mo_work_207 : decode bb_Mo_work 207 = .ok (.iaload, 1) := by decide +kernel
theorem dd_Mo_work_208 : decode bb_Mo_work 208 = .ok (.isub, 1) := by decide +kernel
theorem dd_Mo_work_209 : decode bb_Mo_work 209 = .ok (.iastore, 1) := by decide +kernel
theorem dd_Mo_work_210 : decode bb_Mo_work 210 = .ok (.goto 33, 3) := by decide +kernel
theorem dd_Mo_work_213 : decode bb_Mo_work 213 = .ok (.iinc 3 (-1), 3) := by decide +kernel
theorem dd_Mo_work_216 : decode bb_Mo_work 216 = .ok (.aload_n 0, 1) := by decide +kernel
theorem dd_Mo_work_217 : decode bb_Mo_work 217 = .ok (.getfield 197, 3) := by decide +kernel
theorem dd_Mo_work_220 : decode bb_Mo_work 220 = .ok (.iload_n 3, 1) := by decide +kernel
theorem dd_Mo_work_221 : decode bb_Mo_work 221 = .ok (.iconst 1, 1) := by decide +kernel
theorem dd_Mo_work_222 : decode bb_Mo_work 222 = .ok (.isub, 1) := by decide +kernel
theorem dd_Mo_work_223 : decode bb_Mo_work 223 = .ok (.iload 5, 2) := by decide +kernel
theorem dd_Mo_work_225 : decode bb_Mo_work 225 = .ok (.aload_n 0, 1) := by decide +kernel
theorem dd_Mo_work_226 : decode bb_Mo_work 226 = .ok (.getfield 197, 3) := by decide +kernel
theorem dd_Mo_work_229 : decode bb_Mo_work 229 = .ok (.iload_n 3, 1) := by decide +kernel
theorem dd_Mo_work_230 : decode bb_Mo_work 230 = .ok (.iconst 1, 1) := by decide +kernel
theorem dd_Mo_work_231 : decode bb_Mo_work 231 = .ok (.isub, 1) := by decide +kernel
theorem dd_Mo_work_232 : decode bb_Mo_work 232 = .ok (.iaload, 1) := by decide +kernel
theorem dd_Mo_work_233 : decode bb_Mo_work 233 = .ok (.aload_n 0, 1) := by decide +kernel
theorem dd_Mo_work_234 : decode bb_Mo_work 234 = .ok (.getfield 197, 3) := by decide +kernel
theorem dd_Mo_work_237 : decode bb_Mo_work 237 = .ok (.iload_n 3, 1) := by decide +kernel
theorem dd_Mo_work_238 : decode bb_Mo_work 238 = .ok (.iaload, 1) := by decide +kernel
theorem dd_Mo_work_239 : decode bb_Mo_work 239 = .ok (.invokestatic 478, 3) := by decide +kernel
theorem dd_Mo_work_242 : decode bb_Mo_work 242 = .ok (.iastore, 1) := by decide +kernel
theorem dd_Mo_work_243 : decode bb_Mo_work 243 = .ok (.goto (-238), 3) := by decide +kernel
theorem dd_Mo_work_246 : decode bb_Mo_work 246 = .ok (.aload_n 0, 1) := by decide +kernel
theorem dd_Mo_work_247 : decode bb_Mo_work 247 = .ok (.getfield 197, 3) := by decide +kernel
theorem dd_Mo_work_250 : decode bb_Mo_work 250 = .ok (.iconst 0, 1) := by decide +kernel
theorem dd_Mo_work_251 : decode bb_Mo_work 251 = .ok (.iaload, 1) := by decide +kernel
theorem dd_Mo_work_252 : decode bb_Mo_work 252 = .ok (.ireturn, 1) := by decide +kernel
def f_Mo_work_243 (nf : Nat) (x0 : Nat) (x2 : Int32) (x3 : Int32) (x4 : Int32) (c : Zc) : Option ((Nat × Int32 × Int32 × Int32 × Zc) ⊕ (Nat × Zc)) :=
  some (.inl (x0, x2, x3, x4, c))
def f_Mo_work_151 (nf : Nat) (x0 : Nat) (x2 : Int32) (x3 : Int32) (x4 : Int32) (s0 : Nat) (s1 : Int32) (s2 : Int32) (c : Zc) : Option ((Nat × Int32 × Int32 × Int32 × Zc) ⊕ (Nat × Zc)) :=
  (zsi c s0 0 s1 s2).bind fun c31 => f_Mo_work_243 nf x0 x2 (x3 + 1) x4 c31
def f_Mo_work_118 (nf : Nat) (x0 : Nat) (x2 : Int32) (x3 : Int32) (x4 : Int32) (s0 : Nat) (s1 : Int32) (s2 : Int32) (c : Zc) : Option ((Nat × Int32 × Int32 × Int32 × Zc) ⊕ (Nat × Zc)) :=
  (zsi c s0 0 s1 s2).bind fun c42 => f_Mo_work_243 nf x0 x2 (x3 + 1) x4 c42
def g_Mo_work_5 (nf : Nat) (x0 : Nat) (x2 : Int32) (x3 : Int32) (x4 : Int32) (c : Zc) : Option ((Nat × Int32 × Int32 × Int32 × Zc) ⊕ (Nat × Zc)) :=
  (zgr c x0 12 50).bind fun v1 => (zai c v1 0 (x2 + x4)).bind fun v2 => if v2 = 99 then (some (.inr (x0, c))) else ((zgr c x0 12 50).bind fun v4 => (zai c v4 0 (x2 + x4)).bind fun v5 => (zgr c x0 12 51).bind fun v6 => (zai c v6 0 (x2 + x4)).bind fun v7 => if 3 < v5 then (if v5 = 19 then ((zgr c x0 12 76).bind fun v27 => (zob c x0 12).bind fun w29 => (f_Mo_isWithout nf x0 v7 c).bind fun q28 => if q28.1 = 0 then (f_Mo_work_151 nf x0 x2 x3 (x4 + 1) v27 x3 0 q28.2) else (f_Mo_work_151 nf x0 x2 x3 (x4 + 1) v27 x3 1 q28.2)) else (if v5 = 7 then ((zgr c x0 12 76).bind fun v23 => (zgr c x0 12 76).bind fun v24 => (zai c v24 0 (x3 - 1)).bind fun v25 => (zsi c v23 0 (x3 - 1) (-v25)).bind fun c26 => f_Mo_work_243 nf x0 x2 x3 (x4 + 1) c26) else (if v5 = 18 then ((zgr c x0 12 76).bind fun v19 => (zgr c x0 12 76).bind fun v20 => (zai c v20 0 (x3 - 1)).bind fun v21 => (zsi c v19 0 (x3 - 1) (1 - v21)).bind fun c22 => f_Mo_work_243 nf x0 x2 x3 (x4 + 1) c22) else ((zgr c x0 12 76).bind fun v12 => (zgr c x0 12 76).bind fun v13 => (zai c v13 0 ((x3 + (-1)) - 1)).bind fun v14 => (zgr c x0 12 76).bind fun v15 => (zai c v15 0 (x3 + (-1))).bind fun v16 => (f_Mo_both nf v5 v14 v16 c).bind fun q17 => (zsi q17.2 v12 0 ((x3 + (-1)) - 1) q17.1).bind fun c18 => f_Mo_work_243 nf x0 x2 (x3 + (-1)) (x4 + 1) c18)))) else ((zgr c x0 12 76).bind fun v32 => if v5 = 0 then (f_Mo_work_118 nf x0 x2 x3 (x4 + 1) v32 x3 v7 c) else (if v5 = 1 then ((zgr c x0 12 74).bind fun v45 => (zai c v45 0 v7).bind fun v46 => f_Mo_work_118 nf x0 x2 x3 (x4 + 1) v32 x3 v46 c) else (if v5 = 2 then ((zgr c x0 12 75).bind fun v43 => (zai c v43 0 v7).bind fun v44 => f_Mo_work_118 nf x0 x2 x3 (x4 + 1) v32 x3 v44 c) else ((zgr c x0 12 2).bind fun v36 => (zgr c x0 12 74).bind fun v37 => (zai c v37 0 (v7 / 4)).bind fun v39 => (zai c v36 0 ((4 * v39) + (v7 - v7 / 4 * 4))).bind fun v41 => f_Mo_work_118 nf x0 x2 x3 (x4 + 1) v32 x3 v41 c)))))
def f_Mo_work_5 (nf : Nat) (x0 : Nat) (x2 : Int32) (x3 : Int32) (x4 : Int32) (c : Zc) : Option (Int32 × Zc) :=
  (zlp (fun a => g_Mo_work_5 nf a.1 a.2.1 a.2.2.1 a.2.2.2.1 a.2.2.2.2) nf (x0, x2, x3, x4, c)).bind fun b => (zgr b.2 b.1 12 76).bind fun v47 => (zai b.2 v47 0 0).bind fun v48 => some (v48, b.2)
def f_Mo_work (nf : Nat) (a0 : Nat) (a1 : Int32) (a2 : Int32) (c : Zc) : Option (Int32 × Zc) :=
  f_Mo_work_5 nf a0 a2 0 a1 c
set_option maxRecDepth 100000 in
set_option maxHeartbeats 4000000 in
theorem t_Mo_work_243  (X : zX p s m args cd D cid B bb_Mo_work 7 rr_Mo zT) (H : zH s meth B n0 (some (.int)) "work") {nf : Nat} {x0 : Nat} {x2 : Int32} {x3 : Int32} {x4 : Int32} {c : Zc} {r : (Nat × Int32 × Int32 × Int32 × Zc) ⊕ (Nat × Zc)} (h : f_Mo_work_243 nf x0 x2 x3 x4 c = some r) (k0 : ∀ a, r = .inl a → (fun a : Nat × Int32 × Int32 × Int32 × Zc => Zz p l e (zRm 3 68 0 0) s m args below meth cd Q D cid B 7 0 0 a.2.2.2.2 5 [(0, .ref a.1), (2, .int a.2.1), (3, .int a.2.2.1), (4, .int a.2.2.2.1)] []) a) (k1 : ∀ b, r = .inr b → (fun b : Nat × Zc => Zz p l e (zRm 3 68 0 0) s m args below meth cd Q D cid B 7 0 0 b.2 246 [(0, .ref b.1)] []) b) : Zz p l e (zRm 3 68 0 0) s m args below meth cd Q D cid B 7 0 0 c 243 [(0, .ref x0), (2, .int x2), (3, .int x3), (4, .int x4)] [] := by
  unfold f_Mo_work_243 at h
  refine z_goto (tgt := 5) X dd_Mo_work_243 (by decide) ?_
  obtain rfl := Option.some.inj h
  exact k0 _ rfl
set_option maxRecDepth 100000 in
set_option maxHeartbeats 4000000 in
theorem t_Mo_work_151  (X : zX p s m args cd D cid B bb_Mo_work 7 rr_Mo zT) (H : zH s meth B n0 (some (.int)) "work") {nf : Nat} {x0 : Nat} {x2 : Int32} {x3 : Int32} {x4 : Int32} {s0 : Nat} {s1 : Int32} {s2 : Int32} {c : Zc} {r : (Nat × Int32 × Int32 × Int32 × Zc) ⊕ (Nat × Zc)} (h : f_Mo_work_151 nf x0 x2 x3 x4 s0 s1 s2 c = some r) (k0 : ∀ a, r = .inl a → (fun a : Nat × Int32 × Int32 × Int32 × Zc => Zz p l e (zRm 3 68 0 0) s m args below meth cd Q D cid B 7 0 0 a.2.2.2.2 5 [(0, .ref a.1), (2, .int a.2.1), (3, .int a.2.2.1), (4, .int a.2.2.2.1)] []) a) (k1 : ∀ b, r = .inr b → (fun b : Nat × Zc => Zz p l e (zRm 3 68 0 0) s m args below meth cd Q D cid B 7 0 0 b.2 246 [(0, .ref b.1)] []) b) : Zz p l e (zRm 3 68 0 0) s m args below meth cd Q D cid B 7 0 0 c 151 [(0, .ref x0), (2, .int x2), (3, .int x3), (4, .int x4)] [.int s2, .int s1, .ref s0] := by
  unfold f_Mo_work_151 at h
  obtain ⟨c31, ec31, h⟩ := zb h
  refine z_iastore X dd_Mo_work_151 rfl ec31 ?_
  refine z_iinc (v := (x3 + 1)) (lv' := [(3, .int (x3 + 1)), (0, .ref x0), (2, .int x2), (4, .int x4)]) X dd_Mo_work_152 2 rfl rfl (by decide) rfl ?_
  refine z_goto (tgt := 243) X dd_Mo_work_155 (by decide) ?_
  refine z_sub [1, 2, 0, 3] rfl ?_
  exact t_Mo_work_243 X H h k0 k1
set_option maxRecDepth 100000 in
set_option maxHeartbeats 4000000 in
theorem t_Mo_work_118  (X : zX p s m args cd D cid B bb_Mo_work 7 rr_Mo zT) (H : zH s meth B n0 (some (.int)) "work") {nf : Nat} {x0 : Nat} {x2 : Int32} {x3 : Int32} {x4 : Int32} {s0 : Nat} {s1 : Int32} {s2 : Int32} {c : Zc} {r : (Nat × Int32 × Int32 × Int32 × Zc) ⊕ (Nat × Zc)} (h : f_Mo_work_118 nf x0 x2 x3 x4 s0 s1 s2 c = some r) (k0 : ∀ a, r = .inl a → (fun a : Nat × Int32 × Int32 × Int32 × Zc => Zz p l e (zRm 3 68 0 0) s m args below meth cd Q D cid B 7 0 0 a.2.2.2.2 5 [(0, .ref a.1), (2, .int a.2.1), (3, .int a.2.2.1), (4, .int a.2.2.2.1)] []) a) (k1 : ∀ b, r = .inr b → (fun b : Nat × Zc => Zz p l e (zRm 3 68 0 0) s m args below meth cd Q D cid B 7 0 0 b.2 246 [(0, .ref b.1)] []) b) : Zz p l e (zRm 3 68 0 0) s m args below meth cd Q D cid B 7 0 0 c 118 [(0, .ref x0), (2, .int x2), (3, .int x3), (4, .int x4)] [.int s2, .int s1, .ref s0] := by
  unfold f_Mo_work_118 at h
  obtain ⟨c42, ec42, h⟩ := zb h
  refine z_iastore X dd_Mo_work_118 rfl ec42 ?_
  refine z_iinc (v := (x3 + 1)) (lv' := [(3, .int (x3 + 1)), (0, .ref x0), (2, .int x2), (4, .int x4)]) X dd_Mo_work_119 2 rfl rfl (by decide) rfl ?_
  refine z_goto (tgt := 243) X dd_Mo_work_122 (by decide) ?_
  refine z_sub [1, 2, 0, 3] rfl ?_
  exact t_Mo_work_243 X H h k0 k1
set_option maxRecDepth 100000 in
set_option maxHeartbeats 4000000 in
theorem u_Mo_work_5  (X : zX p s m args cd D cid B bb_Mo_work 7 rr_Mo zT) (H : zH s meth B n0 (some (.int)) "work") {nf : Nat} {x0 : Nat} {x2 : Int32} {x3 : Int32} {x4 : Int32} {c : Zc} {r : (Nat × Int32 × Int32 × Int32 × Zc) ⊕ (Nat × Zc)} (h : g_Mo_work_5 nf x0 x2 x3 x4 c = some r) (k0 : ∀ a, r = .inl a → (fun a : Nat × Int32 × Int32 × Int32 × Zc => Zz p l e (zRm 3 68 0 0) s m args below meth cd Q D cid B 7 0 0 a.2.2.2.2 5 [(0, .ref a.1), (2, .int a.2.1), (3, .int a.2.2.1), (4, .int a.2.2.2.1)] []) a) (k1 : ∀ b, r = .inr b → (fun b : Nat × Zc => Zz p l e (zRm 3 68 0 0) s m args below meth cd Q D cid B 7 0 0 b.2 246 [(0, .ref b.1)] []) b) : Zz p l e (zRm 3 68 0 0) s m args below meth cd Q D cid B 7 0 0 c 5 [(0, .ref x0), (2, .int x2), (3, .int x3), (4, .int x4)] [] := by
  unfold g_Mo_work_5 at h
  refine z_aload_n X dd_Mo_work_5 rfl 0 rfl ?_
  obtain ⟨v1, ev1, h⟩ := zb h
  refine z_get (j := 50) X dd_Mo_work_6 kc_12 ki_12 (by decide) km_1571 (zgr_v ev1) ?_
  refine z_iload_n X dd_Mo_work_9 rfl 1 rfl ?_
  refine z_iload X dd_Mo_work_10 3 rfl ?_
  refine z_iadd X dd_Mo_work_12 ?_
  obtain ⟨v2, ev2, h⟩ := zb h
  refine z_iaload X dd_Mo_work_13 rfl ev2 ?_
  refine z_bipush (v := 99) X dd_Mo_work_14 (by decide) ?_
  refine z_icmp_eq (tgt := 246) X dd_Mo_work_16 (by decide) (fun q3 => ?_) (fun q3 => ?_)
  · rw [if_pos q3] at h
    refine z_sub [0] rfl ?_
    obtain rfl := Option.some.inj h
    exact k1 _ rfl
  · rw [if_neg q3] at h
    refine z_aload_n X dd_Mo_work_19 rfl 0 rfl ?_
    obtain ⟨v4, ev4, h⟩ := zb h
    refine z_get (j := 50) X dd_Mo_work_20 kc_12 ki_12 (by decide) km_1571 (zgr_v ev4) ?_
    refine z_iload_n X dd_Mo_work_23 rfl 1 rfl ?_
    refine z_iload X dd_Mo_work_24 3 rfl ?_
    refine z_iadd X dd_Mo_work_26 ?_
    obtain ⟨v5, ev5, h⟩ := zb h
    refine z_iaload X dd_Mo_work_27 rfl ev5 ?_
    refine z_istore (lv' := [(5, .int v5), (0, .ref x0), (2, .int x2), (3, .int x3), (4, .int x4)]) X dd_Mo_work_28 (by decide) rfl ?_
    refine z_aload_n X dd_Mo_work_30 rfl 1 rfl ?_
    obtain ⟨v6, ev6, h⟩ := zb h
    refine z_get (j := 51) X dd_Mo_work_31 kc_12 ki_12 (by decide) km_1572 (zgr_v ev6) ?_
    refine z_iload_n X dd_Mo_work_34 rfl 2 rfl ?_
    refine z_iload X dd_Mo_work_35 4 rfl ?_
    refine z_iadd X dd_Mo_work_37 ?_
    obtain ⟨v7, ev7, h⟩ := zb h
    refine z_iaload X dd_Mo_work_38 rfl ev7 ?_
    refine z_istore (lv' := [(6, .int v7), (5, .int v5), (0, .ref x0), (2, .int x2), (3, .int x3), (4, .int x4)]) X dd_Mo_work_39 (by decide) rfl ?_
    refine z_iinc (v := (x4 + 1)) (lv' := [(4, .int (x4 + 1)), (6, .int v7), (5, .int v5), (0, .ref x0), (2, .int x2), (3, .int x3)]) X dd_Mo_work_41 5 rfl rfl (by decide) rfl ?_
    refine z_iload X dd_Mo_work_44 2 rfl ?_
    refine z_iconst (v := 3) X dd_Mo_work_46 (by decide) ?_
    refine z_icmp_gt (tgt := 125) X dd_Mo_work_47 (by decide) (fun q8 => ?_) (fun q8 => ?_)
    · rw [if_pos q8] at h
      refine z_iload X dd_Mo_work_125 2 rfl ?_
      refine z_bipush (v := 19) X dd_Mo_work_127 (by decide) ?_
      refine z_icmp_ne (tgt := 158) X dd_Mo_work_129 (by decide) (fun q9 => ?_) (fun q9 => ?_)
      · rw [if_neg q9] at h
        refine z_iload X dd_Mo_work_158 2 rfl ?_
        refine z_bipush (v := 7) X dd_Mo_work_160 (by decide) ?_
        refine z_icmp_ne (tgt := 185) X dd_Mo_work_162 (by decide) (fun q10 => ?_) (fun q10 => ?_)
        · rw [if_neg q10] at h
          refine z_iload X dd_Mo_work_185 2 rfl ?_
          refine z_bipush (v := 18) X dd_Mo_work_187 (by decide) ?_
          refine z_icmp_ne (tgt := 213) X dd_Mo_work_189 (by decide) (fun q11 => ?_) (fun q11 => ?_)
          · rw [if_neg q11] at h
            refine z_iinc (v := (x3 + (-1))) (lv' := [(3, .int (x3 + (-1))), (4, .int (x4 + 1)), (6, .int v7), (5, .int v5), (0, .ref x0), (2, .int x2)]) X dd_Mo_work_213 5 rfl rfl (by decide) rfl ?_
            refine z_aload_n X dd_Mo_work_216 rfl 4 rfl ?_
            obtain ⟨v12, ev12, h⟩ := zb h
            refine z_get (j := 76) X dd_Mo_work_217 kc_12 ki_12 (by decide) km_1597 (zgr_v ev12) ?_
            refine z_iload_n X dd_Mo_work_220 rfl 0 rfl ?_
            refine z_iconst (v := 1) X dd_Mo_work_221 (by decide) ?_
            refine z_isub X dd_Mo_work_222 ?_
            refine z_iload X dd_Mo_work_223 3 rfl ?_
            refine z_aload_n X dd_Mo_work_225 rfl 4 rfl ?_
            obtain ⟨v13, ev13, h⟩ := zb h
            refine z_get (j := 76) X dd_Mo_work_226 kc_12 ki_12 (by decide) km_1597 (zgr_v ev13) ?_
            refine z_iload_n X dd_Mo_work_229 rfl 0 rfl ?_
            refine z_iconst (v := 1) X dd_Mo_work_230 (by decide) ?_
            refine z_isub X dd_Mo_work_231 ?_
            obtain ⟨v14, ev14, h⟩ := zb h
            refine z_iaload X dd_Mo_work_232 rfl ev14 ?_
            refine z_aload_n X dd_Mo_work_233 rfl 4 rfl ?_
            obtain ⟨v15, ev15, h⟩ := zb h
            refine z_get (j := 76) X dd_Mo_work_234 kc_12 ki_12 (by decide) km_1597 (zgr_v ev15) ?_
            refine z_iload_n X dd_Mo_work_237 rfl 0 rfl ?_
            obtain ⟨v16, ev16, h⟩ := zb h
            refine z_iaload X dd_Mo_work_238 rfl ev16 ?_
            obtain ⟨q17, eq17, h⟩ := zb h
            refine z_callSi X [.int v5, .int v14, .int v16] rfl dd_Mo_work_239 (c_Mo_both l eq17) (va_cwS 3 X.1.2.2.2.2 (zg_S km_2125 km_2126 km_138 km_2127) rfl rfl rfl (by decide +kernel) ⟨Nat.le_of_ble_eq_true rfl, Nat.le_of_ble_eq_true rfl⟩) rfl (Nat.le_of_ble_eq_true rfl) ⟨Nat.le_of_ble_eq_true rfl, Nat.le_of_ble_eq_true rfl⟩ ?_
            obtain ⟨c18, ec18, h⟩ := zb h
            refine z_iastore X dd_Mo_work_242 rfl ec18 ?_
            refine z_sub [4, 5, 0, 1] rfl ?_
            exact t_Mo_work_243 X H h k0 k1
          · rw [if_pos q11] at h
            refine z_aload_n X dd_Mo_work_192 rfl 3 rfl ?_
            obtain ⟨v19, ev19, h⟩ := zb h
            refine z_get (j := 76) X dd_Mo_work_193 kc_12 ki_12 (by decide) km_1597 (zgr_v ev19) ?_
            refine z_iload_n X dd_Mo_work_196 rfl 5 rfl ?_
            refine z_iconst (v := 1) X dd_Mo_work_197 (by decide) ?_
            refine z_isub X dd_Mo_work_198 ?_
            refine z_iconst (v := 1) X dd_Mo_work_199 (by decide) ?_
            refine z_aload_n X dd_Mo_work_200 rfl 3 rfl ?_
            obtain ⟨v20, ev20, h⟩ := zb h
            refine z_get (j := 76) X dd_Mo_work_201 kc_12 ki_12 (by decide) km_1597 (zgr_v ev20) ?_
            refine z_iload_n X dd_Mo_work_204 rfl 5 rfl ?_
            refine z_iconst (v := 1) X dd_Mo_work_205 (by decide) ?_
            refine z_isub X dd_Mo_work_206 ?_
            obtain ⟨v21, ev21, h⟩ := zb h
            refine z_iaload X dd_Mo_work_207 rfl ev21 ?_
            refine z_isub X dd_Mo_work_208 ?_
            obtain ⟨c22, ec22, h⟩ := zb h
            refine z_iastore X dd_Mo_work_209 rfl ec22 ?_
            refine z_goto (tgt := 243) X dd_Mo_work_210 (by decide) ?_
            refine z_sub [3, 4, 5, 0] rfl ?_
            exact t_Mo_work_243 X H h k0 k1
        · rw [if_pos q10] at h
          refine z_aload_n X dd_Mo_work_165 rfl 3 rfl ?_
          obtain ⟨v23, ev23, h⟩ := zb h
          refine z_get (j := 76) X dd_Mo_work_166 kc_12 ki_12 (by decide) km_1597 (zgr_v ev23) ?_
          refine z_iload_n X dd_Mo_work_169 rfl 5 rfl ?_
          refine z_iconst (v := 1) X dd_Mo_work_170 (by decide) ?_
          refine z_isub X dd_Mo_work_171 ?_
          refine z_aload_n X dd_Mo_work_172 rfl 3 rfl ?_
          obtain ⟨v24, ev24, h⟩ := zb h
          refine z_get (j := 76) X dd_Mo_work_173 kc_12 ki_12 (by decide) km_1597 (zgr_v ev24) ?_
          refine z_iload_n X dd_Mo_work_176 rfl 5 rfl ?_
          refine z_iconst (v := 1) X dd_Mo_work_177 (by decide) ?_
          refine z_isub X dd_Mo_work_178 ?_
          obtain ⟨v25, ev25, h⟩ := zb h
          refine z_iaload X dd_Mo_work_179 rfl ev25 ?_
          refine z_ineg X dd_Mo_work_180 ?_
          obtain ⟨c26, ec26, h⟩ := zb h
          refine z_iastore X dd_Mo_work_181 rfl ec26 ?_
          refine z_goto (tgt := 243) X dd_Mo_work_182 (by decide) ?_
          refine z_sub [3, 4, 5, 0] rfl ?_
          exact t_Mo_work_243 X H h k0 k1
      · rw [if_pos q9] at h
        refine z_aload_n X dd_Mo_work_132 rfl 3 rfl ?_
        obtain ⟨v27, ev27, h⟩ := zb h
        refine z_get (j := 76) X dd_Mo_work_133 kc_12 ki_12 (by decide) km_1597 (zgr_v ev27) ?_
        refine z_iload_n X dd_Mo_work_136 rfl 5 rfl ?_
        refine z_aload_n X dd_Mo_work_137 rfl 3 rfl ?_
        refine z_iload X dd_Mo_work_138 1 rfl ?_
        obtain ⟨w29, ew29, h⟩ := zb h
        obtain ⟨q28, eq28, h⟩ := zb h
        refine z_callVi X [.int v7] rfl dd_Mo_work_140 (c_Mo_isWithout l eq28) (cwV 1 X.1.2.2.2.2 (zg_V km_2117 km_2119 km_116 km_138 km_2120) rfl rfl rfl (by decide +kernel) ⟨Nat.le_of_ble_eq_true rfl, Nat.le_of_ble_eq_true rfl⟩) (zob_s ew29) kc_12 rfl (Nat.le_of_ble_eq_true rfl) ⟨Nat.le_of_ble_eq_true rfl, Nat.le_of_ble_eq_true rfl⟩ ?_
        refine z_if_eq (tgt := 150) X dd_Mo_work_143 (by decide) (fun q30 => ?_) (fun q30 => ?_)
        · rw [if_pos q30] at h
          refine z_iconst (v := 0) X dd_Mo_work_150 (by decide) ?_
          refine z_sub [3, 4, 5, 0] rfl ?_
          exact t_Mo_work_151 X H h k0 k1
        · rw [if_neg q30] at h
          refine z_iconst (v := 1) X dd_Mo_work_146 (by decide) ?_
          refine z_goto (tgt := 151) X dd_Mo_work_147 (by decide) ?_
          refine z_sub [3, 4, 5, 0] rfl ?_
          exact t_Mo_work_151 X H h k0 k1
    · rw [if_neg q8] at h
      refine z_aload_n X dd_Mo_work_50 rfl 3 rfl ?_
      obtain ⟨v32, ev32, h⟩ := zb h
      refine z_get (j := 76) X dd_Mo_work_51 kc_12 ki_12 (by decide) km_1597 (zgr_v ev32) ?_
      refine z_iload_n X dd_Mo_work_54 rfl 5 rfl ?_
      refine z_iload X dd_Mo_work_55 2 rfl ?_
      refine z_if_ne (tgt := 65) X dd_Mo_work_57 (by decide) (fun q33 => ?_) (fun q33 => ?_)
      · rw [if_neg q33] at h
        refine z_iload X dd_Mo_work_65 2 rfl ?_
        refine z_iconst (v := 1) X dd_Mo_work_67 (by decide) ?_
        refine z_icmp_ne (tgt := 81) X dd_Mo_work_68 (by decide) (fun q34 => ?_) (fun q34 => ?_)
        · rw [if_neg q34] at h
          refine z_iload X dd_Mo_work_81 2 rfl ?_
          refine z_iconst (v := 2) X dd_Mo_work_83 (by decide) ?_
          refine z_icmp_ne (tgt := 97) X dd_Mo_work_84 (by decide) (fun q35 => ?_) (fun q35 => ?_)
          · rw [if_neg q35] at h
            refine z_aload_n X dd_Mo_work_97 rfl 3 rfl ?_
            obtain ⟨v36, ev36, h⟩ := zb h
            refine z_get (j := 2) X dd_Mo_work_98 kc_12 ki_12 (by decide) km_1523 (zgr_v ev36) ?_
            refine z_iconst (v := 4) X dd_Mo_work_101 (by decide) ?_
            refine z_aload_n X dd_Mo_work_102 rfl 3 rfl ?_
            obtain ⟨v37, ev37, h⟩ := zb h
            refine z_get (j := 74) X dd_Mo_work_103 kc_12 ki_12 (by decide) km_1595 (zgr_v ev37) ?_
            refine z_iload X dd_Mo_work_106 1 rfl ?_
            refine z_iconst (v := 4) X dd_Mo_work_108 (by decide) ?_
            refine z_idiv X dd_Mo_work_109 (by decide) ?_
            obtain ⟨v39, ev39, h⟩ := zb h
            refine z_iaload X dd_Mo_work_110 rfl ev39 ?_
            refine z_imul X dd_Mo_work_111 ?_
            refine z_iload X dd_Mo_work_112 1 rfl ?_
            refine z_iconst (v := 4) X dd_Mo_work_114 (by decide) ?_
            refine z_irem X dd_Mo_work_115 (by decide) ?_
            refine z_iadd X dd_Mo_work_116 ?_
            obtain ⟨v41, ev41, h⟩ := zb h
            refine z_iaload X dd_Mo_work_117 rfl ev41 ?_
            refine z_sub [3, 4, 5, 0] rfl ?_
            exact t_Mo_work_118 X H h k0 k1
          · rw [if_pos q35] at h
            refine z_aload_n X dd_Mo_work_87 rfl 3 rfl ?_
            obtain ⟨v43, ev43, h⟩ := zb h
            refine z_get (j := 75) X dd_Mo_work_88 kc_12 ki_12 (by decide) km_1596 (zgr_v ev43) ?_
            refine z_iload X dd_Mo_work_91 1 rfl ?_
            obtain ⟨v44, ev44, h⟩ := zb h
            refine z_iaload X dd_Mo_work_93 rfl ev44 ?_
            refine z_goto (tgt := 118) X dd_Mo_work_94 (by decide) ?_
            refine z_sub [3, 4, 5, 0] rfl ?_
            exact t_Mo_work_118 X H h k0 k1
        · rw [if_pos q34] at h
          refine z_aload_n X dd_Mo_work_71 rfl 3 rfl ?_
          obtain ⟨v45, ev45, h⟩ := zb h
          refine z_get (j := 74) X dd_Mo_work_72 kc_12 ki_12 (by decide) km_1595 (zgr_v ev45) ?_
          refine z_iload X dd_Mo_work_75 1 rfl ?_
          obtain ⟨v46, ev46, h⟩ := zb h
          refine z_iaload X dd_Mo_work_77 rfl ev46 ?_
          refine z_goto (tgt := 118) X dd_Mo_work_78 (by decide) ?_
          refine z_sub [3, 4, 5, 0] rfl ?_
          exact t_Mo_work_118 X H h k0 k1
      · rw [if_pos q33] at h
        refine z_iload X dd_Mo_work_60 1 rfl ?_
        refine z_goto (tgt := 118) X dd_Mo_work_62 (by decide) ?_
        refine z_sub [3, 4, 5, 0] rfl ?_
        exact t_Mo_work_118 X H h k0 k1
set_option maxRecDepth 100000 in
set_option maxHeartbeats 4000000 in
theorem t_Mo_work_5  (X : zX p s m args cd D cid B bb_Mo_work 7 rr_Mo zT) (H : zH s meth B n0 (some (.int)) "work") {nf : Nat} {x0 : Nat} {x2 : Int32} {x3 : Int32} {x4 : Int32} {c : Zc} {res : Int32 × Zc} (h : f_Mo_work_5 nf x0 x2 x3 x4 c = some res) : Zz p l e (zRm 3 68 0 0) s m args below meth cd (MQ below (zQi D cid B res.1 res.2 n0 0) args s 0 0 (fun q => B ≤ q)) D cid B 7 0 0 c 5 [(0, .ref x0), (2, .int x2), (3, .int x3), (4, .int x4)] [] := by
  unfold f_Mo_work_5 at h
  obtain ⟨b, eb, h⟩ := zb h
  refine zlp_ok (P := fun a : Nat × Int32 × Int32 × Int32 × Zc => Zz p l e (zRm 3 68 0 0) s m args below meth cd _ D cid B 7 0 0 a.2.2.2.2 5 [(0, .ref a.1), (2, .int a.2.1), (3, .int a.2.2.1), (4, .int a.2.2.2.1)] []) (G := fun b : Nat × Zc => Zz p l e (zRm 3 68 0 0) s m args below meth cd _ D cid B 7 0 0 b.2 246 [(0, .ref b.1)] []) (fun a r ha k0 k1 => u_Mo_work_5 X H ha k0 k1) nf _ b eb ?_
  refine z_aload_n X dd_Mo_work_246 rfl 0 rfl ?_
  obtain ⟨v47, ev47, h⟩ := zb h
  refine z_get (j := 76) X dd_Mo_work_247 kc_12 ki_12 (by decide) km_1597 (zgr_v ev47) ?_
  refine z_iconst (v := 0) X dd_Mo_work_250 (by decide) ?_
  obtain ⟨v48, ev48, h⟩ := zb h
  refine z_iaload X dd_Mo_work_251 rfl ev48 ?_
  obtain rfl := Option.some.inj h
  exact z_iret X H.1 H.2.1 H.2.2.1 dd_Mo_work_252
set_option maxRecDepth 100000 in
set_option maxHeartbeats 4000000 in
theorem c_Mo_work (l : Launch) {nf : Nat} {a0 : Nat} {a1 : Int32} {a2 : Int32} {c : Zc} {res : Int32 × Zc} (h : f_Mo_work nf a0 a1 a2 c = some res) : zM l yy_Mo_work ww_Mo_work 3 68 0 0 [.ref a0, .int a1, .int a2] c (fun D cid B => zQi D cid B res.1 res.2 c.length 0) := by
  refine z_met (cc := bb_Mo_work) (maxL := 7) (ret := (some (.int))) (by decide +kernel) rfl (Nat.le_of_ble_eq_true rfl) ?_
  intro p e s m args below meth cd D cid B X h1 h2 h3 h4
  have X : zX p s m args cd D cid B bb_Mo_work 7 rr_Mo zT := X
  have H : zH s meth B c.length (some (.int)) "work" := ⟨h1, h2, h4, h3⟩
  unfold f_Mo_work at h
  show Zz p l e (zRm 3 68 0 0) s m args below meth cd _ D cid B 7 0 0 c 0 [(0, .ref a0), (1, .int a1), (2, .int a2)] []
  refine z_iconst (v := 0) X dd_Mo_work_0 (by decide) ?_
  refine z_istore_n (lv' := [(3, .int 0), (0, .ref a0), (1, .int a1), (2, .int a2)]) X dd_Mo_work_1 rfl (by decide) rfl ?_
  refine z_iload_n X dd_Mo_work_2 rfl 2 rfl ?_
  refine z_istore (lv' := [(4, .int a1), (3, .int 0), (0, .ref a0), (1, .int a1), (2, .int a2)]) X dd_Mo_work_3 (by decide) rfl ?_
  refine z_sub [2, 4, 1, 0] rfl ?_
  exact t_Mo_work_5 X H h
end ZzM
