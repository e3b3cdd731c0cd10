section ZzM
variable {p : Program} {l : Launch} {e : Env} {s : State} {m : MethodId} {args : Array Value} {below : List Frame} {meth : Method} {cd : Code} {Q : State → Prop} {D : va_G} {cid : Nat → ClassId} {B n0 : Nat}
theorem dd_Rows_init_0 : decode bb_Rows_init 0 = .ok (.aload_n 0, 1) := by decide +kernel
theorem dd_Rows_init_1 : decode bb_Rows_init 1 = .ok (.invokespecial 1, 3) := by decide +kernel
theorem dd_Rows_init_4 : decode bb_Rows_init 4 = .ok (.aload_n 0, 1) := by decide +kernel
theorem dd_Rows_init_5 : decode bb_Rows_init 5 = .ok (.iconst 0, 1) := by decide +kernel
theorem dd_Rows_init_6 : decode bb_Rows_init 6 = .ok (.putfield 7, 3) := by decide +kernel
theorem dd_Rows_init_9 : decode bb_Rows_init 9 = .ok (.aload_n 0, 1) := by decide +kernel
theorem dd_Rows_init_10 : decode bb_Rows_init 10 = .ok (.iconst 0, 1) := by decide +kernel
theorem dd_Rows_init_11 : decode bb_Rows_init 11 = .ok (.putfield 13, 3) := by decide +kernel
theorem dd_Rows_init_14 : decode bb_Rows_init 14 = .ok (.aload_n 0, 1) := by decide +kernel
theorem dd_Rows_init_15 : decode bb_Rows_init 15 = .ok (.bipush 64, 2) := by decide +kernel
theorem dd_Rows_init_17 : decode bb_Rows_init 17 = .ok (.newarray .int, 2) := by decide +kernel
theorem dd_Rows_init_19 : decode bb_Rows_init 19 = .ok (.putfield 16, 3) := by decide +kernel
theorem dd_Rows_init_22 : decode bb_Rows_init 22 = .ok (.aload_n 0, 1) := by decide +kernel
theorem dd_Rows_init_23 : decode bb_Rows_init 23 = .ok (.iconst 0, 1) := by decide +kernel
theorem dd_Rows_init_24 : decode bb_Rows_init 24 = .ok (.newarray .int, 2) := by decide +kernel
theorem dd_Rows_init_26 : decode bb_Rows_init 26 = .ok (.putfield 20, 3) := by decide +kernel
theorem dd_Rows_init_29 : decode bb_Rows_init 29 = .ok (.aload_n 0, 1) := by decide +kernel
theorem dd_Rows_init_30 : decode bb_Rows_init 30 = .ok (.iconst 0, 1) := by decide +kernel
theorem dd_Rows_init_31 : decode bb_Rows_init 31 = .ok (.newarray .int, 2) := by decide +kernel
theorem dd_Rows_init_33 : decode bb_Rows_init 33 = .ok (.putfield 23, 3) := by decide +kernel
theorem dd_Rows_init_36 : decode bb_Rows_init 36 = .ok (.return_, 1) := by decide +kernel
set_option maxRecDepth 100000 in
set_option maxHeartbeats 4000000 in
theorem c_Rows_init (l : Launch) {nf mc ms : Nat} {a0 : Nat} {c : Zc} {res : Zc} (h : f_Rows_init nf mc ms a0 c = some res) : zM l yy_Rows_init ww_Rows_init 1 20 mc ms [.ref a0] c (fun D cid B => zQv D cid B res c.length mc) := by
  refine z_met (cc := bb_Rows_init) (maxL := 1) (ret := none) (by decide +kernel) rfl (Nat.le_of_ble_eq_true rfl) ?_
  intro p e s m args below meth cd D cid B X h1 h2 h3 h4
  have X : zX p s m args cd D cid B bb_Rows_init 1 rr_Rows zT := X
  have H : zH s meth B c.length none "<init>" := ⟨h1, h2, h4, h3⟩
  unfold f_Rows_init at h
  show Zz p l e (zRm 1 20 mc ms) s m args below meth cd _ D cid B 1 0 0 c 0 [(0, .ref a0)] []
  refine z_aload_n X dd_Rows_init_0 rfl 0 rfl ?_
  refine z_objInit X dd_Rows_init_1 km_653 km_153 km_154 (Nat.le_of_ble_eq_true rfl) (Nat.le_of_ble_eq_true rfl) ?_
  refine z_aload_n X dd_Rows_init_4 rfl 0 rfl ?_
  refine z_iconst (v := 0) X dd_Rows_init_5 (by decide) ?_
  obtain ⟨c1, ec1, h⟩ := zb h
  refine z_put (j := 0) X dd_Rows_init_6 kc_9 ki_9 tt_Rows tk_Rows nn_Rows (by decide) km_654 rfl (tk_Rows 0 (by decide)) rfl rfl ec1 ?_
  refine z_aload_n X dd_Rows_init_9 rfl 0 rfl ?_
  refine z_iconst (v := 0) X dd_Rows_init_10 (by decide) ?_
  obtain ⟨c2, ec2, h⟩ := zb h
  refine z_put (j := 1) X dd_Rows_init_11 kc_9 ki_9 tt_Rows tk_Rows nn_Rows (by decide) km_657 rfl (tk_Rows 1 (by decide)) rfl rfl ec2 ?_
  refine z_aload_n X dd_Rows_init_14 rfl 0 rfl ?_
  refine z_bipush (v := 64) X dd_Rows_init_15 (by decide) ?_
  obtain ⟨u4, eu4, h⟩ := zb h
  obtain ⟨c3, ec3, h⟩ := zb h
  refine z_newaC (ty := .int) X dd_Rows_init_17 rfl km_206 rfl (fun _ q => by cases q) (fun _ => rfl) (fun _ => rfl) (by decide) (by decide) (by decide) (zlim_s eu4).1 (zlim_s eu4).2 ec3 ?_
  obtain ⟨c5, ec5, h⟩ := zb h
  refine z_put (j := 2) X dd_Rows_init_19 kc_9 ki_9 tt_Rows tk_Rows nn_Rows (by decide) km_659 rfl (tk_Rows 2 (by decide)) rfl rfl ec5 ?_
  refine z_aload_n X dd_Rows_init_22 rfl 0 rfl ?_
  refine z_iconst (v := 0) X dd_Rows_init_23 (by decide) ?_
  obtain ⟨u7, eu7, h⟩ := zb h
  obtain ⟨c6, ec6, h⟩ := zb h
  refine z_newaC (ty := .int) X dd_Rows_init_24 rfl km_206 rfl (fun _ q => by cases q) (fun _ => rfl) (fun _ => rfl) (by decide) (by decide) (by decide) (zlim_s eu7).1 (zlim_s eu7).2 ec6 ?_
  obtain ⟨c8, ec8, h⟩ := zb h
  refine z_put (j := 3) X dd_Rows_init_26 kc_9 ki_9 tt_Rows tk_Rows nn_Rows (by decide) km_660 rfl (tk_Rows 3 (by decide)) rfl rfl ec8 ?_
  refine z_aload_n X dd_Rows_init_29 rfl 0 rfl ?_
  refine z_iconst (v := 0) X dd_Rows_init_30 (by decide) ?_
  obtain ⟨u10, eu10, h⟩ := zb h
  obtain ⟨c9, ec9, h⟩ := zb h
  refine z_newaC (ty := .int) X dd_Rows_init_31 rfl km_206 rfl (fun _ q => by cases q) (fun _ => rfl) (fun _ => rfl) (by decide) (by decide) (by decide) (zlim_s eu10).1 (zlim_s eu10).2 ec9 ?_
  obtain ⟨c11, ec11, h⟩ := zb h
  refine z_put (j := 4) X dd_Rows_init_33 kc_9 ki_9 tt_Rows tk_Rows nn_Rows (by decide) km_661 rfl (tk_Rows 4 (by decide)) rfl rfl ec11 ?_
  obtain ⟨u12, eu12, h⟩ := zb h
  refine z_wid (zend_s eu12).1 (zend_s eu12).2 ?_
  obtain rfl := Option.some.inj h
  exact z_vret X H.1 H.2.1 H.2.2.1 dd_Rows_init_36
theorem dd_Rows_clear_0 : decode bb_Rows_clear 0 = .ok (.aload_n 0, 1) := by decide +kernel
theorem dd_Rows_clear_1 : decode bb_Rows_clear 1 = .ok (.iconst 0, 1) := by decide +kernel
theorem dd_Rows_clear_2 : decode bb_Rows_clear 2 = .ok (.putfield 7, 3) := by decide +kernel
theorem dd_Rows_clear_5 : decode bb_Rows_clear 5 = .ok (.aload_n 0, 1) := by decide +kernel
theorem dd_Rows_clear_6 : decode bb_Rows_clear 6 = .ok (.iload_n 1, 1) := by decide +kernel
theorem dd_Rows_clear_7 : decode bb_Rows_clear 7 = .ok (.putfield 13, 3) := by decide +kernel
theorem dd_Rows_clear_10 : decode bb_Rows_clear 10 = .ok (.return_, 1) := by decide +kernel
set_option maxRecDepth 100000 in
set_option maxHeartbeats 4000000 in
theorem c_Rows_clear (l : Launch) {nf : Nat} {a0 : Nat} {a1 : Int32} {c : Zc} {res : Zc} (h : f_Rows_clear nf a0 a1 c = some res) : zM l yy_Rows_clear ww_Rows_clear 0 0 0 0 [.ref a0, .int a1] c (fun D cid B => zQv D cid B res c.length 0) := by
  refine z_met (cc := bb_Rows_clear) (maxL := 2) (ret := none) (by decide +kernel) rfl (Nat.le_of_ble_eq_true rfl) ?_
  intro p e s m args below meth cd D cid B X h1 h2 h3 h4
  have X : zX p s m args cd D cid B bb_Rows_clear 2 rr_Rows zT := X
  have H : zH s meth B c.length none "clear" := ⟨h1, h2, h4, h3⟩
  unfold f_Rows_clear at h
  show Zz p l e (zRm 0 0 0 0) s m args below meth cd _ D cid B 2 0 0 c 0 [(0, .ref a0), (1, .int a1)] []
  refine z_aload_n X dd_Rows_clear_0 rfl 0 rfl ?_
  refine z_iconst (v := 0) X dd_Rows_clear_1 (by decide) ?_
  obtain ⟨c1, ec1, h⟩ := zb h
  refine z_put (j := 0) X dd_Rows_clear_2 kc_9 ki_9 tt_Rows tk_Rows nn_Rows (by decide) km_654 rfl (tk_Rows 0 (by decide)) rfl rfl ec1 ?_
  refine z_aload_n X dd_Rows_clear_5 rfl 0 rfl ?_
  refine z_iload_n X dd_Rows_clear_6 rfl 1 rfl ?_
  obtain ⟨c2, ec2, h⟩ := zb h
  refine z_put (j := 1) X dd_Rows_clear_7 kc_9 ki_9 tt_Rows tk_Rows nn_Rows (by decide) km_657 rfl (tk_Rows 1 (by decide)) rfl rfl ec2 ?_
  obtain rfl := Option.some.inj h
  exact z_vret X H.1 H.2.1 H.2.2.1 dd_Rows_clear_10
theorem dd_Arrays_copyOf_0 : decode bb_Arrays_copyOf 0 = .ok (.iload_n 1, 1) := by decide +kernel
theorem dd_Arrays_copyOf_1 : decode bb_Arrays_copyOf 1 = .ok (.aload_n 0, 1) := by decide +kernel
theorem dd_Arrays_copyOf_2 : decode bb_Arrays_copyOf 2 = .ok (.arraylength, 1) := by decide +kernel
theorem dd_Arrays_copyOf_3 : decode bb_Arrays_copyOf 3 = .ok (.if_icmp .ne 11, 3) := by decide +kernel
theorem dd_Arrays_copyOf_6 : decode bb_Arrays_copyOf 6 = .ok (.aload_n 0, 1) := by decide +kernel
theorem dd_Arrays_copyOf_7 : decode bb_Arrays_copyOf 7 = .ok (.invokevirtual 316, 3) := by decide +kernel
theorem dd_Arrays_copyOf_10 : decode bb_Arrays_copyOf 10 = .ok (.checkcast 317, 3) := by decide +kernel
theorem dd_Arrays_copyOf_13 : decode bb_Arrays_copyOf 13 = .ok (.areturn, 1) := by decide +kernel
theorem dd_Arrays_copyOf_14 : decode bb_Arrays_copyOf 14 = .ok (.iload_n 1, 1) := by decide +kernel
theorem dd_Arrays_copyOf_15 : decode bb_Arrays_copyOf 15 = .ok (.newarray .int, 2) := by decide +kernel
theorem dd_Arrays_copyOf_17 : decode bb_Arrays_copyOf 17 = .ok (.astore_n 2, 1) := by decide +kernel
theorem dd_Arrays_copyOf_18 : decode bb_Arrays_copyOf 18 = .ok (.aload_n 0, 1) := by decide +kernel
theorem dd_Arrays_copyOf_19 : decode bb_Arrays_copyOf 19 = .ok (.iconst 0, 1) := by decide +kernel
theorem dd_Arrays_copyOf_20 : decode bb_Arrays_copyOf 20 = .ok (.aload_n 2, 1) := by decide +kernel
theorem dd_Arrays_copyOf_21 : decode bb_Arrays_copyOf 21 = .ok (.iconst 0, 1) := by decide +kernel
theorem dd_Arrays_copyOf_22 : decode bb_Arrays_copyOf 22 = .ok (.aload_n 0, 1) := by decide +kernel
theorem dd_Arrays_copyOf_23 : decode bb_Arrays_copyOf 23 = .ok (.arraylength, 1) := by decide +kernel
theorem dd_Arrays_copyOf_24 : decode bb_Arrays_copyOf 24 = .ok (.iload_n 1, 1) := by decide +kernel
theorem dd_Arrays_copyOf_25 : decode bb_Arrays_copyOf 25 = .ok (.invokestatic 304, 3) := by decide +kernel
theorem dd_Arrays_copyOf_28 : decode bb_Arrays_copyOf 28 = .ok (.invokestatic 150, 3) := by decide +kernel
theorem dd_Arrays_copyOf_31 : decode bb_Arrays_copyOf 31 = .ok (.aload_n 2, 1) := by decide +kernel
theorem dd_Arrays_copyOf_32 : decode bb_Arrays_copyOf 32 = .ok (.areturn, 1) := by decide +kernel
set_option maxRecDepth 100000 in
set_option maxHeartbeats 4000000 in
theorem t_Arrays_copyOf_17  (X : zX p s m args cd D cid B bb_Arrays_copyOf 3 rr_Arrays zT) (H : zH s meth B n0 (some (.array .int)) "copyOf") {nf : Nat} {x0 : Nat} {x1 : Int32} {s0 : Nat} {kk : Nat} {nn : Nat} {c : Zc} {res : Nat × Nat × Nat × Zc} (h : f_Arrays_copyOf_17 nf x0 x1 s0 kk nn c = some res) : ((kk ≤ res.1 ∧ nn ≤ res.2.1) ∧ Zz p l e (zRm 1 60 res.1 res.2.1) s m args below meth cd (MQ below (zQr D cid B res.2.2.1 res.2.2.2 n0 res.1) args s res.1 res.2.1 (fun q => B ≤ q)) D cid B 3 kk nn c 17 [(0, .ref x0), (1, .int x1)] [.ref s0]) := by
  unfold f_Arrays_copyOf_17 at h
  refine zpr (z_astore_n (lv' := [(2, .ref s0), (0, .ref x0), (1, .int x1)]) X dd_Arrays_copyOf_17 rfl (by decide) rfl) ?_
  refine zpr (z_aload_n X dd_Arrays_copyOf_18 rfl 1 rfl) ?_
  refine zpr (z_iconst (v := 0) X dd_Arrays_copyOf_19 (by decide)) ?_
  refine zpr (z_aload_n X dd_Arrays_copyOf_20 rfl 0 rfl) ?_
  refine zpr (z_iconst (v := 0) X dd_Arrays_copyOf_21 (by decide)) ?_
  refine zpr (z_aload_n X dd_Arrays_copyOf_22 rfl 1 rfl) ?_
  obtain ⟨v5, ev5, h⟩ := zb h
  refine zpr (z_alen X dd_Arrays_copyOf_23 rfl ev5) ?_
  refine zpr (z_iload_n X dd_Arrays_copyOf_24 rfl 2 rfl) ?_
  obtain ⟨q6, eq6, h⟩ := zb h
  refine zpc (fun hm => z_callSi X [.int v5, .int x1] rfl dd_Arrays_copyOf_25 (c_Math_min_0 l eq6) (va_cwS 2 X.1.2.2.2.2 (zg_S km_1427 km_842 km_139 km_843) rfl rfl rfl (by decide +kernel) ⟨Nat.le_of_ble_eq_true rfl, Nat.le_of_ble_eq_true rfl⟩) rfl (Nat.le_of_ble_eq_true rfl) hm) ?_
  obtain ⟨c7, ec7, h⟩ := zb h
  refine zpr (z_copyi X dd_Arrays_copyOf_28 km_1428 km_1430 km_1429 km_146 (Nat.le_of_ble_eq_true rfl) (Nat.le_of_ble_eq_true rfl) ec7) ?_
  refine zpr (z_aload_n X dd_Arrays_copyOf_31 rfl 0 rfl) ?_
  obtain rfl := Option.some.inj h
  exact ⟨⟨Nat.le_refl _, Nat.le_refl _⟩, z_aret X H.1 (Or.inr ⟨_, rfl⟩) H.2.1 H.2.2.1 dd_Arrays_copyOf_32⟩
set_option maxRecDepth 100000 in
set_option maxHeartbeats 4000000 in
theorem c_Arrays_copyOf (l : Launch) {nf : Nat} {a0 : Nat} {a1 : Int32} {c : Zc} {res : Nat × Nat × Nat × Zc} (h : f_Arrays_copyOf nf a0 a1 c = some res) : zM l yy_Arrays_copyOf ww_Arrays_copyOf 1 60 res.1 res.2.1 [.ref a0, .int a1] c (fun D cid B => zQr D cid B res.2.2.1 res.2.2.2 c.length res.1) := by
  refine z_met (cc := bb_Arrays_copyOf) (maxL := 3) (ret := (some (.array .int))) (by decide +kernel) rfl (Nat.le_of_ble_eq_true rfl) ?_
  intro p e s m args below meth cd D cid B X h1 h2 h3 h4
  have X : zX p s m args cd D cid B bb_Arrays_copyOf 3 rr_Arrays zT := X
  have H : zH s meth B c.length (some (.array .int)) "copyOf" := ⟨h1, h2, h4, h3⟩
  unfold f_Arrays_copyOf at h
  show Zz p l e (zRm 1 60 res.1 res.2.1) s m args below meth cd _ D cid B 3 0 0 c 0 [(0, .ref a0), (1, .int a1)] []
  refine And.right (a := (0 ≤ res.1 ∧ 0 ≤ res.2.1)) ?_
  refine zpr (z_iload_n X dd_Arrays_copyOf_0 rfl 1 rfl) ?_
  refine zpr (z_aload_n X dd_Arrays_copyOf_1 rfl 0 rfl) ?_
  obtain ⟨v1, ev1, h⟩ := zb h
  refine zpr (z_alen X dd_Arrays_copyOf_2 rfl ev1) ?_
  refine zprN (z_icmp_ne (tgt := 14) X dd_Arrays_copyOf_3 (by decide)) (fun q2 => ?_) (fun q2 => ?_)
  · rw [if_neg q2] at h
    refine zpr (z_iload_n X dd_Arrays_copyOf_14 rfl 1 rfl) ?_
    obtain ⟨N4, eN4, h⟩ := zb h
    obtain ⟨c3, ec3, h⟩ := zb h
    obtain ⟨hl9, hz9⟩ := t_Arrays_copyOf_17 X H h
    exact ⟨⟨by have := hl9.1; omega, by have := hl9.2; omega⟩, z_newaC (ty := .int) X dd_Arrays_copyOf_15 rfl km_206 rfl (fun _ q => by cases q) (fun _ => rfl) (fun _ => rfl) (zdim_s eN4).1 (zdim_s eN4).2.1 (by have := (zdim_s eN4).2.2; simp only [componentBytes]; omega) hl9.1 hl9.2 ec3 hz9⟩
  · rw [if_pos q2] at h
    refine zpr (z_aload_n X dd_Arrays_copyOf_6 rfl 0 rfl) ?_
    cases h
theorem dd_Rows_reserve_0 : decode bb_Rows_reserve 0 = .ok (.iload_n 1, 1) := by decide +kernel
theorem dd_Rows_reserve_1 : decode bb_Rows_reserve 1 = .ok (.aload_n 0, 1) := by decide +kernel
theorem dd_Rows_reserve_2 : decode bb_Rows_reserve 2 = .ok (.getfield 13, 3) := by decide +kernel
theorem dd_Rows_reserve_5 : decode bb_Rows_reserve 5 = .ok (.imul, 1) := by decide +kernel
theorem dd_Rows_reserve_6 : decode bb_Rows_reserve 6 = .ok (.aload_n 0, 1) := by decide +kernel
theorem dd_Rows_reserve_7 : decode bb_Rows_reserve 7 = .ok (.getfield 16, 3) := by decide +kernel
theorem dd_Rows_reserve_10 : decode bb_Rows_reserve 10 = .ok (.arraylength, 1) := by decide +kernel
theorem dd_Rows_reserve_11 : decode bb_Rows_reserve 11 = .ok (.if_icmp .le 30, 3) := by decide +kernel
theorem dd_Rows_reserve_14 : decode bb_Rows_reserve 14 = .ok (.aload_n 0, 1) := by decide +kernel
theorem dd_Rows_reserve_15 : decode bb_Rows_reserve 15 = .ok (.aload_n 0, 1) := by decide +kernel
theorem dd_Rows_reserve_16 : decode bb_Rows_reserve 16 = .ok (.getfield 16, 3) := by decide +kernel
theorem dd_Rows_reserve_19 : decode bb_Rows_reserve 19 = .ok (.iconst 2, 1) := by decide +kernel
theorem dd_Rows_reserve_20 : decode bb_Rows_reserve 20 = .ok (.aload_n 0, 1) := by decide +kernel
theorem dd_Rows_reserve_21 : decode bb_Rows_reserve 21 = .ok (.getfield 16, 3) := by decide +kernel
theorem dd_Rows_reserve_24 : decode bb_Rows_reserve 24 = .ok (.arraylength, 1) := by decide +kernel
theorem dd_Rows_reserve_25 : decode bb_Rows_reserve 25 = .ok (.imul, 1) := by decide +kernel
theorem dd_Rows_reserve_26 : decode bb_Rows_reserve 26 = .ok (.iload_n 1, 1) := by decide +kernel
theorem dd_Rows_reserve_27 : decode bb_Rows_reserve 27 = .ok (.aload_n 0, 1) := by decide +kernel
theorem dd_Rows_reserve_28 : decode bb_Rows_reserve 28 = .ok (.getfield 13, 3) := by decide +kernel
theorem dd_Rows_reserve_31 : decode bb_Rows_reserve 31 = .ok (.imul, 1) := by decide +kernel
theorem dd_Rows_reserve_32 : decode bb_Rows_reserve 32 = .ok (.invokestatic 26, 3) := by decide +kernel
theorem dd_Rows_reserve_35 : decode bb_Rows_reserve 35 = .ok (.invokestatic 32, 3) := by decide +kernel
theorem dd_Rows_reserve_38 : decode bb_Rows_reserve 38 = .ok (.putfield 16, 3) := by decide +kernel
theorem dd_Rows_reserve_41 : decode bb_Rows_reserve 41 = .ok (.return_, 1) := by decide +kernel
set_option maxRecDepth 100000 in
set_option maxHeartbeats 4000000 in
theorem t_Rows_reserve_41  (X : zX p s m args cd D cid B bb_Rows_reserve 2 rr_Rows zT) (H : zH s meth B n0 none "reserve") {nf : Nat} {kk : Nat} {nn : Nat} {c : Zc} {res : Nat × Nat × Zc} (h : f_Rows_reserve_41 nf kk nn c = some res) : ((kk ≤ res.1 ∧ nn ≤ res.2.1) ∧ Zz p l e (zRm 2 82 res.1 res.2.1) s m args below meth cd (MQ below (zQv D cid B res.2.2 n0 res.1) args s res.1 res.2.1 (fun q => B ≤ q)) D cid B 2 kk nn c 41 [] []) := by
  unfold f_Rows_reserve_41 at h
  obtain rfl := Option.some.inj h
  exact ⟨⟨Nat.le_refl _, Nat.le_refl _⟩, z_vret X H.1 H.2.1 H.2.2.1 dd_Rows_reserve_41⟩
set_option maxRecDepth 100000 in
set_option maxHeartbeats 4000000 in
theorem t_Rows_reserve_38  (X : zX p s m args cd D cid B bb_Rows_reserve 2 rr_Rows zT) (H : zH s meth B n0 none "reserve") {nf : Nat} {s0 : Nat} {s1 : Nat} {kk : Nat} {nn : Nat} {c : Zc} {res : Nat × Nat × Zc} (h : f_Rows_reserve_38 nf s0 s1 kk nn c = some res) : ((kk ≤ res.1 ∧ nn ≤ res.2.1) ∧ Zz p l e (zRm 2 82 res.1 res.2.1) s m args below meth cd (MQ below (zQv D cid B res.2.2 n0 res.1) args s res.1 res.2.1 (fun q => B ≤ q)) D cid B 2 kk nn c 38 [] [.ref s1, .ref s0]) := by
  unfold f_Rows_reserve_38 at h
  obtain ⟨c11, ec11, h⟩ := zb h
  refine zpr (z_put (j := 2) X dd_Rows_reserve_38 kc_9 ki_9 tt_Rows tk_Rows nn_Rows (by decide) km_659 rfl (tk_Rows 2 (by decide)) rfl rfl ec11) ?_
  exact t_Rows_reserve_41 X H h
set_option maxRecDepth 100000 in
set_option maxHeartbeats 4000000 in
theorem c_Rows_reserve (l : Launch) {nf : Nat} {a0 : Nat} {a1 : Int32} {c : Zc} {res : Nat × Nat × Zc} (h : f_Rows_reserve nf a0 a1 c = some res) : zM l yy_Rows_reserve ww_Rows_reserve 2 82 res.1 res.2.1 [.ref a0, .int a1] c (fun D cid B => zQv D cid B res.2.2 c.length res.1) := by
  refine z_met (cc := bb_Rows_reserve) (maxL := 2) (ret := none) (by decide +kernel) rfl (Nat.le_of_ble_eq_true rfl) ?_
  intro p e s m args below meth cd D cid B X h1 h2 h3 h4
  have X : zX p s m args cd D cid B bb_Rows_reserve 2 rr_Rows zT := X
  have H : zH s meth B c.length none "reserve" := ⟨h1, h2, h4, h3⟩
  unfold f_Rows_reserve at h
  show Zz p l e (zRm 2 82 res.1 res.2.1) s m args below meth cd _ D cid B 2 0 0 c 0 [(0, .ref a0), (1, .int a1)] []
  refine And.right (a := (0 ≤ res.1 ∧ 0 ≤ res.2.1)) ?_
  refine zpr (z_iload_n X dd_Rows_reserve_0 rfl 1 rfl) ?_
  refine zpr (z_aload_n X dd_Rows_reserve_1 rfl 0 rfl) ?_
  obtain ⟨v1, ev1, h⟩ := zb h
  refine zpr (z_get (j := 1) X dd_Rows_reserve_2 kc_9 ki_9 (by decide) km_657 (zgi_v ev1)) ?_
  refine zpr (z_imul X dd_Rows_reserve_5) ?_
  refine zpr (z_aload_n X dd_Rows_reserve_6 rfl 0 rfl) ?_
  obtain ⟨v2, ev2, h⟩ := zb h
  refine zpr (z_get (j := 2) X dd_Rows_reserve_7 kc_9 ki_9 (by decide) km_659 (zgr_v ev2)) ?_
  obtain ⟨v3, ev3, h⟩ := zb h
  refine zpr (z_alen X dd_Rows_reserve_10 rfl ev3) ?_
  refine zpr2 (z_icmp_le (tgt := 41) X dd_Rows_reserve_11 (by decide)) (fun q4 => ?_) (fun q4 => ?_)
  · rw [if_pos q4] at h
    refine zpr (z_sub [] rfl) ?_
    exact t_Rows_reserve_41 X H h
  · rw [if_neg q4] at h
    refine zpr (z_aload_n X dd_Rows_reserve_14 rfl 0 rfl) ?_
    refine zpr (z_aload_n X dd_Rows_reserve_15 rfl 0 rfl) ?_
    obtain ⟨v5, ev5, h⟩ := zb h
    refine zpr (z_get (j := 2) X dd_Rows_reserve_16 kc_9 ki_9 (by decide) km_659 (zgr_v ev5)) ?_
    refine zpr (z_iconst (v := 2) X dd_Rows_reserve_19 (by decide)) ?_
    refine zpr (z_aload_n X dd_Rows_reserve_20 rfl 0 rfl) ?_
    obtain ⟨v6, ev6, h⟩ := zb h
    refine zpr (z_get (j := 2) X dd_Rows_reserve_21 kc_9 ki_9 (by decide) km_659 (zgr_v ev6)) ?_
    obtain ⟨v7, ev7, h⟩ := zb h
    refine zpr (z_alen X dd_Rows_reserve_24 rfl ev7) ?_
    refine zpr (z_imul X dd_Rows_reserve_25) ?_
    refine zpr (z_iload_n X dd_Rows_reserve_26 rfl 1 rfl) ?_
    refine zpr (z_aload_n X dd_Rows_reserve_27 rfl 0 rfl) ?_
    obtain ⟨v8, ev8, h⟩ := zb h
    refine zpr (z_get (j := 1) X dd_Rows_reserve_28 kc_9 ki_9 (by decide) km_657 (zgi_v ev8)) ?_
    refine zpr (z_imul X dd_Rows_reserve_31) ?_
    obtain ⟨q9, eq9, h⟩ := zb h
    refine zpc (fun hm => z_callSi X [.int (2 * v7), .int (a1 * v8)] rfl dd_Rows_reserve_32 (c_Math_max_0 l eq9) (va_cwS 2 X.1.2.2.2.2 (zg_S km_1416 km_899 km_139 km_900) rfl rfl rfl (by decide +kernel) ⟨Nat.le_of_ble_eq_true rfl, Nat.le_of_ble_eq_true rfl⟩) rfl (Nat.le_of_ble_eq_true rfl) hm) ?_
    obtain ⟨q10, eq10, h⟩ := zb h
    obtain ⟨hl9, hz9⟩ := t_Rows_reserve_38 X H h
    exact ⟨⟨by have := hl9.1; omega, by have := hl9.2; omega⟩, z_callSr X [.ref v5, .int q9.1] rfl dd_Rows_reserve_35 (c_Arrays_copyOf l eq10) (va_cwS 2 X.1.2.2.2.2 (zg_S km_1417 km_1418 km_127 km_1419) rfl rfl rfl (by decide +kernel) ⟨Nat.le_of_ble_eq_true rfl, Nat.le_of_ble_eq_true rfl⟩) rfl (Nat.le_of_ble_eq_true rfl) hl9 (z_sub [] rfl hz9)⟩
theorem dd_Rows_addRow_0 : decode bb_Rows_addRow 0 = .ok (.aload_n 0, 1) := by decide +kernel
theorem dd_Rows_addRow_1 : decode bb_Rows_addRow 1 = .ok (.aload_n 0, 1) := by decide +kernel
theorem dd_Rows_addRow_2 : decode bb_Rows_addRow 2 = .ok (.getfield 7, 3) := by decide +kernel
theorem dd_Rows_addRow_5 : decode bb_Rows_addRow 5 = .ok (.iconst 1, 1) := by decide +kernel
theorem dd_Rows_addRow_6 : decode bb_Rows_addRow 6 = .ok (.iadd, 1) := by decide +kernel
theorem dd_Rows_addRow_7 : decode bb_Rows_addRow 7 = .ok (.invokevirtual 38, 3) := by decide +kernel
theorem dd_Rows_addRow_10 : decode bb_Rows_addRow 10 = .ok (.aload_n 0, 1) := by decide +kernel
theorem dd_Rows_addRow_11 : decode bb_Rows_addRow 11 = .ok (.dup, 1) := by decide +kernel
theorem dd_Rows_addRow_12 : decode bb_Rows_addRow 12 = .ok (.getfield 7, 3) := by decide +kernel
theorem dd_Rows_addRow_15 : decode bb_Rows_addRow 15 = .ok (.iconst 1, 1) := by decide +kernel
theorem dd_Rows_addRow_16 : decode bb_Rows_addRow 16 = .ok (.iadd, 1) := by decide +kernel
theorem dd_Rows_addRow_17 : decode bb_Rows_addRow 17 = .ok (.putfield 7, 3) := by decide +kernel
theorem dd_Rows_addRow_20 : decode bb_Rows_addRow 20 = .ok (.return_, 1) := by decide +kernel
set_option maxRecDepth 100000 in
set_option maxHeartbeats 4000000 in
theorem t_Rows_addRow_10  (X : zX p s m args cd D cid B bb_Rows_addRow 1 rr_Rows zT) (H : zH s meth B n0 none "addRow") {nf : Nat} {x0 : Nat} {kk : Nat} {nn : Nat} {c : Zc} {res : Nat × Nat × Zc} (h : f_Rows_addRow_10 nf x0 kk nn c = some res) : ((kk ≤ res.1 ∧ nn ≤ res.2.1) ∧ Zz p l e (zRm 3 103 res.1 res.2.1) s m args below meth cd (MQ below (zQv D cid B res.2.2 n0 res.1) args s res.1 res.2.1 (fun q => B ≤ q)) D cid B 1 kk nn c 10 [(0, .ref x0)] []) := by
  unfold f_Rows_addRow_10 at h
  refine zpr (z_aload_n X dd_Rows_addRow_10 rfl 0 rfl) ?_
  refine zpr (z_dup X dd_Rows_addRow_11 rfl) ?_
  obtain ⟨v4, ev4, h⟩ := zb h
  refine zpr (z_get (j := 0) X dd_Rows_addRow_12 kc_9 ki_9 (by decide) km_654 (zgi_v ev4)) ?_
  refine zpr (z_iconst (v := 1) X dd_Rows_addRow_15 (by decide)) ?_
  refine zpr (z_iadd X dd_Rows_addRow_16) ?_
  obtain ⟨c5, ec5, h⟩ := zb h
  refine zpr (z_put (j := 0) X dd_Rows_addRow_17 kc_9 ki_9 tt_Rows tk_Rows nn_Rows (by decide) km_654 rfl (tk_Rows 0 (by decide)) rfl rfl ec5) ?_
  obtain rfl := Option.some.inj h
  exact ⟨⟨Nat.le_refl _, Nat.le_refl _⟩, z_vret X H.1 H.2.1 H.2.2.1 dd_Rows_addRow_20⟩
set_option maxRecDepth 100000 in
set_option maxHeartbeats 4000000 in
theorem c_Rows_addRow (l : Launch) {nf : Nat} {a0 : Nat} {c : Zc} {res : Nat × Nat × Zc} (h : f_Rows_addRow nf a0 c = some res) : zM l yy_Rows_addRow ww_Rows_addRow 3 103 res.1 res.2.1 [.ref a0] c (fun D cid B => zQv D cid B res.2.2 c.length res.1) := by
  refine z_met (cc := bb_Rows_addRow) (maxL := 1) (ret := none) (by decide +kernel) rfl (Nat.le_of_ble_eq_true rfl) ?_
  intro p e s m args below meth cd D cid B X h1 h2 h3 h4
  have X : zX p s m args cd D cid B bb_Rows_addRow 1 rr_Rows zT := X
  have H : zH s meth B c.length none "addRow" := ⟨h1, h2, h4, h3⟩
  unfold f_Rows_addRow at h
  show Zz p l e (zRm 3 103 res.1 res.2.1) s m args below meth cd _ D cid B 1 0 0 c 0 [(0, .ref a0)] []
  refine And.right (a := (0 ≤ res.1 ∧ 0 ≤ res.2.1)) ?_
  refine zpr (z_aload_n X dd_Rows_addRow_0 rfl 0 rfl) ?_
  refine zpr (z_aload_n X dd_Rows_addRow_1 rfl 0 rfl) ?_
  obtain ⟨v1, ev1, h⟩ := zb h
  refine zpr (z_get (j := 0) X dd_Rows_addRow_2 kc_9 ki_9 (by decide) km_654 (zgi_v ev1)) ?_
  refine zpr (z_iconst (v := 1) X dd_Rows_addRow_5 (by decide)) ?_
  refine zpr (z_iadd X dd_Rows_addRow_6) ?_
  obtain ⟨w3, ew3, h⟩ := zb h
  obtain ⟨q2, eq2, h⟩ := zb h
  obtain ⟨hl9, hz9⟩ := t_Rows_addRow_10 X H h
  exact ⟨⟨by have := hl9.1; omega, by have := hl9.2; omega⟩, z_callVv X [.int (v1 + 1)] rfl dd_Rows_addRow_7 (c_Rows_reserve l eq2) (cwV 1 X.1.2.2.2.2 (zg_V km_1412 km_1413 km_1414 km_137 km_1415) rfl rfl rfl (by decide +kernel) ⟨Nat.le_of_ble_eq_true rfl, Nat.le_of_ble_eq_true rfl⟩) (zob_s ew3) kc_9 rfl (Nat.le_of_ble_eq_true rfl) hl9 hz9⟩
theorem dd_Rows_setCell_0 : decode bb_Rows_setCell 0 = .ok (.aload_n 0, 1) := by decide +kernel
theorem dd_Rows_setCell_1 : decode bb_Rows_setCell 1 = .ok (.getfield 16, 3) := by decide +kernel
theorem dd_Rows_setCell_4 : decode bb_Rows_setCell 4 = .ok (.aload_n 0, 1) := by decide +kernel
theorem dd_Rows_setCell_5 : decode bb_Rows_setCell 5 = .ok (.getfield 7, 3) := by decide +kernel
theorem dd_Rows_setCell_8 : decode bb_Rows_setCell 8 = .ok (.iconst 1, 1) := by decide +kernel
theorem dd_Rows_setCell_9 : decode bb_Rows_setCell 9 = .ok (.isub, 1) := by decide +kernel
theorem dd_Rows_setCell_10 : decode bb_Rows_setCell 10 = .ok (.aload_n 0, 1) := by decide +kernel
theorem dd_Rows_setCell_11 : decode bb_Rows_setCell 11 = .ok (.getfield 13, 3) := by decide +kernel
theorem dd_Rows_setCell_14 : decode bb_Rows_setCell 14 = .ok (.imul, 1) := by decide +kernel
theorem dd_Rows_setCell_15 : decode bb_Rows_setCell 15 = .ok (.iload_n 1, 1) := by decide +kernel
theorem dd_Rows_setCell_16 : decode bb_Rows_setCell 16 = .ok (.iadd, 1) := by decide +kernel
theorem dd_Rows_setCell_17 : decode bb_Rows_setCell 17 = .ok (.iload_n 2, 1) := by decide +kernel
theorem dd_Rows_setCell_18 : decode bb_Rows_setCell 18 = .ok (.iastore, 1) := by decide +kernel
theorem dd_Rows_setCell_19 : decode bb_Rows_setCell 19 = .ok (.return_, 1) := by decide +kernel
set_option maxRecDepth 100000 in
set_option maxHeartbeats 4000000 in
theorem c_Rows_setCell (l : Launch) {nf : Nat} {a0 : Nat} {a1 : Int32} {a2 : Int32} {c : Zc} {res : Zc} (h : f_Rows_setCell nf a0 a1 a2 c = some res) : zM l yy_Rows_setCell ww_Rows_setCell 0 0 0 0 [.ref a0, .int a1, .int a2] c (fun D cid B => zQv D cid B res c.length 0) := by
  refine z_met (cc := bb_Rows_setCell) (maxL := 3) (ret := none) (by decide +kernel) rfl (Nat.le_of_ble_eq_true rfl) ?_
  intro p e s m args below meth cd D cid B X h1 h2 h3 h4
  have X : zX p s m args cd D cid B bb_Rows_setCell 3 rr_Rows zT := X
  have H : zH s meth B c.length none "setCell" := ⟨h1, h2, h4, h3⟩
  unfold f_Rows_setCell at h
  show Zz p l e (zRm 0 0 0 0) s m args below meth cd _ D cid B 3 0 0 c 0 [(0, .ref a0), (1, .int a1), (2, .int a2)] []
  refine z_aload_n X dd_Rows_setCell_0 rfl 0 rfl ?_
  obtain ⟨v1, ev1, h⟩ := zb h
  refine z_get (j := 2) X dd_Rows_setCell_1 kc_9 ki_9 (by decide) km_659 (zgr_v ev1) ?_
  refine z_aload_n X dd_Rows_setCell_4 rfl 0 rfl ?_
  obtain ⟨v2, ev2, h⟩ := zb h
  refine z_get (j := 0) X dd_Rows_setCell_5 kc_9 ki_9 (by decide) km_654 (zgi_v ev2) ?_
  refine z_iconst (v := 1) X dd_Rows_setCell_8 (by decide) ?_
  refine z_isub X dd_Rows_setCell_9 ?_
  refine z_aload_n X dd_Rows_setCell_10 rfl 0 rfl ?_
  obtain ⟨v3, ev3, h⟩ := zb h
  refine z_get (j := 1) X dd_Rows_setCell_11 kc_9 ki_9 (by decide) km_657 (zgi_v ev3) ?_
  refine z_imul X dd_Rows_setCell_14 ?_
  refine z_iload_n X dd_Rows_setCell_15 rfl 1 rfl ?_
  refine z_iadd X dd_Rows_setCell_16 ?_
  refine z_iload_n X dd_Rows_setCell_17 rfl 2 rfl ?_
  obtain ⟨c4, ec4, h⟩ := zb h
  refine z_iastore X dd_Rows_setCell_18 rfl ec4 ?_
  obtain rfl := Option.some.inj h
  exact z_vret X H.1 H.2.1 H.2.2.1 dd_Rows_setCell_19
theorem dd_Rows_cell_0 : decode bb_Rows_cell 0 = .ok (.aload_n 0, 1) := by decide +kernel
theorem dd_Rows_cell_1 : decode bb_Rows_cell 1 = .ok (.getfield 16, 3) := by decide +kernel
theorem dd_Rows_cell_4 : decode bb_Rows_cell 4 = .ok (.iload_n 1, 1) := by decide +kernel
theorem dd_Rows_cell_5 : decode bb_Rows_cell 5 = .ok (.aload_n 0, 1) := by decide +kernel
theorem dd_Rows_cell_6 : decode bb_Rows_cell 6 = .ok (.getfield 13, 3) := by decide +kernel
theorem dd_Rows_cell_9 : decode bb_Rows_cell 9 = .ok (.imul, 1) := by decide +kernel
theorem dd_Rows_cell_10 : decode bb_Rows_cell 10 = .ok (.iload_n 2, 1) := by decide +kernel
theorem dd_Rows_cell_11 : decode bb_Rows_cell 11 = .ok (.iadd, 1) := by decide +kernel
theorem dd_Rows_cell_12 : decode bb_Rows_cell 12 = .ok (.iaload, 1) := by decide +kernel
theorem dd_Rows_cell_13 : decode bb_Rows_cell 13 = .ok (.ireturn, 1) := by decide +kernel
set_option maxRecDepth 100000 in
set_option maxHeartbeats 4000000 in
theorem c_Rows_cell (l : Launch) {nf : Nat} {a0 : Nat} {a1 : Int32} {a2 : Int32} {c : Zc} {res : Int32 × Zc} (h : f_Rows_cell nf a0 a1 a2 c = some res) : zM l yy_Rows_cell ww_Rows_cell 0 0 0 0 [.ref a0, .int a1, .int a2] c (fun D cid B => zQi D cid B res.1 res.2 c.length 0) := by
  refine z_met (cc := bb_Rows_cell) (maxL := 3) (ret := (some (.int))) (by decide +kernel) rfl (Nat.le_of_ble_eq_true rfl) ?_
  intro p e s m args below meth cd D cid B X h1 h2 h3 h4
  have X : zX p s m args cd D cid B bb_Rows_cell 3 rr_Rows zT := X
  have H : zH s meth B c.length (some (.int)) "cell" := ⟨h1, h2, h4, h3⟩
  unfold f_Rows_cell at h
  show Zz p l e (zRm 0 0 0 0) s m args below meth cd _ D cid B 3 0 0 c 0 [(0, .ref a0), (1, .int a1), (2, .int a2)] []
  refine z_aload_n X dd_Rows_cell_0 rfl 0 rfl ?_
  obtain ⟨v1, ev1, h⟩ := zb h
  refine z_get (j := 2) X dd_Rows_cell_1 kc_9 ki_9 (by decide) km_659 (zgr_v ev1) ?_
  refine z_iload_n X dd_Rows_cell_4 rfl 1 rfl ?_
  refine z_aload_n X dd_Rows_cell_5 rfl 0 rfl ?_
  obtain ⟨v2, ev2, h⟩ := zb h
  refine z_get (j := 1) X dd_Rows_cell_6 kc_9 ki_9 (by decide) km_657 (zgi_v ev2) ?_
  refine z_imul X dd_Rows_cell_9 ?_
  refine z_iload_n X dd_Rows_cell_10 rfl 2 rfl ?_
  refine z_iadd X dd_Rows_cell_11 ?_
  obtain ⟨v3, ev3, h⟩ := zb h
  refine z_iaload X dd_Rows_cell_12 rfl ev3 ?_
  obtain rfl := Option.some.inj h
  exact z_iret X H.1 H.2.1 H.2.2.1 dd_Rows_cell_13
theorem dd_Rows_sorted_0 : decode bb_Rows_sorted 0 = .ok (.aload_n 0, 1) := by decide +kernel
theorem dd_Rows_sorted_1 : decode bb_Rows_sorted 1 = .ok (.getfield 20, 3) := by decide +kernel
theorem dd_Rows_sorted_4 : decode bb_Rows_sorted 4 = .ok (.iload_n 1, 1) := by decide +kernel
theorem dd_Rows_sorted_5 : decode bb_Rows_sorted 5 = .ok (.iaload, 1) := by decide +kernel
theorem dd_Rows_sorted_6 : decode bb_Rows_sorted 6 = .ok (.ireturn, 1) := by decide +kernel
set_option maxRecDepth 100000 in
set_option maxHeartbeats 4000000 in
theorem c_Rows_sorted (l : Launch) {nf : Nat} {a0 : Nat} {a1 : Int32} {c : Zc} {res : Int32 × Zc} (h : f_Rows_sorted nf a0 a1 c = some res) : zM l yy_Rows_sorted ww_Rows_sorted 0 0 0 0 [.ref a0, .int a1] c (fun D cid B => zQi D cid B res.1 res.2 c.length 0) := by
  refine z_met (cc := bb_Rows_sorted) (maxL := 2) (ret := (some (.int))) (by decide +kernel) rfl (Nat.le_of_ble_eq_true rfl) ?_
  intro p e s m args below meth cd D cid B X h1 h2 h3 h4
  have X : zX p s m args cd D cid B bb_Rows_sorted 2 rr_Rows zT := X
  have H : zH s meth B c.length (some (.int)) "sorted" := ⟨h1, h2, h4, h3⟩
  unfold f_Rows_sorted at h
  show Zz p l e (zRm 0 0 0 0) s m args below meth cd _ D cid B 2 0 0 c 0 [(0, .ref a0), (1, .int a1)] []
  refine z_aload_n X dd_Rows_sorted_0 rfl 0 rfl ?_
  obtain ⟨v1, ev1, h⟩ := zb h
  refine z_get (j := 3) X dd_Rows_sorted_1 kc_9 ki_9 (by decide) km_660 (zgr_v ev1) ?_
  refine z_iload_n X dd_Rows_sorted_4 rfl 1 rfl ?_
  obtain ⟨v2, ev2, h⟩ := zb h
  refine z_iaload X dd_Rows_sorted_5 rfl ev2 ?_
  obtain rfl := Option.some.inj h
  exact z_iret X H.1 H.2.1 H.2.2.1 dd_Rows_sorted_6
theorem dd_Rows_compare_0 : decode bb_Rows_compare 0 = .ok (.iconst 0, 1) := by decide +kernel
theorem dd_Rows_compare_1 : decode bb_Rows_compare 1 = .ok (.istore 4, 2) := by decide +kernel
theorem dd_Rows_compare_3 : decode bb_Rows_compare 3 = .ok (.iload 4, 2) := by decide +kernel
theorem dd_Rows_compare_5 : decode bb_Rows_compare 5 = .ok (.aload_n 0, 1) := by decide +kernel
theorem dd_Rows_compare_6 : decode bb_Rows_compare 6 = .ok (.getfield 13, 3) := by decide +kernel
theorem dd_Rows_compare_9 : decode bb_Rows_compare 9 = .ok (.if_icmp .ge 70, 3) := by decide +kernel
theorem dd_Rows_compare_12 : decode bb_Rows_compare 12 = .ok (.aload_n 0, 1) := by decide +kernel
theorem dd_Rows_compare_13 : decode bb_Rows_compare 13 = .ok (.getfield 16, 3) := by decide +kernel
theorem dd_Rows_compare_16 : decode bb_Rows_compare 16 = .ok (.iload_n 1, 1) := by decide +kernel
theorem dd_Rows_compare_17 : decode bb_Rows_compare 17 = .ok (.aload_n 0, 1) := by decide +kernel
theorem dd_Rows_compare_18 : decode bb_Rows_compare 18 = .ok (.getfield 13, 3) := by decide +kernel
theorem dd_Rows_compare_21 : decode bb_Rows_compare 21 = .ok (.imul, 1) := by decide +kernel
theorem dd_Rows_compare_22 : decode bb_Rows_compare 22 = .ok (.iload 4, 2) := by decide +kernel
theorem dd_Rows_compare_24 : decode bb_Rows_compare 24 = .ok (.iadd, 1) := by decide +kernel
theorem dd_Rows_compare_25 : decode bb_Rows_compare 25 = .ok (.iaload, 1) := by decide +kernel
theorem dd_Rows_compare_26 : decode bb_Rows_compare 26 = .ok (.istore 5, 2) := by decide +kernel
theorem dd_Rows_compare_28 : decode bb_Rows_compare 28 = .ok (.aload_n 0, 1) := by decide +kernel
theorem dd_Rows_compare_29 : decode bb_Rows_compare 29 = .ok (.getfield 16, 3) := by decide +kernel
theorem dd_Rows_compare_32 : decode bb_Rows_compare 32 = .ok (.iload_n 2, 1) := by decide +kernel
theorem dd_Rows_compare_33 : decode bb_Rows_compare 33 = .ok (.aload_n 0, 1) := by decide +kernel
theorem dd_Rows_compare_34 : decode bb_Rows_compare 34 = .ok (.getfield 13, 3) := by decide +kernel
theorem dd_Rows_compare_37 : decode bb_Rows_compare 37 = .ok (.imul, 1) := by decide +kernel
theorem dd_Rows_compare_38 : decode bb_Rows_compare 38 = .ok (.iload 4, 2) := by decide +kernel
theorem dd_Rows_compare_40 : decode bb_Rows_compare 40 = .ok (.iadd, 1) := by decide +kernel
theorem dd_Rows_compare_41 : decode bb_Rows_compare 41 = .ok (.iaload, 1) := by decide +kernel
theorem dd_Rows_compare_42 : decode bb_Rows_compare 42 = .ok (.istore 6, 2) := by decide +kernel
theorem dd_Rows_compare_44 : decode bb_Rows_compare 44 = .ok (.iload 5, 2) := by decide +kernel
theorem dd_Rows_compare_46 : decode bb_Rows_compare 46 = .ok (.iload 6, 2) := by decide +kernel
theorem dd_Rows_compare_48 : decode bb_Rows_compare 48 = .ok (.if_icmp .eq 25, 3) := by decide +kernel
theorem dd_Rows_compare_51 : decode bb_Rows_compare 51 = .ok (.iload_n 3, 1) := by decide +kernel
theorem dd_Rows_compare_52 : decode bb_Rows_compare 52 = .ok (.iload 4, 2) := by decide +kernel
theorem dd_Rows_compare_54 : decode bb_Rows_compare 54 = .ok (.ishr, 1) := by decide +kernel
theorem dd_Rows_compare_55 : decode bb_Rows_compare 55 = .ok (.iconst 1, 1) := by decide +kernel
theorem dd_Rows_compare_56 : decode bb_Rows_compare 56 = .ok (.iand, 1) := by decide +kernel
theorem dd_Rows_compare_57 : decode bb_Rows_compare 57 = .ok (.ifCond .eq 16, 3) := by decide +kernel
theorem dd_Rows_compare_60 : decode bb_Rows_compare 60 = .ok (.iload 5, 2) := by decide +kernel
theorem dd_Rows_compare_62 : decode bb_Rows_compare 62 = .ok (.iload 6, 2) := by decide +kernel
theorem dd_Rows_compare_64 : decode bb_Rows_compare 64 = .ok (.if_icmp .ge 7, 3) := by decide +kernel
theorem dd_Rows_compare_67 : decode bb_Rows_compare 67 = .ok (.iconst (-1), 1) := by decide +kernel
theorem dd_Rows_compare_68 : decode bb_Rows_compare 68 = .ok (.goto 4, 3) := by decide +kernel
theorem dd_Rows_compare_71 : decode bb_Rows_compare 71 = .ok (.iconst 1, 1) := by decide +kernel
theorem dd_Rows_compare_72 : decode bb_Rows_compare 72 = .ok (.ireturn, 1) := by decide +kernel
theorem dd_Rows_compare_73 : decode bb_Rows_compare 73 = .ok (.iinc 4 1, 3) := by decide +kernel
theorem dd_Rows_compare_76 : decode bb_Rows_compare 76 = .ok (.goto (-73), 3) := by decide +kernel
theorem dd_Rows_compare_79 : decode bb_Rows_compare 79 = .ok (.iconst 0, 1) := by decide +kernel
theorem dd_Rows_compare_80 : decode bb_Rows_compare 80 = .ok (.ireturn, 1) := by decide +kernel
set_option maxRecDepth 100000 in
set_option maxHeartbeats 4000000 in
theorem t_Rows_compare_73  (X : zX p s m args cd D cid B bb_Rows_compare 7 rr_Rows zT) (H : zH s meth B n0 (some (.int)) "compare") {nf : Nat} {x0 : Nat} {x1 : Int32} {x2 : Int32} {x3 : Int32} {x4 : Int32} {c : Zc} {r : (Nat × Int32 × Int32 × Int32 × Int32 × Zc) ⊕ ((Int32 × Int32 × Zc) ⊕ (Zc))} (h : f_Rows_compare_73 nf x0 x1 x2 x3 x4 c = some r) (k0 : ∀ a, r = .inl a → (fun a : Nat × Int32 × Int32 × Int32 × Int32 × Zc => Zz p l e (zRm 0 0 0 0) s m args below meth cd Q D cid B 7 0 0 a.2.2.2.2.2 3 [(0, .ref a.1), (1, .int a.2.1), (2, .int a.2.2.1), (3, .int a.2.2.2.1), (4, .int a.2.2.2.2.1)] []) a) (k1 : ∀ b, r = .inr b → (fun b : (Int32 × Int32 × Zc) ⊕ (Zc) => Sum.elim (fun b => Zz p l e (zRm 0 0 0 0) s m args below meth cd Q D cid B 7 0 0 b.2.2 60 [(5, .int b.1), (6, .int b.2.1)] []) (fun b => Zz p l e (zRm 0 0 0 0) s m args below meth cd Q D cid B 7 0 0 b 79 [] []) b) b) : Zz p l e (zRm 0 0 0 0) s m args below meth cd Q D cid B 7 0 0 c 73 [(0, .ref x0), (1, .int x1), (2, .int x2), (3, .int x3), (4, .int x4)] [] := by
  unfold f_Rows_compare_73 at h
  refine z_iinc (v := (x4 + 1)) (lv' := [(4, .int (x4 + 1)), (0, .ref x0), (1, .int x1), (2, .int x2), (3, .int x3)]) X dd_Rows_compare_73 4 rfl rfl (by decide) rfl ?_
  refine z_goto (tgt := 3) X dd_Rows_compare_76 (by decide) ?_
  refine z_sub [1, 2, 3, 4, 0] rfl ?_
  obtain rfl := Option.some.inj h
  exact k0 _ rfl
set_option maxRecDepth 100000 in
set_option maxHeartbeats 4000000 in
theorem u_Rows_compare_3  (X : zX p s m args cd D cid B bb_Rows_compare 7 rr_Rows zT) (H : zH s meth B n0 (some (.int)) "compare") {nf : Nat} {x0 : Nat} {x1 : Int32} {x2 : Int32} {x3 : Int32} {x4 : Int32} {c : Zc} {r : (Nat × Int32 × Int32 × Int32 × Int32 × Zc) ⊕ ((Int32 × Int32 × Zc) ⊕ (Zc))} (h : g_Rows_compare_3 nf x0 x1 x2 x3 x4 c = some r) (k0 : ∀ a, r = .inl a → (fun a : Nat × Int32 × Int32 × Int32 × Int32 × Zc => Zz p l e (zRm 0 0 0 0) s m args below meth cd Q D cid B 7 0 0 a.2.2.2.2.2 3 [(0, .ref a.1), (1, .int a.2.1), (2, .int a.2.2.1), (3, .int a.2.2.2.1), (4, .int a.2.2.2.2.1)] []) a) (k1 : ∀ b, r = .inr b → (fun b : (Int32 × Int32 × Zc) ⊕ (Zc) => Sum.elim (fun b => Zz p l e (zRm 0 0 0 0) s m args below meth cd Q D cid B 7 0 0 b.2.2 60 [(5, .int b.1), (6, .int b.2.1)] []) (fun b => Zz p l e (zRm 0 0 0 0) s m args below meth cd Q D cid B 7 0 0 b 79 [] []) b) b) : Zz p l e (zRm 0 0 0 0) s m args below meth cd Q D cid B 7 0 0 c 3 [(0, .ref x0), (1, .int x1), (2, .int x2), (3, .int x3), (4, .int x4)] [] := by
  unfold g_Rows_compare_3 at h
  refine z_iload X dd_Rows_compare_3 4 rfl ?_
  refine z_aload_n X dd_Rows_compare_5 rfl 0 rfl ?_
  obtain ⟨v1, ev1, h⟩ := zb h
  refine z_get (j := 1) X dd_Rows_compare_6 kc_9 ki_9 (by decide) km_657 (zgi_v ev1) ?_
  refine z_icmp_ge (tgt := 79) X dd_Rows_compare_9 (by decide) (fun q2 => ?_) (fun q2 => ?_)
  · rw [if_pos q2] at h
    refine z_sub [] rfl ?_
    obtain rfl := Option.some.inj h
    exact k1 _ rfl
  · rw [if_neg q2] at h
    refine z_aload_n X dd_Rows_compare_12 rfl 0 rfl ?_
    obtain ⟨v3, ev3, h⟩ := zb h
    refine z_get (j := 2) X dd_Rows_compare_13 kc_9 ki_9 (by decide) km_659 (zgr_v ev3) ?_
    refine z_iload_n X dd_Rows_compare_16 rfl 1 rfl ?_
    refine z_aload_n X dd_Rows_compare_17 rfl 0 rfl ?_
    obtain ⟨v4, ev4, h⟩ := zb h
    refine z_get (j := 1) X dd_Rows_compare_18 kc_9 ki_9 (by decide) km_657 (zgi_v ev4) ?_
    refine z_imul X dd_Rows_compare_21 ?_
    refine z_iload X dd_Rows_compare_22 4 rfl ?_
    refine z_iadd X dd_Rows_compare_24 ?_
    obtain ⟨v5, ev5, h⟩ := zb h
    refine z_iaload X dd_Rows_compare_25 rfl ev5 ?_
    refine z_istore (lv' := [(5, .int v5), (0, .ref x0), (1, .int x1), (2, .int x2), (3, .int x3), (4, .int x4)]) X dd_Rows_compare_26 (by decide) rfl ?_
    refine z_aload_n X dd_Rows_compare_28 rfl 1 rfl ?_
    obtain ⟨v6, ev6, h⟩ := zb h
    refine z_get (j := 2) X dd_Rows_compare_29 kc_9 ki_9 (by decide) km_659 (zgr_v ev6) ?_
    refine z_iload_n X dd_Rows_compare_32 rfl 3 rfl ?_
    refine z_aload_n X dd_Rows_compare_33 rfl 1 rfl ?_
    obtain ⟨v7, ev7, h⟩ := zb h
    refine z_get (j := 1) X dd_Rows_compare_34 kc_9 ki_9 (by decide) km_657 (zgi_v ev7) ?_
    refine z_imul X dd_Rows_compare_37 ?_
    refine z_iload X dd_Rows_compare_38 5 rfl ?_
    refine z_iadd X dd_Rows_compare_40 ?_
    obtain ⟨v8, ev8, h⟩ := zb h
    refine z_iaload X dd_Rows_compare_41 rfl ev8 ?_
    refine z_istore (lv' := [(6, .int v8), (5, .int v5), (0, .ref x0), (1, .int x1), (2, .int x2), (3, .int x3), (4, .int x4)]) X dd_Rows_compare_42 (by decide) rfl ?_
    refine z_iload X dd_Rows_compare_44 1 rfl ?_
    refine z_iload X dd_Rows_compare_46 0 rfl ?_
    refine z_icmp_eq (tgt := 73) X dd_Rows_compare_48 (by decide) (fun q9 => ?_) (fun q9 => ?_)
    · rw [if_pos q9] at h
      refine z_sub [2, 3, 4, 5, 6] rfl ?_
      exact t_Rows_compare_73 X H h k0 k1
    · rw [if_neg q9] at h
      refine z_iload_n X dd_Rows_compare_51 rfl 5 rfl ?_
      refine z_iload X dd_Rows_compare_52 6 rfl ?_
      refine z_ishr X dd_Rows_compare_54 ?_
      refine z_iconst (v := 1) X dd_Rows_compare_55 (by decide) ?_
      refine z_iand X dd_Rows_compare_56 ?_
      refine z_if_eq (tgt := 73) X dd_Rows_compare_57 (by decide) (fun q10 => ?_) (fun q10 => ?_)
      · rw [if_pos q10] at h
        refine z_sub [2, 3, 4, 5, 6] rfl ?_
        exact t_Rows_compare_73 X H h k0 k1
      · rw [if_neg q10] at h
        refine z_sub [1, 0] rfl ?_
        obtain rfl := Option.some.inj h
        exact k1 _ rfl
set_option maxRecDepth 100000 in
set_option maxHeartbeats 4000000 in
theorem t_Rows_compare_72  (X : zX p s m args cd D cid B bb_Rows_compare 7 rr_Rows zT) (H : zH s meth B n0 (some (.int)) "compare") {nf : Nat} {s0 : Int32} {c : Zc} {res : Int32 × Zc} (h : f_Rows_compare_72 nf s0 c = some res) : Zz p l e (zRm 0 0 0 0) s m args below meth cd (MQ below (zQi D cid B res.1 res.2 n0 0) args s 0 0 (fun q => B ≤ q)) D cid B 7 0 0 c 72 [] [.int s0] := by
  unfold f_Rows_compare_72 at h
  obtain rfl := Option.some.inj h
  exact z_iret X H.1 H.2.1 H.2.2.1 dd_Rows_compare_72
set_option maxRecDepth 100000 in
set_option maxHeartbeats 4000000 in
theorem t_Rows_compare_3  (X : zX p s m args cd D cid B bb_Rows_compare 7 rr_Rows zT) (H : zH s meth B n0 (some (.int)) "compare") {nf : Nat} {x0 : Nat} {x1 : Int32} {x2 : Int32} {x3 : Int32} {x4 : Int32} {c : Zc} {res : Int32 × Zc} (h : f_Rows_compare_3 nf x0 x1 x2 x3 x4 c = some res) : Zz p l e (zRm 0 0 0 0) s m args below meth cd (MQ below (zQi D cid B res.1 res.2 n0 0) args s 0 0 (fun q => B ≤ q)) D cid B 7 0 0 c 3 [(0, .ref x0), (1, .int x1), (2, .int x2), (3, .int x3), (4, .int x4)] [] := by
  unfold f_Rows_compare_3 at h
  obtain ⟨b, eb, h⟩ := zb h
  refine zlp_ok (P := fun a : Nat × Int32 × Int32 × Int32 × Int32 × Zc => Zz p l e (zRm 0 0 0 0) s m args below meth cd _ D cid B 7 0 0 a.2.2.2.2.2 3 [(0, .ref a.1), (1, .int a.2.1), (2, .int a.2.2.1), (3, .int a.2.2.2.1), (4, .int a.2.2.2.2.1)] []) (G := fun b : (Int32 × Int32 × Zc) ⊕ (Zc) => Sum.elim (fun b => Zz p l e (zRm 0 0 0 0) s m args below meth cd _ D cid B 7 0 0 b.2.2 60 [(5, .int b.1), (6, .int b.2.1)] []) (fun b => Zz p l e (zRm 0 0 0 0) s m args below meth cd _ D cid B 7 0 0 b 79 [] []) b) (fun a r ha k0 k1 => u_Rows_compare_3 X H ha k0 k1) nf _ b eb ?_
  rcases b with b | b
  · simp only [Sum.elim_inl] at h ⊢
    refine z_iload X dd_Rows_compare_60 0 rfl ?_
    refine z_iload X dd_Rows_compare_62 1 rfl ?_
    refine z_icmp_ge (tgt := 71) X dd_Rows_compare_64 (by decide) (fun q11 => ?_) (fun q11 => ?_)
    · rw [if_pos q11] at h
      refine z_iconst (v := 1) X dd_Rows_compare_71 (by decide) ?_
      refine z_sub [] rfl ?_
      exact t_Rows_compare_72 X H h
    · rw [if_neg q11] at h
      refine z_iconst (v := (-1)) X dd_Rows_compare_67 (by decide) ?_
      refine z_goto (tgt := 72) X dd_Rows_compare_68 (by decide) ?_
      refine z_sub [] rfl ?_
      exact t_Rows_compare_72 X H h
  · simp only [Sum.elim_inr] at h ⊢
    refine z_iconst (v := 0) X dd_Rows_compare_79 (by decide) ?_
    obtain rfl := Option.some.inj h
    exact z_iret X H.1 H.2.1 H.2.2.1 dd_Rows_compare_80
set_option maxRecDepth 100000 in
set_option maxHeartbeats 4000000 in
theorem c_Rows_compare (l : Launch) {nf : Nat} {a0 : Nat} {a1 : Int32} {a2 : Int32} {a3 : Int32} {c : Zc} {res : Int32 × Zc} (h : f_Rows_compare nf a0 a1 a2 a3 c = some res) : zM l yy_Rows_compare ww_Rows_compare 0 0 0 0 [.ref a0, .int a1, .int a2, .int a3] c (fun D cid B => zQi D cid B res.1 res.2 c.length 0) := by
  refine z_met (cc := bb_Rows_compare) (maxL := 7) (ret := (some (.int))) (by decide +kernel) rfl (Nat.le_of_ble_eq_true rfl) ?_
  intro p e s m args below meth cd D cid B X h1 h2 h3 h4
  have X : zX p s m args cd D cid B bb_Rows_compare 7 rr_Rows zT := X
  have H : zH s meth B c.length (some (.int)) "compare" := ⟨h1, h2, h4, h3⟩
  unfold f_Rows_compare at h
  show Zz p l e (zRm 0 0 0 0) s m args below meth cd _ D cid B 7 0 0 c 0 [(0, .ref a0), (1, .int a1), (2, .int a2), (3, .int a3)] []
  refine z_iconst (v := 0) X dd_Rows_compare_0 (by decide) ?_
  refine z_istore (lv' := [(4, .int 0), (0, .ref a0), (1, .int a1), (2, .int a2), (3, .int a3)]) X dd_Rows_compare_1 (by decide) rfl ?_
  refine z_sub [1, 2, 3, 4, 0] rfl ?_
  exact t_Rows_compare_3 X H h
theorem dd_Rows_merge_0 : decode bb_Rows_merge 0 = .ok (.iload_n 1, 1) := by decide +kernel
theorem dd_Rows_merge_1 : decode bb_Rows_merge 1 = .ok (.istore 5, 2) := by decide +kernel
theorem dd_Rows_merge_3 : decode bb_Rows_merge 3 = .ok (.iload_n 2, 1) := by decide +kernel
theorem dd_Rows_merge_4 : decode bb_Rows_merge 4 = .ok (.istore 6, 2) := by decide +kernel
theorem dd_Rows_merge_6 : decode bb_Rows_merge 6 = .ok (.iload_n 1, 1) := by decide +kernel
theorem dd_Rows_merge_7 : decode bb_Rows_merge 7 = .ok (.istore 7, 2) := by decide +kernel
theorem dd_Rows_merge_9 : decode bb_Rows_merge 9 = .ok (.iload 7, 2) := by decide +kernel
theorem dd_Rows_merge_11 : decode bb_Rows_merge 11 = .ok (.iload_n 3, 1) := by decide +kernel
theorem dd_Rows_merge_12 : decode bb_Rows_merge 12 = .ok (.if_icmp .ge 81, 3) := by decide +kernel
theorem dd_Rows_merge_15 : decode bb_Rows_merge 15 = .ok (.iload 6, 2) := by decide +kernel
theorem dd_Rows_merge_17 : decode bb_Rows_merge 17 = .ok (.iload_n 3, 1) := by decide +kernel
theorem dd_Rows_merge_18 : decode bb_Rows_merge 18 = .ok (.if_icmp .ge 32, 3) := by decide +kernel
theorem dd_Rows_merge_21 : decode bb_Rows_merge 21 = .ok (.iload 5, 2) := by decide +kernel
theorem dd_Rows_merge_23 : decode bb_Rows_merge 23 = .ok (.iload_n 2, 1) := by decide +kernel
theorem dd_Rows_merge_24 : decode bb_Rows_merge 24 = .ok (.if_icmp .ge 46, 3) := by decide +kernel
theorem dd_Rows_merge_27 : decode bb_Rows_merge 27 = .ok (.aload_n 0, 1) := by decide +kernel
theorem dd_Rows_merge_28 : decode bb_Rows_merge 28 = .ok (.aload_n 0, 1) := by decide +kernel
theorem dd_Rows_merge_29 : decode bb_Rows_merge 29 = .ok (.getfield 20, 3) := by decide +kernel
theorem dd_Rows_merge_32 : decode bb_Rows_merge 32 = .ok (.iload 5, 2) := by decide +kernel
theorem dd_Rows_merge_34 : decode bb_Rows_merge 34 = .ok (.iaload, 1) := by decide +kernel
theorem dd_Rows_merge_35 : decode bb_Rows_merge 35 = .ok (.aload_n 0, 1) := by decide +kernel
theorem dd_Rows_merge_36 : decode bb_Rows_merge 36 = .ok (.getfield 20, 3) := by decide +kernel
theorem dd_Rows_merge_39 : decode bb_Rows_merge 39 = .ok (.iload 6, 2) := by decide +kernel
theorem dd_Rows_merge_41 : decode bb_Rows_merge 41 = .ok (.iaload, 1) := by decide +kernel
theorem dd_Rows_merge_42 : decode bb_Rows_merge 42 = .ok (.iload 4, 2) := by decide +kernel
theorem dd_Rows_merge_44 : decode bb_Rows_merge 44 = .ok (.invokevirtual 49, 3) := by decide +kernel
theorem dd_Rows_merge_47 : decode bb_Rows_merge 47 = .ok (.ifCond .gt 23, 3) := by decide +kernel
theorem dd_Rows_merge_50 : decode bb_Rows_merge 50 = .ok (.aload_n 0, 1) := by decide +kernel
theorem dd_Rows_merge_51 : decode bb_Rows_merge 51 = .ok (.getfield 23, 3) := by decide +kernel
theorem dd_Rows_merge_54 : decode bb_Rows_merge 54 = .ok (.iload 7, 2) := by decide +kernel
theorem dd_Rows_merge_56 : decode bb_Rows_merge 56 = .ok (.aload_n 0, 1) := by decide +kernel
theorem dd_Rows_merge_57 : decode bb_Rows_merge 57 = .ok (.getfield 20, 3) := by decide +kernel
theorem dd_Rows_merge_60 : decode bb_Rows_merge 60 = .ok (.iload 5, 2) := by decide +kernel
theorem dd_Rows_merge_62 : decode bb_Rows_merge 62 = .ok (.iaload, 1) := by decide +kernel
theorem dd_Rows_merge_63 : decode bb_Rows_merge 63 = .ok (.iastore, 1) := by decide +kernel
theorem dd_Rows_merge_64 : decode bb_Rows_merge 64 = .ok (.iinc 5 1, 3) := by decide +kernel
theorem dd_Rows_merge_67 : decode bb_Rows_merge 67 = .ok (.goto 20, 3) := by decide +kernel
theorem dd_Rows_merge_70 : decode bb_Rows_merge 70 = .ok (.aload_n 0, 1) := by decide +kernel
theorem dd_Rows_merge_71 : decode bb_Rows_merge 71 = .ok (.getfield 23, 3) := by decide +kernel
theorem dd_Rows_merge_74 : decode bb_Rows_merge 74 = .ok (.iload 7, 2) := by decide +kernel
theorem dd_Rows_merge_76 : decode bb_Rows_merge 76 = .ok (.aload_n 0, 1) := by decide +kernel
theorem dd_Rows_merge_77 : decode bb_Rows_merge 77 = .ok (.getfield 20, 3) := by decide +kernel
theorem dd_Rows_merge_80 : decode bb_Rows_merge 80 = .ok (.iload 6, 2) := by decide +kernel
theorem dd_Rows_merge_82 : decode bb_Rows_merge 82 = .ok (.iaload, 1) := by decide +kernel
theorem dd_Rows_merge_83 : decode bb_Rows_merge 83 = .ok (.iastore, 1) := by decide +kernel
theorem dd_Rows_merge_84 : decode bb_Rows_merge 84 = .ok (.iinc 6 1, 3) := by decide +kernel
theorem dd_Rows_merge_87 : decode bb_Rows_merge 87 = .ok (.iinc 7 1, 3) := by decide +kernel
theorem dd_Rows_merge_90 : decode bb_Rows_merge 90 = .ok (.goto (-81), 3) := by decide +kernel
theorem dd_Rows_merge_93 : decode bb_Rows_merge 93 = .ok (.return_, 1) := by decide +kernel
set_option maxRecDepth 100000 in
set_option maxHeartbeats 4000000 in
theorem t_Rows_merge_87  (X : zX p s m args cd D cid B bb_Rows_merge 8 rr_Rows zT) (H : zH s meth B n0 none "merge") {nf : Nat} {x0 : Nat} {x2 : Int32} {x3 : Int32} {x4 : Int32} {x5 : Int32} {x6 : Int32} {x7 : Int32} {c : Zc} {r : (Nat × Int32 × Int32 × Int32 × Int32 × Int32 × Int32 × Zc) ⊕ (Zc)} (h : f_Rows_merge_87 nf x0 x2 x3 x4 x5 x6 x7 c = some r) (k0 : ∀ a, r = .inl a → (fun a : Nat × Int32 × Int32 × Int32 × Int32 × Int32 × Int32 × Zc => Zz p l e (zRm 1 26 0 0) s m args below meth cd Q D cid B 8 0 0 a.2.2.2.2.2.2.2 9 [(0, .ref a.1), (2, .int a.2.1), (3, .int a.2.2.1), (4, .int a.2.2.2.1), (5, .int a.2.2.2.2.1), (6, .int a.2.2.2.2.2.1), (7, .int a.2.2.2.2.2.2.1)] []) a) (k1 : ∀ b, r = .inr b → (fun b : Zc => Zz p l e (zRm 1 26 0 0) s m args below meth cd Q D cid B 8 0 0 b 93 [] []) b) : Zz p l e (zRm 1 26 0 0) s m args below meth cd Q D cid B 8 0 0 c 87 [(0, .ref x0), (2, .int x2), (3, .int x3), (4, .int x4), (5, .int x5), (6, .int x6), (7, .int x7)] [] := by
  unfold f_Rows_merge_87 at h
  refine z_iinc (v := (x7 + 1)) (lv' := [(7, .int (x7 + 1)), (0, .ref x0), (2, .int x2), (3, .int x3), (4, .int x4), (5, .int x5), (6, .int x6)]) X dd_Rows_merge_87 6 rfl rfl (by decide) rfl ?_
  refine z_goto (tgt := 9) X dd_Rows_merge_90 (by decide) ?_
  refine z_sub [1, 2, 3, 4, 5, 6, 0] rfl ?_
  obtain rfl := Option.some.inj h
  exact k0 _ rfl
set_option maxRecDepth 100000 in
set_option maxHeartbeats 4000000 in
theorem t_Rows_merge_50  (X : zX p s m args cd D cid B bb_Rows_merge 8 rr_Rows zT) (H : zH s meth B n0 none "merge") {nf : Nat} {x0 : Nat} {x2 : Int32} {x3 : Int32} {x4 : Int32} {x5 : Int32} {x6 : Int32} {x7 : Int32} {c : Zc} {r : (Nat × Int32 × Int32 × Int32 × Int32 × Int32 × Int32 × Zc) ⊕ (Zc)} (h : f_Rows_merge_50 nf x0 x2 x3 x4 x5 x6 x7 c = some r) (k0 : ∀ a, r = .inl a → (fun a : Nat × Int32 × Int32 × Int32 × Int32 × Int32 × Int32 × Zc => Zz p l e (zRm 1 26 0 0) s m args below meth cd Q D cid B 8 0 0 a.2.2.2.2.2.2.2 9 [(0, .ref a.1), (2, .int a.2.1), (3, .int a.2.2.1), (4, .int a.2.2.2.1), (5, .int a.2.2.2.2.1), (6, .int a.2.2.2.2.2.1), (7, .int a.2.2.2.2.2.2.1)] []) a) (k1 : ∀ b, r = .inr b → (fun b : Zc => Zz p l e (zRm 1 26 0 0) s m args below meth cd Q D cid B 8 0 0 b 93 [] []) b) : Zz p l e (zRm 1 26 0 0) s m args below meth cd Q D cid B 8 0 0 c 50 [(0, .ref x0), (2, .int x2), (3, .int x3), (4, .int x4), (5, .int x5), (6, .int x6), (7, .int x7)] [] := by
  unfold f_Rows_merge_50 at h
  refine z_aload_n X dd_Rows_merge_50 rfl 0 rfl ?_
  obtain ⟨v3, ev3, h⟩ := zb h
  refine z_get (j := 4) X dd_Rows_merge_51 kc_9 ki_9 (by decide) km_661 (zgr_v ev3) ?_
  refine z_iload X dd_Rows_merge_54 6 rfl ?_
  refine z_aload_n X dd_Rows_merge_56 rfl 0 rfl ?_
  obtain ⟨v4, ev4, h⟩ := zb h
  refine z_get (j := 3) X dd_Rows_merge_57 kc_9 ki_9 (by decide) km_660 (zgr_v ev4) ?_
  refine z_iload X dd_Rows_merge_60 4 rfl ?_
  obtain ⟨v5, ev5, h⟩ := zb h
  refine z_iaload X dd_Rows_merge_62 rfl ev5 ?_
  obtain ⟨c6, ec6, h⟩ := zb h
  refine z_iastore X dd_Rows_merge_63 rfl ec6 ?_
  refine z_iinc (v := (x5 + 1)) (lv' := [(5, .int (x5 + 1)), (0, .ref x0), (2, .int x2), (3, .int x3), (4, .int x4), (6, .int x6), (7, .int x7)]) X dd_Rows_merge_64 4 rfl rfl (by decide) rfl ?_
  refine z_goto (tgt := 87) X dd_Rows_merge_67 (by decide) ?_
  refine z_sub [1, 2, 3, 4, 0, 5, 6] rfl ?_
  exact t_Rows_merge_87 X H h k0 k1
set_option maxRecDepth 100000 in
set_option maxHeartbeats 4000000 in
theorem t_Rows_merge_70  (X : zX p s m args cd D cid B bb_Rows_merge 8 rr_Rows zT) (H : zH s meth B n0 none "merge") {nf : Nat} {x0 : Nat} {x2 : Int32} {x3 : Int32} {x4 : Int32} {x5 : Int32} {x6 : Int32} {x7 : Int32} {c : Zc} {r : (Nat × Int32 × Int32 × Int32 × Int32 × Int32 × Int32 × Zc) ⊕ (Zc)} (h : f_Rows_merge_70 nf x0 x2 x3 x4 x5 x6 x7 c = some r) (k0 : ∀ a, r = .inl a → (fun a : Nat × Int32 × Int32 × Int32 × Int32 × Int32 × Int32 × Zc => Zz p l e (zRm 1 26 0 0) s m args below meth cd Q D cid B 8 0 0 a.2.2.2.2.2.2.2 9 [(0, .ref a.1), (2, .int a.2.1), (3, .int a.2.2.1), (4, .int a.2.2.2.1), (5, .int a.2.2.2.2.1), (6, .int a.2.2.2.2.2.1), (7, .int a.2.2.2.2.2.2.1)] []) a) (k1 : ∀ b, r = .inr b → (fun b : Zc => Zz p l e (zRm 1 26 0 0) s m args below meth cd Q D cid B 8 0 0 b 93 [] []) b) : Zz p l e (zRm 1 26 0 0) s m args below meth cd Q D cid B 8 0 0 c 70 [(0, .ref x0), (2, .int x2), (3, .int x3), (4, .int x4), (5, .int x5), (6, .int x6), (7, .int x7)] [] := by
  unfold f_Rows_merge_70 at h
  refine z_aload_n X dd_Rows_merge_70 rfl 0 rfl ?_
  obtain ⟨v8, ev8, h⟩ := zb h
  refine z_get (j := 4) X dd_Rows_merge_71 kc_9 ki_9 (by decide) km_661 (zgr_v ev8) ?_
  refine z_iload X dd_Rows_merge_74 6 rfl ?_
  refine z_aload_n X dd_Rows_merge_76 rfl 0 rfl ?_
  obtain ⟨v9, ev9, h⟩ := zb h
  refine z_get (j := 3) X dd_Rows_merge_77 kc_9 ki_9 (by decide) km_660 (zgr_v ev9) ?_
  refine z_iload X dd_Rows_merge_80 5 rfl ?_
  obtain ⟨v10, ev10, h⟩ := zb h
  refine z_iaload X dd_Rows_merge_82 rfl ev10 ?_
  obtain ⟨c11, ec11, h⟩ := zb h
  refine z_iastore X dd_Rows_merge_83 rfl ec11 ?_
  refine z_iinc (v := (x6 + 1)) (lv' := [(6, .int (x6 + 1)), (0, .ref x0), (2, .int x2), (3, .int x3), (4, .int x4), (5, .int x5), (7, .int x7)]) X dd_Rows_merge_84 5 rfl rfl (by decide) rfl ?_
  refine z_sub [1, 2, 3, 4, 5, 0, 6] rfl ?_
  exact t_Rows_merge_87 X H h k0 k1
set_option maxRecDepth 100000 in
set_option maxHeartbeats 4000000 in
theorem u_Rows_merge_9  (X : zX p s m args cd D cid B bb_Rows_merge 8 rr_Rows zT) (H : zH s meth B n0 none "merge") {nf : Nat} {x0 : Nat} {x2 : Int32} {x3 : Int32} {x4 : Int32} {x5 : Int32} {x6 : Int32} {x7 : Int32} {c : Zc} {r : (Nat × Int32 × Int32 × Int32 × Int32 × Int32 × Int32 × Zc) ⊕ (Zc)} (h : g_Rows_merge_9 nf x0 x2 x3 x4 x5 x6 x7 c = some r) (k0 : ∀ a, r = .inl a → (fun a : Nat × Int32 × Int32 × Int32 × Int32 × Int32 × Int32 × Zc => Zz p l e (zRm 1 26 0 0) s m args below meth cd Q D cid B 8 0 0 a.2.2.2.2.2.2.2 9 [(0, .ref a.1), (2, .int a.2.1), (3, .int a.2.2.1), (4, .int a.2.2.2.1), (5, .int a.2.2.2.2.1), (6, .int a.2.2.2.2.2.1), (7, .int a.2.2.2.2.2.2.1)] []) a) (k1 : ∀ b, r = .inr b → (fun b : Zc => Zz p l e (zRm 1 26 0 0) s m args below meth cd Q D cid B 8 0 0 b 93 [] []) b) : Zz p l e (zRm 1 26 0 0) s m args below meth cd Q D cid B 8 0 0 c 9 [(0, .ref x0), (2, .int x2), (3, .int x3), (4, .int x4), (5, .int x5), (6, .int x6), (7, .int x7)] [] := by
  unfold g_Rows_merge_9 at h
  refine z_iload X dd_Rows_merge_9 6 rfl ?_
  refine z_iload_n X dd_Rows_merge_11 rfl 2 rfl ?_
  refine z_icmp_ge (tgt := 93) X dd_Rows_merge_12 (by decide) (fun q1 => ?_) (fun q1 => ?_)
  · rw [if_pos q1] at h
    refine z_sub [] rfl ?_
    obtain rfl := Option.some.inj h
    exact k1 _ rfl
  · rw [if_neg q1] at h
    refine z_iload X dd_Rows_merge_15 5 rfl ?_
    refine z_iload_n X dd_Rows_merge_17 rfl 2 rfl ?_
    refine z_icmp_ge (tgt := 50) X dd_Rows_merge_18 (by decide) (fun q2 => ?_) (fun q2 => ?_)
    · rw [if_pos q2] at h
      exact t_Rows_merge_50 X H h k0 k1
    · rw [if_neg q2] at h
      refine z_iload X dd_Rows_merge_21 4 rfl ?_
      refine z_iload_n X dd_Rows_merge_23 rfl 1 rfl ?_
      refine z_icmp_ge (tgt := 70) X dd_Rows_merge_24 (by decide) (fun q7 => ?_) (fun q7 => ?_)
      · rw [if_pos q7] at h
        exact t_Rows_merge_70 X H h k0 k1
      · rw [if_neg q7] at h
        refine z_aload_n X dd_Rows_merge_27 rfl 0 rfl ?_
        refine z_aload_n X dd_Rows_merge_28 rfl 0 rfl ?_
        obtain ⟨v12, ev12, h⟩ := zb h
        refine z_get (j := 3) X dd_Rows_merge_29 kc_9 ki_9 (by decide) km_660 (zgr_v ev12) ?_
        refine z_iload X dd_Rows_merge_32 4 rfl ?_
        obtain ⟨v13, ev13, h⟩ := zb h
        refine z_iaload X dd_Rows_merge_34 rfl ev13 ?_
        refine z_aload_n X dd_Rows_merge_35 rfl 0 rfl ?_
        obtain ⟨v14, ev14, h⟩ := zb h
        refine z_get (j := 3) X dd_Rows_merge_36 kc_9 ki_9 (by decide) km_660 (zgr_v ev14) ?_
        refine z_iload X dd_Rows_merge_39 5 rfl ?_
        obtain ⟨v15, ev15, h⟩ := zb h
        refine z_iaload X dd_Rows_merge_41 rfl ev15 ?_
        refine z_iload X dd_Rows_merge_42 3 rfl ?_
        obtain ⟨w17, ew17, h⟩ := zb h
        obtain ⟨q16, eq16, h⟩ := zb h
        refine z_callVi X [.int v13, .int v15, .int x4] rfl dd_Rows_merge_44 (c_Rows_compare l eq16) (cwV 3 X.1.2.2.2.2 (zg_V km_1452 km_1453 km_1454 km_137 km_1455) rfl rfl rfl (by decide +kernel) ⟨Nat.le_of_ble_eq_true rfl, Nat.le_of_ble_eq_true rfl⟩) (zob_s ew17) kc_9 rfl (Nat.le_of_ble_eq_true rfl) ⟨Nat.le_of_ble_eq_true rfl, Nat.le_of_ble_eq_true rfl⟩ ?_
        refine z_if_gt (tgt := 70) X dd_Rows_merge_47 (by decide) (fun q18 => ?_) (fun q18 => ?_)
        · rw [if_pos q18] at h
          exact t_Rows_merge_70 X H h k0 k1
        · rw [if_neg q18] at h
          exact t_Rows_merge_50 X H h k0 k1
set_option maxRecDepth 100000 in
set_option maxHeartbeats 4000000 in
theorem t_Rows_merge_9  (X : zX p s m args cd D cid B bb_Rows_merge 8 rr_Rows zT) (H : zH s meth B n0 none "merge") {nf : Nat} {x0 : Nat} {x2 : Int32} {x3 : Int32} {x4 : Int32} {x5 : Int32} {x6 : Int32} {x7 : Int32} {c : Zc} {res : Zc} (h : f_Rows_merge_9 nf x0 x2 x3 x4 x5 x6 x7 c = some res) : Zz p l e (zRm 1 26 0 0) s m args below meth cd (MQ below (zQv D cid B res n0 0) args s 0 0 (fun q => B ≤ q)) D cid B 8 0 0 c 9 [(0, .ref x0), (2, .int x2), (3, .int x3), (4, .int x4), (5, .int x5), (6, .int x6), (7, .int x7)] [] := by
  unfold f_Rows_merge_9 at h
  obtain ⟨b, eb, h⟩ := zb h
  refine zlp_ok (P := fun a : Nat × Int32 × Int32 × Int32 × Int32 × Int32 × Int32 × Zc => Zz p l e (zRm 1 26 0 0) s m args below meth cd _ D cid B 8 0 0 a.2.2.2.2.2.2.2 9 [(0, .ref a.1), (2, .int a.2.1), (3, .int a.2.2.1), (4, .int a.2.2.2.1), (5, .int a.2.2.2.2.1), (6, .int a.2.2.2.2.2.1), (7, .int a.2.2.2.2.2.2.1)] []) (G := fun b : Zc => Zz p l e (zRm 1 26 0 0) s m args below meth cd _ D cid B 8 0 0 b 93 [] []) (fun a r ha k0 k1 => u_Rows_merge_9 X H ha k0 k1) nf _ b eb ?_
  obtain rfl := Option.some.inj h
  exact z_vret X H.1 H.2.1 H.2.2.1 dd_Rows_merge_93
set_option maxRecDepth 100000 in
set_option maxHeartbeats 4000000 in
theorem c_Rows_merge (l : Launch) {nf : Nat} {a0 : Nat} {a1 : Int32} {a2 : Int32} {a3 : Int32} {a4 : Int32} {c : Zc} {res : Zc} (h : f_Rows_merge nf a0 a1 a2 a3 a4 c = some res) : zM l yy_Rows_merge ww_Rows_merge 1 26 0 0 [.ref a0, .int a1, .int a2, .int a3, .int a4] c (fun D cid B => zQv D cid B res c.length 0) := by
  refine z_met (cc := bb_Rows_merge) (maxL := 8) (ret := none) (by decide +kernel) rfl (Nat.le_of_ble_eq_true rfl) ?_
  intro p e s m args below meth cd D cid B X h1 h2 h3 h4
  have X : zX p s m args cd D cid B bb_Rows_merge 8 rr_Rows zT := X
  have H : zH s meth B c.length none "merge" := ⟨h1, h2, h4, h3⟩
  unfold f_Rows_merge at h
  show Zz p l e (zRm 1 26 0 0) s m args below meth cd _ D cid B 8 0 0 c 0 [(0, .ref a0), (1, .int a1), (2, .int a2), (3, .int a3), (4, .int a4)] []
  refine z_iload_n X dd_Rows_merge_0 rfl 1 rfl ?_
  refine z_istore (lv' := [(5, .int a1), (0, .ref a0), (1, .int a1), (2, .int a2), (3, .int a3), (4, .int a4)]) X dd_Rows_merge_1 (by decide) rfl ?_
  refine z_iload_n X dd_Rows_merge_3 rfl 3 rfl ?_
  refine z_istore (lv' := [(6, .int a2), (5, .int a1), (0, .ref a0), (1, .int a1), (2, .int a2), (3, .int a3), (4, .int a4)]) X dd_Rows_merge_4 (by decide) rfl ?_
  refine z_iload_n X dd_Rows_merge_6 rfl 3 rfl ?_
  refine z_istore (lv' := [(7, .int a1), (6, .int a2), (5, .int a1), (0, .ref a0), (1, .int a1), (2, .int a2), (3, .int a3), (4, .int a4)]) X dd_Rows_merge_7 (by decide) rfl ?_
  refine z_sub [3, 5, 6, 7, 2, 1, 0] rfl ?_
  exact t_Rows_merge_9 X H h
theorem dd_Rows_sort_0 : decode bb_Rows_sort 0 = .ok (.aload_n 0, 1) := by decide +kernel
theorem dd_Rows_sort_1 : decode bb_Rows_sort 1 = .ok (.getfield 20, 3) := by decide +kernel
theorem dd_Rows_sort_4 : decode bb_Rows_sort 4 = .ok (.arraylength, 1) := by decide +kernel
theorem dd_Rows_sort_5 : decode bb_Rows_sort 5 = .ok (.aload_n 0, 1) := by decide +kernel
theorem dd_Rows_sort_6 : decode bb_Rows_sort 6 = .ok (.getfield 7, 3) := by decide +kernel
theorem dd_Rows_sort_9 : decode bb_Rows_sort 9 = .ok (.if_icmp .ge 32, 3) := by decide +kernel
theorem dd_Rows_sort_12 : decode bb_Rows_sort 12 = .ok (.iconst 2, 1) := by decide +kernel
theorem dd_Rows_sort_13 : decode bb_Rows_sort 13 = .ok (.aload_n 0, 1) := by decide +kernel
theorem dd_Rows_sort_14 : decode bb_Rows_sort 14 = .ok (.getfield 20, 3) := by decide +kernel
theorem dd_Rows_sort_17 : decode bb_Rows_sort 17 = .ok (.arraylength, 1) := by decide +kernel
theorem dd_Rows_sort_18 : decode bb_Rows_sort 18 = .ok (.imul, 1) := by decide +kernel
theorem dd_Rows_sort_19 : decode bb_Rows_sort 19 = .ok (.aload_n 0, 1) := by decide +kernel
theorem dd_Rows_sort_20 : decode bb_Rows_sort 20 = .ok (.getfield 7, 3) := by decide +kernel
theorem dd_Rows_sort_23 : decode bb_Rows_sort 23 = .ok (.invokestatic 26, 3) := by decide +kernel
theorem dd_Rows_sort_26 : decode bb_Rows_sort 26 = .ok (.istore_n 2, 1) := by decide +kernel
theorem dd_Rows_sort_27 : decode bb_Rows_sort 27 = .ok (.aload_n 0, 1) := by decide +kernel
theorem dd_Rows_sort_28 : decode bb_Rows_sort 28 = .ok (.iload_n 2, 1) := by decide +kernel
theorem dd_Rows_sort_29 : decode bb_Rows_sort 29 = .ok (.newarray .int, 2) := by decide +kernel
theorem dd_Rows_sort_31 : decode bb_Rows_sort 31 = .ok (.putfield 20, 3) := by decide +kernel
theorem dd_Rows_sort_34 : decode bb_Rows_sort 34 = .ok (.aload_n 0, 1) := by decide +kernel
theorem dd_Rows_sort_35 : decode bb_Rows_sort 35 = .ok (.iload_n 2, 1) := by decide +kernel
theorem dd_Rows_sort_36 : decode bb_Rows_sort 36 = .ok (.newarray .int, 2) := by decide +kernel
theorem dd_Rows_sort_38 : decode bb_Rows_sort 38 = .ok (.putfield 23, 3) := by decide +kernel
theorem dd_Rows_sort_41 : decode bb_Rows_sort 41 = .ok (.iconst 0, 1) := by decide +kernel
theorem dd_Rows_sort_42 : decode bb_Rows_sort 42 = .ok (.istore_n 2, 1) := by decide +kernel
theorem dd_Rows_sort_43 : decode bb_Rows_sort 43 = .ok (.iload_n 2, 1) := by decide +kernel
theorem dd_Rows_sort_44 : decode bb_Rows_sort 44 = .ok (.aload_n 0, 1) := by decide +kernel
theorem dd_Rows_sort_45 : decode bb_Rows_sort 45 = .ok (.getfield 7, 3) := by decide +kernel
theorem dd_Rows_sort_48 : decode bb_Rows_sort 48 = .ok (.if_icmp .ge 16, 3) := by decide +kernel
theorem dd_Rows_sort_51 : decode bb_Rows_sort 51 = .ok (.aload_n 0, 1) := by decide +kernel
theorem dd_Rows_sort_52 : decode bb_Rows_sort 52 = .ok (.getfield 20, 3) := by decide +kernel
theorem dd_Rows_sort_55 : decode bb_Rows_sort 55 = .ok (.iload_n 2, 1) := by decide +kernel
theorem dd_Rows_sort_56 : decode bb_Rows_sort 56 = .ok (.iload_n 2, 1) := by decide +kernel
theorem dd_Rows_sort_57 : decode bb_Rows_sort 57 = .ok (.iastore, 1) := by decide +kernel
theorem dd_Rows_sort_58 : decode bb_Rows_sort 58 = .ok (.iinc 2 1, 3) := by decide +kernel
theorem dd_Rows_sort_61 : decode bb_Rows_sort 61 = .ok (.goto (-18), 3) := by decide +kernel
theorem dd_Rows_sort_64 : decode bb_Rows_sort 64 = .ok (.iconst 1, 1) := by decide +kernel
theorem dd_Rows_sort_65 : decode bb_Rows_sort 65 = .ok (.istore_n 2, 1) := by decide +kernel
theorem dd_Rows_sort_66 : decode bb_Rows_sort 66 = .ok (.iload_n 2, 1) := by decide +kernel
theorem dd_Rows_sort_67 : decode bb_Rows_sort 67 = .ok (.aload_n 0, 1) := by decide +kernel
theorem dd_Rows_sort_68 : decode bb_Rows_sort 68 = .ok (.getfield 7, 3) := by decide +kernel
theorem dd_Rows_sort_71 : decode bb_Rows_sort 71 = .ok (.if_icmp .ge 75, 3) := by decide +kernel
theorem dd_Rows_sort_74 : decode bb_Rows_sort 74 = .ok (.iconst 0, 1) := by decide +kernel
theorem dd_Rows_sort_75 : decode bb_Rows_sort 75 = .ok (.istore_n 3, 1) := by decide +kernel
theorem dd_Rows_sort_76 : decode bb_Rows_sort 76 = .ok (.iload_n 3, 1) := by decide +kernel
theorem dd_Rows_sort_77 : decode bb_Rows_sort 77 = .ok (.aload_n 0, 1) := by decide +kernel
theorem dd_Rows_sort_78 : decode bb_Rows_sort 78 = .ok (.getfield 7, 3) := by decide +kernel
theorem dd_Rows_sort_81 : decode bb_Rows_sort 81 = .ok (.if_icmp .ge 40, 3) := by decide +kernel
theorem dd_Rows_sort_84 : decode bb_Rows_sort 84 = .ok (.aload_n 0, 1) := by decide +kernel
theorem dd_Rows_sort_85 : decode bb_Rows_sort 85 = .ok (.iload_n 3, 1) := by decide +kernel
theorem dd_Rows_sort_86 : decode bb_Rows_sort 86 = .ok (.iload_n 3, 1) := by decide +kernel
theorem dd_Rows_sort_87 : decode bb_Rows_sort 87 = .ok (.iload_n 2, 1) := by decide +kernel
theorem dd_Rows_sort_88 : decode bb_Rows_sort 88 = .ok (.iadd, 1) := by decide +kernel
theorem dd_Rows_sort_89 : decode bb_Rows_sort 89 = .ok (.aload_n 0, 1) := by decide +kernel
theorem dd_Rows_sort_90 : decode bb_Rows_sort 90 = .ok (.getfield 7, 3) := by decide +kernel
theorem dd_Rows_sort_93 : decode bb_Rows_sort 93 = .ok (.invokestatic 42, 3) := by decide +kernel
theorem dd_Rows_sort_96 : decode bb_Rows_sort 96 = .ok (.iload_n 3, 1) := by decide +kernel
theorem dd_Rows_sort_97 : decode bb_Rows_sort 97 = .ok (.iconst 2, 1) := by decide +kernel
theorem dd_Rows_sort_98 : decode bb_Rows_sort 98 = .ok (.iload_n 2, 1) := by decide +kernel
theorem dd_Rows_sort_99 : decode bb_Rows_sort 99 = .ok (.imul, 1) := by decide +kernel
theorem dd_Rows_sort_100 : decode bb_Rows_sort 100 = .ok (.iadd, 1) := by decide +kernel
theorem dd_Rows_sort_101 : decode bb_Rows_sort 101 = .ok (.aload_n 0, 1) := by decide +kernel
theorem dd_Rows_sort_102 : decode bb_Rows_sort 102 = .ok (.getfield 7, 3) := by decide +kernel
theorem dd_Rows_sort_105 : decode bb_Rows_sort 105 = .ok (.invokestatic 42, 3) := by decide +kernel
theorem dd_Rows_sort_108 : decode bb_Rows_sort 108 = .ok (.iload_n 1, 1) := by decide +kernel
theorem dd_Rows_sort_109 : decode bb_Rows_sort 109 = .ok (.invokevirtual 45, 3) := by decide +kernel
theorem dd_Rows_sort_112 : decode bb_Rows_sort 112 = .ok (.iload_n 3, 1) := by decide +kernel
theorem dd_Rows_sort_113 : decode bb_Rows_sort 113 = .ok (.iconst 2, 1) := by decide +kernel
theorem dd_Rows_sort_114 : decode bb_Rows_sort 114 = .ok (.iload_n 2, 1) := by decide +kernel
theorem dd_Rows_sort_115 : decode bb_Rows_sort 115 = .ok (.imul, 1) := by decide +kernel
theorem dd_Rows_sort_116 : decode bb_Rows_sort 116 = .ok (.iadd, 1) := by decide +kernel
theorem dd_Rows_sort_117 : decode bb_Rows_sort 117 = .ok (.istore_n 3, 1) := by decide +kernel
theorem dd_Rows_sort_118 : decode bb_Rows_sort 118 = .ok (.goto (-42), 3) := by decide +kernel
theorem dd_Rows_sort_121 : decode bb_Rows_sort 121 = .ok (.aload_n 0, 1) := by decide +kernel
theorem dd_Rows_sort_122 : decode bb_Rows_sort 122 = .ok (.getfield 20, 3) := by decide +kernel
theorem dd_Rows_sort_125 : decode bb_Rows_sort 125 = .ok (.astore_n 3, 1) := by decide +kernel
theorem dd_Rows_sort_126 : decode bb_Rows_sort 126 = .ok (.aload_n 0, 1) := by decide +kernel
theorem dd_Rows_sort_127 : decode bb_Rows_sort 127 = .ok (.aload_n 0, 1) := by decide +kernel
theorem dd_Rows_sort_128 : decode bb_Rows_sort 128 = .ok (.getfield 23, 3) := by decide +kernel
theorem dd_Rows_sort_131 : decode bb_Rows_sort 131 = .ok (.putfield 20, 3) := by decide +kernel
theorem dd_Rows_sort_134 : decode bb_Rows_sort 134 = .ok (.aload_n 0, 1) := by decide +kernel
theorem dd_Rows_sort_135 : decode bb_Rows_sort 135 = .ok (.aload_n 3, 1) := by decide +kernel
theorem dd_Rows_sort_136 : decode bb_Rows_sort 136 = .ok (.putfield 23, 3) := by decide +kernel
theorem dd_Rows_sort_139 : decode bb_Rows_sort 139 = .ok (.iload_n 2, 1) := by decide +kernel
theorem dd_Rows_sort_140 : decode bb_Rows_sort 140 = .ok (.iconst 2, 1) := by decide +kernel
theorem dd_Rows_sort_141 : decode bb_Rows_sort 141 = .ok (.imul, 1) := by decide +kernel
theorem dd_Rows_sort_142 : decode bb_Rows_sort 142 = .ok (.istore_n 2, 1) := by decide +kernel
theorem dd_Rows_sort_143 : decode bb_Rows_sort 143 = .ok (.goto (-77), 3) := by decide +kernel
theorem dd_Rows_sort_146 : decode bb_Rows_sort 146 = .ok (.return_, 1) := by decide +kernel
set_option maxRecDepth 100000 in
set_option maxHeartbeats 4000000 in
theorem u_Rows_sort_43  (X : zX p s m args cd D cid B bb_Rows_sort 4 rr_Rows zT) (H : zH s meth B n0 none "sort") {nf mc ms : Nat} {x0 : Nat} {x1 : Int32} {x2 : Int32} {kk : Nat} {nn : Nat} {c : Zc} {r : (Nat × Int32 × Int32 × Nat × Nat × Zc) ⊕ (Nat × Int32 × Nat × Nat × Zc)} (h : g_Rows_sort_43 nf x0 x1 x2 kk nn c = some r) (k0 : ∀ a, r = .inl a → (fun a : Nat × Int32 × Int32 × Nat × Nat × Zc => ((a.2.2.2.1 ≤ mc ∧ a.2.2.2.2.1 ≤ ms) ∧ Zz p l e (zRm 2 53 mc ms) s m args below meth cd Q D cid B 4 a.2.2.2.1 a.2.2.2.2.1 a.2.2.2.2.2 43 [(0, .ref a.1), (1, .int a.2.1), (2, .int a.2.2.1)] [])) a) (k1 : ∀ b, r = .inr b → (fun b : Nat × Int32 × Nat × Nat × Zc => ((b.2.2.1 ≤ mc ∧ b.2.2.2.1 ≤ ms) ∧ Zz p l e (zRm 2 53 mc ms) s m args below meth cd Q D cid B 4 b.2.2.1 b.2.2.2.1 b.2.2.2.2 64 [(0, .ref b.1), (1, .int b.2.1)] [])) b) : ((kk ≤ mc ∧ nn ≤ ms) ∧ Zz p l e (zRm 2 53 mc ms) s m args below meth cd Q D cid B 4 kk nn c 43 [(0, .ref x0), (1, .int x1), (2, .int x2)] []) := by
  unfold g_Rows_sort_43 at h
  refine zpr (z_iload_n X dd_Rows_sort_43 rfl 2 rfl) ?_
  refine zpr (z_aload_n X dd_Rows_sort_44 rfl 0 rfl) ?_
  obtain ⟨v5, ev5, h⟩ := zb h
  refine zpr (z_get (j := 0) X dd_Rows_sort_45 kc_9 ki_9 (by decide) km_654 (zgi_v ev5)) ?_
  refine zpr2 (z_icmp_ge (tgt := 64) X dd_Rows_sort_48 (by decide)) (fun q6 => ?_) (fun q6 => ?_)
  · rw [if_pos q6] at h
    refine zpr (z_sub [0, 1] rfl) ?_
    obtain rfl := Option.some.inj h
    exact k1 _ rfl
  · rw [if_neg q6] at h
    refine zpr (z_aload_n X dd_Rows_sort_51 rfl 0 rfl) ?_
    obtain ⟨v7, ev7, h⟩ := zb h
    refine zpr (z_get (j := 3) X dd_Rows_sort_52 kc_9 ki_9 (by decide) km_660 (zgr_v ev7)) ?_
    refine zpr (z_iload_n X dd_Rows_sort_55 rfl 2 rfl) ?_
    refine zpr (z_iload_n X dd_Rows_sort_56 rfl 2 rfl) ?_
    obtain ⟨c8, ec8, h⟩ := zb h
    refine zpr (z_iastore X dd_Rows_sort_57 rfl ec8) ?_
    refine zpr (z_iinc (v := (x2 + 1)) (lv' := [(2, .int (x2 + 1)), (0, .ref x0), (1, .int x1)]) X dd_Rows_sort_58 2 rfl rfl (by decide) rfl) ?_
    refine zpr (z_goto (tgt := 43) X dd_Rows_sort_61 (by decide)) ?_
    refine zpr (z_sub [1, 2, 0] rfl) ?_
    obtain rfl := Option.some.inj h
    exact k0 _ rfl
set_option maxRecDepth 100000 in
set_option maxHeartbeats 4000000 in
theorem u_Rows_sort_76  (X : zX p s m args cd D cid B bb_Rows_sort 4 rr_Rows zT) (H : zH s meth B n0 none "sort") {nf mc ms : Nat} {x0 : Nat} {x1 : Int32} {x2 : Int32} {x3 : Int32} {kk : Nat} {nn : Nat} {c : Zc} {r : (Nat × Int32 × Int32 × Int32 × Nat × Nat × Zc) ⊕ (Nat × Int32 × Int32 × Nat × Nat × Zc)} (h : g_Rows_sort_76 nf x0 x1 x2 x3 kk nn c = some r) (k0 : ∀ a, r = .inl a → (fun a : Nat × Int32 × Int32 × Int32 × Nat × Nat × Zc => ((a.2.2.2.2.1 ≤ mc ∧ a.2.2.2.2.2.1 ≤ ms) ∧ Zz p l e (zRm 2 53 mc ms) s m args below meth cd Q D cid B 4 a.2.2.2.2.1 a.2.2.2.2.2.1 a.2.2.2.2.2.2 76 [(0, .ref a.1), (1, .int a.2.1), (2, .int a.2.2.1), (3, .int a.2.2.2.1)] [])) a) (k1 : ∀ b, r = .inr b → (fun b : Nat × Int32 × Int32 × Nat × Nat × Zc => ((b.2.2.2.1 ≤ mc ∧ b.2.2.2.2.1 ≤ ms) ∧ Zz p l e (zRm 2 53 mc ms) s m args below meth cd Q D cid B 4 b.2.2.2.1 b.2.2.2.2.1 b.2.2.2.2.2 121 [(0, .ref b.1), (1, .int b.2.1), (2, .int b.2.2.1)] [])) b) : ((kk ≤ mc ∧ nn ≤ ms) ∧ Zz p l e (zRm 2 53 mc ms) s m args below meth cd Q D cid B 4 kk nn c 76 [(0, .ref x0), (1, .int x1), (2, .int x2), (3, .int x3)] []) := by
  unfold g_Rows_sort_76 at h
  refine zpr (z_iload_n X dd_Rows_sort_76 rfl 3 rfl) ?_
  refine zpr (z_aload_n X dd_Rows_sort_77 rfl 0 rfl) ?_
  obtain ⟨v11, ev11, h⟩ := zb h
  refine zpr (z_get (j := 0) X dd_Rows_sort_78 kc_9 ki_9 (by decide) km_654 (zgi_v ev11)) ?_
  refine zpr2 (z_icmp_ge (tgt := 121) X dd_Rows_sort_81 (by decide)) (fun q12 => ?_) (fun q12 => ?_)
  · rw [if_pos q12] at h
    refine zpr (z_sub [0, 1, 2] rfl) ?_
    obtain rfl := Option.some.inj h
    exact k1 _ rfl
  · rw [if_neg q12] at h
    refine zpr (z_aload_n X dd_Rows_sort_84 rfl 0 rfl) ?_
    refine zpr (z_iload_n X dd_Rows_sort_85 rfl 3 rfl) ?_
    refine zpr (z_iload_n X dd_Rows_sort_86 rfl 3 rfl) ?_
    refine zpr (z_iload_n X dd_Rows_sort_87 rfl 2 rfl) ?_
    refine zpr (z_iadd X dd_Rows_sort_88) ?_
    refine zpr (z_aload_n X dd_Rows_sort_89 rfl 0 rfl) ?_
    obtain ⟨v13, ev13, h⟩ := zb h
    refine zpr (z_get (j := 0) X dd_Rows_sort_90 kc_9 ki_9 (by decide) km_654 (zgi_v ev13)) ?_
    obtain ⟨q14, eq14, h⟩ := zb h
    refine zpc (fun hm => z_callSi X [.int (x3 + x2), .int v13] rfl dd_Rows_sort_93 (c_Math_min_0 l eq14) (va_cwS 2 X.1.2.2.2.2 (zg_S km_1447 km_842 km_139 km_843) rfl rfl rfl (by decide +kernel) ⟨Nat.le_of_ble_eq_true rfl, Nat.le_of_ble_eq_true rfl⟩) rfl (Nat.le_of_ble_eq_true rfl) hm) ?_
    refine zpr (z_iload_n X dd_Rows_sort_96 rfl 3 rfl) ?_
    refine zpr (z_iconst (v := 2) X dd_Rows_sort_97 (by decide)) ?_
    refine zpr (z_iload_n X dd_Rows_sort_98 rfl 2 rfl) ?_
    refine zpr (z_imul X dd_Rows_sort_99) ?_
    refine zpr (z_iadd X dd_Rows_sort_100) ?_
    refine zpr (z_aload_n X dd_Rows_sort_101 rfl 0 rfl) ?_
    obtain ⟨v15, ev15, h⟩ := zb h
    refine zpr (z_get (j := 0) X dd_Rows_sort_102 kc_9 ki_9 (by decide) km_654 (zgi_v ev15)) ?_
    obtain ⟨q16, eq16, h⟩ := zb h
    refine zpc (fun hm => z_callSi X [.int (x3 + (2 * x2)), .int v15] rfl dd_Rows_sort_105 (c_Math_min_0 l eq16) (va_cwS 2 X.1.2.2.2.2 (zg_S km_1447 km_842 km_139 km_843) rfl rfl rfl (by decide +kernel) ⟨Nat.le_of_ble_eq_true rfl, Nat.le_of_ble_eq_true rfl⟩) rfl (Nat.le_of_ble_eq_true rfl) hm) ?_
    refine zpr (z_iload_n X dd_Rows_sort_108 rfl 1 rfl) ?_
    obtain ⟨w18, ew18, h⟩ := zb h
    obtain ⟨q17, eq17, h⟩ := zb h
    refine zpc (fun hm => z_callVv X [.int x3, .int q14.1, .int q16.1, .int x1] rfl dd_Rows_sort_109 (c_Rows_merge l eq17) (cwV 4 X.1.2.2.2.2 (zg_V km_1448 km_1450 km_56 km_137 km_1451) rfl rfl rfl (by decide +kernel) ⟨Nat.le_of_ble_eq_true rfl, Nat.le_of_ble_eq_true rfl⟩) (zob_s ew18) kc_9 rfl (Nat.le_of_ble_eq_true rfl) hm) ?_
    refine zpr (z_iload_n X dd_Rows_sort_112 rfl 3 rfl) ?_
    refine zpr (z_iconst (v := 2) X dd_Rows_sort_113 (by decide)) ?_
    refine zpr (z_iload_n X dd_Rows_sort_114 rfl 2 rfl) ?_
    refine zpr (z_imul X dd_Rows_sort_115) ?_
    refine zpr (z_iadd X dd_Rows_sort_116) ?_
    refine zpr (z_istore_n (lv' := [(3, .int (x3 + (2 * x2))), (0, .ref x0), (1, .int x1), (2, .int x2)]) X dd_Rows_sort_117 rfl (by decide) rfl) ?_
    refine zpr (z_goto (tgt := 76) X dd_Rows_sort_118 (by decide)) ?_
    refine zpr (z_sub [1, 2, 3, 0] rfl) ?_
    obtain rfl := Option.some.inj h
    exact k0 _ rfl
set_option maxRecDepth 100000 in
set_option maxHeartbeats 4000000 in
theorem t_Rows_sort_76  (X : zX p s m args cd D cid B bb_Rows_sort 4 rr_Rows zT) (H : zH s meth B n0 none "sort") {nf mc ms : Nat} {x0 : Nat} {x1 : Int32} {x2 : Int32} {x3 : Int32} {kk : Nat} {nn : Nat} {c : Zc} {r : (Nat × Int32 × Int32 × Nat × Nat × Zc) ⊕ (Nat × Nat × Zc)} (h : f_Rows_sort_76 nf x0 x1 x2 x3 kk nn c = some r) (k0 : ∀ a, r = .inl a → (fun a : Nat × Int32 × Int32 × Nat × Nat × Zc => ((a.2.2.2.1 ≤ mc ∧ a.2.2.2.2.1 ≤ ms) ∧ Zz p l e (zRm 2 53 mc ms) s m args below meth cd Q D cid B 4 a.2.2.2.1 a.2.2.2.2.1 a.2.2.2.2.2 66 [(0, .ref a.1), (1, .int a.2.1), (2, .int a.2.2.1)] [])) a) (k1 : ∀ b, r = .inr b → (fun b : Nat × Nat × Zc => ((b.1 ≤ mc ∧ b.2.1 ≤ ms) ∧ Zz p l e (zRm 2 53 mc ms) s m args below meth cd Q D cid B 4 b.1 b.2.1 b.2.2 146 [] [])) b) : ((kk ≤ mc ∧ nn ≤ ms) ∧ Zz p l e (zRm 2 53 mc ms) s m args below meth cd Q D cid B 4 kk nn c 76 [(0, .ref x0), (1, .int x1), (2, .int x2), (3, .int x3)] []) := by
  unfold f_Rows_sort_76 at h
  obtain ⟨b, eb, h⟩ := zb h
  refine zlp_ok (P := fun a : Nat × Int32 × Int32 × Int32 × Nat × Nat × Zc => ((a.2.2.2.2.1 ≤ mc ∧ a.2.2.2.2.2.1 ≤ ms) ∧ Zz p l e (zRm 2 53 mc ms) s m args below meth cd _ D cid B 4 a.2.2.2.2.1 a.2.2.2.2.2.1 a.2.2.2.2.2.2 76 [(0, .ref a.1), (1, .int a.2.1), (2, .int a.2.2.1), (3, .int a.2.2.2.1)] [])) (G := fun b : Nat × Int32 × Int32 × Nat × Nat × Zc => ((b.2.2.2.1 ≤ mc ∧ b.2.2.2.2.1 ≤ ms) ∧ Zz p l e (zRm 2 53 mc ms) s m args below meth cd _ D cid B 4 b.2.2.2.1 b.2.2.2.2.1 b.2.2.2.2.2 121 [(0, .ref b.1), (1, .int b.2.1), (2, .int b.2.2.1)] [])) (fun a r ha k0 k1 => u_Rows_sort_76 X H ha k0 k1) nf _ b eb ?_
  refine zpr (z_aload_n X dd_Rows_sort_121 rfl 0 rfl) ?_
  obtain ⟨v19, ev19, h⟩ := zb h
  refine zpr (z_get (j := 3) X dd_Rows_sort_122 kc_9 ki_9 (by decide) km_660 (zgr_v ev19)) ?_
  refine zpr (z_astore_n (lv' := [(3, .ref v19), (0, .ref b.1), (1, .int b.2.1), (2, .int b.2.2.1)]) X dd_Rows_sort_125 rfl (by decide) rfl) ?_
  refine zpr (z_aload_n X dd_Rows_sort_126 rfl 1 rfl) ?_
  refine zpr (z_aload_n X dd_Rows_sort_127 rfl 1 rfl) ?_
  obtain ⟨v20, ev20, h⟩ := zb h
  refine zpr (z_get (j := 4) X dd_Rows_sort_128 kc_9 ki_9 (by decide) km_661 (zgr_v ev20)) ?_
  obtain ⟨c21, ec21, h⟩ := zb h
  refine zpr (z_put (j := 3) X dd_Rows_sort_131 kc_9 ki_9 tt_Rows tk_Rows nn_Rows (by decide) km_660 rfl (tk_Rows 3 (by decide)) rfl rfl ec21) ?_
  refine zpr (z_aload_n X dd_Rows_sort_134 rfl 1 rfl) ?_
  refine zpr (z_aload_n X dd_Rows_sort_135 rfl 0 rfl) ?_
  obtain ⟨c22, ec22, h⟩ := zb h
  refine zpr (z_put (j := 4) X dd_Rows_sort_136 kc_9 ki_9 tt_Rows tk_Rows nn_Rows (by decide) km_661 rfl (tk_Rows 4 (by decide)) rfl rfl ec22) ?_
  refine zpr (z_iload_n X dd_Rows_sort_139 rfl 3 rfl) ?_
  refine zpr (z_iconst (v := 2) X dd_Rows_sort_140 (by decide)) ?_
  refine zpr (z_imul X dd_Rows_sort_141) ?_
  refine zpr (z_istore_n (lv' := [(2, .int (b.2.2.1 * 2)), (3, .ref v19), (0, .ref b.1), (1, .int b.2.1)]) X dd_Rows_sort_142 rfl (by decide) rfl) ?_
  refine zpr (z_goto (tgt := 66) X dd_Rows_sort_143 (by decide)) ?_
  refine zpr (z_sub [2, 3, 0] rfl) ?_
  obtain rfl := Option.some.inj h
  exact k0 _ rfl
set_option maxRecDepth 100000 in
set_option maxHeartbeats 4000000 in
theorem u_Rows_sort_66  (X : zX p s m args cd D cid B bb_Rows_sort 4 rr_Rows zT) (H : zH s meth B n0 none "sort") {nf mc ms : Nat} {x0 : Nat} {x1 : Int32} {x2 : Int32} {kk : Nat} {nn : Nat} {c : Zc} {r : (Nat × Int32 × Int32 × Nat × Nat × Zc) ⊕ (Nat × Nat × Zc)} (h : g_Rows_sort_66 nf x0 x1 x2 kk nn c = some r) (k0 : ∀ a, r = .inl a → (fun a : Nat × Int32 × Int32 × Nat × Nat × Zc => ((a.2.2.2.1 ≤ mc ∧ a.2.2.2.2.1 ≤ ms) ∧ Zz p l e (zRm 2 53 mc ms) s m args below meth cd Q D cid B 4 a.2.2.2.1 a.2.2.2.2.1 a.2.2.2.2.2 66 [(0, .ref a.1), (1, .int a.2.1), (2, .int a.2.2.1)] [])) a) (k1 : ∀ b, r = .inr b → (fun b : Nat × Nat × Zc => ((b.1 ≤ mc ∧ b.2.1 ≤ ms) ∧ Zz p l e (zRm 2 53 mc ms) s m args below meth cd Q D cid B 4 b.1 b.2.1 b.2.2 146 [] [])) b) : ((kk ≤ mc ∧ nn ≤ ms) ∧ Zz p l e (zRm 2 53 mc ms) s m args below meth cd Q D cid B 4 kk nn c 66 [(0, .ref x0), (1, .int x1), (2, .int x2)] []) := by
  unfold g_Rows_sort_66 at h
  refine zpr (z_iload_n X dd_Rows_sort_66 rfl 2 rfl) ?_
  refine zpr (z_aload_n X dd_Rows_sort_67 rfl 0 rfl) ?_
  obtain ⟨v9, ev9, h⟩ := zb h
  refine zpr (z_get (j := 0) X dd_Rows_sort_68 kc_9 ki_9 (by decide) km_654 (zgi_v ev9)) ?_
  refine zpr2 (z_icmp_ge (tgt := 146) X dd_Rows_sort_71 (by decide)) (fun q10 => ?_) (fun q10 => ?_)
  · rw [if_pos q10] at h
    refine zpr (z_sub [] rfl) ?_
    obtain rfl := Option.some.inj h
    exact k1 _ rfl
  · rw [if_neg q10] at h
    refine zpr (z_iconst (v := 0) X dd_Rows_sort_74 (by decide)) ?_
    refine zpr (z_istore_n (lv' := [(3, .int 0), (0, .ref x0), (1, .int x1), (2, .int x2)]) X dd_Rows_sort_75 rfl (by decide) rfl) ?_
    refine zpr (z_sub [1, 2, 3, 0] rfl) ?_
    exact t_Rows_sort_76 X H h k0 k1
set_option maxRecDepth 100000 in
set_option maxHeartbeats 4000000 in
theorem t_Rows_sort_66  (X : zX p s m args cd D cid B bb_Rows_sort 4 rr_Rows zT) (H : zH s meth B n0 none "sort") {nf : Nat} {x0 : Nat} {x1 : Int32} {x2 : Int32} {kk : Nat} {nn : Nat} {c : Zc} {res : Nat × Nat × Zc} (h : f_Rows_sort_66 nf x0 x1 x2 kk nn c = some res) : ((kk ≤ res.1 ∧ nn ≤ res.2.1) ∧ Zz p l e (zRm 2 53 res.1 res.2.1) s m args below meth cd (MQ below (zQv D cid B res.2.2 n0 res.1) args s res.1 res.2.1 (fun q => B ≤ q)) D cid B 4 kk nn c 66 [(0, .ref x0), (1, .int x1), (2, .int x2)] []) := by
  unfold f_Rows_sort_66 at h
  obtain ⟨b, eb, h⟩ := zb h
  refine zlp_ok (P := fun a : Nat × Int32 × Int32 × Nat × Nat × Zc => ((a.2.2.2.1 ≤ res.1 ∧ a.2.2.2.2.1 ≤ res.2.1) ∧ Zz p l e (zRm 2 53 res.1 res.2.1) s m args below meth cd _ D cid B 4 a.2.2.2.1 a.2.2.2.2.1 a.2.2.2.2.2 66 [(0, .ref a.1), (1, .int a.2.1), (2, .int a.2.2.1)] [])) (G := fun b : Nat × Nat × Zc => ((b.1 ≤ res.1 ∧ b.2.1 ≤ res.2.1) ∧ Zz p l e (zRm 2 53 res.1 res.2.1) s m args below meth cd _ D cid B 4 b.1 b.2.1 b.2.2 146 [] [])) (fun a r ha k0 k1 => u_Rows_sort_66 X H ha k0 k1) nf _ b eb ?_
  obtain rfl := Option.some.inj h
  exact ⟨⟨Nat.le_refl _, Nat.le_refl _⟩, z_vret X H.1 H.2.1 H.2.2.1 dd_Rows_sort_146⟩
set_option maxRecDepth 100000 in
set_option maxHeartbeats 4000000 in
theorem t_Rows_sort_43  (X : zX p s m args cd D cid B bb_Rows_sort 4 rr_Rows zT) (H : zH s meth B n0 none "sort") {nf : Nat} {x0 : Nat} {x1 : Int32} {x2 : Int32} {kk : Nat} {nn : Nat} {c : Zc} {res : Nat × Nat × Zc} (h : f_Rows_sort_43 nf x0 x1 x2 kk nn c = some res) : ((kk ≤ res.1 ∧ nn ≤ res.2.1) ∧ Zz p l e (zRm 2 53 res.1 res.2.1) s m args below meth cd (MQ below (zQv D cid B res.2.2 n0 res.1) args s res.1 res.2.1 (fun q => B ≤ q)) D cid B 4 kk nn c 43 [(0, .ref x0), (1, .int x1), (2, .int x2)] []) := by
  unfold f_Rows_sort_43 at h
  obtain ⟨b, eb, h⟩ := zb h
  refine zlp_ok (P := fun a : Nat × Int32 × Int32 × Nat × Nat × Zc => ((a.2.2.2.1 ≤ res.1 ∧ a.2.2.2.2.1 ≤ res.2.1) ∧ Zz p l e (zRm 2 53 res.1 res.2.1) s m args below meth cd _ D cid B 4 a.2.2.2.1 a.2.2.2.2.1 a.2.2.2.2.2 43 [(0, .ref a.1), (1, .int a.2.1), (2, .int a.2.2.1)] [])) (G := fun b : Nat × Int32 × Nat × Nat × Zc => ((b.2.2.1 ≤ res.1 ∧ b.2.2.2.1 ≤ res.2.1) ∧ Zz p l e (zRm 2 53 res.1 res.2.1) s m args below meth cd _ D cid B 4 b.2.2.1 b.2.2.2.1 b.2.2.2.2 64 [(0, .ref b.1), (1, .int b.2.1)] [])) (fun a r ha k0 k1 => u_Rows_sort_43 X H ha k0 k1) nf _ b eb ?_
  refine zpr (z_iconst (v := 1) X dd_Rows_sort_64 (by decide)) ?_
  refine zpr (z_istore_n (lv' := [(2, .int 1), (0, .ref b.1), (1, .int b.2.1)]) X dd_Rows_sort_65 rfl (by decide) rfl) ?_
  refine zpr (z_sub [1, 2, 0] rfl) ?_
  exact t_Rows_sort_66 X H h
set_option maxRecDepth 100000 in
set_option maxHeartbeats 4000000 in
theorem t_Rows_sort_41  (X : zX p s m args cd D cid B bb_Rows_sort 4 rr_Rows zT) (H : zH s meth B n0 none "sort") {nf : Nat} {x0 : Nat} {x1 : Int32} {kk : Nat} {nn : Nat} {c : Zc} {res : Nat × Nat × Zc} (h : f_Rows_sort_41 nf x0 x1 kk nn c = some res) : ((kk ≤ res.1 ∧ nn ≤ res.2.1) ∧ Zz p l e (zRm 2 53 res.1 res.2.1) s m args below meth cd (MQ below (zQv D cid B res.2.2 n0 res.1) args s res.1 res.2.1 (fun q => B ≤ q)) D cid B 4 kk nn c 41 [(0, .ref x0), (1, .int x1)] []) := by
  unfold f_Rows_sort_41 at h
  refine zpr (z_iconst (v := 0) X dd_Rows_sort_41 (by decide)) ?_
  refine zpr (z_istore_n (lv' := [(2, .int 0), (0, .ref x0), (1, .int x1)]) X dd_Rows_sort_42 rfl (by decide) rfl) ?_
  refine zpr (z_sub [1, 2, 0] rfl) ?_
  exact t_Rows_sort_43 X H h
set_option maxRecDepth 100000 in
set_option maxHeartbeats 4000000 in
theorem t_Rows_sort_38  (X : zX p s m args cd D cid B bb_Rows_sort 4 rr_Rows zT) (H : zH s meth B n0 none "sort") {nf : Nat} {x0 : Nat} {x1 : Int32} {s0 : Nat} {s1 : Nat} {kk : Nat} {nn : Nat} {c : Zc} {res : Nat × Nat × Zc} (h : f_Rows_sort_38 nf x0 x1 s0 s1 kk nn c = some res) : ((kk ≤ res.1 ∧ nn ≤ res.2.1) ∧ Zz p l e (zRm 2 53 res.1 res.2.1) s m args below meth cd (MQ below (zQv D cid B res.2.2 n0 res.1) args s res.1 res.2.1 (fun q => B ≤ q)) D cid B 4 kk nn c 38 [(0, .ref x0), (1, .int x1)] [.ref s1, .ref s0]) := by
  unfold f_Rows_sort_38 at h
  obtain ⟨c32, ec32, h⟩ := zb h
  refine zpr (z_put (j := 4) X dd_Rows_sort_38 kc_9 ki_9 tt_Rows tk_Rows nn_Rows (by decide) km_661 rfl (tk_Rows 4 (by decide)) rfl rfl ec32) ?_
  exact t_Rows_sort_41 X H h
set_option maxRecDepth 100000 in
set_option maxHeartbeats 4000000 in
theorem t_Rows_sort_31  (X : zX p s m args cd D cid B bb_Rows_sort 4 rr_Rows zT) (H : zH s meth B n0 none "sort") {nf : Nat} {x0 : Nat} {x1 : Int32} {x2 : Int32} {s0 : Nat} {s1 : Nat} {kk : Nat} {nn : Nat} {c : Zc} {res : Nat × Nat × Zc} (h : f_Rows_sort_31 nf x0 x1 x2 s0 s1 kk nn c = some res) : ((kk ≤ res.1 ∧ nn ≤ res.2.1) ∧ Zz p l e (zRm 2 53 res.1 res.2.1) s m args below meth cd (MQ below (zQv D cid B res.2.2 n0 res.1) args s res.1 res.2.1 (fun q => B ≤ q)) D cid B 4 kk nn c 31 [(0, .ref x0), (1, .int x1), (2, .int x2)] [.ref s1, .ref s0]) := by
  unfold f_Rows_sort_31 at h
  obtain ⟨c29, ec29, h⟩ := zb h
  refine zpr (z_put (j := 3) X dd_Rows_sort_31 kc_9 ki_9 tt_Rows tk_Rows nn_Rows (by decide) km_660 rfl (tk_Rows 3 (by decide)) rfl rfl ec29) ?_
  refine zpr (z_aload_n X dd_Rows_sort_34 rfl 0 rfl) ?_
  refine zpr (z_iload_n X dd_Rows_sort_35 rfl 2 rfl) ?_
  obtain ⟨N31, eN31, h⟩ := zb h
  obtain ⟨c30, ec30, h⟩ := zb h
  obtain ⟨hl9, hz9⟩ := t_Rows_sort_38 X H h
  exact ⟨⟨by have := hl9.1; omega, by have := hl9.2; omega⟩, z_newaC (ty := .int) X dd_Rows_sort_36 rfl km_206 rfl (fun _ q => by cases q) (fun _ => rfl) (fun _ => rfl) (zdim_s eN31).1 (zdim_s eN31).2.1 (by have := (zdim_s eN31).2.2; simp only [componentBytes]; omega) hl9.1 hl9.2 ec30 (z_sub [0, 1] rfl hz9)⟩
set_option maxRecDepth 100000 in
set_option maxHeartbeats 4000000 in
theorem c_Rows_sort (l : Launch) {nf : Nat} {a0 : Nat} {a1 : Int32} {c : Zc} {res : Nat × Nat × Zc} (h : f_Rows_sort nf a0 a1 c = some res) : zM l yy_Rows_sort ww_Rows_sort 2 53 res.1 res.2.1 [.ref a0, .int a1] c (fun D cid B => zQv D cid B res.2.2 c.length res.1) := by
  refine z_met (cc := bb_Rows_sort) (maxL := 4) (ret := none) (by decide +kernel) rfl (Nat.le_of_ble_eq_true rfl) ?_
  intro p e s m args below meth cd D cid B X h1 h2 h3 h4
  have X : zX p s m args cd D cid B bb_Rows_sort 4 rr_Rows zT := X
  have H : zH s meth B c.length none "sort" := ⟨h1, h2, h4, h3⟩
  unfold f_Rows_sort at h
  show Zz p l e (zRm 2 53 res.1 res.2.1) s m args below meth cd _ D cid B 4 0 0 c 0 [(0, .ref a0), (1, .int a1)] []
  refine And.right (a := (0 ≤ res.1 ∧ 0 ≤ res.2.1)) ?_
  refine zpr (z_aload_n X dd_Rows_sort_0 rfl 0 rfl) ?_
  obtain ⟨v1, ev1, h⟩ := zb h
  refine zpr (z_get (j := 3) X dd_Rows_sort_1 kc_9 ki_9 (by decide) km_660 (zgr_v ev1)) ?_
  obtain ⟨v2, ev2, h⟩ := zb h
  refine zpr (z_alen X dd_Rows_sort_4 rfl ev2) ?_
  refine zpr (z_aload_n X dd_Rows_sort_5 rfl 0 rfl) ?_
  obtain ⟨v3, ev3, h⟩ := zb h
  refine zpr (z_get (j := 0) X dd_Rows_sort_6 kc_9 ki_9 (by decide) km_654 (zgi_v ev3)) ?_
  refine zpr2 (z_icmp_ge (tgt := 41) X dd_Rows_sort_9 (by decide)) (fun q4 => ?_) (fun q4 => ?_)
  · rw [if_pos q4] at h
    exact t_Rows_sort_41 X H h
  · rw [if_neg q4] at h
    refine zpr (z_iconst (v := 2) X dd_Rows_sort_12 (by decide)) ?_
    refine zpr (z_aload_n X dd_Rows_sort_13 rfl 0 rfl) ?_
    obtain ⟨v23, ev23, h⟩ := zb h
    refine zpr (z_get (j := 3) X dd_Rows_sort_14 kc_9 ki_9 (by decide) km_660 (zgr_v ev23)) ?_
    obtain ⟨v24, ev24, h⟩ := zb h
    refine zpr (z_alen X dd_Rows_sort_17 rfl ev24) ?_
    refine zpr (z_imul X dd_Rows_sort_18) ?_
    refine zpr (z_aload_n X dd_Rows_sort_19 rfl 0 rfl) ?_
    obtain ⟨v25, ev25, h⟩ := zb h
    refine zpr (z_get (j := 0) X dd_Rows_sort_20 kc_9 ki_9 (by decide) km_654 (zgi_v ev25)) ?_
    obtain ⟨q26, eq26, h⟩ := zb h
    refine zpc (fun hm => z_callSi X [.int (2 * v24), .int v25] rfl dd_Rows_sort_23 (c_Math_max_0 l eq26) (va_cwS 2 X.1.2.2.2.2 (zg_S km_1416 km_899 km_139 km_900) rfl rfl rfl (by decide +kernel) ⟨Nat.le_of_ble_eq_true rfl, Nat.le_of_ble_eq_true rfl⟩) rfl (Nat.le_of_ble_eq_true rfl) hm) ?_
    refine zpr (z_istore_n (lv' := [(2, .int q26.1), (0, .ref a0), (1, .int a1)]) X dd_Rows_sort_26 rfl (by decide) rfl) ?_
    refine zpr (z_aload_n X dd_Rows_sort_27 rfl 1 rfl) ?_
    refine zpr (z_iload_n X dd_Rows_sort_28 rfl 0 rfl) ?_
    obtain ⟨N28, eN28, h⟩ := zb h
    obtain ⟨c27, ec27, h⟩ := zb h
    obtain ⟨hl9, hz9⟩ := t_Rows_sort_31 X H h
    exact ⟨⟨by have := hl9.1; omega, by have := hl9.2; omega⟩, z_newaC (ty := .int) X dd_Rows_sort_29 rfl km_206 rfl (fun _ q => by cases q) (fun _ => rfl) (fun _ => rfl) (zdim_s eN28).1 (zdim_s eN28).2.1 (by have := (zdim_s eN28).2.2; simp only [componentBytes]; omega) hl9.1 hl9.2 ec27 (z_sub [1, 2, 0] rfl hz9)⟩
theorem dd_Collector_init_0 : decode bb_Collector_init 0 = .ok (.aload_n 0, 1) := by decide +kernel
theorem dd_Collector_init_1 : decode bb_Collector_init 1 = .ok (.invokespecial 3, 3) := by decide +kernel
theorem dd_Collector_init_4 : decode bb_Collector_init 4 = .ok (.aload_n 0, 1) := by decide +kernel
theorem dd_Collector_init_5 : decode bb_Collector_init 5 = .ok (.new 9, 3) := by decide +kernel
theorem dd_Collector_init_8 : decode bb_Collector_init 8 = .ok (.dup, 1) := by decide +kernel
theorem dd_Collector_init_9 : decode bb_Collector_init 9 = .ok (.invokespecial 11, 3) := by decide +kernel
theorem dd_Collector_init_12 : decode bb_Collector_init 12 = .ok (.putfield 12, 3) := by decide +kernel
theorem dd_Collector_init_15 : decode bb_Collector_init 15 = .ok (.aload_n 0, 1) := by decide +kernel
theorem dd_Collector_init_16 : decode bb_Collector_init 16 = .ok (.new 9, 3) := by decide +kernel
theorem dd_Collector_init_19 : decode bb_Collector_init 19 = .ok (.dup, 1) := by decide +kernel
theorem dd_Collector_init_20 : decode bb_Collector_init 20 = .ok (.invokespecial 11, 3) := by decide +kernel
theorem dd_Collector_init_23 : decode bb_Collector_init 23 = .ok (.putfield 18, 3) := by decide +kernel
theorem dd_Collector_init_26 : decode bb_Collector_init 26 = .ok (.aload_n 0, 1) := by decide +kernel
theorem dd_Collector_init_27 : decode bb_Collector_init 27 = .ok (.bipush 8, 2) := by decide +kernel
theorem dd_Collector_init_29 : decode bb_Collector_init 29 = .ok (.newarray .long, 2) := by decide +kernel
theorem dd_Collector_init_31 : decode bb_Collector_init 31 = .ok (.putfield 21, 3) := by decide +kernel
theorem dd_Collector_init_34 : decode bb_Collector_init 34 = .ok (.aload_n 0, 1) := by decide +kernel
theorem dd_Collector_init_35 : decode bb_Collector_init 35 = .ok (.aload_n 1, 1) := by decide +kernel
theorem dd_Collector_init_36 : decode bb_Collector_init 36 = .ok (.putfield 25, 3) := by decide +kernel
theorem dd_Collector_init_39 : decode bb_Collector_init 39 = .ok (.return_, 1) := by decide +kernel
set_option maxRecDepth 100000 in
set_option maxHeartbeats 4000000 in
theorem c_Collector_init (l : Launch) {nf mc ms : Nat} {a0 : Nat} {a1 : Nat} {c : Zc} {res : Zc} (h : f_Collector_init nf mc ms a0 a1 c = some res) : zM l yy_Collector_init ww_Collector_init 2 40 mc ms [.ref a0, .ref a1] c (fun D cid B => zQv D cid B res c.length mc) := by
  refine z_met (cc := bb_Collector_init) (maxL := 2) (ret := none) (by decide +kernel) rfl (Nat.le_of_ble_eq_true rfl) ?_
  intro p e s m args below meth cd D cid B X h1 h2 h3 h4
  have X : zX p s m args cd D cid B bb_Collector_init 2 rr_Collector zT := X
  have H : zH s meth B c.length none "<init>" := ⟨h1, h2, h4, h3⟩
  unfold f_Collector_init at h
  show Zz p l e (zRm 2 40 mc ms) s m args below meth cd _ D cid B 2 0 0 c 0 [(0, .ref a0), (1, .ref a1)] []
  refine z_aload_n X dd_Collector_init_0 rfl 0 rfl ?_
  refine z_objInit X dd_Collector_init_1 km_647 km_153 km_154 (Nat.le_of_ble_eq_true rfl) (Nat.le_of_ble_eq_true rfl) ?_
  refine z_aload_n X dd_Collector_init_4 rfl 0 rfl ?_
  obtain ⟨u2, eu2, h⟩ := zb h
  obtain ⟨c1, ec1, h⟩ := zb h
  refine z_newC X dd_Collector_init_5 kc_9 ki_9 tt_Rows tk_Rows km_648 km_649 km_137 (by decide +kernel) (fun _ _ => rfl) (zlim_s eu2).1 (zlim_s eu2).2 ec1 ?_
  refine z_dup X dd_Collector_init_8 rfl ?_
  obtain ⟨u4, eu4, h⟩ := zb h
  obtain ⟨q3, eq3, h⟩ := zb h
  refine z_callIv (ret := none) X [] rfl dd_Collector_init_9 (c_Rows_init l eq3) (cwI 0 X.1.2.2.2.2 (zg_I km_652) rfl rfl rfl (X.1.2.2.2.2 _ km_137) (X.1.2.2.2.2 _ km_650) (X.1.2.2.2.2 _ km_651) rfl (by decide +kernel) ⟨Nat.le_of_ble_eq_true rfl, Nat.le_of_ble_eq_true rfl⟩) rfl (Nat.le_of_ble_eq_true rfl) (zlim_s eu4) ?_
  obtain ⟨c5, ec5, h⟩ := zb h
  refine z_putF (j := 1) X dd_Collector_init_12 kc_10 ki_10 tt_Collector tk_Collector nn_Collector (by decide) km_674 rfl H.2.2.2 rfl (tk_Collector 1 (by decide)) rfl rfl ec5 ?_
  refine z_aload_n X dd_Collector_init_15 rfl 0 rfl ?_
  obtain ⟨u7, eu7, h⟩ := zb h
  obtain ⟨c6, ec6, h⟩ := zb h
  refine z_newC X dd_Collector_init_16 kc_9 ki_9 tt_Rows tk_Rows km_648 km_649 km_137 (by decide +kernel) (fun _ _ => rfl) (zlim_s eu7).1 (zlim_s eu7).2 ec6 ?_
  refine z_dup X dd_Collector_init_19 rfl ?_
  obtain ⟨u9, eu9, h⟩ := zb h
  obtain ⟨q8, eq8, h⟩ := zb h
  refine z_callIv (ret := none) X [] rfl dd_Collector_init_20 (c_Rows_init l eq8) (cwI 0 X.1.2.2.2.2 (zg_I km_652) rfl rfl rfl (X.1.2.2.2.2 _ km_137) (X.1.2.2.2.2 _ km_650) (X.1.2.2.2.2 _ km_651) rfl (by decide +kernel) ⟨Nat.le_of_ble_eq_true rfl, Nat.le_of_ble_eq_true rfl⟩) rfl (Nat.le_of_ble_eq_true rfl) (zlim_s eu9) ?_
  obtain ⟨c10, ec10, h⟩ := zb h
  refine z_putF (j := 2) X dd_Collector_init_23 kc_10 ki_10 tt_Collector tk_Collector nn_Collector (by decide) km_675 rfl H.2.2.2 rfl (tk_Collector 2 (by decide)) rfl rfl ec10 ?_
  refine z_aload_n X dd_Collector_init_26 rfl 0 rfl ?_
  refine z_bipush (v := 8) X dd_Collector_init_27 (by decide) ?_
  obtain ⟨u12, eu12, h⟩ := zb h
  obtain ⟨c11, ec11, h⟩ := zb h
  refine z_newaC (ty := .long) X dd_Collector_init_29 rfl km_297 rfl (fun _ q => by cases q) (fun _ => rfl) (fun _ => rfl) (by decide) (by decide) (by decide) (zlim_s eu12).1 (zlim_s eu12).2 ec11 ?_
  obtain ⟨c13, ec13, h⟩ := zb h
  refine z_putF (j := 3) X dd_Collector_init_31 kc_10 ki_10 tt_Collector tk_Collector nn_Collector (by decide) km_676 rfl H.2.2.2 rfl (tk_Collector 3 (by decide)) rfl rfl ec13 ?_
  refine z_aload_n X dd_Collector_init_34 rfl 0 rfl ?_
  refine z_aload_n X dd_Collector_init_35 rfl 1 rfl ?_
  obtain ⟨c14, ec14, h⟩ := zb h
  refine z_putF (j := 0) X dd_Collector_init_36 kc_10 ki_10 tt_Collector tk_Collector nn_Collector (by decide) km_673 rfl H.2.2.2 rfl (tk_Collector 0 (by decide)) rfl rfl ec14 ?_
  obtain ⟨u15, eu15, h⟩ := zb h
  refine z_wid (zend_s eu15).1 (zend_s eu15).2 ?_
  obtain rfl := Option.some.inj h
  exact z_vret X H.1 H.2.1 H.2.2.1 dd_Collector_init_39
theorem dd_Collector_gather_0 : decode bb_Collector_gather 0 = .ok (.aload_n 0, 1) := by decide +kernel
theorem dd_Collector_gather_1 : decode bb_Collector_gather 1 = .ok (.getfield 12, 3) := by decide +kernel
theorem dd_Collector_gather_4 : decode bb_Collector_gather 4 = .ok (.aload_n 1, 1) := by decide +kernel
theorem dd_Collector_gather_5 : decode bb_Collector_gather 5 = .ok (.getfield 45, 3) := by decide +kernel
theorem dd_Collector_gather_8 : decode bb_Collector_gather 8 = .ok (.invokevirtual 51, 3) := by decide +kernel
theorem dd_Collector_gather_11 : decode bb_Collector_gather 11 = .ok (.aload_n 0, 1) := by decide +kernel
theorem dd_Collector_gather_12 : decode bb_Collector_gather 12 = .ok (.getfield 25, 3) := by decide +kernel
theorem dd_Collector_gather_15 : decode bb_Collector_gather 15 = .ok (.aload_n 1, 1) := by decide +kernel
theorem dd_Collector_gather_16 : decode bb_Collector_gather 16 = .ok (.invokevirtual 83, 3) := by decide +kernel
theorem dd_Collector_gather_19 : decode bb_Collector_gather 19 = .ok (.iconst 0, 1) := by decide +kernel
theorem dd_Collector_gather_20 : decode bb_Collector_gather 20 = .ok (.istore_n 2, 1) := by decide +kernel
theorem dd_Collector_gather_21 : decode bb_Collector_gather 21 = .ok (.iload_n 2, 1) := by decide +kernel
theorem dd_Collector_gather_22 : decode bb_Collector_gather 22 = .ok (.sipush 20000, 3) := by decide +kernel
theorem dd_Collector_gather_25 : decode bb_Collector_gather 25 = .ok (.if_icmp .ge 95, 3) := by decide +kernel
theorem dd_Collector_gather_28 : decode bb_Collector_gather 28 = .ok (.aload_n 0, 1) := by decide +kernel
theorem dd_Collector_gather_29 : decode bb_Collector_gather 29 = .ok (.getfield 25, 3) := by decide +kernel
theorem dd_Collector_gather_32 : decode bb_Collector_gather 32 = .ok (.invokevirtual 88, 3) := by decide +kernel
theorem dd_Collector_gather_35 : decode bb_Collector_gather 35 = .ok (.ifCond .eq 85, 3) := by decide +kernel
theorem dd_Collector_gather_38 : decode bb_Collector_gather 38 = .ok (.aload_n 0, 1) := by decide +kernel
theorem dd_Collector_gather_39 : decode bb_Collector_gather 39 = .ok (.getfield 12, 3) := by decide +kernel
theorem dd_Collector_gather_42 : decode bb_Collector_gather 42 = .ok (.invokevirtual 69, 3) := by decide +kernel
theorem dd_Collector_gather_45 : decode bb_Collector_gather 45 = .ok (.iconst 0, 1) := by decide +kernel
theorem dd_Collector_gather_46 : decode bb_Collector_gather 46 = .ok (.istore_n 3, 1) := by decide +kernel
theorem dd_Collector_gather_47 : decode bb_Collector_gather 47 = .ok (.iload_n 3, 1) := by decide +kernel
theorem dd_Collector_gather_48 : decode bb_Collector_gather 48 = .ok (.aload_n 1, 1) := by decide +kernel
theorem dd_Collector_gather_49 : decode bb_Collector_gather 49 = .ok (.getfield 45, 3) := by decide +kernel
theorem dd_Collector_gather_52 : decode bb_Collector_gather 52 = .ok (.if_icmp .ge 62, 3) := by decide +kernel
theorem dd_Collector_gather_55 : decode bb_Collector_gather 55 = .ok (.aload_n 1, 1) := by decide +kernel
theorem dd_Collector_gather_56 : decode bb_Collector_gather 56 = .ok (.getfield 92, 3) := by decide +kernel
theorem dd_Collector_gather_59 : decode bb_Collector_gather 59 = .ok (.iload_n 3, 1) := by decide +kernel
theorem dd_Collector_gather_60 : decode bb_Collector_gather 60 = .ok (.iaload, 1) := by decide +kernel
theorem dd_Collector_gather_61 : decode bb_Collector_gather 61 = .ok (.bipush 19, 2) := by decide +kernel
theorem dd_Collector_gather_63 : decode bb_Collector_gather 63 = .ok (.if_icmp .ne 7, 3) := by decide +kernel
theorem dd_Collector_gather_66 : decode bb_Collector_gather 66 = .ok (.iconst 1, 1) := by decide +kernel
theorem dd_Collector_gather_67 : decode bb_Collector_gather 67 = .ok (.goto 4, 3) := by decide +kernel
theorem dd_Collector_gather_70 : decode bb_Collector_gather 70 = .ok (.iconst 0, 1) := by decide +kernel
theorem dd_Collector_gather_71 : decode bb_Collector_gather 71 = .ok (.istore 4, 2) := by decide +kernel
theorem dd_Collector_gather_73 : decode bb_Collector_gather 73 = .ok (.aload_n 0, 1) := by decide +kernel
theorem dd_Collector_gather_74 : decode bb_Collector_gather 74 = .ok (.getfield 12, 3) := by decide +kernel
theorem dd_Collector_gather_77 : decode bb_Collector_gather 77 = .ok (.iload_n 3, 1) := by decide +kernel
theorem dd_Collector_gather_78 : decode bb_Collector_gather 78 = .ok (.iload 4, 2) := by decide +kernel
theorem dd_Collector_gather_80 : decode bb_Collector_gather 80 = .ok (.ifCond .eq 7, 3) := by decide +kernel
theorem dd_Collector_gather_83 : decode bb_Collector_gather 83 = .ok (.iconst 1, 1) := by decide +kernel
theorem dd_Collector_gather_84 : decode bb_Collector_gather 84 = .ok (.goto 21, 3) := by decide +kernel
theorem dd_Collector_gather_87 : decode bb_Collector_gather 87 = .ok (.aload_n 0, 1) := by decide +kernel
theorem dd_Collector_gather_88 : decode bb_Collector_gather 88 = .ok (.getfield 25, 3) := by decide +kernel
theorem dd_Collector_gather_91 : decode bb_Collector_gather 91 = .ok (.aload_n 1, 1) := by decide +kernel
theorem dd_Collector_gather_92 : decode bb_Collector_gather 92 = .ok (.iload_n 3, 1) := by decide +kernel
theorem dd_Collector_gather_93 : decode bb_Collector_gather 93 = .ok (.invokevirtual 96, 3) := by decide +kernel
theorem dd_Collector_gather_96 : decode bb_Collector_gather 96 = .ok (.aload_n 1, 1) := by decide +kernel
theorem dd_Collector_gather_97 : decode bb_Collector_gather 97 = .ok (.getfield 99, 3) := by decide +kernel
theorem dd_Collector_gather_100 : decode bb_Collector_gather 100 = .ok (.iload_n 3, 1) := by decide +kernel
theorem dd_Collector_gather_101 : decode bb_Collector_gather 101 = .ok (.iaload, 1) := by decide +kernel
theorem dd_Collector_gather_102 : decode bb_Collector_gather 102 = .ok (.invokevirtual 102, 3) := by decide +kernel
theorem dd_Collector_gather_105 : decode bb_Collector_gather 105 = .ok (.invokevirtual 79, 3) := by decide +kernel
theorem dd_Collector_gather_108 : decode bb_Collector_gather 108 = .ok (.iinc 3 1, 3) := by decide +kernel
theorem dd_Collector_gather_111 : decode bb_Collector_gather 111 = .ok (.goto (-64), 3) := by decide +kernel
theorem dd_Collector_gather_114 : decode bb_Collector_gather 114 = .ok (.iinc 2 1, 3) := by decide +kernel
theorem dd_Collector_gather_117 : decode bb_Collector_gather 117 = .ok (.goto (-96), 3) := by decide +kernel
theorem dd_Collector_gather_120 : decode bb_Collector_gather 120 = .ok (.return_, 1) := by decide +kernel
set_option maxRecDepth 100000 in
set_option maxHeartbeats 4000000 in
theorem t_Collector_gather_105  (X : zX p s m args cd D cid B bb_Collector_gather 5 rr_Collector zT) (H : zH s meth B n0 none "gather") {nf mc ms : Nat} {x0 : Nat} {x1 : Nat} {x2 : Int32} {x3 : Int32} {s0 : Nat} {s1 : Int32} {s2 : Int32} {kk : Nat} {nn : Nat} {c : Zc} {r : (Nat × Nat × Int32 × Int32 × Nat × Nat × Zc) ⊕ (Nat × Nat × Int32 × Nat × Nat × Zc)} (h : f_Collector_gather_105 nf x0 x1 x2 x3 s0 s1 s2 kk nn c = some r) (k0 : ∀ a, r = .inl a → (fun a : Nat × Nat × Int32 × Int32 × Nat × Nat × Zc => ((a.2.2.2.2.1 ≤ mc ∧ a.2.2.2.2.2.1 ≤ ms) ∧ Zz p l e (zRm 5 123 mc ms) s m args below meth cd Q D cid B 5 a.2.2.2.2.1 a.2.2.2.2.2.1 a.2.2.2.2.2.2 47 [(0, .ref a.1), (1, .ref a.2.1), (2, .int a.2.2.1), (3, .int a.2.2.2.1)] [])) a) (k1 : ∀ b, r = .inr b → (fun b : Nat × Nat × Int32 × Nat × Nat × Zc => ((b.2.2.2.1 ≤ mc ∧ b.2.2.2.2.1 ≤ ms) ∧ Zz p l e (zRm 5 123 mc ms) s m args below meth cd Q D cid B 5 b.2.2.2.1 b.2.2.2.2.1 b.2.2.2.2.2 114 [(0, .ref b.1), (1, .ref b.2.1), (2, .int b.2.2.1)] [])) b) : ((kk ≤ mc ∧ nn ≤ ms) ∧ Zz p l e (zRm 5 123 mc ms) s m args below meth cd Q D cid B 5 kk nn c 105 [(0, .ref x0), (1, .ref x1), (2, .int x2), (3, .int x3)] [.int s2, .int s1, .ref s0]) := by
  unfold f_Collector_gather_105 at h
  obtain ⟨w31, ew31, h⟩ := zb h
  obtain ⟨q30, eq30, h⟩ := zb h
  refine zpc (fun hm => z_callVv X [.int s1, .int s2] rfl dd_Collector_gather_105 (c_Rows_setCell l eq30) (cwV 2 X.1.2.2.2.2 (zg_V km_1436 km_1437 km_1438 km_137 km_1439) rfl rfl rfl (by decide +kernel) ⟨Nat.le_of_ble_eq_true rfl, Nat.le_of_ble_eq_true rfl⟩) (zob_s ew31) kc_9 rfl (Nat.le_of_ble_eq_true rfl) hm) ?_
  refine zpr (z_iinc (v := (x3 + 1)) (lv' := [(3, .int (x3 + 1)), (0, .ref x0), (1, .ref x1), (2, .int x2)]) X dd_Collector_gather_108 3 rfl rfl (by decide) rfl) ?_
  refine zpr (z_goto (tgt := 47) X dd_Collector_gather_111 (by decide)) ?_
  refine zpr (z_sub [1, 2, 3, 0] rfl) ?_
  obtain rfl := Option.some.inj h
  exact k0 _ rfl
set_option maxRecDepth 100000 in
set_option maxHeartbeats 4000000 in
theorem t_Collector_gather_71  (X : zX p s m args cd D cid B bb_Collector_gather 5 rr_Collector zT) (H : zH s meth B n0 none "gather") {nf mc ms : Nat} {x0 : Nat} {x1 : Nat} {x2 : Int32} {x3 : Int32} {s0 : Int32} {kk : Nat} {nn : Nat} {c : Zc} {r : (Nat × Nat × Int32 × Int32 × Nat × Nat × Zc) ⊕ (Nat × Nat × Int32 × Nat × Nat × Zc)} (h : f_Collector_gather_71 nf x0 x1 x2 x3 s0 kk nn c = some r) (k0 : ∀ a, r = .inl a → (fun a : Nat × Nat × Int32 × Int32 × Nat × Nat × Zc => ((a.2.2.2.2.1 ≤ mc ∧ a.2.2.2.2.2.1 ≤ ms) ∧ Zz p l e (zRm 5 123 mc ms) s m args below meth cd Q D cid B 5 a.2.2.2.2.1 a.2.2.2.2.2.1 a.2.2.2.2.2.2 47 [(0, .ref a.1), (1, .ref a.2.1), (2, .int a.2.2.1), (3, .int a.2.2.2.1)] [])) a) (k1 : ∀ b, r = .inr b → (fun b : Nat × Nat × Int32 × Nat × Nat × Zc => ((b.2.2.2.1 ≤ mc ∧ b.2.2.2.2.1 ≤ ms) ∧ Zz p l e (zRm 5 123 mc ms) s m args below meth cd Q D cid B 5 b.2.2.2.1 b.2.2.2.2.1 b.2.2.2.2.2 114 [(0, .ref b.1), (1, .ref b.2.1), (2, .int b.2.2.1)] [])) b) : ((kk ≤ mc ∧ nn ≤ ms) ∧ Zz p l e (zRm 5 123 mc ms) s m args below meth cd Q D cid B 5 kk nn c 71 [(0, .ref x0), (1, .ref x1), (2, .int x2), (3, .int x3)] [.int s0]) := by
  unfold f_Collector_gather_71 at h
  refine zpr (z_istore (lv' := [(4, .int s0), (0, .ref x0), (1, .ref x1), (2, .int x2), (3, .int x3)]) X dd_Collector_gather_71 (by decide) rfl) ?_
  refine zpr (z_aload_n X dd_Collector_gather_73 rfl 1 rfl) ?_
  obtain ⟨v21, ev21, h⟩ := zb h
  refine zpr (z_get (j := 1) X dd_Collector_gather_74 kc_10 ki_10 (by decide) km_674 (zgr_v ev21)) ?_
  refine zpr (z_iload_n X dd_Collector_gather_77 rfl 4 rfl) ?_
  refine zpr (z_iload X dd_Collector_gather_78 0 rfl) ?_
  refine zpr2 (z_if_eq (tgt := 87) X dd_Collector_gather_80 (by decide)) (fun q22 => ?_) (fun q22 => ?_)
  · rw [if_pos q22] at h
    refine zpr (z_aload_n X dd_Collector_gather_87 rfl 1 rfl) ?_
    obtain ⟨v23, ev23, h⟩ := zb h
    refine zpr (z_get (j := 0) X dd_Collector_gather_88 kc_10 ki_10 (by decide) km_673 (zgr_v ev23)) ?_
    refine zpr (z_aload_n X dd_Collector_gather_91 rfl 2 rfl) ?_
    refine zpr (z_iload_n X dd_Collector_gather_92 rfl 4 rfl) ?_
    obtain ⟨w25, ew25, h⟩ := zb h
    obtain ⟨q24, eq24, h⟩ := zb h
    refine zpc (fun hm => z_callVi X [.int x3] rfl dd_Collector_gather_93 (c_Text_itemBegin l eq24) (cwV 1 X.1.2.2.2.2 (zg_V km_1431 km_1432 km_1433 km_128 km_1434) rfl rfl rfl (by decide +kernel) ⟨Nat.le_of_ble_eq_true rfl, Nat.le_of_ble_eq_true rfl⟩) (zob_s ew25) kc_2 rfl (Nat.le_of_ble_eq_true rfl) hm) ?_
    refine zpr (z_aload_n X dd_Collector_gather_96 rfl 2 rfl) ?_
    obtain ⟨v26, ev26, h⟩ := zb h
    refine zpr (z_get (j := 17) X dd_Collector_gather_97 kc_2 ki_2 (by decide) km_351 (zgr_v ev26)) ?_
    refine zpr (z_iload_n X dd_Collector_gather_100 rfl 4 rfl) ?_
    obtain ⟨v27, ev27, h⟩ := zb h
    refine zpr (z_iaload X dd_Collector_gather_101 rfl ev27) ?_
    obtain ⟨w29, ew29, h⟩ := zb h
    obtain ⟨q28, eq28, h⟩ := zb h
    refine zpc (fun hm => z_callVi X [.int q24.1, .int v27] rfl dd_Collector_gather_102 (c_Finder_evaluate l eq28) (cwV 2 X.1.2.2.2.2 (zg_V km_1435 km_1351 km_1352 km_133 km_1353) rfl rfl rfl (by decide +kernel) ⟨Nat.le_of_ble_eq_true rfl, Nat.le_of_ble_eq_true rfl⟩) (zob_s ew29) kc_7 rfl (Nat.le_of_ble_eq_true rfl) hm) ?_
    refine zpr (z_sub [1, 2, 3, 4] rfl) ?_
    exact t_Collector_gather_105 X H h k0 k1
  · rw [if_neg q22] at h
    refine zpr (z_iconst (v := 1) X dd_Collector_gather_83 (by decide)) ?_
    refine zpr (z_goto (tgt := 105) X dd_Collector_gather_84 (by decide)) ?_
    refine zpr (z_sub [1, 2, 3, 4] rfl) ?_
    exact t_Collector_gather_105 X H h k0 k1
set_option maxRecDepth 100000 in
set_option maxHeartbeats 4000000 in
theorem u_Collector_gather_47  (X : zX p s m args cd D cid B bb_Collector_gather 5 rr_Collector zT) (H : zH s meth B n0 none "gather") {nf mc ms : Nat} {x0 : Nat} {x1 : Nat} {x2 : Int32} {x3 : Int32} {kk : Nat} {nn : Nat} {c : Zc} {r : (Nat × Nat × Int32 × Int32 × Nat × Nat × Zc) ⊕ (Nat × Nat × Int32 × Nat × Nat × Zc)} (h : g_Collector_gather_47 nf x0 x1 x2 x3 kk nn c = some r) (k0 : ∀ a, r = .inl a → (fun a : Nat × Nat × Int32 × Int32 × Nat × Nat × Zc => ((a.2.2.2.2.1 ≤ mc ∧ a.2.2.2.2.2.1 ≤ ms) ∧ Zz p l e (zRm 5 123 mc ms) s m args below meth cd Q D cid B 5 a.2.2.2.2.1 a.2.2.2.2.2.1 a.2.2.2.2.2.2 47 [(0, .ref a.1), (1, .ref a.2.1), (2, .int a.2.2.1), (3, .int a.2.2.2.1)] [])) a) (k1 : ∀ b, r = .inr b → (fun b : Nat × Nat × Int32 × Nat × Nat × Zc => ((b.2.2.2.1 ≤ mc ∧ b.2.2.2.2.1 ≤ ms) ∧ Zz p l e (zRm 5 123 mc ms) s m args below meth cd Q D cid B 5 b.2.2.2.1 b.2.2.2.2.1 b.2.2.2.2.2 114 [(0, .ref b.1), (1, .ref b.2.1), (2, .int b.2.2.1)] [])) b) : ((kk ≤ mc ∧ nn ≤ ms) ∧ Zz p l e (zRm 5 123 mc ms) s m args below meth cd Q D cid B 5 kk nn c 47 [(0, .ref x0), (1, .ref x1), (2, .int x2), (3, .int x3)] []) := by
  unfold g_Collector_gather_47 at h
  refine zpr (z_iload_n X dd_Collector_gather_47 rfl 3 rfl) ?_
  refine zpr (z_aload_n X dd_Collector_gather_48 rfl 1 rfl) ?_
  obtain ⟨v16, ev16, h⟩ := zb h
  refine zpr (z_get (j := 15) X dd_Collector_gather_49 kc_2 ki_2 (by decide) km_345 (zgi_v ev16)) ?_
  refine zpr2 (z_icmp_ge (tgt := 114) X dd_Collector_gather_52 (by decide)) (fun q17 => ?_) (fun q17 => ?_)
  · rw [if_pos q17] at h
    refine zpr (z_sub [0, 1, 2] rfl) ?_
    obtain rfl := Option.some.inj h
    exact k1 _ rfl
  · rw [if_neg q17] at h
    refine zpr (z_aload_n X dd_Collector_gather_55 rfl 1 rfl) ?_
    obtain ⟨v18, ev18, h⟩ := zb h
    refine zpr (z_get (j := 16) X dd_Collector_gather_56 kc_2 ki_2 (by decide) km_349 (zgr_v ev18)) ?_
    refine zpr (z_iload_n X dd_Collector_gather_59 rfl 3 rfl) ?_
    obtain ⟨v19, ev19, h⟩ := zb h
    refine zpr (z_iaload X dd_Collector_gather_60 rfl ev19) ?_
    refine zpr (z_bipush (v := 19) X dd_Collector_gather_61 (by decide)) ?_
    refine zprN (z_icmp_ne (tgt := 70) X dd_Collector_gather_63 (by decide)) (fun q20 => ?_) (fun q20 => ?_)
    · rw [if_neg q20] at h
      refine zpr (z_iconst (v := 0) X dd_Collector_gather_70 (by decide)) ?_
      exact t_Collector_gather_71 X H h k0 k1
    · rw [if_pos q20] at h
      refine zpr (z_iconst (v := 1) X dd_Collector_gather_66 (by decide)) ?_
      refine zpr (z_goto (tgt := 71) X dd_Collector_gather_67 (by decide)) ?_
      exact t_Collector_gather_71 X H h k0 k1
set_option maxRecDepth 100000 in
set_option maxHeartbeats 4000000 in
theorem t_Collector_gather_47  (X : zX p s m args cd D cid B bb_Collector_gather 5 rr_Collector zT) (H : zH s meth B n0 none "gather") {nf mc ms : Nat} {x0 : Nat} {x1 : Nat} {x2 : Int32} {x3 : Int32} {kk : Nat} {nn : Nat} {c : Zc} {r : (Nat × Nat × Int32 × Nat × Nat × Zc) ⊕ (Nat × Nat × Zc)} (h : f_Collector_gather_47 nf x0 x1 x2 x3 kk nn c = some r) (k0 : ∀ a, r = .inl a → (fun a : Nat × Nat × Int32 × Nat × Nat × Zc => ((a.2.2.2.1 ≤ mc ∧ a.2.2.2.2.1 ≤ ms) ∧ Zz p l e (zRm 5 123 mc ms) s m args below meth cd Q D cid B 5 a.2.2.2.1 a.2.2.2.2.1 a.2.2.2.2.2 21 [(0, .ref a.1), (1, .ref a.2.1), (2, .int a.2.2.1)] [])) a) (k1 : ∀ b, r = .inr b → (fun b : Nat × Nat × Zc => ((b.1 ≤ mc ∧ b.2.1 ≤ ms) ∧ Zz p l e (zRm 5 123 mc ms) s m args below meth cd Q D cid B 5 b.1 b.2.1 b.2.2 120 [] [])) b) : ((kk ≤ mc ∧ nn ≤ ms) ∧ Zz p l e (zRm 5 123 mc ms) s m args below meth cd Q D cid B 5 kk nn c 47 [(0, .ref x0), (1, .ref x1), (2, .int x2), (3, .int x3)] []) := by
  unfold f_Collector_gather_47 at h
  obtain ⟨b, eb, h⟩ := zb h
  refine zlp_ok (P := fun a : Nat × Nat × Int32 × Int32 × Nat × Nat × Zc => ((a.2.2.2.2.1 ≤ mc ∧ a.2.2.2.2.2.1 ≤ ms) ∧ Zz p l e (zRm 5 123 mc ms) s m args below meth cd _ D cid B 5 a.2.2.2.2.1 a.2.2.2.2.2.1 a.2.2.2.2.2.2 47 [(0, .ref a.1), (1, .ref a.2.1), (2, .int a.2.2.1), (3, .int a.2.2.2.1)] [])) (G := fun b : Nat × Nat × Int32 × Nat × Nat × Zc => ((b.2.2.2.1 ≤ mc ∧ b.2.2.2.2.1 ≤ ms) ∧ Zz p l e (zRm 5 123 mc ms) s m args below meth cd _ D cid B 5 b.2.2.2.1 b.2.2.2.2.1 b.2.2.2.2.2 114 [(0, .ref b.1), (1, .ref b.2.1), (2, .int b.2.2.1)] [])) (fun a r ha k0 k1 => u_Collector_gather_47 X H ha k0 k1) nf _ b eb ?_
  refine zpr (z_iinc (v := (b.2.2.1 + 1)) (lv' := [(2, .int (b.2.2.1 + 1)), (0, .ref b.1), (1, .ref b.2.1)]) X dd_Collector_gather_114 2 rfl rfl (by decide) rfl) ?_
  refine zpr (z_goto (tgt := 21) X dd_Collector_gather_117 (by decide)) ?_
  refine zpr (z_sub [1, 2, 0] rfl) ?_
  obtain rfl := Option.some.inj h
  exact k0 _ rfl
set_option maxRecDepth 100000 in
set_option maxHeartbeats 4000000 in
theorem t_Collector_gather_45  (X : zX p s m args cd D cid B bb_Collector_gather 5 rr_Collector zT) (H : zH s meth B n0 none "gather") {nf mc ms : Nat} {x0 : Nat} {x1 : Nat} {x2 : Int32} {kk : Nat} {nn : Nat} {c : Zc} {r : (Nat × Nat × Int32 × Nat × Nat × Zc) ⊕ (Nat × Nat × Zc)} (h : f_Collector_gather_45 nf x0 x1 x2 kk nn c = some r) (k0 : ∀ a, r = .inl a → (fun a : Nat × Nat × Int32 × Nat × Nat × Zc => ((a.2.2.2.1 ≤ mc ∧ a.2.2.2.2.1 ≤ ms) ∧ Zz p l e (zRm 5 123 mc ms) s m args below meth cd Q D cid B 5 a.2.2.2.1 a.2.2.2.2.1 a.2.2.2.2.2 21 [(0, .ref a.1), (1, .ref a.2.1), (2, .int a.2.2.1)] [])) a) (k1 : ∀ b, r = .inr b → (fun b : Nat × Nat × Zc => ((b.1 ≤ mc ∧ b.2.1 ≤ ms) ∧ Zz p l e (zRm 5 123 mc ms) s m args below meth cd Q D cid B 5 b.1 b.2.1 b.2.2 120 [] [])) b) : ((kk ≤ mc ∧ nn ≤ ms) ∧ Zz p l e (zRm 5 123 mc ms) s m args below meth cd Q D cid B 5 kk nn c 45 [(0, .ref x0), (1, .ref x1), (2, .int x2)] []) := by
  unfold f_Collector_gather_45 at h
  refine zpr (z_iconst (v := 0) X dd_Collector_gather_45 (by decide)) ?_
  refine zpr (z_istore_n (lv' := [(3, .int 0), (0, .ref x0), (1, .ref x1), (2, .int x2)]) X dd_Collector_gather_46 rfl (by decide) rfl) ?_
  refine zpr (z_sub [1, 2, 3, 0] rfl) ?_
  exact t_Collector_gather_47 X H h k0 k1
set_option maxRecDepth 100000 in
set_option maxHeartbeats 4000000 in
theorem u_Collector_gather_21  (X : zX p s m args cd D cid B bb_Collector_gather 5 rr_Collector zT) (H : zH s meth B n0 none "gather") {nf mc ms : Nat} {x0 : Nat} {x1 : Nat} {x2 : Int32} {kk : Nat} {nn : Nat} {c : Zc} {r : (Nat × Nat × Int32 × Nat × Nat × Zc) ⊕ (Nat × Nat × Zc)} (h : g_Collector_gather_21 nf x0 x1 x2 kk nn c = some r) (k0 : ∀ a, r = .inl a → (fun a : Nat × Nat × Int32 × Nat × Nat × Zc => ((a.2.2.2.1 ≤ mc ∧ a.2.2.2.2.1 ≤ ms) ∧ Zz p l e (zRm 5 123 mc ms) s m args below meth cd Q D cid B 5 a.2.2.2.1 a.2.2.2.2.1 a.2.2.2.2.2 21 [(0, .ref a.1), (1, .ref a.2.1), (2, .int a.2.2.1)] [])) a) (k1 : ∀ b, r = .inr b → (fun b : Nat × Nat × Zc => ((b.1 ≤ mc ∧ b.2.1 ≤ ms) ∧ Zz p l e (zRm 5 123 mc ms) s m args below meth cd Q D cid B 5 b.1 b.2.1 b.2.2 120 [] [])) b) : ((kk ≤ mc ∧ nn ≤ ms) ∧ Zz p l e (zRm 5 123 mc ms) s m args below meth cd Q D cid B 5 kk nn c 21 [(0, .ref x0), (1, .ref x1), (2, .int x2)] []) := by
  unfold g_Collector_gather_21 at h
  refine zpr (z_iload_n X dd_Collector_gather_21 rfl 2 rfl) ?_
  refine zpr (z_sipush (v := 20000) X dd_Collector_gather_22 (by decide)) ?_
  refine zpr2 (z_icmp_ge (tgt := 120) X dd_Collector_gather_25 (by decide)) (fun q8 => ?_) (fun q8 => ?_)
  · rw [if_pos q8] at h
    refine zpr (z_sub [] rfl) ?_
    obtain rfl := Option.some.inj h
    exact k1 _ rfl
  · rw [if_neg q8] at h
    refine zpr (z_aload_n X dd_Collector_gather_28 rfl 0 rfl) ?_
    obtain ⟨v9, ev9, h⟩ := zb h
    refine zpr (z_get (j := 0) X dd_Collector_gather_29 kc_10 ki_10 (by decide) km_673 (zgr_v ev9)) ?_
    obtain ⟨w11, ew11, h⟩ := zb h
    obtain ⟨q10, eq10, h⟩ := zb h
    refine zpc (fun hm => z_callVi X [] rfl dd_Collector_gather_32 (c_Finder_nextRow l eq10) (cwV 0 X.1.2.2.2.2 (zg_V km_1407 km_1337 km_1338 km_133 km_1339) rfl rfl rfl (by decide +kernel) ⟨Nat.le_of_ble_eq_true rfl, Nat.le_of_ble_eq_true rfl⟩) (zob_s ew11) kc_7 rfl (Nat.le_of_ble_eq_true rfl) hm) ?_
    refine zpr2 (z_if_eq (tgt := 120) X dd_Collector_gather_35 (by decide)) (fun q12 => ?_) (fun q12 => ?_)
    · rw [if_pos q12] at h
      refine zpr (z_sub [] rfl) ?_
      obtain rfl := Option.some.inj h
      exact k1 _ rfl
    · rw [if_neg q12] at h
      refine zpr (z_aload_n X dd_Collector_gather_38 rfl 0 rfl) ?_
      obtain ⟨v13, ev13, h⟩ := zb h
      refine zpr (z_get (j := 1) X dd_Collector_gather_39 kc_10 ki_10 (by decide) km_674 (zgr_v ev13)) ?_
      obtain ⟨w15, ew15, h⟩ := zb h
      obtain ⟨q14, eq14, h⟩ := zb h
      obtain ⟨hl9, hz9⟩ := t_Collector_gather_45 X H h k0 k1
      exact ⟨⟨by have := hl9.1; omega, by have := hl9.2; omega⟩, z_callVv X [] rfl dd_Collector_gather_42 (c_Rows_addRow l eq14) (cwV 0 X.1.2.2.2.2 (zg_V km_1408 km_1409 km_1410 km_137 km_1411) rfl rfl rfl (by decide +kernel) ⟨Nat.le_of_ble_eq_true rfl, Nat.le_of_ble_eq_true rfl⟩) (zob_s ew15) kc_9 rfl (Nat.le_of_ble_eq_true rfl) hl9 hz9⟩
set_option maxRecDepth 100000 in
set_option maxHeartbeats 4000000 in
theorem t_Collector_gather_120  (X : zX p s m args cd D cid B bb_Collector_gather 5 rr_Collector zT) (H : zH s meth B n0 none "gather") {nf : Nat} {kk : Nat} {nn : Nat} {c : Zc} {res : Nat × Nat × Zc} (h : f_Collector_gather_120 nf kk nn c = some res) : ((kk ≤ res.1 ∧ nn ≤ res.2.1) ∧ Zz p l e (zRm 5 123 res.1 res.2.1) s m args below meth cd (MQ below (zQv D cid B res.2.2 n0 res.1) args s res.1 res.2.1 (fun q => B ≤ q)) D cid B 5 kk nn c 120 [] []) := by
  unfold f_Collector_gather_120 at h
  obtain rfl := Option.some.inj h
  exact ⟨⟨Nat.le_refl _, Nat.le_refl _⟩, z_vret X H.1 H.2.1 H.2.2.1 dd_Collector_gather_120⟩
set_option maxRecDepth 100000 in
set_option maxHeartbeats 4000000 in
theorem t_Collector_gather_21  (X : zX p s m args cd D cid B bb_Collector_gather 5 rr_Collector zT) (H : zH s meth B n0 none "gather") {nf : Nat} {x0 : Nat} {x1 : Nat} {x2 : Int32} {kk : Nat} {nn : Nat} {c : Zc} {res : Nat × Nat × Zc} (h : f_Collector_gather_21 nf x0 x1 x2 kk nn c = some res) : ((kk ≤ res.1 ∧ nn ≤ res.2.1) ∧ Zz p l e (zRm 5 123 res.1 res.2.1) s m args below meth cd (MQ below (zQv D cid B res.2.2 n0 res.1) args s res.1 res.2.1 (fun q => B ≤ q)) D cid B 5 kk nn c 21 [(0, .ref x0), (1, .ref x1), (2, .int x2)] []) := by
  unfold f_Collector_gather_21 at h
  obtain ⟨b, eb, h⟩ := zb h
  refine zlp_ok (P := fun a : Nat × Nat × Int32 × Nat × Nat × Zc => ((a.2.2.2.1 ≤ res.1 ∧ a.2.2.2.2.1 ≤ res.2.1) ∧ Zz p l e (zRm 5 123 res.1 res.2.1) s m args below meth cd _ D cid B 5 a.2.2.2.1 a.2.2.2.2.1 a.2.2.2.2.2 21 [(0, .ref a.1), (1, .ref a.2.1), (2, .int a.2.2.1)] [])) (G := fun b : Nat × Nat × Zc => ((b.1 ≤ res.1 ∧ b.2.1 ≤ res.2.1) ∧ Zz p l e (zRm 5 123 res.1 res.2.1) s m args below meth cd _ D cid B 5 b.1 b.2.1 b.2.2 120 [] [])) (fun a r ha k0 k1 => u_Collector_gather_21 X H ha k0 k1) nf _ b eb ?_
  exact t_Collector_gather_120 X H h
set_option maxRecDepth 100000 in
set_option maxHeartbeats 4000000 in
theorem c_Collector_gather (l : Launch) {nf : Nat} {a0 : Nat} {a1 : Nat} {c : Zc} {res : Nat × Nat × Zc} (h : f_Collector_gather nf a0 a1 c = some res) : zM l yy_Collector_gather ww_Collector_gather 5 123 res.1 res.2.1 [.ref a0, .ref a1] c (fun D cid B => zQv D cid B res.2.2 c.length res.1) := by
  refine z_met (cc := bb_Collector_gather) (maxL := 5) (ret := none) (by decide +kernel) rfl (Nat.le_of_ble_eq_true rfl) ?_
  intro p e s m args below meth cd D cid B X h1 h2 h3 h4
  have X : zX p s m args cd D cid B bb_Collector_gather 5 rr_Collector zT := X
  have H : zH s meth B c.length none "gather" := ⟨h1, h2, h4, h3⟩
  unfold f_Collector_gather at h
  show Zz p l e (zRm 5 123 res.1 res.2.1) s m args below meth cd _ D cid B 5 0 0 c 0 [(0, .ref a0), (1, .ref a1)] []
  refine And.right (a := (0 ≤ res.1 ∧ 0 ≤ res.2.1)) ?_
  refine zpr (z_aload_n X dd_Collector_gather_0 rfl 0 rfl) ?_
  obtain ⟨v1, ev1, h⟩ := zb h
  refine zpr (z_get (j := 1) X dd_Collector_gather_1 kc_10 ki_10 (by decide) km_674 (zgr_v ev1)) ?_
  refine zpr (z_aload_n X dd_Collector_gather_4 rfl 1 rfl) ?_
  obtain ⟨v2, ev2, h⟩ := zb h
  refine zpr (z_get (j := 15) X dd_Collector_gather_5 kc_2 ki_2 (by decide) km_345 (zgi_v ev2)) ?_
  obtain ⟨w4, ew4, h⟩ := zb h
  obtain ⟨q3, eq3, h⟩ := zb h
  refine zpc (fun hm => z_callVv X [.int v2] rfl dd_Collector_gather_8 (c_Rows_clear l eq3) (cwV 1 X.1.2.2.2.2 (zg_V km_1402 km_1403 km_1404 km_137 km_1405) rfl rfl rfl (by decide +kernel) ⟨Nat.le_of_ble_eq_true rfl, Nat.le_of_ble_eq_true rfl⟩) (zob_s ew4) kc_9 rfl (Nat.le_of_ble_eq_true rfl) hm) ?_
  refine zpr (z_aload_n X dd_Collector_gather_11 rfl 0 rfl) ?_
  obtain ⟨v5, ev5, h⟩ := zb h
  refine zpr (z_get (j := 0) X dd_Collector_gather_12 kc_10 ki_10 (by decide) km_673 (zgr_v ev5)) ?_
  refine zpr (z_aload_n X dd_Collector_gather_15 rfl 1 rfl) ?_
  obtain ⟨w7, ew7, h⟩ := zb h
  obtain ⟨q6, eq6, h⟩ := zb h
  refine zpc (fun hm => z_callVv X [.ref a1] rfl dd_Collector_gather_16 (c_Finder_start l eq6) (cwV 1 X.1.2.2.2.2 (zg_V km_1406 km_1290 km_1291 km_133 km_1292) rfl rfl rfl (by decide +kernel) ⟨Nat.le_of_ble_eq_true rfl, Nat.le_of_ble_eq_true rfl⟩) (zob_s ew7) kc_7 rfl (Nat.le_of_ble_eq_true rfl) hm) ?_
  refine zpr (z_iconst (v := 0) X dd_Collector_gather_19 (by decide)) ?_
  refine zpr (z_istore_n (lv' := [(2, .int 0), (0, .ref a0), (1, .ref a1)]) X dd_Collector_gather_20 rfl (by decide) rfl) ?_
  refine zpr (z_sub [1, 2, 0] rfl) ?_
  exact t_Collector_gather_21 X H h
end ZzM
