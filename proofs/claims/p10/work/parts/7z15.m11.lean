section ZzM
variable {p : Program} {l : Launch} {e : Env} {s : State} {m : MethodId} {args : Array Value} {below : List Frame} {meth : Method} {cd : Code} {Q : State → Prop} {D : va_G} {cid : Nat → ClassId} {B n0 : Nat}
theorem dd_Finder_nextRow_0 : decode bb_Finder_nextRow 0 = .ok (.iconst 0, 1) := by decide +kernel
theorem dd_Finder_nextRow_1 : decode bb_Finder_nextRow 1 = .ok (.istore_n 1, 1) := by decide +kernel
theorem dd_Finder_nextRow_2 : decode bb_Finder_nextRow 2 = .ok (.iload_n 1, 1) := by decide +kernel
theorem dd_Finder_nextRow_3 : decode bb_Finder_nextRow 3 = .ok (.ldc 80, 2) := by decide +kernel
theorem dd_Finder_nextRow_5 : decode bb_Finder_nextRow 5 = .ok (.if_icmp .ge 46, 3) := by decide +kernel
theorem dd_Finder_nextRow_8 : decode bb_Finder_nextRow 8 = .ok (.aload_n 0, 1) := by decide +kernel
theorem dd_Finder_nextRow_9 : decode bb_Finder_nextRow 9 = .ok (.getfield 40, 3) := by decide +kernel
theorem dd_Finder_nextRow_12 : decode bb_Finder_nextRow 12 = .ok (.invokevirtual 81, 3) := by decide +kernel
theorem dd_Finder_nextRow_15 : decode bb_Finder_nextRow 15 = .ok (.ifCond .eq 36, 3) := by decide +kernel
theorem dd_Finder_nextRow_18 : decode bb_Finder_nextRow 18 = .ok (.aload_n 0, 1) := by decide +kernel
theorem dd_Finder_nextRow_19 : decode bb_Finder_nextRow 19 = .ok (.getfield 31, 3) := by decide +kernel
theorem dd_Finder_nextRow_22 : decode bb_Finder_nextRow 22 = .ok (.getfield 84, 3) := by decide +kernel
theorem dd_Finder_nextRow_25 : decode bb_Finder_nextRow 25 = .ok (.ifCond .eq 18, 3) := by decide +kernel
theorem dd_Finder_nextRow_28 : decode bb_Finder_nextRow 28 = .ok (.aload_n 0, 1) := by decide +kernel
theorem dd_Finder_nextRow_29 : decode bb_Finder_nextRow 29 = .ok (.iconst 0, 1) := by decide +kernel
theorem dd_Finder_nextRow_30 : decode bb_Finder_nextRow 30 = .ok (.aload_n 0, 1) := by decide +kernel
theorem dd_Finder_nextRow_31 : decode bb_Finder_nextRow 31 = .ok (.getfield 31, 3) := by decide +kernel
theorem dd_Finder_nextRow_34 : decode bb_Finder_nextRow 34 = .ok (.getfield 84, 3) := by decide +kernel
theorem dd_Finder_nextRow_37 : decode bb_Finder_nextRow 37 = .ok (.invokevirtual 87, 3) := by decide +kernel
theorem dd_Finder_nextRow_40 : decode bb_Finder_nextRow 40 = .ok (.ifCond .eq 5, 3) := by decide +kernel
theorem dd_Finder_nextRow_43 : decode bb_Finder_nextRow 43 = .ok (.iconst 1, 1) := by decide +kernel
theorem dd_Finder_nextRow_44 : decode bb_Finder_nextRow 44 = .ok (.ireturn, 1) := by decide +kernel
theorem dd_Finder_nextRow_45 : decode bb_Finder_nextRow 45 = .ok (.iinc 1 1, 3) := by decide +kernel
theorem dd_Finder_nextRow_48 : decode bb_Finder_nextRow 48 = .ok (.goto (-46), 3) := by decide +kernel
theorem dd_Finder_nextRow_51 : decode bb_Finder_nextRow 51 = .ok (.iconst 0, 1) := by decide +kernel
theorem dd_Finder_nextRow_52 : decode bb_Finder_nextRow 52 = .ok (.ireturn, 1) := by decide +kernel
set_option maxRecDepth 100000 in
set_option maxHeartbeats 4000000 in
theorem u_Finder_nextRow_2  (X : zX p s m args cd D cid B bb_Finder_nextRow 2 rr_Finder zT) (H : zH s meth B n0 (some (.boolean)) "nextRow") {nf : Nat} {x0 : Nat} {x1 : Int32} {c : Zc} {r : (Nat × Int32 × Zc) ⊕ ((Zc) ⊕ (Zc))} (h : g_Finder_nextRow_2 nf x0 x1 c = some r) (k0 : ∀ a, r = .inl a → (fun a : Nat × Int32 × Zc => Zz p l e (zRm 4 99 0 0) s m args below meth cd Q D cid B 2 0 0 a.2.2 2 [(0, .ref a.1), (1, .int a.2.1)] []) a) (k1 : ∀ b, r = .inr b → (fun b : (Zc) ⊕ (Zc) => Sum.elim (fun b => Zz p l e (zRm 4 99 0 0) s m args below meth cd Q D cid B 2 0 0 b 43 [] []) (fun b => Zz p l e (zRm 4 99 0 0) s m args below meth cd Q D cid B 2 0 0 b 51 [] []) b) b) : Zz p l e (zRm 4 99 0 0) s m args below meth cd Q D cid B 2 0 0 c 2 [(0, .ref x0), (1, .int x1)] [] := by
  unfold g_Finder_nextRow_2 at h
  refine z_iload_n X dd_Finder_nextRow_2 rfl 1 rfl ?_
  refine z_ldc (v := 1000000) X dd_Finder_nextRow_3 km_1340 ?_
  refine z_icmp_ge (tgt := 51) X dd_Finder_nextRow_5 (by decide) (fun q1 => ?_) (fun q1 => ?_)
  · rw [if_pos q1] at h
    refine z_sub [] rfl ?_
    obtain rfl := Option.some.inj h
    exact k1 _ rfl
  · rw [if_neg q1] at h
    refine z_aload_n X dd_Finder_nextRow_8 rfl 0 rfl ?_
    obtain ⟨v2, ev2, h⟩ := zb h
    refine z_get (j := 2) X dd_Finder_nextRow_9 kc_7 ki_7 (by decide) km_587 (zgr_v ev2) ?_
    obtain ⟨w4, ew4, h⟩ := zb h
    obtain ⟨q3, eq3, h⟩ := zb h
    refine z_callVi X [] rfl dd_Finder_nextRow_12 (c_Search_next l eq3) (cwV 0 X.1.2.2.2.2 (zg_V km_1341 km_1342 km_1343 km_134 km_1344) rfl rfl rfl (by decide +kernel) ⟨Nat.le_of_ble_eq_true rfl, Nat.le_of_ble_eq_true rfl⟩) (zob_s ew4) kc_6 rfl (Nat.le_of_ble_eq_true rfl) ⟨Nat.le_of_ble_eq_true rfl, Nat.le_of_ble_eq_true rfl⟩ ?_
    refine z_if_eq (tgt := 51) X dd_Finder_nextRow_15 (by decide) (fun q5 => ?_) (fun q5 => ?_)
    · rw [if_pos q5] at h
      refine z_sub [] rfl ?_
      obtain rfl := Option.some.inj h
      exact k1 _ rfl
    · rw [if_neg q5] at h
      refine z_aload_n X dd_Finder_nextRow_18 rfl 0 rfl ?_
      obtain ⟨v6, ev6, h⟩ := zb h
      refine z_get (j := 8) X dd_Finder_nextRow_19 kc_7 ki_7 (by decide) km_593 (zgr_v ev6) ?_
      obtain ⟨v7, ev7, h⟩ := zb h
      refine z_get (j := 14) X dd_Finder_nextRow_22 kc_2 ki_2 (by decide) km_342 (zgi_v ev7) ?_
      refine z_if_eq (tgt := 43) X dd_Finder_nextRow_25 (by decide) (fun q8 => ?_) (fun q8 => ?_)
      · rw [if_pos q8] at h
        refine z_sub [] rfl ?_
        obtain rfl := Option.some.inj h
        exact k1 _ rfl
      · rw [if_neg q8] at h
        refine z_aload_n X dd_Finder_nextRow_28 rfl 0 rfl ?_
        refine z_iconst (v := 0) X dd_Finder_nextRow_29 (by decide) ?_
        refine z_aload_n X dd_Finder_nextRow_30 rfl 0 rfl ?_
        obtain ⟨v9, ev9, h⟩ := zb h
        refine z_get (j := 8) X dd_Finder_nextRow_31 kc_7 ki_7 (by decide) km_593 (zgr_v ev9) ?_
        obtain ⟨v10, ev10, h⟩ := zb h
        refine z_get (j := 14) X dd_Finder_nextRow_34 kc_2 ki_2 (by decide) km_342 (zgi_v ev10) ?_
        obtain ⟨w12, ew12, h⟩ := zb h
        obtain ⟨q11, eq11, h⟩ := zb h
        refine z_callVi X [.int 0, .int v10] rfl dd_Finder_nextRow_37 (c_Finder_evaluate l eq11) (cwV 2 X.1.2.2.2.2 (zg_V km_1350 km_1351 km_1352 km_133 km_1353) rfl rfl rfl (by decide +kernel) ⟨Nat.le_of_ble_eq_true rfl, Nat.le_of_ble_eq_true rfl⟩) (zob_s ew12) kc_7 rfl (Nat.le_of_ble_eq_true rfl) ⟨Nat.le_of_ble_eq_true rfl, Nat.le_of_ble_eq_true rfl⟩ ?_
        refine z_if_eq (tgt := 45) X dd_Finder_nextRow_40 (by decide) (fun q13 => ?_) (fun q13 => ?_)
        · rw [if_pos q13] at h
          refine z_iinc (v := (x1 + 1)) (lv' := [(1, .int (x1 + 1)), (0, .ref x0)]) X dd_Finder_nextRow_45 1 rfl rfl (by decide) rfl ?_
          refine z_goto (tgt := 2) X dd_Finder_nextRow_48 (by decide) ?_
          refine z_sub [1, 0] rfl ?_
          obtain rfl := Option.some.inj h
          exact k0 _ rfl
        · rw [if_neg q13] at h
          refine z_sub [] rfl ?_
          obtain rfl := Option.some.inj h
          exact k1 _ rfl
set_option maxRecDepth 100000 in
set_option maxHeartbeats 4000000 in
theorem t_Finder_nextRow_43  (X : zX p s m args cd D cid B bb_Finder_nextRow 2 rr_Finder zT) (H : zH s meth B n0 (some (.boolean)) "nextRow") {nf : Nat}  {c : Zc} {res : Int32 × Zc} (h : f_Finder_nextRow_43 nf  c = some res) : Zz p l e (zRm 4 99 0 0) s m args below meth cd (MQ below (zQi D cid B res.1 res.2 n0 0) args s 0 0 (fun q => B ≤ q)) D cid B 2 0 0 c 43 [] [] := by
  unfold f_Finder_nextRow_43 at h
  refine z_iconst (v := 1) X dd_Finder_nextRow_43 (by decide) ?_
  obtain ⟨hz, h⟩ := zrz_s h
  obtain rfl := h
  exact z_zret X H.1 (zn_z hz) H.2.1 H.2.2.1 dd_Finder_nextRow_44
set_option maxRecDepth 100000 in
set_option maxHeartbeats 4000000 in
theorem t_Finder_nextRow_51  (X : zX p s m args cd D cid B bb_Finder_nextRow 2 rr_Finder zT) (H : zH s meth B n0 (some (.boolean)) "nextRow") {nf : Nat}  {c : Zc} {res : Int32 × Zc} (h : f_Finder_nextRow_51 nf  c = some res) : Zz p l e (zRm 4 99 0 0) s m args below meth cd (MQ below (zQi D cid B res.1 res.2 n0 0) args s 0 0 (fun q => B ≤ q)) D cid B 2 0 0 c 51 [] [] := by
  unfold f_Finder_nextRow_51 at h
  refine z_iconst (v := 0) X dd_Finder_nextRow_51 (by decide) ?_
  obtain ⟨hz, h⟩ := zrz_s h
  obtain rfl := h
  exact z_zret X H.1 (zn_z hz) H.2.1 H.2.2.1 dd_Finder_nextRow_52
set_option maxRecDepth 100000 in
set_option maxHeartbeats 4000000 in
theorem t_Finder_nextRow_2  (X : zX p s m args cd D cid B bb_Finder_nextRow 2 rr_Finder zT) (H : zH s meth B n0 (some (.boolean)) "nextRow") {nf : Nat} {x0 : Nat} {x1 : Int32} {c : Zc} {res : Int32 × Zc} (h : f_Finder_nextRow_2 nf x0 x1 c = some res) : Zz p l e (zRm 4 99 0 0) s m args below meth cd (MQ below (zQi D cid B res.1 res.2 n0 0) args s 0 0 (fun q => B ≤ q)) D cid B 2 0 0 c 2 [(0, .ref x0), (1, .int x1)] [] := by
  unfold f_Finder_nextRow_2 at h
  obtain ⟨b, eb, h⟩ := zb h
  refine zlp_ok (P := fun a : Nat × Int32 × Zc => Zz p l e (zRm 4 99 0 0) s m args below meth cd _ D cid B 2 0 0 a.2.2 2 [(0, .ref a.1), (1, .int a.2.1)] []) (G := fun b : (Zc) ⊕ (Zc) => Sum.elim (fun b => Zz p l e (zRm 4 99 0 0) s m args below meth cd _ D cid B 2 0 0 b 43 [] []) (fun b => Zz p l e (zRm 4 99 0 0) s m args below meth cd _ D cid B 2 0 0 b 51 [] []) b) (fun a r ha k0 k1 => u_Finder_nextRow_2 X H ha k0 k1) nf _ b eb ?_
  rcases b with b | b
  · simp only [Sum.elim_inl] at h ⊢
    exact t_Finder_nextRow_43 X H h
  · simp only [Sum.elim_inr] at h ⊢
    exact t_Finder_nextRow_51 X H h
set_option maxRecDepth 100000 in
set_option maxHeartbeats 4000000 in
theorem c_Finder_nextRow (l : Launch) {nf : Nat} {a0 : Nat} {c : Zc} {res : Int32 × Zc} (h : f_Finder_nextRow nf a0 c = some res) : zM l yy_Finder_nextRow ww_Finder_nextRow 4 99 0 0 [.ref a0] c (fun D cid B => zQi D cid B res.1 res.2 c.length 0) := by
  refine z_met (cc := bb_Finder_nextRow) (maxL := 2) (ret := (some (.boolean))) (by decide +kernel) rfl (Nat.le_of_ble_eq_true rfl) ?_
  intro p e s m args below meth cd D cid B X h1 h2 h3 h4
  have X : zX p s m args cd D cid B bb_Finder_nextRow 2 rr_Finder zT := X
  have H : zH s meth B c.length (some (.boolean)) "nextRow" := ⟨h1, h2, h4, h3⟩
  unfold f_Finder_nextRow at h
  show Zz p l e (zRm 4 99 0 0) s m args below meth cd _ D cid B 2 0 0 c 0 [(0, .ref a0)] []
  refine z_iconst (v := 0) X dd_Finder_nextRow_0 (by decide) ?_
  refine z_istore_n (lv' := [(1, .int 0), (0, .ref a0)]) X dd_Finder_nextRow_1 rfl (by decide) rfl ?_
  refine z_sub [1, 0] rfl ?_
  exact t_Finder_nextRow_2 X H h
theorem dd_RuleBook_init_0 : decode bb_RuleBook_init 0 = .ok (.aload_n 0, 1) := by decide +kernel
theorem dd_RuleBook_init_1 : decode bb_RuleBook_init 1 = .ok (.invokespecial 3, 3) := by decide +kernel
theorem dd_RuleBook_init_4 : decode bb_RuleBook_init 4 = .ok (.aload_n 0, 1) := by decide +kernel
theorem dd_RuleBook_init_5 : decode bb_RuleBook_init 5 = .ok (.iconst 4, 1) := by decide +kernel
theorem dd_RuleBook_init_6 : decode bb_RuleBook_init 6 = .ok (.anewarray 9, 3) := by decide +kernel
theorem dd_RuleBook_init_9 : decode bb_RuleBook_init 9 = .ok (.putfield 11, 3) := by decide +kernel
theorem dd_RuleBook_init_12 : decode bb_RuleBook_init 12 = .ok (.aload_n 0, 1) := by decide +kernel
theorem dd_RuleBook_init_13 : decode bb_RuleBook_init 13 = .ok (.bipush 64, 2) := by decide +kernel
theorem dd_RuleBook_init_15 : decode bb_RuleBook_init 15 = .ok (.newarray .int, 2) := by decide +kernel
theorem dd_RuleBook_init_17 : decode bb_RuleBook_init 17 = .ok (.putfield 17, 3) := by decide +kernel
theorem dd_RuleBook_init_20 : decode bb_RuleBook_init 20 = .ok (.aload_n 0, 1) := by decide +kernel
theorem dd_RuleBook_init_21 : decode bb_RuleBook_init 21 = .ok (.iconst (-1), 1) := by decide +kernel
theorem dd_RuleBook_init_22 : decode bb_RuleBook_init 22 = .ok (.putfield 21, 3) := by decide +kernel
theorem dd_RuleBook_init_25 : decode bb_RuleBook_init 25 = .ok (.aload_n 0, 1) := by decide +kernel
theorem dd_RuleBook_init_26 : decode bb_RuleBook_init 26 = .ok (.iconst 0, 1) := by decide +kernel
theorem dd_RuleBook_init_27 : decode bb_RuleBook_init 27 = .ok (.putfield 25, 3) := by decide +kernel
theorem dd_RuleBook_init_30 : decode bb_RuleBook_init 30 = .ok (.aload_n 0, 1) := by decide +kernel
theorem dd_RuleBook_init_31 : decode bb_RuleBook_init 31 = .ok (.aload_n 1, 1) := by decide +kernel
theorem dd_RuleBook_init_32 : decode bb_RuleBook_init 32 = .ok (.putfield 29, 3) := by decide +kernel
theorem dd_RuleBook_init_35 : decode bb_RuleBook_init 35 = .ok (.aload_n 0, 1) := by decide +kernel
theorem dd_RuleBook_init_36 : decode bb_RuleBook_init 36 = .ok (.aload_n 2, 1) := by decide +kernel
theorem dd_RuleBook_init_37 : decode bb_RuleBook_init 37 = .ok (.putfield 33, 3) := by decide +kernel
theorem dd_RuleBook_init_40 : decode bb_RuleBook_init 40 = .ok (.iconst 0, 1) := by decide +kernel
theorem dd_RuleBook_init_41 : decode bb_RuleBook_init 41 = .ok (.istore_n 3, 1) := by decide +kernel
theorem dd_RuleBook_init_42 : decode bb_RuleBook_init 42 = .ok (.iload_n 3, 1) := by decide +kernel
theorem dd_RuleBook_init_43 : decode bb_RuleBook_init 43 = .ok (.iconst 4, 1) := by decide +kernel
theorem dd_RuleBook_init_44 : decode bb_RuleBook_init 44 = .ok (.if_icmp .ge 22, 3) := by decide +kernel
theorem dd_RuleBook_init_47 : decode bb_RuleBook_init 47 = .ok (.aload_n 0, 1) := by decide +kernel
theorem dd_RuleBook_init_48 : decode bb_RuleBook_init 48 = .ok (.getfield 11, 3) := by decide +kernel
theorem dd_RuleBook_init_51 : decode bb_RuleBook_init 51 = .ok (.iload_n 3, 1) := by decide +kernel
theorem dd_RuleBook_init_52 : decode bb_RuleBook_init 52 = .ok (.new 9, 3) := by decide +kernel
theorem dd_RuleBook_init_55 : decode bb_RuleBook_init 55 = .ok (.dup, 1) := by decide +kernel
theorem dd_RuleBook_init_56 : decode bb_RuleBook_init 56 = .ok (.invokespecial 37, 3) := by decide +kernel
theorem dd_RuleBook_init_59 : decode bb_RuleBook_init 59 = .ok (.aastore, 1) := by decide +kernel
theorem dd_RuleBook_init_60 : decode bb_RuleBook_init 60 = .ok (.iinc 3 1, 3) := by decide +kernel
theorem dd_RuleBook_init_63 : decode bb_RuleBook_init 63 = .ok (.goto (-21), 3) := by decide +kernel
theorem dd_RuleBook_init_66 : decode bb_RuleBook_init 66 = .ok (.return_, 1) := by decide +kernel
set_option maxRecDepth 100000 in
set_option maxHeartbeats 4000000 in
theorem u_RuleBook_init_42  (X : zX p s m args cd D cid B bb_RuleBook_init 4 rr_RuleBook zT) (H : zH s meth B n0 none "<init>") {nf mc ms : Nat} {x0 : Nat} {x3 : Int32} {kk : Nat} {nn : Nat} {c : Zc} {r : (Nat × Int32 × Nat × Nat × Zc) ⊕ (Nat × Nat × Zc)} (h : g_RuleBook_init_42 nf mc ms x0 x3 kk nn c = some r) (k0 : ∀ a, r = .inl a → (fun a : Nat × Int32 × Nat × Nat × Zc => Zz p l e (zRm 3 61 mc ms) s m args below meth cd Q D cid B 4 a.2.2.1 a.2.2.2.1 a.2.2.2.2 42 [(0, .ref a.1), (3, .int a.2.1)] []) a) (k1 : ∀ b, r = .inr b → (fun b : Nat × Nat × Zc => Zz p l e (zRm 3 61 mc ms) s m args below meth cd Q D cid B 4 b.1 b.2.1 b.2.2 66 [] []) b) : Zz p l e (zRm 3 61 mc ms) s m args below meth cd Q D cid B 4 kk nn c 42 [(0, .ref x0), (3, .int x3)] [] := by
  unfold g_RuleBook_init_42 at h
  refine z_iload_n X dd_RuleBook_init_42 rfl 1 rfl ?_
  refine z_iconst (v := 4) X dd_RuleBook_init_43 (by decide) ?_
  refine z_icmp_ge (tgt := 66) X dd_RuleBook_init_44 (by decide) (fun q11 => ?_) (fun q11 => ?_)
  · rw [if_pos q11] at h
    refine z_sub [] rfl ?_
    obtain rfl := Option.some.inj h
    exact k1 _ rfl
  · rw [if_neg q11] at h
    refine z_aload_n X dd_RuleBook_init_47 rfl 0 rfl ?_
    obtain ⟨v12, ev12, h⟩ := zb h
    refine z_get (j := 0) X dd_RuleBook_init_48 kc_8 ki_8 (by decide) km_622 (zgr_v ev12) ?_
    refine z_iload_n X dd_RuleBook_init_51 rfl 1 rfl ?_
    obtain ⟨u14, eu14, h⟩ := zb h
    obtain ⟨c13, ec13, h⟩ := zb h
    refine z_newC X dd_RuleBook_init_52 kc_2 ki_2 tt_Text tk_Text km_619 km_208 km_128 (by decide +kernel) (fun _ _ => rfl) (zlim_s eu14).1 (zlim_s eu14).2 ec13 ?_
    refine z_dup X dd_RuleBook_init_55 rfl ?_
    obtain ⟨u16, eu16, h⟩ := zb h
    obtain ⟨q15, eq15, h⟩ := zb h
    refine z_callIv (ret := none) X [] rfl dd_RuleBook_init_56 (c_Text_init l eq15) (cwI 0 X.1.2.2.2.2 (zg_I km_211) rfl rfl rfl (X.1.2.2.2.2 _ km_128) (X.1.2.2.2.2 _ km_621) (X.1.2.2.2.2 _ km_210) rfl (by decide +kernel) ⟨Nat.le_of_ble_eq_true rfl, Nat.le_of_ble_eq_true rfl⟩) rfl (Nat.le_of_ble_eq_true rfl) (zlim_s eu16) ?_
    obtain ⟨c17, ec17, h⟩ := zb h
    refine z_aastore X dd_RuleBook_init_59 kc_2 rfl ec17 ?_
    refine z_iinc (v := (x3 + 1)) (lv' := [(3, .int (x3 + 1)), (0, .ref x0)]) X dd_RuleBook_init_60 1 rfl rfl (by decide) rfl ?_
    refine z_goto (tgt := 42) X dd_RuleBook_init_63 (by decide) ?_
    refine z_sub [1, 0] rfl ?_
    obtain rfl := Option.some.inj h
    exact k0 _ rfl
set_option maxRecDepth 100000 in
set_option maxHeartbeats 4000000 in
theorem t_RuleBook_init_42  (X : zX p s m args cd D cid B bb_RuleBook_init 4 rr_RuleBook zT) (H : zH s meth B n0 none "<init>") {nf mc ms : Nat} {x0 : Nat} {x3 : Int32} {kk : Nat} {nn : Nat} {c : Zc} {res : Zc} (h : f_RuleBook_init_42 nf mc ms x0 x3 kk nn c = some res) : Zz p l e (zRm 3 61 mc ms) s m args below meth cd (MQ below (zQv D cid B res n0 mc) args s mc ms (fun q => B ≤ q)) D cid B 4 kk nn c 42 [(0, .ref x0), (3, .int x3)] [] := by
  unfold f_RuleBook_init_42 at h
  obtain ⟨b, eb, h⟩ := zb h
  refine zlp_ok (P := fun a : Nat × Int32 × Nat × Nat × Zc => Zz p l e (zRm 3 61 mc ms) s m args below meth cd _ D cid B 4 a.2.2.1 a.2.2.2.1 a.2.2.2.2 42 [(0, .ref a.1), (3, .int a.2.1)] []) (G := fun b : Nat × Nat × Zc => Zz p l e (zRm 3 61 mc ms) s m args below meth cd _ D cid B 4 b.1 b.2.1 b.2.2 66 [] []) (fun a r ha k0 k1 => u_RuleBook_init_42 X H ha k0 k1) nf _ b eb ?_
  obtain ⟨u18, eu18, h⟩ := zb h
  refine z_wid (zend_s eu18).1 (zend_s eu18).2 ?_
  obtain rfl := Option.some.inj h
  exact z_vret X H.1 H.2.1 H.2.2.1 dd_RuleBook_init_66
set_option maxRecDepth 100000 in
set_option maxHeartbeats 4000000 in
theorem c_RuleBook_init (l : Launch) {nf mc ms : Nat} {a0 : Nat} {a1 : Nat} {a2 : Nat} {c : Zc} {res : Zc} (h : f_RuleBook_init nf mc ms a0 a1 a2 c = some res) : zM l yy_RuleBook_init ww_RuleBook_init 3 61 mc ms [.ref a0, .ref a1, .ref a2] c (fun D cid B => zQv D cid B res c.length mc) := by
  refine z_met (cc := bb_RuleBook_init) (maxL := 4) (ret := none) (by decide +kernel) rfl (Nat.le_of_ble_eq_true rfl) ?_
  intro p e s m args below meth cd D cid B X h1 h2 h3 h4
  have X : zX p s m args cd D cid B bb_RuleBook_init 4 rr_RuleBook zT := X
  have H : zH s meth B c.length none "<init>" := ⟨h1, h2, h4, h3⟩
  unfold f_RuleBook_init at h
  show Zz p l e (zRm 3 61 mc ms) s m args below meth cd _ D cid B 4 0 0 c 0 [(0, .ref a0), (1, .ref a1), (2, .ref a2)] []
  refine z_aload_n X dd_RuleBook_init_0 rfl 0 rfl ?_
  refine z_objInit X dd_RuleBook_init_1 km_618 km_153 km_154 (Nat.le_of_ble_eq_true rfl) (Nat.le_of_ble_eq_true rfl) ?_
  refine z_aload_n X dd_RuleBook_init_4 rfl 0 rfl ?_
  refine z_iconst (v := 4) X dd_RuleBook_init_5 (by decide) ?_
  obtain ⟨u2, eu2, h⟩ := zb h
  obtain ⟨c1, ec1, h⟩ := zb h
  refine z_newqC X dd_RuleBook_init_6 km_619 (by decide +kernel) rfl (by decide) (by decide) (by decide) (zlim_s eu2).1 (zlim_s eu2).2 ec1 ?_
  obtain ⟨c3, ec3, h⟩ := zb h
  refine z_putF (j := 0) X dd_RuleBook_init_9 kc_8 ki_8 tt_RuleBook tk_RuleBook nn_RuleBook (by decide) km_622 rfl H.2.2.2 rfl (tk_RuleBook 0 (by decide)) rfl rfl ec3 ?_
  refine z_aload_n X dd_RuleBook_init_12 rfl 0 rfl ?_
  refine z_bipush (v := 64) X dd_RuleBook_init_13 (by decide) ?_
  obtain ⟨u5, eu5, h⟩ := zb h
  obtain ⟨c4, ec4, h⟩ := zb h
  refine z_newaC (ty := .int) X dd_RuleBook_init_15 rfl km_206 rfl (fun _ q => by cases q) (fun _ => rfl) (fun _ => rfl) (by decide) (by decide) (by decide) (zlim_s eu5).1 (zlim_s eu5).2 ec4 ?_
  obtain ⟨c6, ec6, h⟩ := zb h
  refine z_putF (j := 3) X dd_RuleBook_init_17 kc_8 ki_8 tt_RuleBook tk_RuleBook nn_RuleBook (by decide) km_626 rfl H.2.2.2 rfl (tk_RuleBook 3 (by decide)) rfl rfl ec6 ?_
  refine z_aload_n X dd_RuleBook_init_20 rfl 0 rfl ?_
  refine z_iconst (v := (-1)) X dd_RuleBook_init_21 (by decide) ?_
  obtain ⟨c7, ec7, h⟩ := zb h
  refine z_put (j := 4) X dd_RuleBook_init_22 kc_8 ki_8 tt_RuleBook tk_RuleBook nn_RuleBook (by decide) km_627 rfl (tk_RuleBook 4 (by decide)) rfl rfl ec7 ?_
  refine z_aload_n X dd_RuleBook_init_25 rfl 0 rfl ?_
  refine z_iconst (v := 0) X dd_RuleBook_init_26 (by decide) ?_
  obtain ⟨c8, ec8, h⟩ := zb h
  refine z_put (j := 5) X dd_RuleBook_init_27 kc_8 ki_8 tt_RuleBook tk_RuleBook nn_RuleBook (by decide) km_628 rfl (tk_RuleBook 5 (by decide)) rfl rfl ec8 ?_
  refine z_aload_n X dd_RuleBook_init_30 rfl 0 rfl ?_
  refine z_aload_n X dd_RuleBook_init_31 rfl 1 rfl ?_
  obtain ⟨c9, ec9, h⟩ := zb h
  refine z_putF (j := 1) X dd_RuleBook_init_32 kc_8 ki_8 tt_RuleBook tk_RuleBook nn_RuleBook (by decide) km_624 rfl H.2.2.2 rfl (tk_RuleBook 1 (by decide)) rfl rfl ec9 ?_
  refine z_aload_n X dd_RuleBook_init_35 rfl 0 rfl ?_
  refine z_aload_n X dd_RuleBook_init_36 rfl 2 rfl ?_
  obtain ⟨c10, ec10, h⟩ := zb h
  refine z_putF (j := 2) X dd_RuleBook_init_37 kc_8 ki_8 tt_RuleBook tk_RuleBook nn_RuleBook (by decide) km_625 rfl H.2.2.2 rfl (tk_RuleBook 2 (by decide)) rfl rfl ec10 ?_
  refine z_iconst (v := 0) X dd_RuleBook_init_40 (by decide) ?_
  refine z_istore_n (lv' := [(3, .int 0), (0, .ref a0), (1, .ref a1), (2, .ref a2)]) X dd_RuleBook_init_41 rfl (by decide) rfl ?_
  refine z_sub [1, 0] rfl ?_
  exact t_RuleBook_init_42 X H h
theorem dd_RuleBook_has_0 : decode bb_RuleBook_has 0 = .ok (.aload_n 0, 1) := by decide +kernel
theorem dd_RuleBook_has_1 : decode bb_RuleBook_has 1 = .ok (.getfield 11, 3) := by decide +kernel
theorem dd_RuleBook_has_4 : decode bb_RuleBook_has 4 = .ok (.iload_n 1, 1) := by decide +kernel
theorem dd_RuleBook_has_5 : decode bb_RuleBook_has 5 = .ok (.aaload, 1) := by decide +kernel
theorem dd_RuleBook_has_6 : decode bb_RuleBook_has 6 = .ok (.getfield 38, 3) := by decide +kernel
theorem dd_RuleBook_has_9 : decode bb_RuleBook_has 9 = .ok (.ireturn, 1) := by decide +kernel
set_option maxRecDepth 100000 in
set_option maxHeartbeats 4000000 in
theorem c_RuleBook_has (l : Launch) {nf : Nat} {a0 : Nat} {a1 : Int32} {c : Zc} {res : Int32 × Zc} (h : f_RuleBook_has nf a0 a1 c = some res) : zM l yy_RuleBook_has ww_RuleBook_has 0 0 0 0 [.ref a0, .int a1] c (fun D cid B => zQi D cid B res.1 res.2 c.length 0) := by
  refine z_met (cc := bb_RuleBook_has) (maxL := 2) (ret := (some (.boolean))) (by decide +kernel) rfl (Nat.le_of_ble_eq_true rfl) ?_
  intro p e s m args below meth cd D cid B X h1 h2 h3 h4
  have X : zX p s m args cd D cid B bb_RuleBook_has 2 rr_RuleBook zT := X
  have H : zH s meth B c.length (some (.boolean)) "has" := ⟨h1, h2, h4, h3⟩
  unfold f_RuleBook_has at h
  show Zz p l e (zRm 0 0 0 0) s m args below meth cd _ D cid B 2 0 0 c 0 [(0, .ref a0), (1, .int a1)] []
  refine z_aload_n X dd_RuleBook_has_0 rfl 0 rfl ?_
  obtain ⟨v1, ev1, h⟩ := zb h
  refine z_get (j := 0) X dd_RuleBook_has_1 kc_8 ki_8 (by decide) km_622 (zgr_v ev1) ?_
  refine z_iload_n X dd_RuleBook_has_4 rfl 1 rfl ?_
  obtain ⟨v2, ev2, h⟩ := zb h
  refine z_aaload X dd_RuleBook_has_5 rfl ev2 ?_
  obtain ⟨v3, ev3, h⟩ := zb h
  refine z_get (j := 0) X dd_RuleBook_has_6 kc_2 ki_2 (by decide) km_299 (zgi_v ev3) ?_
  obtain ⟨hz, h⟩ := zrz_s h
  obtain rfl := h
  exact z_zret X H.1 (zn_z hz) H.2.1 H.2.2.1 dd_RuleBook_has_9
theorem dd_RuleBook_replace_0 : decode bb_RuleBook_replace 0 = .ok (.aload_n 0, 1) := by decide +kernel
theorem dd_RuleBook_replace_1 : decode bb_RuleBook_replace 1 = .ok (.getfield 11, 3) := by decide +kernel
theorem dd_RuleBook_replace_4 : decode bb_RuleBook_replace 4 = .ok (.aload_n 1, 1) := by decide +kernel
theorem dd_RuleBook_replace_5 : decode bb_RuleBook_replace 5 = .ok (.getfield 41, 3) := by decide +kernel
theorem dd_RuleBook_replace_8 : decode bb_RuleBook_replace 8 = .ok (.aaload, 1) := by decide +kernel
theorem dd_RuleBook_replace_9 : decode bb_RuleBook_replace 9 = .ok (.astore_n 2, 1) := by decide +kernel
theorem dd_RuleBook_replace_10 : decode bb_RuleBook_replace 10 = .ok (.aload_n 0, 1) := by decide +kernel
theorem dd_RuleBook_replace_11 : decode bb_RuleBook_replace 11 = .ok (.getfield 11, 3) := by decide +kernel
theorem dd_RuleBook_replace_14 : decode bb_RuleBook_replace 14 = .ok (.aload_n 1, 1) := by decide +kernel
theorem dd_RuleBook_replace_15 : decode bb_RuleBook_replace 15 = .ok (.getfield 41, 3) := by decide +kernel
theorem dd_RuleBook_replace_18 : decode bb_RuleBook_replace 18 = .ok (.aload_n 1, 1) := by decide +kernel
theorem dd_RuleBook_replace_19 : decode bb_RuleBook_replace 19 = .ok (.aastore, 1) := by decide +kernel
theorem dd_RuleBook_replace_20 : decode bb_RuleBook_replace 20 = .ok (.aload_n 2, 1) := by decide +kernel
theorem dd_RuleBook_replace_21 : decode bb_RuleBook_replace 21 = .ok (.areturn, 1) := by decide +kernel
set_option maxRecDepth 100000 in
set_option maxHeartbeats 4000000 in
theorem c_RuleBook_replace (l : Launch) {nf : Nat} {a0 : Nat} {a1 : Nat} {c : Zc} {res : Nat × Zc} (h : f_RuleBook_replace nf a0 a1 c = some res) : zM l yy_RuleBook_replace ww_RuleBook_replace 0 0 0 0 [.ref a0, .ref a1] c (fun D cid B => zQr D cid B res.1 res.2 c.length 0) := by
  refine z_met (cc := bb_RuleBook_replace) (maxL := 3) (ret := (some (.object "PathQueries$Text"))) (by decide +kernel) rfl (Nat.le_of_ble_eq_true rfl) ?_
  intro p e s m args below meth cd D cid B X h1 h2 h3 h4
  have X : zX p s m args cd D cid B bb_RuleBook_replace 3 rr_RuleBook zT := X
  have H : zH s meth B c.length (some (.object "PathQueries$Text")) "replace" := ⟨h1, h2, h4, h3⟩
  unfold f_RuleBook_replace at h
  show Zz p l e (zRm 0 0 0 0) s m args below meth cd _ D cid B 3 0 0 c 0 [(0, .ref a0), (1, .ref a1)] []
  refine z_aload_n X dd_RuleBook_replace_0 rfl 0 rfl ?_
  obtain ⟨v1, ev1, h⟩ := zb h
  refine z_get (j := 0) X dd_RuleBook_replace_1 kc_8 ki_8 (by decide) km_622 (zgr_v ev1) ?_
  refine z_aload_n X dd_RuleBook_replace_4 rfl 1 rfl ?_
  obtain ⟨v2, ev2, h⟩ := zb h
  refine z_get (j := 1) X dd_RuleBook_replace_5 kc_2 ki_2 (by decide) km_303 (zgi_v ev2) ?_
  obtain ⟨v3, ev3, h⟩ := zb h
  refine z_aaload X dd_RuleBook_replace_8 rfl ev3 ?_
  refine z_astore_n (lv' := [(2, .ref v3), (0, .ref a0), (1, .ref a1)]) X dd_RuleBook_replace_9 rfl (by decide) rfl ?_
  refine z_aload_n X dd_RuleBook_replace_10 rfl 1 rfl ?_
  obtain ⟨v4, ev4, h⟩ := zb h
  refine z_get (j := 0) X dd_RuleBook_replace_11 kc_8 ki_8 (by decide) km_622 (zgr_v ev4) ?_
  refine z_aload_n X dd_RuleBook_replace_14 rfl 2 rfl ?_
  obtain ⟨v5, ev5, h⟩ := zb h
  refine z_get (j := 1) X dd_RuleBook_replace_15 kc_2 ki_2 (by decide) km_303 (zgi_v ev5) ?_
  refine z_aload_n X dd_RuleBook_replace_18 rfl 2 rfl ?_
  obtain ⟨c6, ec6, h⟩ := zb h
  refine z_aastore X dd_RuleBook_replace_19 kc_2 rfl ec6 ?_
  refine z_aload_n X dd_RuleBook_replace_20 rfl 0 rfl ?_
  obtain rfl := Option.some.inj h
  exact z_aret X H.1 (Or.inl ⟨_, rfl⟩) H.2.1 H.2.2.1 dd_RuleBook_replace_21
theorem dd_RuleBook_standing_0 : decode bb_RuleBook_standing 0 = .ok (.iconst 0, 1) := by decide +kernel
theorem dd_RuleBook_standing_1 : decode bb_RuleBook_standing 1 = .ok (.istore_n 1, 1) := by decide +kernel
theorem dd_RuleBook_standing_2 : decode bb_RuleBook_standing 2 = .ok (.iconst 0, 1) := by decide +kernel
theorem dd_RuleBook_standing_3 : decode bb_RuleBook_standing 3 = .ok (.istore_n 2, 1) := by decide +kernel
theorem dd_RuleBook_standing_4 : decode bb_RuleBook_standing 4 = .ok (.iload_n 2, 1) := by decide +kernel
theorem dd_RuleBook_standing_5 : decode bb_RuleBook_standing 5 = .ok (.iconst 4, 1) := by decide +kernel
theorem dd_RuleBook_standing_6 : decode bb_RuleBook_standing 6 = .ok (.if_icmp .ge 24, 3) := by decide +kernel
theorem dd_RuleBook_standing_9 : decode bb_RuleBook_standing 9 = .ok (.aload_n 0, 1) := by decide +kernel
theorem dd_RuleBook_standing_10 : decode bb_RuleBook_standing 10 = .ok (.getfield 11, 3) := by decide +kernel
theorem dd_RuleBook_standing_13 : decode bb_RuleBook_standing 13 = .ok (.iload_n 2, 1) := by decide +kernel
theorem dd_RuleBook_standing_14 : decode bb_RuleBook_standing 14 = .ok (.aaload, 1) := by decide +kernel
theorem dd_RuleBook_standing_15 : decode bb_RuleBook_standing 15 = .ok (.getfield 38, 3) := by decide +kernel
theorem dd_RuleBook_standing_18 : decode bb_RuleBook_standing 18 = .ok (.ifCond .eq 6, 3) := by decide +kernel
theorem dd_RuleBook_standing_21 : decode bb_RuleBook_standing 21 = .ok (.iinc 1 1, 3) := by decide +kernel
theorem dd_RuleBook_standing_24 : decode bb_RuleBook_standing 24 = .ok (.iinc 2 1, 3) := by decide +kernel
theorem dd_RuleBook_standing_27 : decode bb_RuleBook_standing 27 = .ok (.goto (-23), 3) := by decide +kernel
theorem dd_RuleBook_standing_30 : decode bb_RuleBook_standing 30 = .ok (.iload_n 1, 1) := by decide +kernel
theorem dd_RuleBook_standing_31 : decode bb_RuleBook_standing 31 = .ok (.ireturn, 1) := by decide +kernel
set_option maxRecDepth 100000 in
set_option maxHeartbeats 4000000 in
theorem t_RuleBook_standing_24  (X : zX p s m args cd D cid B bb_RuleBook_standing 3 rr_RuleBook zT) (H : zH s meth B n0 (some (.int)) "standing") {nf : Nat} {x0 : Nat} {x1 : Int32} {x2 : Int32} {c : Zc} {r : (Nat × Int32 × Int32 × Zc) ⊕ (Int32 × Zc)} (h : f_RuleBook_standing_24 nf x0 x1 x2 c = some r) (k0 : ∀ a, r = .inl a → (fun a : Nat × Int32 × Int32 × Zc => Zz p l e (zRm 0 0 0 0) s m args below meth cd Q D cid B 3 0 0 a.2.2.2 4 [(0, .ref a.1), (1, .int a.2.1), (2, .int a.2.2.1)] []) a) (k1 : ∀ b, r = .inr b → (fun b : Int32 × Zc => Zz p l e (zRm 0 0 0 0) s m args below meth cd Q D cid B 3 0 0 b.2 30 [(1, .int b.1)] []) b) : Zz p l e (zRm 0 0 0 0) s m args below meth cd Q D cid B 3 0 0 c 24 [(0, .ref x0), (1, .int x1), (2, .int x2)] [] := by
  unfold f_RuleBook_standing_24 at h
  refine z_iinc (v := (x2 + 1)) (lv' := [(2, .int (x2 + 1)), (0, .ref x0), (1, .int x1)]) X dd_RuleBook_standing_24 2 rfl rfl (by decide) rfl ?_
  refine z_goto (tgt := 4) X dd_RuleBook_standing_27 (by decide) ?_
  refine z_sub [1, 2, 0] rfl ?_
  obtain rfl := Option.some.inj h
  exact k0 _ rfl
set_option maxRecDepth 100000 in
set_option maxHeartbeats 4000000 in
theorem u_RuleBook_standing_4  (X : zX p s m args cd D cid B bb_RuleBook_standing 3 rr_RuleBook zT) (H : zH s meth B n0 (some (.int)) "standing") {nf : Nat} {x0 : Nat} {x1 : Int32} {x2 : Int32} {c : Zc} {r : (Nat × Int32 × Int32 × Zc) ⊕ (Int32 × Zc)} (h : g_RuleBook_standing_4 nf x0 x1 x2 c = some r) (k0 : ∀ a, r = .inl a → (fun a : Nat × Int32 × Int32 × Zc => Zz p l e (zRm 0 0 0 0) s m args below meth cd Q D cid B 3 0 0 a.2.2.2 4 [(0, .ref a.1), (1, .int a.2.1), (2, .int a.2.2.1)] []) a) (k1 : ∀ b, r = .inr b → (fun b : Int32 × Zc => Zz p l e (zRm 0 0 0 0) s m args below meth cd Q D cid B 3 0 0 b.2 30 [(1, .int b.1)] []) b) : Zz p l e (zRm 0 0 0 0) s m args below meth cd Q D cid B 3 0 0 c 4 [(0, .ref x0), (1, .int x1), (2, .int x2)] [] := by
  unfold g_RuleBook_standing_4 at h
  refine z_iload_n X dd_RuleBook_standing_4 rfl 2 rfl ?_
  refine z_iconst (v := 4) X dd_RuleBook_standing_5 (by decide) ?_
  refine z_icmp_ge (tgt := 30) X dd_RuleBook_standing_6 (by decide) (fun q1 => ?_) (fun q1 => ?_)
  · rw [if_pos q1] at h
    refine z_sub [1] rfl ?_
    obtain rfl := Option.some.inj h
    exact k1 _ rfl
  · rw [if_neg q1] at h
    refine z_aload_n X dd_RuleBook_standing_9 rfl 0 rfl ?_
    obtain ⟨v2, ev2, h⟩ := zb h
    refine z_get (j := 0) X dd_RuleBook_standing_10 kc_8 ki_8 (by decide) km_622 (zgr_v ev2) ?_
    refine z_iload_n X dd_RuleBook_standing_13 rfl 2 rfl ?_
    obtain ⟨v3, ev3, h⟩ := zb h
    refine z_aaload X dd_RuleBook_standing_14 rfl ev3 ?_
    obtain ⟨v4, ev4, h⟩ := zb h
    refine z_get (j := 0) X dd_RuleBook_standing_15 kc_2 ki_2 (by decide) km_299 (zgi_v ev4) ?_
    refine z_if_eq (tgt := 24) X dd_RuleBook_standing_18 (by decide) (fun q5 => ?_) (fun q5 => ?_)
    · rw [if_pos q5] at h
      exact t_RuleBook_standing_24 X H h k0 k1
    · rw [if_neg q5] at h
      refine z_iinc (v := (x1 + 1)) (lv' := [(1, .int (x1 + 1)), (0, .ref x0), (2, .int x2)]) X dd_RuleBook_standing_21 1 rfl rfl (by decide) rfl ?_
      refine z_sub [1, 0, 2] rfl ?_
      exact t_RuleBook_standing_24 X H h k0 k1
set_option maxRecDepth 100000 in
set_option maxHeartbeats 4000000 in
theorem t_RuleBook_standing_4  (X : zX p s m args cd D cid B bb_RuleBook_standing 3 rr_RuleBook zT) (H : zH s meth B n0 (some (.int)) "standing") {nf : Nat} {x0 : Nat} {x1 : Int32} {x2 : Int32} {c : Zc} {res : Int32 × Zc} (h : f_RuleBook_standing_4 nf x0 x1 x2 c = some res) : Zz p l e (zRm 0 0 0 0) s m args below meth cd (MQ below (zQi D cid B res.1 res.2 n0 0) args s 0 0 (fun q => B ≤ q)) D cid B 3 0 0 c 4 [(0, .ref x0), (1, .int x1), (2, .int x2)] [] := by
  unfold f_RuleBook_standing_4 at h
  obtain ⟨b, eb, h⟩ := zb h
  refine zlp_ok (P := fun a : Nat × Int32 × Int32 × Zc => Zz p l e (zRm 0 0 0 0) s m args below meth cd _ D cid B 3 0 0 a.2.2.2 4 [(0, .ref a.1), (1, .int a.2.1), (2, .int a.2.2.1)] []) (G := fun b : Int32 × Zc => Zz p l e (zRm 0 0 0 0) s m args below meth cd _ D cid B 3 0 0 b.2 30 [(1, .int b.1)] []) (fun a r ha k0 k1 => u_RuleBook_standing_4 X H ha k0 k1) nf _ b eb ?_
  refine z_iload_n X dd_RuleBook_standing_30 rfl 0 rfl ?_
  obtain rfl := Option.some.inj h
  exact z_iret X H.1 H.2.1 H.2.2.1 dd_RuleBook_standing_31
set_option maxRecDepth 100000 in
set_option maxHeartbeats 4000000 in
theorem c_RuleBook_standing (l : Launch) {nf : Nat} {a0 : Nat} {c : Zc} {res : Int32 × Zc} (h : f_RuleBook_standing nf a0 c = some res) : zM l yy_RuleBook_standing ww_RuleBook_standing 0 0 0 0 [.ref a0] c (fun D cid B => zQi D cid B res.1 res.2 c.length 0) := by
  refine z_met (cc := bb_RuleBook_standing) (maxL := 3) (ret := (some (.int))) (by decide +kernel) rfl (Nat.le_of_ble_eq_true rfl) ?_
  intro p e s m args below meth cd D cid B X h1 h2 h3 h4
  have X : zX p s m args cd D cid B bb_RuleBook_standing 3 rr_RuleBook zT := X
  have H : zH s meth B c.length (some (.int)) "standing" := ⟨h1, h2, h4, h3⟩
  unfold f_RuleBook_standing at h
  show Zz p l e (zRm 0 0 0 0) s m args below meth cd _ D cid B 3 0 0 c 0 [(0, .ref a0)] []
  refine z_iconst (v := 0) X dd_RuleBook_standing_0 (by decide) ?_
  refine z_istore_n (lv' := [(1, .int 0), (0, .ref a0)]) X dd_RuleBook_standing_1 rfl (by decide) rfl ?_
  refine z_iconst (v := 0) X dd_RuleBook_standing_2 (by decide) ?_
  refine z_istore_n (lv' := [(2, .int 0), (1, .int 0), (0, .ref a0)]) X dd_RuleBook_standing_3 rfl (by decide) rfl ?_
  refine z_sub [2, 1, 0] rfl ?_
  exact t_RuleBook_standing_4 X H h
theorem dd_RuleBook_workOfAll_0 : decode bb_RuleBook_workOfAll 0 = .ok (.lconst 0, 1) := by decide +kernel
theorem dd_RuleBook_workOfAll_1 : decode bb_RuleBook_workOfAll 1 = .ok (.lstore_n 1, 1) := by decide +kernel
theorem dd_RuleBook_workOfAll_2 : decode bb_RuleBook_workOfAll 2 = .ok (.iconst 0, 1) := by decide +kernel
theorem dd_RuleBook_workOfAll_3 : decode bb_RuleBook_workOfAll 3 = .ok (.istore_n 3, 1) := by decide +kernel
theorem dd_RuleBook_workOfAll_4 : decode bb_RuleBook_workOfAll 4 = .ok (.iload_n 3, 1) := by decide +kernel
theorem dd_RuleBook_workOfAll_5 : decode bb_RuleBook_workOfAll 5 = .ok (.iconst 4, 1) := by decide +kernel
theorem dd_RuleBook_workOfAll_6 : decode bb_RuleBook_workOfAll 6 = .ok (.if_icmp .ge 40, 3) := by decide +kernel
theorem dd_RuleBook_workOfAll_9 : decode bb_RuleBook_workOfAll 9 = .ok (.aload_n 0, 1) := by decide +kernel
theorem dd_RuleBook_workOfAll_10 : decode bb_RuleBook_workOfAll 10 = .ok (.getfield 11, 3) := by decide +kernel
theorem dd_RuleBook_workOfAll_13 : decode bb_RuleBook_workOfAll 13 = .ok (.iload_n 3, 1) := by decide +kernel
theorem dd_RuleBook_workOfAll_14 : decode bb_RuleBook_workOfAll 14 = .ok (.aaload, 1) := by decide +kernel
theorem dd_RuleBook_workOfAll_15 : decode bb_RuleBook_workOfAll 15 = .ok (.getfield 38, 3) := by decide +kernel
theorem dd_RuleBook_workOfAll_18 : decode bb_RuleBook_workOfAll 18 = .ok (.ifCond .eq 22, 3) := by decide +kernel
theorem dd_RuleBook_workOfAll_21 : decode bb_RuleBook_workOfAll 21 = .ok (.lload_n 1, 1) := by decide +kernel
theorem dd_RuleBook_workOfAll_22 : decode bb_RuleBook_workOfAll 22 = .ok (.aload_n 0, 1) := by decide +kernel
theorem dd_RuleBook_workOfAll_23 : decode bb_RuleBook_workOfAll 23 = .ok (.getfield 11, 3) := by decide +kernel
theorem dd_RuleBook_workOfAll_26 : decode bb_RuleBook_workOfAll 26 = .ok (.iload_n 3, 1) := by decide +kernel
theorem dd_RuleBook_workOfAll_27 : decode bb_RuleBook_workOfAll 27 = .ok (.aaload, 1) := by decide +kernel
theorem dd_RuleBook_workOfAll_28 : decode bb_RuleBook_workOfAll 28 = .ok (.aload_n 0, 1) := by decide +kernel
theorem dd_RuleBook_workOfAll_29 : decode bb_RuleBook_workOfAll 29 = .ok (.getfield 29, 3) := by decide +kernel
theorem dd_RuleBook_workOfAll_32 : decode bb_RuleBook_workOfAll 32 = .ok (.getfield 69, 3) := by decide +kernel
theorem dd_RuleBook_workOfAll_35 : decode bb_RuleBook_workOfAll 35 = .ok (.invokevirtual 72, 3) := by decide +kernel
theorem dd_RuleBook_workOfAll_38 : decode bb_RuleBook_workOfAll 38 = .ok (.ladd, 1) := by decide +kernel
theorem dd_RuleBook_workOfAll_39 : decode bb_RuleBook_workOfAll 39 = .ok (.lstore_n 1, 1) := by decide +kernel
theorem dd_RuleBook_workOfAll_40 : decode bb_RuleBook_workOfAll 40 = .ok (.iinc 3 1, 3) := by decide +kernel
theorem dd_RuleBook_workOfAll_43 : decode bb_RuleBook_workOfAll 43 = .ok (.goto (-39), 3) := by decide +kernel
theorem dd_RuleBook_workOfAll_46 : decode bb_RuleBook_workOfAll 46 = .ok (.lload_n 1, 1) := by decide +kernel
theorem dd_RuleBook_workOfAll_47 : decode bb_RuleBook_workOfAll 47 = .ok (.lreturn, 1) := by decide +kernel
set_option maxRecDepth 100000 in
set_option maxHeartbeats 4000000 in
theorem t_RuleBook_workOfAll_40  (X : zX p s m args cd D cid B bb_RuleBook_workOfAll 4 rr_RuleBook zT) (H : zH s meth B n0 (some (.long)) "workOfAll") {nf : Nat} {x0 : Nat} {x1 : Int64} {x3 : Int32} {c : Zc} {r : (Nat × Int64 × Int32 × Zc) ⊕ (Int64 × Zc)} (h : f_RuleBook_workOfAll_40 nf x0 x1 x3 c = some r) (k0 : ∀ a, r = .inl a → (fun a : Nat × Int64 × Int32 × Zc => Zz p l e (zRm 1 24 0 0) s m args below meth cd Q D cid B 4 0 0 a.2.2.2 4 [(0, .ref a.1), (1, .long a.2.1), (3, .int a.2.2.1)] []) a) (k1 : ∀ b, r = .inr b → (fun b : Int64 × Zc => Zz p l e (zRm 1 24 0 0) s m args below meth cd Q D cid B 4 0 0 b.2 46 [(1, .long b.1)] []) b) : Zz p l e (zRm 1 24 0 0) s m args below meth cd Q D cid B 4 0 0 c 40 [(0, .ref x0), (1, .long x1), (3, .int x3)] [] := by
  unfold f_RuleBook_workOfAll_40 at h
  refine z_iinc (v := (x3 + 1)) (lv' := [(3, .int (x3 + 1)), (0, .ref x0), (1, .long x1)]) X dd_RuleBook_workOfAll_40 2 rfl rfl (by decide) rfl ?_
  refine z_goto (tgt := 4) X dd_RuleBook_workOfAll_43 (by decide) ?_
  refine z_sub [1, 2, 0] rfl ?_
  obtain rfl := Option.some.inj h
  exact k0 _ rfl
set_option maxRecDepth 100000 in
set_option maxHeartbeats 4000000 in
theorem u_RuleBook_workOfAll_4  (X : zX p s m args cd D cid B bb_RuleBook_workOfAll 4 rr_RuleBook zT) (H : zH s meth B n0 (some (.long)) "workOfAll") {nf : Nat} {x0 : Nat} {x1 : Int64} {x3 : Int32} {c : Zc} {r : (Nat × Int64 × Int32 × Zc) ⊕ (Int64 × Zc)} (h : g_RuleBook_workOfAll_4 nf x0 x1 x3 c = some r) (k0 : ∀ a, r = .inl a → (fun a : Nat × Int64 × Int32 × Zc => Zz p l e (zRm 1 24 0 0) s m args below meth cd Q D cid B 4 0 0 a.2.2.2 4 [(0, .ref a.1), (1, .long a.2.1), (3, .int a.2.2.1)] []) a) (k1 : ∀ b, r = .inr b → (fun b : Int64 × Zc => Zz p l e (zRm 1 24 0 0) s m args below meth cd Q D cid B 4 0 0 b.2 46 [(1, .long b.1)] []) b) : Zz p l e (zRm 1 24 0 0) s m args below meth cd Q D cid B 4 0 0 c 4 [(0, .ref x0), (1, .long x1), (3, .int x3)] [] := by
  unfold g_RuleBook_workOfAll_4 at h
  refine z_iload_n X dd_RuleBook_workOfAll_4 rfl 2 rfl ?_
  refine z_iconst (v := 4) X dd_RuleBook_workOfAll_5 (by decide) ?_
  refine z_icmp_ge (tgt := 46) X dd_RuleBook_workOfAll_6 (by decide) (fun q1 => ?_) (fun q1 => ?_)
  · rw [if_pos q1] at h
    refine z_sub [1] rfl ?_
    obtain rfl := Option.some.inj h
    exact k1 _ rfl
  · rw [if_neg q1] at h
    refine z_aload_n X dd_RuleBook_workOfAll_9 rfl 0 rfl ?_
    obtain ⟨v2, ev2, h⟩ := zb h
    refine z_get (j := 0) X dd_RuleBook_workOfAll_10 kc_8 ki_8 (by decide) km_622 (zgr_v ev2) ?_
    refine z_iload_n X dd_RuleBook_workOfAll_13 rfl 2 rfl ?_
    obtain ⟨v3, ev3, h⟩ := zb h
    refine z_aaload X dd_RuleBook_workOfAll_14 rfl ev3 ?_
    obtain ⟨v4, ev4, h⟩ := zb h
    refine z_get (j := 0) X dd_RuleBook_workOfAll_15 kc_2 ki_2 (by decide) km_299 (zgi_v ev4) ?_
    refine z_if_eq (tgt := 40) X dd_RuleBook_workOfAll_18 (by decide) (fun q5 => ?_) (fun q5 => ?_)
    · rw [if_pos q5] at h
      exact t_RuleBook_workOfAll_40 X H h k0 k1
    · rw [if_neg q5] at h
      refine z_lload_n X dd_RuleBook_workOfAll_21 rfl 1 rfl ?_
      refine z_aload_n X dd_RuleBook_workOfAll_22 rfl 0 rfl ?_
      obtain ⟨v6, ev6, h⟩ := zb h
      refine z_get (j := 0) X dd_RuleBook_workOfAll_23 kc_8 ki_8 (by decide) km_622 (zgr_v ev6) ?_
      refine z_iload_n X dd_RuleBook_workOfAll_26 rfl 2 rfl ?_
      obtain ⟨v7, ev7, h⟩ := zb h
      refine z_aaload X dd_RuleBook_workOfAll_27 rfl ev7 ?_
      refine z_aload_n X dd_RuleBook_workOfAll_28 rfl 0 rfl ?_
      obtain ⟨v8, ev8, h⟩ := zb h
      refine z_get (j := 1) X dd_RuleBook_workOfAll_29 kc_8 ki_8 (by decide) km_624 (zgr_v ev8) ?_
      obtain ⟨v9, ev9, h⟩ := zb h
      refine z_get (j := 7) X dd_RuleBook_workOfAll_32 kc_0 ki_0 (by decide) km_175 (zgi_v ev9) ?_
      obtain ⟨w11, ew11, h⟩ := zb h
      obtain ⟨q10, eq10, h⟩ := zb h
      refine z_callVl X [.int v9] rfl dd_RuleBook_workOfAll_35 (c_Text_work l eq10) (cwV 1 X.1.2.2.2.2 (zg_V km_1270 km_1271 km_1272 km_128 km_1273) rfl rfl rfl (by decide +kernel) ⟨Nat.le_of_ble_eq_true rfl, Nat.le_of_ble_eq_true rfl⟩) (zob_s ew11) kc_2 rfl (Nat.le_of_ble_eq_true rfl) ⟨Nat.le_of_ble_eq_true rfl, Nat.le_of_ble_eq_true rfl⟩ ?_
      refine z_ladd X dd_RuleBook_workOfAll_38 ?_
      refine z_lstore_n (lv' := [(1, .long (x1 + q10.1)), (0, .ref x0), (3, .int x3)]) X dd_RuleBook_workOfAll_39 rfl (by decide) rfl ?_
      refine z_sub [1, 0, 2] rfl ?_
      exact t_RuleBook_workOfAll_40 X H h k0 k1
set_option maxRecDepth 100000 in
set_option maxHeartbeats 4000000 in
theorem t_RuleBook_workOfAll_4  (X : zX p s m args cd D cid B bb_RuleBook_workOfAll 4 rr_RuleBook zT) (H : zH s meth B n0 (some (.long)) "workOfAll") {nf : Nat} {x0 : Nat} {x1 : Int64} {x3 : Int32} {c : Zc} {res : Int64 × Zc} (h : f_RuleBook_workOfAll_4 nf x0 x1 x3 c = some res) : Zz p l e (zRm 1 24 0 0) s m args below meth cd (MQ below (zQl D cid B res.1 res.2 n0 0) args s 0 0 (fun q => B ≤ q)) D cid B 4 0 0 c 4 [(0, .ref x0), (1, .long x1), (3, .int x3)] [] := by
  unfold f_RuleBook_workOfAll_4 at h
  obtain ⟨b, eb, h⟩ := zb h
  refine zlp_ok (P := fun a : Nat × Int64 × Int32 × Zc => Zz p l e (zRm 1 24 0 0) s m args below meth cd _ D cid B 4 0 0 a.2.2.2 4 [(0, .ref a.1), (1, .long a.2.1), (3, .int a.2.2.1)] []) (G := fun b : Int64 × Zc => Zz p l e (zRm 1 24 0 0) s m args below meth cd _ D cid B 4 0 0 b.2 46 [(1, .long b.1)] []) (fun a r ha k0 k1 => u_RuleBook_workOfAll_4 X H ha k0 k1) nf _ b eb ?_
  refine z_lload_n X dd_RuleBook_workOfAll_46 rfl 0 rfl ?_
  obtain rfl := Option.some.inj h
  exact z_lret X H.1 H.2.1 H.2.2.1 dd_RuleBook_workOfAll_47
set_option maxRecDepth 100000 in
set_option maxHeartbeats 4000000 in
theorem c_RuleBook_workOfAll (l : Launch) {nf : Nat} {a0 : Nat} {c : Zc} {res : Int64 × Zc} (h : f_RuleBook_workOfAll nf a0 c = some res) : zM l yy_RuleBook_workOfAll ww_RuleBook_workOfAll 1 24 0 0 [.ref a0] c (fun D cid B => zQl D cid B res.1 res.2 c.length 0) := by
  refine z_met (cc := bb_RuleBook_workOfAll) (maxL := 4) (ret := (some (.long))) (by decide +kernel) rfl (Nat.le_of_ble_eq_true rfl) ?_
  intro p e s m args below meth cd D cid B X h1 h2 h3 h4
  have X : zX p s m args cd D cid B bb_RuleBook_workOfAll 4 rr_RuleBook zT := X
  have H : zH s meth B c.length (some (.long)) "workOfAll" := ⟨h1, h2, h4, h3⟩
  unfold f_RuleBook_workOfAll at h
  show Zz p l e (zRm 1 24 0 0) s m args below meth cd _ D cid B 4 0 0 c 0 [(0, .ref a0)] []
  refine z_lconst (v := 0) X dd_RuleBook_workOfAll_0 (by decide) ?_
  refine z_lstore_n (lv' := [(1, .long 0), (0, .ref a0)]) X dd_RuleBook_workOfAll_1 rfl (by decide) rfl ?_
  refine z_iconst (v := 0) X dd_RuleBook_workOfAll_2 (by decide) ?_
  refine z_istore_n (lv' := [(3, .int 0), (1, .long 0), (0, .ref a0)]) X dd_RuleBook_workOfAll_3 rfl (by decide) rfl ?_
  refine z_sub [2, 1, 0] rfl ?_
  exact t_RuleBook_workOfAll_4 X H h
theorem dd_RuleBook_isOneLarge_0 : decode bb_RuleBook_isOneLarge 0 = .ok (.iconst 0, 1) := by decide +kernel
theorem dd_RuleBook_isOneLarge_1 : decode bb_RuleBook_isOneLarge 1 = .ok (.istore_n 1, 1) := by decide +kernel
theorem dd_RuleBook_isOneLarge_2 : decode bb_RuleBook_isOneLarge 2 = .ok (.iload_n 1, 1) := by decide +kernel
theorem dd_RuleBook_isOneLarge_3 : decode bb_RuleBook_isOneLarge 3 = .ok (.iconst 4, 1) := by decide +kernel
theorem dd_RuleBook_isOneLarge_4 : decode bb_RuleBook_isOneLarge 4 = .ok (.if_icmp .ge 46, 3) := by decide +kernel
theorem dd_RuleBook_isOneLarge_7 : decode bb_RuleBook_isOneLarge 7 = .ok (.aload_n 0, 1) := by decide +kernel
theorem dd_RuleBook_isOneLarge_8 : decode bb_RuleBook_isOneLarge 8 = .ok (.getfield 11, 3) := by decide +kernel
theorem dd_RuleBook_isOneLarge_11 : decode bb_RuleBook_isOneLarge 11 = .ok (.iload_n 1, 1) := by decide +kernel
theorem dd_RuleBook_isOneLarge_12 : decode bb_RuleBook_isOneLarge 12 = .ok (.aaload, 1) := by decide +kernel
theorem dd_RuleBook_isOneLarge_13 : decode bb_RuleBook_isOneLarge 13 = .ok (.getfield 38, 3) := by decide +kernel
theorem dd_RuleBook_isOneLarge_16 : decode bb_RuleBook_isOneLarge 16 = .ok (.ifCond .eq 28, 3) := by decide +kernel
theorem dd_RuleBook_isOneLarge_19 : decode bb_RuleBook_isOneLarge 19 = .ok (.aload_n 0, 1) := by decide +kernel
theorem dd_RuleBook_isOneLarge_20 : decode bb_RuleBook_isOneLarge 20 = .ok (.getfield 11, 3) := by decide +kernel
theorem dd_RuleBook_isOneLarge_23 : decode bb_RuleBook_isOneLarge 23 = .ok (.iload_n 1, 1) := by decide +kernel
theorem dd_RuleBook_isOneLarge_24 : decode bb_RuleBook_isOneLarge 24 = .ok (.aaload, 1) := by decide +kernel
theorem dd_RuleBook_isOneLarge_25 : decode bb_RuleBook_isOneLarge 25 = .ok (.aload_n 0, 1) := by decide +kernel
theorem dd_RuleBook_isOneLarge_26 : decode bb_RuleBook_isOneLarge 26 = .ok (.getfield 29, 3) := by decide +kernel
theorem dd_RuleBook_isOneLarge_29 : decode bb_RuleBook_isOneLarge 29 = .ok (.getfield 69, 3) := by decide +kernel
theorem dd_RuleBook_isOneLarge_32 : decode bb_RuleBook_isOneLarge 32 = .ok (.invokevirtual 72, 3) := by decide +kernel
theorem dd_RuleBook_isOneLarge_35 : decode bb_RuleBook_isOneLarge 35 = .ok (.ldc2_w 76, 3) := by decide +kernel
theorem dd_RuleBook_isOneLarge_38 : decode bb_RuleBook_isOneLarge 38 = .ok (.lcmp, 1) := by decide +kernel
theorem dd_RuleBook_isOneLarge_39 : decode bb_RuleBook_isOneLarge 39 = .ok (.ifCond .le 5, 3) := by decide +kernel
theorem dd_RuleBook_isOneLarge_42 : decode bb_RuleBook_isOneLarge 42 = .ok (.iconst 1, 1) := by decide +kernel
theorem dd_RuleBook_isOneLarge_43 : decode bb_RuleBook_isOneLarge 43 = .ok (.ireturn, 1) := by decide +kernel
theorem dd_RuleBook_isOneLarge_44 : decode bb_RuleBook_isOneLarge 44 = .ok (.iinc 1 1, 3) := by decide +kernel
theorem dd_RuleBook_isOneLarge_47 : decode bb_RuleBook_isOneLarge 47 = .ok (.goto (-45), 3) := by decide +kernel
theorem dd_RuleBook_isOneLarge_50 : decode bb_RuleBook_isOneLarge 50 = .ok (.iconst 0, 1) := by decide +kernel
theorem dd_RuleBook_isOneLarge_51 : decode bb_RuleBook_isOneLarge 51 = .ok (.ireturn, 1) := by decide +kernel
set_option maxRecDepth 100000 in
set_option maxHeartbeats 4000000 in
theorem t_RuleBook_isOneLarge_44  (X : zX p s m args cd D cid B bb_RuleBook_isOneLarge 2 rr_RuleBook zT) (H : zH s meth B n0 (some (.boolean)) "isOneLarge") {nf : Nat} {x0 : Nat} {x1 : Int32} {c : Zc} {r : (Nat × Int32 × Zc) ⊕ ((Zc) ⊕ (Zc))} (h : f_RuleBook_isOneLarge_44 nf x0 x1 c = some r) (k0 : ∀ a, r = .inl a → (fun a : Nat × Int32 × Zc => Zz p l e (zRm 1 24 0 0) s m args below meth cd Q D cid B 2 0 0 a.2.2 2 [(0, .ref a.1), (1, .int a.2.1)] []) a) (k1 : ∀ b, r = .inr b → (fun b : (Zc) ⊕ (Zc) => Sum.elim (fun b => Zz p l e (zRm 1 24 0 0) s m args below meth cd Q D cid B 2 0 0 b 42 [] []) (fun b => Zz p l e (zRm 1 24 0 0) s m args below meth cd Q D cid B 2 0 0 b 50 [] []) b) b) : Zz p l e (zRm 1 24 0 0) s m args below meth cd Q D cid B 2 0 0 c 44 [(0, .ref x0), (1, .int x1)] [] := by
  unfold f_RuleBook_isOneLarge_44 at h
  refine z_iinc (v := (x1 + 1)) (lv' := [(1, .int (x1 + 1)), (0, .ref x0)]) X dd_RuleBook_isOneLarge_44 1 rfl rfl (by decide) rfl ?_
  refine z_goto (tgt := 2) X dd_RuleBook_isOneLarge_47 (by decide) ?_
  refine z_sub [1, 0] rfl ?_
  obtain rfl := Option.some.inj h
  exact k0 _ rfl
set_option maxRecDepth 100000 in
set_option maxHeartbeats 4000000 in
theorem u_RuleBook_isOneLarge_2  (X : zX p s m args cd D cid B bb_RuleBook_isOneLarge 2 rr_RuleBook zT) (H : zH s meth B n0 (some (.boolean)) "isOneLarge") {nf : Nat} {x0 : Nat} {x1 : Int32} {c : Zc} {r : (Nat × Int32 × Zc) ⊕ ((Zc) ⊕ (Zc))} (h : g_RuleBook_isOneLarge_2 nf x0 x1 c = some r) (k0 : ∀ a, r = .inl a → (fun a : Nat × Int32 × Zc => Zz p l e (zRm 1 24 0 0) s m args below meth cd Q D cid B 2 0 0 a.2.2 2 [(0, .ref a.1), (1, .int a.2.1)] []) a) (k1 : ∀ b, r = .inr b → (fun b : (Zc) ⊕ (Zc) => Sum.elim (fun b => Zz p l e (zRm 1 24 0 0) s m args below meth cd Q D cid B 2 0 0 b 42 [] []) (fun b => Zz p l e (zRm 1 24 0 0) s m args below meth cd Q D cid B 2 0 0 b 50 [] []) b) b) : Zz p l e (zRm 1 24 0 0) s m args below meth cd Q D cid B 2 0 0 c 2 [(0, .ref x0), (1, .int x1)] [] := by
  unfold g_RuleBook_isOneLarge_2 at h
  refine z_iload_n X dd_RuleBook_isOneLarge_2 rfl 1 rfl ?_
  refine z_iconst (v := 4) X dd_RuleBook_isOneLarge_3 (by decide) ?_
  refine z_icmp_ge (tgt := 50) X dd_RuleBook_isOneLarge_4 (by decide) (fun q1 => ?_) (fun q1 => ?_)
  · rw [if_pos q1] at h
    refine z_sub [] rfl ?_
    obtain rfl := Option.some.inj h
    exact k1 _ rfl
  · rw [if_neg q1] at h
    refine z_aload_n X dd_RuleBook_isOneLarge_7 rfl 0 rfl ?_
    obtain ⟨v2, ev2, h⟩ := zb h
    refine z_get (j := 0) X dd_RuleBook_isOneLarge_8 kc_8 ki_8 (by decide) km_622 (zgr_v ev2) ?_
    refine z_iload_n X dd_RuleBook_isOneLarge_11 rfl 1 rfl ?_
    obtain ⟨v3, ev3, h⟩ := zb h
    refine z_aaload X dd_RuleBook_isOneLarge_12 rfl ev3 ?_
    obtain ⟨v4, ev4, h⟩ := zb h
    refine z_get (j := 0) X dd_RuleBook_isOneLarge_13 kc_2 ki_2 (by decide) km_299 (zgi_v ev4) ?_
    refine z_if_eq (tgt := 44) X dd_RuleBook_isOneLarge_16 (by decide) (fun q5 => ?_) (fun q5 => ?_)
    · rw [if_pos q5] at h
      exact t_RuleBook_isOneLarge_44 X H h k0 k1
    · rw [if_neg q5] at h
      refine z_aload_n X dd_RuleBook_isOneLarge_19 rfl 0 rfl ?_
      obtain ⟨v6, ev6, h⟩ := zb h
      refine z_get (j := 0) X dd_RuleBook_isOneLarge_20 kc_8 ki_8 (by decide) km_622 (zgr_v ev6) ?_
      refine z_iload_n X dd_RuleBook_isOneLarge_23 rfl 1 rfl ?_
      obtain ⟨v7, ev7, h⟩ := zb h
      refine z_aaload X dd_RuleBook_isOneLarge_24 rfl ev7 ?_
      refine z_aload_n X dd_RuleBook_isOneLarge_25 rfl 0 rfl ?_
      obtain ⟨v8, ev8, h⟩ := zb h
      refine z_get (j := 1) X dd_RuleBook_isOneLarge_26 kc_8 ki_8 (by decide) km_624 (zgr_v ev8) ?_
      obtain ⟨v9, ev9, h⟩ := zb h
      refine z_get (j := 7) X dd_RuleBook_isOneLarge_29 kc_0 ki_0 (by decide) km_175 (zgi_v ev9) ?_
      obtain ⟨w11, ew11, h⟩ := zb h
      obtain ⟨q10, eq10, h⟩ := zb h
      refine z_callVl X [.int v9] rfl dd_RuleBook_isOneLarge_32 (c_Text_work l eq10) (cwV 1 X.1.2.2.2.2 (zg_V km_1270 km_1271 km_1272 km_128 km_1273) rfl rfl rfl (by decide +kernel) ⟨Nat.le_of_ble_eq_true rfl, Nat.le_of_ble_eq_true rfl⟩) (zob_s ew11) kc_2 rfl (Nat.le_of_ble_eq_true rfl) ⟨Nat.le_of_ble_eq_true rfl, Nat.le_of_ble_eq_true rfl⟩ ?_
      refine z_ldc2 (v := 20000) X dd_RuleBook_isOneLarge_35 km_1279 ?_
      refine z_lcmp X dd_RuleBook_isOneLarge_38 ?_
      refine z_if_le (tgt := 44) X dd_RuleBook_isOneLarge_39 (by decide) (fun q12 => ?_) (fun q12 => ?_)
      · rw [if_pos q12] at h
        exact t_RuleBook_isOneLarge_44 X H h k0 k1
      · rw [if_neg q12] at h
        refine z_sub [] rfl ?_
        obtain rfl := Option.some.inj h
        exact k1 _ rfl
set_option maxRecDepth 100000 in
set_option maxHeartbeats 4000000 in
theorem t_RuleBook_isOneLarge_2  (X : zX p s m args cd D cid B bb_RuleBook_isOneLarge 2 rr_RuleBook zT) (H : zH s meth B n0 (some (.boolean)) "isOneLarge") {nf : Nat} {x0 : Nat} {x1 : Int32} {c : Zc} {res : Int32 × Zc} (h : f_RuleBook_isOneLarge_2 nf x0 x1 c = some res) : Zz p l e (zRm 1 24 0 0) s m args below meth cd (MQ below (zQi D cid B res.1 res.2 n0 0) args s 0 0 (fun q => B ≤ q)) D cid B 2 0 0 c 2 [(0, .ref x0), (1, .int x1)] [] := by
  unfold f_RuleBook_isOneLarge_2 at h
  obtain ⟨b, eb, h⟩ := zb h
  refine zlp_ok (P := fun a : Nat × Int32 × Zc => Zz p l e (zRm 1 24 0 0) s m args below meth cd _ D cid B 2 0 0 a.2.2 2 [(0, .ref a.1), (1, .int a.2.1)] []) (G := fun b : (Zc) ⊕ (Zc) => Sum.elim (fun b => Zz p l e (zRm 1 24 0 0) s m args below meth cd _ D cid B 2 0 0 b 42 [] []) (fun b => Zz p l e (zRm 1 24 0 0) s m args below meth cd _ D cid B 2 0 0 b 50 [] []) b) (fun a r ha k0 k1 => u_RuleBook_isOneLarge_2 X H ha k0 k1) nf _ b eb ?_
  rcases b with b | b
  · simp only [Sum.elim_inl] at h ⊢
    refine z_iconst (v := 1) X dd_RuleBook_isOneLarge_42 (by decide) ?_
    obtain ⟨hz, h⟩ := zrz_s h
    obtain rfl := h
    exact z_zret X H.1 (zn_z hz) H.2.1 H.2.2.1 dd_RuleBook_isOneLarge_43
  · simp only [Sum.elim_inr] at h ⊢
    refine z_iconst (v := 0) X dd_RuleBook_isOneLarge_50 (by decide) ?_
    obtain ⟨hz, h⟩ := zrz_s h
    obtain rfl := h
    exact z_zret X H.1 (zn_z hz) H.2.1 H.2.2.1 dd_RuleBook_isOneLarge_51
set_option maxRecDepth 100000 in
set_option maxHeartbeats 4000000 in
theorem c_RuleBook_isOneLarge (l : Launch) {nf : Nat} {a0 : Nat} {c : Zc} {res : Int32 × Zc} (h : f_RuleBook_isOneLarge nf a0 c = some res) : zM l yy_RuleBook_isOneLarge ww_RuleBook_isOneLarge 1 24 0 0 [.ref a0] c (fun D cid B => zQi D cid B res.1 res.2 c.length 0) := by
  refine z_met (cc := bb_RuleBook_isOneLarge) (maxL := 2) (ret := (some (.boolean))) (by decide +kernel) rfl (Nat.le_of_ble_eq_true rfl) ?_
  intro p e s m args below meth cd D cid B X h1 h2 h3 h4
  have X : zX p s m args cd D cid B bb_RuleBook_isOneLarge 2 rr_RuleBook zT := X
  have H : zH s meth B c.length (some (.boolean)) "isOneLarge" := ⟨h1, h2, h4, h3⟩
  unfold f_RuleBook_isOneLarge at h
  show Zz p l e (zRm 1 24 0 0) s m args below meth cd _ D cid B 2 0 0 c 0 [(0, .ref a0)] []
  refine z_iconst (v := 0) X dd_RuleBook_isOneLarge_0 (by decide) ?_
  refine z_istore_n (lv' := [(1, .int 0), (0, .ref a0)]) X dd_RuleBook_isOneLarge_1 rfl (by decide) rfl ?_
  refine z_sub [1, 0] rfl ?_
  exact t_RuleBook_isOneLarge_2 X H h
theorem dd_RuleBook_forgetRuled_0 : decode bb_RuleBook_forgetRuled 0 = .ok (.iconst 0, 1) := by decide +kernel
theorem dd_RuleBook_forgetRuled_1 : decode bb_RuleBook_forgetRuled 1 = .ok (.istore_n 1, 1) := by decide +kernel
theorem dd_RuleBook_forgetRuled_2 : decode bb_RuleBook_forgetRuled 2 = .ok (.iload_n 1, 1) := by decide +kernel
theorem dd_RuleBook_forgetRuled_3 : decode bb_RuleBook_forgetRuled 3 = .ok (.aload_n 0, 1) := by decide +kernel
theorem dd_RuleBook_forgetRuled_4 : decode bb_RuleBook_forgetRuled 4 = .ok (.getfield 113, 3) := by decide +kernel
theorem dd_RuleBook_forgetRuled_7 : decode bb_RuleBook_forgetRuled 7 = .ok (.if_icmp .ge 31, 3) := by decide +kernel
theorem dd_RuleBook_forgetRuled_10 : decode bb_RuleBook_forgetRuled 10 = .ok (.aload_n 0, 1) := by decide +kernel
theorem dd_RuleBook_forgetRuled_11 : decode bb_RuleBook_forgetRuled 11 = .ok (.getfield 116, 3) := by decide +kernel
theorem dd_RuleBook_forgetRuled_14 : decode bb_RuleBook_forgetRuled 14 = .ok (.iload_n 1, 1) := by decide +kernel
theorem dd_RuleBook_forgetRuled_15 : decode bb_RuleBook_forgetRuled 15 = .ok (.aaload, 1) := by decide +kernel
theorem dd_RuleBook_forgetRuled_16 : decode bb_RuleBook_forgetRuled 16 = .ok (.getfield 120, 3) := by decide +kernel
theorem dd_RuleBook_forgetRuled_19 : decode bb_RuleBook_forgetRuled 19 = .ok (.ifCond .eq 13, 3) := by decide +kernel
theorem dd_RuleBook_forgetRuled_22 : decode bb_RuleBook_forgetRuled 22 = .ok (.aload_n 0, 1) := by decide +kernel
theorem dd_RuleBook_forgetRuled_23 : decode bb_RuleBook_forgetRuled 23 = .ok (.getfield 116, 3) := by decide +kernel
theorem dd_RuleBook_forgetRuled_26 : decode bb_RuleBook_forgetRuled 26 = .ok (.iload_n 1, 1) := by decide +kernel
theorem dd_RuleBook_forgetRuled_27 : decode bb_RuleBook_forgetRuled 27 = .ok (.aaload, 1) := by decide +kernel
theorem dd_RuleBook_forgetRuled_28 : decode bb_RuleBook_forgetRuled 28 = .ok (.iconst (-1), 1) := by decide +kernel
theorem dd_RuleBook_forgetRuled_29 : decode bb_RuleBook_forgetRuled 29 = .ok (.putfield 125, 3) := by decide +kernel
theorem dd_RuleBook_forgetRuled_32 : decode bb_RuleBook_forgetRuled 32 = .ok (.iinc 1 1, 3) := by decide +kernel
theorem dd_RuleBook_forgetRuled_35 : decode bb_RuleBook_forgetRuled 35 = .ok (.goto (-33), 3) := by decide +kernel
theorem dd_RuleBook_forgetRuled_38 : decode bb_RuleBook_forgetRuled 38 = .ok (.return_, 1) := by decide +kernel
set_option maxRecDepth 100000 in
set_option maxHeartbeats 4000000 in
theorem t_RuleBook_forgetRuled_32  (X : zX p s m args cd D cid B bb_RuleBook_forgetRuled 2 rr_RuleBook zT) (H : zH s meth B n0 none "forgetRuled") {nf : Nat} {x0 : Nat} {x1 : Int32} {c : Zc} {r : (Nat × Int32 × Zc) ⊕ (Zc)} (h : f_RuleBook_forgetRuled_32 nf x0 x1 c = some r) (k0 : ∀ a, r = .inl a → (fun a : Nat × Int32 × Zc => Zz p l e (zRm 0 0 0 0) s m args below meth cd Q D cid B 2 0 0 a.2.2 2 [(0, .ref a.1), (1, .int a.2.1)] []) a) (k1 : ∀ b, r = .inr b → (fun b : Zc => Zz p l e (zRm 0 0 0 0) s m args below meth cd Q D cid B 2 0 0 b 38 [] []) b) : Zz p l e (zRm 0 0 0 0) s m args below meth cd Q D cid B 2 0 0 c 32 [(0, .ref x0), (1, .int x1)] [] := by
  unfold f_RuleBook_forgetRuled_32 at h
  refine z_iinc (v := (x1 + 1)) (lv' := [(1, .int (x1 + 1)), (0, .ref x0)]) X dd_RuleBook_forgetRuled_32 1 rfl rfl (by decide) rfl ?_
  refine z_goto (tgt := 2) X dd_RuleBook_forgetRuled_35 (by decide) ?_
  refine z_sub [1, 0] rfl ?_
  obtain rfl := Option.some.inj h
  exact k0 _ rfl
set_option maxRecDepth 100000 in
set_option maxHeartbeats 4000000 in
theorem u_RuleBook_forgetRuled_2  (X : zX p s m args cd D cid B bb_RuleBook_forgetRuled 2 rr_RuleBook zT) (H : zH s meth B n0 none "forgetRuled") {nf : Nat} {x0 : Nat} {x1 : Int32} {c : Zc} {r : (Nat × Int32 × Zc) ⊕ (Zc)} (h : g_RuleBook_forgetRuled_2 nf x0 x1 c = some r) (k0 : ∀ a, r = .inl a → (fun a : Nat × Int32 × Zc => Zz p l e (zRm 0 0 0 0) s m args below meth cd Q D cid B 2 0 0 a.2.2 2 [(0, .ref a.1), (1, .int a.2.1)] []) a) (k1 : ∀ b, r = .inr b → (fun b : Zc => Zz p l e (zRm 0 0 0 0) s m args below meth cd Q D cid B 2 0 0 b 38 [] []) b) : Zz p l e (zRm 0 0 0 0) s m args below meth cd Q D cid B 2 0 0 c 2 [(0, .ref x0), (1, .int x1)] [] := by
  unfold g_RuleBook_forgetRuled_2 at h
  refine z_iload_n X dd_RuleBook_forgetRuled_2 rfl 1 rfl ?_
  refine z_aload_n X dd_RuleBook_forgetRuled_3 rfl 0 rfl ?_
  obtain ⟨v1, ev1, h⟩ := zb h
  refine z_get (j := 3) X dd_RuleBook_forgetRuled_4 kc_2 ki_2 (by decide) km_310 (zgi_v ev1) ?_
  refine z_icmp_ge (tgt := 38) X dd_RuleBook_forgetRuled_7 (by decide) (fun q2 => ?_) (fun q2 => ?_)
  · rw [if_pos q2] at h
    refine z_sub [] rfl ?_
    obtain rfl := Option.some.inj h
    exact k1 _ rfl
  · rw [if_neg q2] at h
    refine z_aload_n X dd_RuleBook_forgetRuled_10 rfl 0 rfl ?_
    obtain ⟨v3, ev3, h⟩ := zb h
    refine z_get (j := 4) X dd_RuleBook_forgetRuled_11 kc_2 ki_2 (by decide) km_317 (zgr_v ev3) ?_
    refine z_iload_n X dd_RuleBook_forgetRuled_14 rfl 1 rfl ?_
    obtain ⟨v4, ev4, h⟩ := zb h
    refine z_aaload X dd_RuleBook_forgetRuled_15 rfl ev4 ?_
    obtain ⟨v5, ev5, h⟩ := zb h
    refine z_get (j := 4) X dd_RuleBook_forgetRuled_16 kc_1 ki_1 (by decide) km_234 (zgi_v ev5) ?_
    refine z_if_eq (tgt := 32) X dd_RuleBook_forgetRuled_19 (by decide) (fun q6 => ?_) (fun q6 => ?_)
    · rw [if_pos q6] at h
      exact t_RuleBook_forgetRuled_32 X H h k0 k1
    · rw [if_neg q6] at h
      refine z_aload_n X dd_RuleBook_forgetRuled_22 rfl 0 rfl ?_
      obtain ⟨v7, ev7, h⟩ := zb h
      refine z_get (j := 4) X dd_RuleBook_forgetRuled_23 kc_2 ki_2 (by decide) km_317 (zgr_v ev7) ?_
      refine z_iload_n X dd_RuleBook_forgetRuled_26 rfl 1 rfl ?_
      obtain ⟨v8, ev8, h⟩ := zb h
      refine z_aaload X dd_RuleBook_forgetRuled_27 rfl ev8 ?_
      refine z_iconst (v := (-1)) X dd_RuleBook_forgetRuled_28 (by decide) ?_
      obtain ⟨c9, ec9, h⟩ := zb h
      refine z_put (j := 17) X dd_RuleBook_forgetRuled_29 kc_1 ki_1 tt_Way tk_Way nn_Way (by decide) km_259 rfl (tk_Way 17 (by decide)) rfl rfl ec9 ?_
      exact t_RuleBook_forgetRuled_32 X H h k0 k1
set_option maxRecDepth 100000 in
set_option maxHeartbeats 4000000 in
theorem t_RuleBook_forgetRuled_2  (X : zX p s m args cd D cid B bb_RuleBook_forgetRuled 2 rr_RuleBook zT) (H : zH s meth B n0 none "forgetRuled") {nf : Nat} {x0 : Nat} {x1 : Int32} {c : Zc} {res : Zc} (h : f_RuleBook_forgetRuled_2 nf x0 x1 c = some res) : Zz p l e (zRm 0 0 0 0) s m args below meth cd (MQ below (zQv D cid B res n0 0) args s 0 0 (fun q => B ≤ q)) D cid B 2 0 0 c 2 [(0, .ref x0), (1, .int x1)] [] := by
  unfold f_RuleBook_forgetRuled_2 at h
  obtain ⟨b, eb, h⟩ := zb h
  refine zlp_ok (P := fun a : Nat × Int32 × Zc => Zz p l e (zRm 0 0 0 0) s m args below meth cd _ D cid B 2 0 0 a.2.2 2 [(0, .ref a.1), (1, .int a.2.1)] []) (G := fun b : Zc => Zz p l e (zRm 0 0 0 0) s m args below meth cd _ D cid B 2 0 0 b 38 [] []) (fun a r ha k0 k1 => u_RuleBook_forgetRuled_2 X H ha k0 k1) nf _ b eb ?_
  obtain rfl := Option.some.inj h
  exact z_vret X H.1 H.2.1 H.2.2.1 dd_RuleBook_forgetRuled_38
set_option maxRecDepth 100000 in
set_option maxHeartbeats 4000000 in
theorem c_RuleBook_forgetRuled (l : Launch) {nf : Nat} {a0 : Nat} {c : Zc} {res : Zc} (h : f_RuleBook_forgetRuled nf a0 c = some res) : zM l yy_RuleBook_forgetRuled ww_RuleBook_forgetRuled 0 0 0 0 [.ref a0] c (fun D cid B => zQv D cid B res c.length 0) := by
  refine z_met (cc := bb_RuleBook_forgetRuled) (maxL := 2) (ret := none) (by decide +kernel) rfl (Nat.le_of_ble_eq_true rfl) ?_
  intro p e s m args below meth cd D cid B X h1 h2 h3 h4
  have X : zX p s m args cd D cid B bb_RuleBook_forgetRuled 2 rr_RuleBook zT := X
  have H : zH s meth B c.length none "forgetRuled" := ⟨h1, h2, h4, h3⟩
  unfold f_RuleBook_forgetRuled at h
  show Zz p l e (zRm 0 0 0 0) s m args below meth cd _ D cid B 2 0 0 c 0 [(0, .ref a0)] []
  refine z_iconst (v := 0) X dd_RuleBook_forgetRuled_0 (by decide) ?_
  refine z_istore_n (lv' := [(1, .int 0), (0, .ref a0)]) X dd_RuleBook_forgetRuled_1 rfl (by decide) rfl ?_
  refine z_sub [1, 0] rfl ?_
  exact t_RuleBook_forgetRuled_2 X H h
theorem dd_RuleBook_linkAll_0 : decode bb_RuleBook_linkAll 0 = .ok (.iconst 0, 1) := by decide +kernel
theorem dd_RuleBook_linkAll_1 : decode bb_RuleBook_linkAll 1 = .ok (.istore 4, 2) := by decide +kernel
theorem dd_RuleBook_linkAll_3 : decode bb_RuleBook_linkAll 3 = .ok (.iload 4, 2) := by decide +kernel
theorem dd_RuleBook_linkAll_5 : decode bb_RuleBook_linkAll 5 = .ok (.aload_n 0, 1) := by decide +kernel
theorem dd_RuleBook_linkAll_6 : decode bb_RuleBook_linkAll 6 = .ok (.getfield 29, 3) := by decide +kernel
theorem dd_RuleBook_linkAll_9 : decode bb_RuleBook_linkAll 9 = .ok (.getfield 69, 3) := by decide +kernel
theorem dd_RuleBook_linkAll_12 : decode bb_RuleBook_linkAll 12 = .ok (.if_icmp .ge 29, 3) := by decide +kernel
theorem dd_RuleBook_linkAll_15 : decode bb_RuleBook_linkAll 15 = .ok (.iload_n 3, 1) := by decide +kernel
theorem dd_RuleBook_linkAll_16 : decode bb_RuleBook_linkAll 16 = .ok (.iload 4, 2) := by decide +kernel
theorem dd_RuleBook_linkAll_18 : decode bb_RuleBook_linkAll 18 = .ok (.ishr, 1) := by decide +kernel
theorem dd_RuleBook_linkAll_19 : decode bb_RuleBook_linkAll 19 = .ok (.iconst 1, 1) := by decide +kernel
theorem dd_RuleBook_linkAll_20 : decode bb_RuleBook_linkAll 20 = .ok (.iand, 1) := by decide +kernel
theorem dd_RuleBook_linkAll_21 : decode bb_RuleBook_linkAll 21 = .ok (.ifCond .eq 14, 3) := by decide +kernel
theorem dd_RuleBook_linkAll_24 : decode bb_RuleBook_linkAll 24 = .ok (.aload_n 0, 1) := by decide +kernel
theorem dd_RuleBook_linkAll_25 : decode bb_RuleBook_linkAll 25 = .ok (.getfield 29, 3) := by decide +kernel
theorem dd_RuleBook_linkAll_28 : decode bb_RuleBook_linkAll 28 = .ok (.iload_n 1, 1) := by decide +kernel
theorem dd_RuleBook_linkAll_29 : decode bb_RuleBook_linkAll 29 = .ok (.iload_n 2, 1) := by decide +kernel
theorem dd_RuleBook_linkAll_30 : decode bb_RuleBook_linkAll 30 = .ok (.iload 4, 2) := by decide +kernel
theorem dd_RuleBook_linkAll_32 : decode bb_RuleBook_linkAll 32 = .ok (.invokevirtual 128, 3) := by decide +kernel
theorem dd_RuleBook_linkAll_35 : decode bb_RuleBook_linkAll 35 = .ok (.iinc 4 1, 3) := by decide +kernel
theorem dd_RuleBook_linkAll_38 : decode bb_RuleBook_linkAll 38 = .ok (.goto (-35), 3) := by decide +kernel
theorem dd_RuleBook_linkAll_41 : decode bb_RuleBook_linkAll 41 = .ok (.return_, 1) := by decide +kernel
set_option maxRecDepth 100000 in
set_option maxHeartbeats 4000000 in
theorem t_RuleBook_linkAll_35  (X : zX p s m args cd D cid B bb_RuleBook_linkAll 5 rr_RuleBook zT) (H : zH s meth B n0 none "linkAll") {nf : Nat} {x0 : Nat} {x1 : Int32} {x2 : Int32} {x3 : Int32} {x4 : Int32} {c : Zc} {r : (Nat × Int32 × Int32 × Int32 × Int32 × Zc) ⊕ (Zc)} (h : f_RuleBook_linkAll_35 nf x0 x1 x2 x3 x4 c = some r) (k0 : ∀ a, r = .inl a → (fun a : Nat × Int32 × Int32 × Int32 × Int32 × Zc => Zz p l e (zRm 1 23 0 0) s m args below meth cd Q D cid B 5 0 0 a.2.2.2.2.2 3 [(0, .ref a.1), (1, .int a.2.1), (2, .int a.2.2.1), (3, .int a.2.2.2.1), (4, .int a.2.2.2.2.1)] []) a) (k1 : ∀ b, r = .inr b → (fun b : Zc => Zz p l e (zRm 1 23 0 0) s m args below meth cd Q D cid B 5 0 0 b 41 [] []) b) : Zz p l e (zRm 1 23 0 0) s m args below meth cd Q D cid B 5 0 0 c 35 [(0, .ref x0), (1, .int x1), (2, .int x2), (3, .int x3), (4, .int x4)] [] := by
  unfold f_RuleBook_linkAll_35 at h
  refine z_iinc (v := (x4 + 1)) (lv' := [(4, .int (x4 + 1)), (0, .ref x0), (1, .int x1), (2, .int x2), (3, .int x3)]) X dd_RuleBook_linkAll_35 4 rfl rfl (by decide) rfl ?_
  refine z_goto (tgt := 3) X dd_RuleBook_linkAll_38 (by decide) ?_
  refine z_sub [1, 2, 3, 4, 0] rfl ?_
  obtain rfl := Option.some.inj h
  exact k0 _ rfl
set_option maxRecDepth 100000 in
set_option maxHeartbeats 4000000 in
theorem u_RuleBook_linkAll_3  (X : zX p s m args cd D cid B bb_RuleBook_linkAll 5 rr_RuleBook zT) (H : zH s meth B n0 none "linkAll") {nf : Nat} {x0 : Nat} {x1 : Int32} {x2 : Int32} {x3 : Int32} {x4 : Int32} {c : Zc} {r : (Nat × Int32 × Int32 × Int32 × Int32 × Zc) ⊕ (Zc)} (h : g_RuleBook_linkAll_3 nf x0 x1 x2 x3 x4 c = some r) (k0 : ∀ a, r = .inl a → (fun a : Nat × Int32 × Int32 × Int32 × Int32 × Zc => Zz p l e (zRm 1 23 0 0) s m args below meth cd Q D cid B 5 0 0 a.2.2.2.2.2 3 [(0, .ref a.1), (1, .int a.2.1), (2, .int a.2.2.1), (3, .int a.2.2.2.1), (4, .int a.2.2.2.2.1)] []) a) (k1 : ∀ b, r = .inr b → (fun b : Zc => Zz p l e (zRm 1 23 0 0) s m args below meth cd Q D cid B 5 0 0 b 41 [] []) b) : Zz p l e (zRm 1 23 0 0) s m args below meth cd Q D cid B 5 0 0 c 3 [(0, .ref x0), (1, .int x1), (2, .int x2), (3, .int x3), (4, .int x4)] [] := by
  unfold g_RuleBook_linkAll_3 at h
  refine z_iload X dd_RuleBook_linkAll_3 4 rfl ?_
  refine z_aload_n X dd_RuleBook_linkAll_5 rfl 0 rfl ?_
  obtain ⟨v1, ev1, h⟩ := zb h
  refine z_get (j := 1) X dd_RuleBook_linkAll_6 kc_8 ki_8 (by decide) km_624 (zgr_v ev1) ?_
  obtain ⟨v2, ev2, h⟩ := zb h
  refine z_get (j := 7) X dd_RuleBook_linkAll_9 kc_0 ki_0 (by decide) km_175 (zgi_v ev2) ?_
  refine z_icmp_ge (tgt := 41) X dd_RuleBook_linkAll_12 (by decide) (fun q3 => ?_) (fun q3 => ?_)
  · rw [if_pos q3] at h
    refine z_sub [] rfl ?_
    obtain rfl := Option.some.inj h
    exact k1 _ rfl
  · rw [if_neg q3] at h
    refine z_iload_n X dd_RuleBook_linkAll_15 rfl 3 rfl ?_
    refine z_iload X dd_RuleBook_linkAll_16 4 rfl ?_
    refine z_ishr X dd_RuleBook_linkAll_18 ?_
    refine z_iconst (v := 1) X dd_RuleBook_linkAll_19 (by decide) ?_
    refine z_iand X dd_RuleBook_linkAll_20 ?_
    refine z_if_eq (tgt := 35) X dd_RuleBook_linkAll_21 (by decide) (fun q4 => ?_) (fun q4 => ?_)
    · rw [if_pos q4] at h
      exact t_RuleBook_linkAll_35 X H h k0 k1
    · rw [if_neg q4] at h
      refine z_aload_n X dd_RuleBook_linkAll_24 rfl 0 rfl ?_
      obtain ⟨v5, ev5, h⟩ := zb h
      refine z_get (j := 1) X dd_RuleBook_linkAll_25 kc_8 ki_8 (by decide) km_624 (zgr_v ev5) ?_
      refine z_iload_n X dd_RuleBook_linkAll_28 rfl 1 rfl ?_
      refine z_iload_n X dd_RuleBook_linkAll_29 rfl 2 rfl ?_
      refine z_iload X dd_RuleBook_linkAll_30 4 rfl ?_
      obtain ⟨w7, ew7, h⟩ := zb h
      obtain ⟨q6, eq6, h⟩ := zb h
      refine z_callVv X [.int x1, .int x2, .int x4] rfl dd_RuleBook_linkAll_32 (c_Graph_link l eq6) (cwV 3 X.1.2.2.2.2 (zg_V km_1391 km_1263 km_1264 km_126 km_1265) rfl rfl rfl (by decide +kernel) ⟨Nat.le_of_ble_eq_true rfl, Nat.le_of_ble_eq_true rfl⟩) (zob_s ew7) kc_0 rfl (Nat.le_of_ble_eq_true rfl) ⟨Nat.le_of_ble_eq_true rfl, Nat.le_of_ble_eq_true rfl⟩ ?_
      exact t_RuleBook_linkAll_35 X H h k0 k1
set_option maxRecDepth 100000 in
set_option maxHeartbeats 4000000 in
theorem t_RuleBook_linkAll_3  (X : zX p s m args cd D cid B bb_RuleBook_linkAll 5 rr_RuleBook zT) (H : zH s meth B n0 none "linkAll") {nf : Nat} {x0 : Nat} {x1 : Int32} {x2 : Int32} {x3 : Int32} {x4 : Int32} {c : Zc} {res : Zc} (h : f_RuleBook_linkAll_3 nf x0 x1 x2 x3 x4 c = some res) : Zz p l e (zRm 1 23 0 0) s m args below meth cd (MQ below (zQv D cid B res n0 0) args s 0 0 (fun q => B ≤ q)) D cid B 5 0 0 c 3 [(0, .ref x0), (1, .int x1), (2, .int x2), (3, .int x3), (4, .int x4)] [] := by
  unfold f_RuleBook_linkAll_3 at h
  obtain ⟨b, eb, h⟩ := zb h
  refine zlp_ok (P := fun a : Nat × Int32 × Int32 × Int32 × Int32 × Zc => Zz p l e (zRm 1 23 0 0) s m args below meth cd _ D cid B 5 0 0 a.2.2.2.2.2 3 [(0, .ref a.1), (1, .int a.2.1), (2, .int a.2.2.1), (3, .int a.2.2.2.1), (4, .int a.2.2.2.2.1)] []) (G := fun b : Zc => Zz p l e (zRm 1 23 0 0) s m args below meth cd _ D cid B 5 0 0 b 41 [] []) (fun a r ha k0 k1 => u_RuleBook_linkAll_3 X H ha k0 k1) nf _ b eb ?_
  obtain rfl := Option.some.inj h
  exact z_vret X H.1 H.2.1 H.2.2.1 dd_RuleBook_linkAll_41
set_option maxRecDepth 100000 in
set_option maxHeartbeats 4000000 in
theorem c_RuleBook_linkAll (l : Launch) {nf : Nat} {a0 : Nat} {a1 : Int32} {a2 : Int32} {a3 : Int32} {c : Zc} {res : Zc} (h : f_RuleBook_linkAll nf a0 a1 a2 a3 c = some res) : zM l yy_RuleBook_linkAll ww_RuleBook_linkAll 1 23 0 0 [.ref a0, .int a1, .int a2, .int a3] c (fun D cid B => zQv D cid B res c.length 0) := by
  refine z_met (cc := bb_RuleBook_linkAll) (maxL := 5) (ret := none) (by decide +kernel) rfl (Nat.le_of_ble_eq_true rfl) ?_
  intro p e s m args below meth cd D cid B X h1 h2 h3 h4
  have X : zX p s m args cd D cid B bb_RuleBook_linkAll 5 rr_RuleBook zT := X
  have H : zH s meth B c.length none "linkAll" := ⟨h1, h2, h4, h3⟩
  unfold f_RuleBook_linkAll at h
  show Zz p l e (zRm 1 23 0 0) s m args below meth cd _ D cid B 5 0 0 c 0 [(0, .ref a0), (1, .int a1), (2, .int a2), (3, .int a3)] []
  refine z_iconst (v := 0) X dd_RuleBook_linkAll_0 (by decide) ?_
  refine z_istore (lv' := [(4, .int 0), (0, .ref a0), (1, .int a1), (2, .int a2), (3, .int a3)]) X dd_RuleBook_linkAll_1 (by decide) rfl ?_
  refine z_sub [1, 2, 3, 4, 0] rfl ?_
  exact t_RuleBook_linkAll_3 X H h
theorem dd_RuleBook_goRound_0 : decode bb_RuleBook_goRound 0 = .ok (.aload_n 0, 1) := by decide +kernel
theorem dd_RuleBook_goRound_1 : decode bb_RuleBook_goRound 1 = .ok (.getfield 17, 3) := by decide +kernel
theorem dd_RuleBook_goRound_4 : decode bb_RuleBook_goRound 4 = .ok (.iconst 0, 1) := by decide +kernel
theorem dd_RuleBook_goRound_5 : decode bb_RuleBook_goRound 5 = .ok (.invokestatic 78, 3) := by decide +kernel
theorem dd_RuleBook_goRound_8 : decode bb_RuleBook_goRound 8 = .ok (.iconst 0, 1) := by decide +kernel
theorem dd_RuleBook_goRound_9 : decode bb_RuleBook_goRound 9 = .ok (.istore_n 1, 1) := by decide +kernel
theorem dd_RuleBook_goRound_10 : decode bb_RuleBook_goRound 10 = .ok (.iload_n 1, 1) := by decide +kernel
theorem dd_RuleBook_goRound_11 : decode bb_RuleBook_goRound 11 = .ok (.iconst 4, 1) := by decide +kernel
theorem dd_RuleBook_goRound_12 : decode bb_RuleBook_goRound 12 = .ok (.if_icmp .ge 103, 3) := by decide +kernel
theorem dd_RuleBook_goRound_15 : decode bb_RuleBook_goRound 15 = .ok (.aload_n 0, 1) := by decide +kernel
theorem dd_RuleBook_goRound_16 : decode bb_RuleBook_goRound 16 = .ok (.getfield 11, 3) := by decide +kernel
theorem dd_RuleBook_goRound_19 : decode bb_RuleBook_goRound 19 = .ok (.iload_n 1, 1) := by decide +kernel
theorem dd_RuleBook_goRound_20 : decode bb_RuleBook_goRound 20 = .ok (.aaload, 1) := by decide +kernel
theorem dd_RuleBook_goRound_21 : decode bb_RuleBook_goRound 21 = .ok (.astore_n 2, 1) := by decide +kernel
theorem dd_RuleBook_goRound_22 : decode bb_RuleBook_goRound 22 = .ok (.aload_n 2, 1) := by decide +kernel
theorem dd_RuleBook_goRound_23 : decode bb_RuleBook_goRound 23 = .ok (.getfield 38, 3) := by decide +kernel
theorem dd_RuleBook_goRound_26 : decode bb_RuleBook_goRound 26 = .ok (.ifCond .eq 83, 3) := by decide +kernel
theorem dd_RuleBook_goRound_29 : decode bb_RuleBook_goRound 29 = .ok (.aload_n 2, 1) := by decide +kernel
theorem dd_RuleBook_goRound_30 : decode bb_RuleBook_goRound 30 = .ok (.invokestatic 84, 3) := by decide +kernel
theorem dd_RuleBook_goRound_33 : decode bb_RuleBook_goRound 33 = .ok (.aload_n 0, 1) := by decide +kernel
theorem dd_RuleBook_goRound_34 : decode bb_RuleBook_goRound 34 = .ok (.getfield 33, 3) := by decide +kernel
theorem dd_RuleBook_goRound_37 : decode bb_RuleBook_goRound 37 = .ok (.aload_n 2, 1) := by decide +kernel
theorem dd_RuleBook_goRound_38 : decode bb_RuleBook_goRound 38 = .ok (.invokevirtual 88, 3) := by decide +kernel
theorem dd_RuleBook_goRound_41 : decode bb_RuleBook_goRound 41 = .ok (.iconst 0, 1) := by decide +kernel
theorem dd_RuleBook_goRound_42 : decode bb_RuleBook_goRound 42 = .ok (.istore_n 3, 1) := by decide +kernel
theorem dd_RuleBook_goRound_43 : decode bb_RuleBook_goRound 43 = .ok (.iload_n 3, 1) := by decide +kernel
theorem dd_RuleBook_goRound_44 : decode bb_RuleBook_goRound 44 = .ok (.sipush 20000, 3) := by decide +kernel
theorem dd_RuleBook_goRound_47 : decode bb_RuleBook_goRound 47 = .ok (.if_icmp .ge 62, 3) := by decide +kernel
theorem dd_RuleBook_goRound_50 : decode bb_RuleBook_goRound 50 = .ok (.aload_n 0, 1) := by decide +kernel
theorem dd_RuleBook_goRound_51 : decode bb_RuleBook_goRound 51 = .ok (.getfield 33, 3) := by decide +kernel
theorem dd_RuleBook_goRound_54 : decode bb_RuleBook_goRound 54 = .ok (.invokevirtual 93, 3) := by decide +kernel
theorem dd_RuleBook_goRound_57 : decode bb_RuleBook_goRound 57 = .ok (.ifCond .eq 52, 3) := by decide +kernel
theorem dd_RuleBook_goRound_60 : decode bb_RuleBook_goRound 60 = .ok (.aload_n 0, 1) := by decide +kernel
theorem dd_RuleBook_goRound_61 : decode bb_RuleBook_goRound 61 = .ok (.getfield 33, 3) := by decide +kernel
theorem dd_RuleBook_goRound_64 : decode bb_RuleBook_goRound 64 = .ok (.getfield 96, 3) := by decide +kernel
theorem dd_RuleBook_goRound_67 : decode bb_RuleBook_goRound 67 = .ok (.aload_n 2, 1) := by decide +kernel
theorem dd_RuleBook_goRound_68 : decode bb_RuleBook_goRound 68 = .ok (.getfield 99, 3) := by decide +kernel
theorem dd_RuleBook_goRound_71 : decode bb_RuleBook_goRound 71 = .ok (.iaload, 1) := by decide +kernel
theorem dd_RuleBook_goRound_72 : decode bb_RuleBook_goRound 72 = .ok (.istore 4, 2) := by decide +kernel
theorem dd_RuleBook_goRound_74 : decode bb_RuleBook_goRound 74 = .ok (.aload_n 0, 1) := by decide +kernel
theorem dd_RuleBook_goRound_75 : decode bb_RuleBook_goRound 75 = .ok (.getfield 17, 3) := by decide +kernel
theorem dd_RuleBook_goRound_78 : decode bb_RuleBook_goRound 78 = .ok (.iload_n 1, 1) := by decide +kernel
theorem dd_RuleBook_goRound_79 : decode bb_RuleBook_goRound 79 = .ok (.bipush 16, 2) := by decide +kernel
theorem dd_RuleBook_goRound_81 : decode bb_RuleBook_goRound 81 = .ok (.imul, 1) := by decide +kernel
theorem dd_RuleBook_goRound_82 : decode bb_RuleBook_goRound 82 = .ok (.iload 4, 2) := by decide +kernel
theorem dd_RuleBook_goRound_84 : decode bb_RuleBook_goRound 84 = .ok (.iadd, 1) := by decide +kernel
theorem dd_RuleBook_goRound_85 : decode bb_RuleBook_goRound 85 = .ok (.dup2, 1) := by decide +kernel
theorem dd_RuleBook_goRound_86 : decode bb_RuleBook_goRound 86 = .ok (.iaload, 1) := by decide +kernel
theorem dd_RuleBook_goRound_87 : decode bb_RuleBook_goRound 87 = .ok (.iconst 1, 1) := by decide +kernel
theorem dd_RuleBook_goRound_88 : decode bb_RuleBook_goRound 88 = .ok (.aload_n 0, 1) := by decide +kernel
theorem dd_RuleBook_goRound_89 : decode bb_RuleBook_goRound 89 = .ok (.getfield 33, 3) := by decide +kernel
theorem dd_RuleBook_goRound_92 : decode bb_RuleBook_goRound 92 = .ok (.getfield 96, 3) := by decide +kernel
theorem dd_RuleBook_goRound_95 : decode bb_RuleBook_goRound 95 = .ok (.aload_n 2, 1) := by decide +kernel
theorem dd_RuleBook_goRound_96 : decode bb_RuleBook_goRound 96 = .ok (.getfield 102, 3) := by decide +kernel
theorem dd_RuleBook_goRound_99 : decode bb_RuleBook_goRound 99 = .ok (.iaload, 1) := by decide +kernel
theorem dd_RuleBook_goRound_100 : decode bb_RuleBook_goRound 100 = .ok (.ishl, 1) := by decide +kernel
theorem dd_RuleBook_goRound_101 : decode bb_RuleBook_goRound 101 = .ok (.ior, 1) := by decide +kernel
theorem dd_RuleBook_goRound_102 : decode bb_RuleBook_goRound 102 = .ok (.iastore, 1) := by decide +kernel
theorem dd_RuleBook_goRound_103 : decode bb_RuleBook_goRound 103 = .ok (.iinc 3 1, 3) := by decide +kernel
theorem dd_RuleBook_goRound_106 : decode bb_RuleBook_goRound 106 = .ok (.goto (-63), 3) := by decide +kernel
theorem dd_RuleBook_goRound_109 : decode bb_RuleBook_goRound 109 = .ok (.iinc 1 1, 3) := by decide +kernel
theorem dd_RuleBook_goRound_112 : decode bb_RuleBook_goRound 112 = .ok (.goto (-102), 3) := by decide +kernel
theorem dd_RuleBook_goRound_115 : decode bb_RuleBook_goRound 115 = .ok (.iconst 0, 1) := by decide +kernel
theorem dd_RuleBook_goRound_116 : decode bb_RuleBook_goRound 116 = .ok (.istore_n 1, 1) := by decide +kernel
theorem dd_RuleBook_goRound_117 : decode bb_RuleBook_goRound 117 = .ok (.iconst 0, 1) := by decide +kernel
theorem dd_RuleBook_goRound_118 : decode bb_RuleBook_goRound 118 = .ok (.istore_n 2, 1) := by decide +kernel
theorem dd_RuleBook_goRound_119 : decode bb_RuleBook_goRound 119 = .ok (.iload_n 2, 1) := by decide +kernel
theorem dd_RuleBook_goRound_120 : decode bb_RuleBook_goRound 120 = .ok (.iconst 4, 1) := by decide +kernel
theorem dd_RuleBook_goRound_121 : decode bb_RuleBook_goRound 121 = .ok (.if_icmp .ge 80, 3) := by decide +kernel
theorem dd_RuleBook_goRound_124 : decode bb_RuleBook_goRound 124 = .ok (.iconst 0, 1) := by decide +kernel
theorem dd_RuleBook_goRound_125 : decode bb_RuleBook_goRound 125 = .ok (.istore_n 3, 1) := by decide +kernel
theorem dd_RuleBook_goRound_126 : decode bb_RuleBook_goRound 126 = .ok (.iload_n 3, 1) := by decide +kernel
theorem dd_RuleBook_goRound_127 : decode bb_RuleBook_goRound 127 = .ok (.aload_n 0, 1) := by decide +kernel
theorem dd_RuleBook_goRound_128 : decode bb_RuleBook_goRound 128 = .ok (.getfield 29, 3) := by decide +kernel
theorem dd_RuleBook_goRound_131 : decode bb_RuleBook_goRound 131 = .ok (.getfield 69, 3) := by decide +kernel
theorem dd_RuleBook_goRound_134 : decode bb_RuleBook_goRound 134 = .ok (.if_icmp .ge 61, 3) := by decide +kernel
theorem dd_RuleBook_goRound_137 : decode bb_RuleBook_goRound 137 = .ok (.aload_n 0, 1) := by decide +kernel
theorem dd_RuleBook_goRound_138 : decode bb_RuleBook_goRound 138 = .ok (.getfield 17, 3) := by decide +kernel
theorem dd_RuleBook_goRound_141 : decode bb_RuleBook_goRound 141 = .ok (.iload_n 2, 1) := by decide +kernel
theorem dd_RuleBook_goRound_142 : decode bb_RuleBook_goRound 142 = .ok (.bipush 16, 2) := by decide +kernel
theorem dd_RuleBook_goRound_144 : decode bb_RuleBook_goRound 144 = .ok (.imul, 1) := by decide +kernel
theorem dd_RuleBook_goRound_145 : decode bb_RuleBook_goRound 145 = .ok (.iload_n 3, 1) := by decide +kernel
theorem dd_RuleBook_goRound_146 : decode bb_RuleBook_goRound 146 = .ok (.iadd, 1) := by decide +kernel
theorem dd_RuleBook_goRound_147 : decode bb_RuleBook_goRound 147 = .ok (.iaload, 1) := by decide +kernel
theorem dd_RuleBook_goRound_148 : decode bb_RuleBook_goRound 148 = .ok (.aload_n 0, 1) := by decide +kernel
theorem dd_RuleBook_goRound_149 : decode bb_RuleBook_goRound 149 = .ok (.getfield 29, 3) := by decide +kernel
theorem dd_RuleBook_goRound_152 : decode bb_RuleBook_goRound 152 = .ok (.bipush 8, 2) := by decide +kernel
theorem dd_RuleBook_goRound_154 : decode bb_RuleBook_goRound 154 = .ok (.iload_n 2, 1) := by decide +kernel
theorem dd_RuleBook_goRound_155 : decode bb_RuleBook_goRound 155 = .ok (.iadd, 1) := by decide +kernel
theorem dd_RuleBook_goRound_156 : decode bb_RuleBook_goRound 156 = .ok (.iload_n 3, 1) := by decide +kernel
theorem dd_RuleBook_goRound_157 : decode bb_RuleBook_goRound 157 = .ok (.invokevirtual 105, 3) := by decide +kernel
theorem dd_RuleBook_goRound_160 : decode bb_RuleBook_goRound 160 = .ok (.iconst (-1), 1) := by decide +kernel
theorem dd_RuleBook_goRound_161 : decode bb_RuleBook_goRound 161 = .ok (.ixor, 1) := by decide +kernel
theorem dd_RuleBook_goRound_162 : decode bb_RuleBook_goRound 162 = .ok (.iand, 1) := by decide +kernel
theorem dd_RuleBook_goRound_163 : decode bb_RuleBook_goRound 163 = .ok (.istore 4, 2) := by decide +kernel
theorem dd_RuleBook_goRound_165 : decode bb_RuleBook_goRound 165 = .ok (.iload_n 1, 1) := by decide +kernel
theorem dd_RuleBook_goRound_166 : decode bb_RuleBook_goRound 166 = .ok (.iload 4, 2) := by decide +kernel
theorem dd_RuleBook_goRound_168 : decode bb_RuleBook_goRound 168 = .ok (.ifCond .eq 7, 3) := by decide +kernel
theorem dd_RuleBook_goRound_171 : decode bb_RuleBook_goRound 171 = .ok (.iconst 1, 1) := by decide +kernel
theorem dd_RuleBook_goRound_172 : decode bb_RuleBook_goRound 172 = .ok (.goto 4, 3) := by decide +kernel
theorem dd_RuleBook_goRound_175 : decode bb_RuleBook_goRound 175 = .ok (.iconst 0, 1) := by decide +kernel
theorem dd_RuleBook_goRound_176 : decode bb_RuleBook_goRound 176 = .ok (.ior, 1) := by decide +kernel
theorem dd_RuleBook_goRound_177 : decode bb_RuleBook_goRound 177 = .ok (.istore_n 1, 1) := by decide +kernel
theorem dd_RuleBook_goRound_178 : decode bb_RuleBook_goRound 178 = .ok (.aload_n 0, 1) := by decide +kernel
theorem dd_RuleBook_goRound_179 : decode bb_RuleBook_goRound 179 = .ok (.bipush 8, 2) := by decide +kernel
theorem dd_RuleBook_goRound_181 : decode bb_RuleBook_goRound 181 = .ok (.iload_n 2, 1) := by decide +kernel
theorem dd_RuleBook_goRound_182 : decode bb_RuleBook_goRound 182 = .ok (.iadd, 1) := by decide +kernel
theorem dd_RuleBook_goRound_183 : decode bb_RuleBook_goRound 183 = .ok (.iload_n 3, 1) := by decide +kernel
theorem dd_RuleBook_goRound_184 : decode bb_RuleBook_goRound 184 = .ok (.iload 4, 2) := by decide +kernel
theorem dd_RuleBook_goRound_186 : decode bb_RuleBook_goRound 186 = .ok (.invokevirtual 109, 3) := by decide +kernel
theorem dd_RuleBook_goRound_189 : decode bb_RuleBook_goRound 189 = .ok (.iinc 3 1, 3) := by decide +kernel
theorem dd_RuleBook_goRound_192 : decode bb_RuleBook_goRound 192 = .ok (.goto (-66), 3) := by decide +kernel
theorem dd_RuleBook_goRound_195 : decode bb_RuleBook_goRound 195 = .ok (.iinc 2 1, 3) := by decide +kernel
theorem dd_RuleBook_goRound_198 : decode bb_RuleBook_goRound 198 = .ok (.goto (-79), 3) := by decide +kernel
theorem dd_RuleBook_goRound_201 : decode bb_RuleBook_goRound 201 = .ok (.iload_n 1, 1) := by decide +kernel
theorem dd_RuleBook_goRound_202 : decode bb_RuleBook_goRound 202 = .ok (.ireturn, 1) := by decide +kernel
set_option maxRecDepth 100000 in
set_option maxHeartbeats 4000000 in
theorem t_RuleBook_goRound_109  (X : zX p s m args cd D cid B bb_RuleBook_goRound 5 rr_RuleBook zT) (H : zH s meth B n0 (some (.boolean)) "goRound") {nf : Nat} {x0 : Nat} {x1 : Int32} {c : Zc} {r : (Nat × Int32 × Zc) ⊕ (Nat × Zc)} (h : f_RuleBook_goRound_109 nf x0 x1 c = some r) (k0 : ∀ a, r = .inl a → (fun a : Nat × Int32 × Zc => Zz p l e (zRm 5 121 0 0) s m args below meth cd Q D cid B 5 0 0 a.2.2 10 [(0, .ref a.1), (1, .int a.2.1)] []) a) (k1 : ∀ b, r = .inr b → (fun b : Nat × Zc => Zz p l e (zRm 5 121 0 0) s m args below meth cd Q D cid B 5 0 0 b.2 115 [(0, .ref b.1)] []) b) : Zz p l e (zRm 5 121 0 0) s m args below meth cd Q D cid B 5 0 0 c 109 [(0, .ref x0), (1, .int x1)] [] := by
  unfold f_RuleBook_goRound_109 at h
  refine z_iinc (v := (x1 + 1)) (lv' := [(1, .int (x1 + 1)), (0, .ref x0)]) X dd_RuleBook_goRound_109 1 rfl rfl (by decide) rfl ?_
  refine z_goto (tgt := 10) X dd_RuleBook_goRound_112 (by decide) ?_
  refine z_sub [1, 0] rfl ?_
  obtain rfl := Option.some.inj h
  exact k0 _ rfl
set_option maxRecDepth 100000 in
set_option maxHeartbeats 4000000 in
theorem u_RuleBook_goRound_43  (X : zX p s m args cd D cid B bb_RuleBook_goRound 5 rr_RuleBook zT) (H : zH s meth B n0 (some (.boolean)) "goRound") {nf : Nat} {x0 : Nat} {x1 : Int32} {x2 : Nat} {x3 : Int32} {c : Zc} {r : (Nat × Int32 × Nat × Int32 × Zc) ⊕ (Nat × Int32 × Zc)} (h : g_RuleBook_goRound_43 nf x0 x1 x2 x3 c = some r) (k0 : ∀ a, r = .inl a → (fun a : Nat × Int32 × Nat × Int32 × Zc => Zz p l e (zRm 5 121 0 0) s m args below meth cd Q D cid B 5 0 0 a.2.2.2.2 43 [(0, .ref a.1), (1, .int a.2.1), (2, .ref a.2.2.1), (3, .int a.2.2.2.1)] []) a) (k1 : ∀ b, r = .inr b → (fun b : Nat × Int32 × Zc => Zz p l e (zRm 5 121 0 0) s m args below meth cd Q D cid B 5 0 0 b.2.2 109 [(0, .ref b.1), (1, .int b.2.1)] []) b) : Zz p l e (zRm 5 121 0 0) s m args below meth cd Q D cid B 5 0 0 c 43 [(0, .ref x0), (1, .int x1), (2, .ref x2), (3, .int x3)] [] := by
  unfold g_RuleBook_goRound_43 at h
  refine z_iload_n X dd_RuleBook_goRound_43 rfl 3 rfl ?_
  refine z_sipush (v := 20000) X dd_RuleBook_goRound_44 (by decide) ?_
  refine z_icmp_ge (tgt := 109) X dd_RuleBook_goRound_47 (by decide) (fun q12 => ?_) (fun q12 => ?_)
  · rw [if_pos q12] at h
    refine z_sub [0, 1] rfl ?_
    obtain rfl := Option.some.inj h
    exact k1 _ rfl
  · rw [if_neg q12] at h
    refine z_aload_n X dd_RuleBook_goRound_50 rfl 0 rfl ?_
    obtain ⟨v13, ev13, h⟩ := zb h
    refine z_get (j := 2) X dd_RuleBook_goRound_51 kc_8 ki_8 (by decide) km_625 (zgr_v ev13) ?_
    obtain ⟨w15, ew15, h⟩ := zb h
    obtain ⟨q14, eq14, h⟩ := zb h
    refine z_callVi X [] rfl dd_RuleBook_goRound_54 (c_Finder_nextRow l eq14) (cwV 0 X.1.2.2.2.2 (zg_V km_1336 km_1337 km_1338 km_133 km_1339) rfl rfl rfl (by decide +kernel) ⟨Nat.le_of_ble_eq_true rfl, Nat.le_of_ble_eq_true rfl⟩) (zob_s ew15) kc_7 rfl (Nat.le_of_ble_eq_true rfl) ⟨Nat.le_of_ble_eq_true rfl, Nat.le_of_ble_eq_true rfl⟩ ?_
    refine z_if_eq (tgt := 109) X dd_RuleBook_goRound_57 (by decide) (fun q16 => ?_) (fun q16 => ?_)
    · rw [if_pos q16] at h
      refine z_sub [0, 1] rfl ?_
      obtain rfl := Option.some.inj h
      exact k1 _ rfl
    · rw [if_neg q16] at h
      refine z_aload_n X dd_RuleBook_goRound_60 rfl 0 rfl ?_
      obtain ⟨v17, ev17, h⟩ := zb h
      refine z_get (j := 2) X dd_RuleBook_goRound_61 kc_8 ki_8 (by decide) km_625 (zgr_v ev17) ?_
      obtain ⟨v18, ev18, h⟩ := zb h
      refine z_get (j := 0) X dd_RuleBook_goRound_64 kc_7 ki_7 (by decide) km_585 (zgr_v ev18) ?_
      refine z_aload_n X dd_RuleBook_goRound_67 rfl 2 rfl ?_
      obtain ⟨v19, ev19, h⟩ := zb h
      refine z_get (j := 19) X dd_RuleBook_goRound_68 kc_2 ki_2 (by decide) km_356 (zgi_v ev19) ?_
      obtain ⟨v20, ev20, h⟩ := zb h
      refine z_iaload X dd_RuleBook_goRound_71 rfl ev20 ?_
      refine z_istore (lv' := [(4, .int v20), (0, .ref x0), (1, .int x1), (2, .ref x2), (3, .int x3)]) X dd_RuleBook_goRound_72 (by decide) rfl ?_
      refine z_aload_n X dd_RuleBook_goRound_74 rfl 1 rfl ?_
      obtain ⟨v21, ev21, h⟩ := zb h
      refine z_get (j := 3) X dd_RuleBook_goRound_75 kc_8 ki_8 (by decide) km_626 (zgr_v ev21) ?_
      refine z_iload_n X dd_RuleBook_goRound_78 rfl 2 rfl ?_
      refine z_bipush (v := 16) X dd_RuleBook_goRound_79 (by decide) ?_
      refine z_imul X dd_RuleBook_goRound_81 ?_
      refine z_iload X dd_RuleBook_goRound_82 0 rfl ?_
      refine z_iadd X dd_RuleBook_goRound_84 ?_
      refine z_dup2_11 X dd_RuleBook_goRound_85 rfl rfl ?_
      obtain ⟨v22, ev22, h⟩ := zb h
      refine z_iaload X dd_RuleBook_goRound_86 rfl ev22 ?_
      refine z_iconst (v := 1) X dd_RuleBook_goRound_87 (by decide) ?_
      refine z_aload_n X dd_RuleBook_goRound_88 rfl 1 rfl ?_
      obtain ⟨v23, ev23, h⟩ := zb h
      refine z_get (j := 2) X dd_RuleBook_goRound_89 kc_8 ki_8 (by decide) km_625 (zgr_v ev23) ?_
      obtain ⟨v24, ev24, h⟩ := zb h
      refine z_get (j := 0) X dd_RuleBook_goRound_92 kc_7 ki_7 (by decide) km_585 (zgr_v ev24) ?_
      refine z_aload_n X dd_RuleBook_goRound_95 rfl 3 rfl ?_
      obtain ⟨v25, ev25, h⟩ := zb h
      refine z_get (j := 20) X dd_RuleBook_goRound_96 kc_2 ki_2 (by decide) km_359 (zgi_v ev25) ?_
      obtain ⟨v26, ev26, h⟩ := zb h
      refine z_iaload X dd_RuleBook_goRound_99 rfl ev26 ?_
      refine z_ishl X dd_RuleBook_goRound_100 ?_
      refine z_ior X dd_RuleBook_goRound_101 ?_
      obtain ⟨c27, ec27, h⟩ := zb h
      refine z_iastore X dd_RuleBook_goRound_102 rfl ec27 ?_
      refine z_iinc (v := (x3 + 1)) (lv' := [(3, .int (x3 + 1)), (4, .int v20), (0, .ref x0), (1, .int x1), (2, .ref x2)]) X dd_RuleBook_goRound_103 4 rfl rfl (by decide) rfl ?_
      refine z_goto (tgt := 43) X dd_RuleBook_goRound_106 (by decide) ?_
      refine z_sub [2, 3, 4, 0] rfl ?_
      obtain rfl := Option.some.inj h
      exact k0 _ rfl
set_option maxRecDepth 100000 in
set_option maxHeartbeats 4000000 in
theorem t_RuleBook_goRound_43  (X : zX p s m args cd D cid B bb_RuleBook_goRound 5 rr_RuleBook zT) (H : zH s meth B n0 (some (.boolean)) "goRound") {nf : Nat} {x0 : Nat} {x1 : Int32} {x2 : Nat} {x3 : Int32} {c : Zc} {r : (Nat × Int32 × Zc) ⊕ (Nat × Zc)} (h : f_RuleBook_goRound_43 nf x0 x1 x2 x3 c = some r) (k0 : ∀ a, r = .inl a → (fun a : Nat × Int32 × Zc => Zz p l e (zRm 5 121 0 0) s m args below meth cd Q D cid B 5 0 0 a.2.2 10 [(0, .ref a.1), (1, .int a.2.1)] []) a) (k1 : ∀ b, r = .inr b → (fun b : Nat × Zc => Zz p l e (zRm 5 121 0 0) s m args below meth cd Q D cid B 5 0 0 b.2 115 [(0, .ref b.1)] []) b) : Zz p l e (zRm 5 121 0 0) s m args below meth cd Q D cid B 5 0 0 c 43 [(0, .ref x0), (1, .int x1), (2, .ref x2), (3, .int x3)] [] := by
  unfold f_RuleBook_goRound_43 at h
  obtain ⟨b, eb, h⟩ := zb h
  refine zlp_ok (P := fun a : Nat × Int32 × Nat × Int32 × Zc => Zz p l e (zRm 5 121 0 0) s m args below meth cd _ D cid B 5 0 0 a.2.2.2.2 43 [(0, .ref a.1), (1, .int a.2.1), (2, .ref a.2.2.1), (3, .int a.2.2.2.1)] []) (G := fun b : Nat × Int32 × Zc => Zz p l e (zRm 5 121 0 0) s m args below meth cd _ D cid B 5 0 0 b.2.2 109 [(0, .ref b.1), (1, .int b.2.1)] []) (fun a r ha k0 k1 => u_RuleBook_goRound_43 X H ha k0 k1) nf _ b eb ?_
  exact t_RuleBook_goRound_109 X H h k0 k1
set_option maxRecDepth 100000 in
set_option maxHeartbeats 4000000 in
theorem u_RuleBook_goRound_10  (X : zX p s m args cd D cid B bb_RuleBook_goRound 5 rr_RuleBook zT) (H : zH s meth B n0 (some (.boolean)) "goRound") {nf : Nat} {x0 : Nat} {x1 : Int32} {c : Zc} {r : (Nat × Int32 × Zc) ⊕ (Nat × Zc)} (h : g_RuleBook_goRound_10 nf x0 x1 c = some r) (k0 : ∀ a, r = .inl a → (fun a : Nat × Int32 × Zc => Zz p l e (zRm 5 121 0 0) s m args below meth cd Q D cid B 5 0 0 a.2.2 10 [(0, .ref a.1), (1, .int a.2.1)] []) a) (k1 : ∀ b, r = .inr b → (fun b : Nat × Zc => Zz p l e (zRm 5 121 0 0) s m args below meth cd Q D cid B 5 0 0 b.2 115 [(0, .ref b.1)] []) b) : Zz p l e (zRm 5 121 0 0) s m args below meth cd Q D cid B 5 0 0 c 10 [(0, .ref x0), (1, .int x1)] [] := by
  unfold g_RuleBook_goRound_10 at h
  refine z_iload_n X dd_RuleBook_goRound_10 rfl 1 rfl ?_
  refine z_iconst (v := 4) X dd_RuleBook_goRound_11 (by decide) ?_
  refine z_icmp_ge (tgt := 115) X dd_RuleBook_goRound_12 (by decide) (fun q3 => ?_) (fun q3 => ?_)
  · rw [if_pos q3] at h
    refine z_sub [0] rfl ?_
    obtain rfl := Option.some.inj h
    exact k1 _ rfl
  · rw [if_neg q3] at h
    refine z_aload_n X dd_RuleBook_goRound_15 rfl 0 rfl ?_
    obtain ⟨v4, ev4, h⟩ := zb h
    refine z_get (j := 0) X dd_RuleBook_goRound_16 kc_8 ki_8 (by decide) km_622 (zgr_v ev4) ?_
    refine z_iload_n X dd_RuleBook_goRound_19 rfl 1 rfl ?_
    obtain ⟨v5, ev5, h⟩ := zb h
    refine z_aaload X dd_RuleBook_goRound_20 rfl ev5 ?_
    refine z_astore_n (lv' := [(2, .ref v5), (0, .ref x0), (1, .int x1)]) X dd_RuleBook_goRound_21 rfl (by decide) rfl ?_
    refine z_aload_n X dd_RuleBook_goRound_22 rfl 0 rfl ?_
    obtain ⟨v6, ev6, h⟩ := zb h
    refine z_get (j := 0) X dd_RuleBook_goRound_23 kc_2 ki_2 (by decide) km_299 (zgi_v ev6) ?_
    refine z_if_eq (tgt := 109) X dd_RuleBook_goRound_26 (by decide) (fun q7 => ?_) (fun q7 => ?_)
    · rw [if_pos q7] at h
      refine z_sub [1, 2] rfl ?_
      exact t_RuleBook_goRound_109 X H h k0 k1
    · rw [if_neg q7] at h
      refine z_aload_n X dd_RuleBook_goRound_29 rfl 0 rfl ?_
      obtain ⟨q8, eq8, h⟩ := zb h
      refine z_callSv X [.ref v5] rfl dd_RuleBook_goRound_30 (c_RuleBook_forgetRuled l eq8) (va_cwS 1 X.1.2.2.2.2 (zg_S km_1286 km_1287 km_135 km_1288) rfl rfl rfl (by decide +kernel) ⟨Nat.le_of_ble_eq_true rfl, Nat.le_of_ble_eq_true rfl⟩) rfl (Nat.le_of_ble_eq_true rfl) ⟨Nat.le_of_ble_eq_true rfl, Nat.le_of_ble_eq_true rfl⟩ ?_
      refine z_aload_n X dd_RuleBook_goRound_33 rfl 1 rfl ?_
      obtain ⟨v9, ev9, h⟩ := zb h
      refine z_get (j := 2) X dd_RuleBook_goRound_34 kc_8 ki_8 (by decide) km_625 (zgr_v ev9) ?_
      refine z_aload_n X dd_RuleBook_goRound_37 rfl 0 rfl ?_
      obtain ⟨w11, ew11, h⟩ := zb h
      obtain ⟨q10, eq10, h⟩ := zb h
      refine z_callVv X [.ref v5] rfl dd_RuleBook_goRound_38 (c_Finder_start l eq10) (cwV 1 X.1.2.2.2.2 (zg_V km_1289 km_1290 km_1291 km_133 km_1292) rfl rfl rfl (by decide +kernel) ⟨Nat.le_of_ble_eq_true rfl, Nat.le_of_ble_eq_true rfl⟩) (zob_s ew11) kc_7 rfl (Nat.le_of_ble_eq_true rfl) ⟨Nat.le_of_ble_eq_true rfl, Nat.le_of_ble_eq_true rfl⟩ ?_
      refine z_iconst (v := 0) X dd_RuleBook_goRound_41 (by decide) ?_
      refine z_istore_n (lv' := [(3, .int 0), (2, .ref v5), (0, .ref x0), (1, .int x1)]) X dd_RuleBook_goRound_42 rfl (by decide) rfl ?_
      refine z_sub [2, 3, 1, 0] rfl ?_
      exact t_RuleBook_goRound_43 X H h k0 k1
set_option maxRecDepth 100000 in
set_option maxHeartbeats 4000000 in
theorem t_RuleBook_goRound_176  (X : zX p s m args cd D cid B bb_RuleBook_goRound 5 rr_RuleBook zT) (H : zH s meth B n0 (some (.boolean)) "goRound") {nf : Nat} {x0 : Nat} {x2 : Int32} {x3 : Int32} {x4 : Int32} {s0 : Int32} {s1 : Int32} {c : Zc} {r : (Nat × Int32 × Int32 × Int32 × Zc) ⊕ (Nat × Int32 × Int32 × Zc)} (h : f_RuleBook_goRound_176 nf x0 x2 x3 x4 s0 s1 c = some r) (k0 : ∀ a, r = .inl a → (fun a : Nat × Int32 × Int32 × Int32 × Zc => Zz p l e (zRm 5 121 0 0) s m args below meth cd Q D cid B 5 0 0 a.2.2.2.2 126 [(0, .ref a.1), (1, .int a.2.1), (2, .int a.2.2.1), (3, .int a.2.2.2.1)] []) a) (k1 : ∀ b, r = .inr b → (fun b : Nat × Int32 × Int32 × Zc => Zz p l e (zRm 5 121 0 0) s m args below meth cd Q D cid B 5 0 0 b.2.2.2 195 [(0, .ref b.1), (1, .int b.2.1), (2, .int b.2.2.1)] []) b) : Zz p l e (zRm 5 121 0 0) s m args below meth cd Q D cid B 5 0 0 c 176 [(0, .ref x0), (2, .int x2), (3, .int x3), (4, .int x4)] [.int s1, .int s0] := by
  unfold f_RuleBook_goRound_176 at h
  refine z_ior X dd_RuleBook_goRound_176 ?_
  refine z_istore_n (lv' := [(1, .int (s0 ||| s1)), (0, .ref x0), (2, .int x2), (3, .int x3), (4, .int x4)]) X dd_RuleBook_goRound_177 rfl (by decide) rfl ?_
  refine z_aload_n X dd_RuleBook_goRound_178 rfl 1 rfl ?_
  refine z_bipush (v := 8) X dd_RuleBook_goRound_179 (by decide) ?_
  refine z_iload_n X dd_RuleBook_goRound_181 rfl 2 rfl ?_
  refine z_iadd X dd_RuleBook_goRound_182 ?_
  refine z_iload_n X dd_RuleBook_goRound_183 rfl 3 rfl ?_
  refine z_iload X dd_RuleBook_goRound_184 4 rfl ?_
  obtain ⟨w39, ew39, h⟩ := zb h
  obtain ⟨q38, eq38, h⟩ := zb h
  refine z_callVv X [.int (8 + x2), .int x3, .int x4] rfl dd_RuleBook_goRound_186 (c_RuleBook_linkAll l eq38) (cwV 3 X.1.2.2.2.2 (zg_V km_1387 km_1389 km_54 km_135 km_1390) rfl rfl rfl (by decide +kernel) ⟨Nat.le_of_ble_eq_true rfl, Nat.le_of_ble_eq_true rfl⟩) (zob_s ew39) kc_8 rfl (Nat.le_of_ble_eq_true rfl) ⟨Nat.le_of_ble_eq_true rfl, Nat.le_of_ble_eq_true rfl⟩ ?_
  refine z_iinc (v := (x3 + 1)) (lv' := [(3, .int (x3 + 1)), (1, .int (s0 ||| s1)), (0, .ref x0), (2, .int x2), (4, .int x4)]) X dd_RuleBook_goRound_189 3 rfl rfl (by decide) rfl ?_
  refine z_goto (tgt := 126) X dd_RuleBook_goRound_192 (by decide) ?_
  refine z_sub [2, 1, 3, 0] rfl ?_
  obtain rfl := Option.some.inj h
  exact k0 _ rfl
set_option maxRecDepth 100000 in
set_option maxHeartbeats 4000000 in
theorem u_RuleBook_goRound_126  (X : zX p s m args cd D cid B bb_RuleBook_goRound 5 rr_RuleBook zT) (H : zH s meth B n0 (some (.boolean)) "goRound") {nf : Nat} {x0 : Nat} {x1 : Int32} {x2 : Int32} {x3 : Int32} {c : Zc} {r : (Nat × Int32 × Int32 × Int32 × Zc) ⊕ (Nat × Int32 × Int32 × Zc)} (h : g_RuleBook_goRound_126 nf x0 x1 x2 x3 c = some r) (k0 : ∀ a, r = .inl a → (fun a : Nat × Int32 × Int32 × Int32 × Zc => Zz p l e (zRm 5 121 0 0) s m args below meth cd Q D cid B 5 0 0 a.2.2.2.2 126 [(0, .ref a.1), (1, .int a.2.1), (2, .int a.2.2.1), (3, .int a.2.2.2.1)] []) a) (k1 : ∀ b, r = .inr b → (fun b : Nat × Int32 × Int32 × Zc => Zz p l e (zRm 5 121 0 0) s m args below meth cd Q D cid B 5 0 0 b.2.2.2 195 [(0, .ref b.1), (1, .int b.2.1), (2, .int b.2.2.1)] []) b) : Zz p l e (zRm 5 121 0 0) s m args below meth cd Q D cid B 5 0 0 c 126 [(0, .ref x0), (1, .int x1), (2, .int x2), (3, .int x3)] [] := by
  unfold g_RuleBook_goRound_126 at h
  refine z_iload_n X dd_RuleBook_goRound_126 rfl 3 rfl ?_
  refine z_aload_n X dd_RuleBook_goRound_127 rfl 0 rfl ?_
  obtain ⟨v29, ev29, h⟩ := zb h
  refine z_get (j := 1) X dd_RuleBook_goRound_128 kc_8 ki_8 (by decide) km_624 (zgr_v ev29) ?_
  obtain ⟨v30, ev30, h⟩ := zb h
  refine z_get (j := 7) X dd_RuleBook_goRound_131 kc_0 ki_0 (by decide) km_175 (zgi_v ev30) ?_
  refine z_icmp_ge (tgt := 195) X dd_RuleBook_goRound_134 (by decide) (fun q31 => ?_) (fun q31 => ?_)
  · rw [if_pos q31] at h
    refine z_sub [0, 1, 2] rfl ?_
    obtain rfl := Option.some.inj h
    exact k1 _ rfl
  · rw [if_neg q31] at h
    refine z_aload_n X dd_RuleBook_goRound_137 rfl 0 rfl ?_
    obtain ⟨v32, ev32, h⟩ := zb h
    refine z_get (j := 3) X dd_RuleBook_goRound_138 kc_8 ki_8 (by decide) km_626 (zgr_v ev32) ?_
    refine z_iload_n X dd_RuleBook_goRound_141 rfl 2 rfl ?_
    refine z_bipush (v := 16) X dd_RuleBook_goRound_142 (by decide) ?_
    refine z_imul X dd_RuleBook_goRound_144 ?_
    refine z_iload_n X dd_RuleBook_goRound_145 rfl 3 rfl ?_
    refine z_iadd X dd_RuleBook_goRound_146 ?_
    obtain ⟨v33, ev33, h⟩ := zb h
    refine z_iaload X dd_RuleBook_goRound_147 rfl ev33 ?_
    refine z_aload_n X dd_RuleBook_goRound_148 rfl 0 rfl ?_
    obtain ⟨v34, ev34, h⟩ := zb h
    refine z_get (j := 1) X dd_RuleBook_goRound_149 kc_8 ki_8 (by decide) km_624 (zgr_v ev34) ?_
    refine z_bipush (v := 8) X dd_RuleBook_goRound_152 (by decide) ?_
    refine z_iload_n X dd_RuleBook_goRound_154 rfl 2 rfl ?_
    refine z_iadd X dd_RuleBook_goRound_155 ?_
    refine z_iload_n X dd_RuleBook_goRound_156 rfl 3 rfl ?_
    obtain ⟨w36, ew36, h⟩ := zb h
    obtain ⟨q35, eq35, h⟩ := zb h
    refine z_callVi X [.int (8 + x2), .int x3] rfl dd_RuleBook_goRound_157 (c_Graph_reached l eq35) (cwV 2 X.1.2.2.2.2 (zg_V km_1383 km_1384 km_1385 km_126 km_1386) rfl rfl rfl (by decide +kernel) ⟨Nat.le_of_ble_eq_true rfl, Nat.le_of_ble_eq_true rfl⟩) (zob_s ew36) kc_0 rfl (Nat.le_of_ble_eq_true rfl) ⟨Nat.le_of_ble_eq_true rfl, Nat.le_of_ble_eq_true rfl⟩ ?_
    refine z_iconst (v := (-1)) X dd_RuleBook_goRound_160 (by decide) ?_
    refine z_ixor X dd_RuleBook_goRound_161 ?_
    refine z_iand X dd_RuleBook_goRound_162 ?_
    refine z_istore (lv' := [(4, .int (v33 &&& (q35.1 ^^^ (-1)))), (0, .ref x0), (1, .int x1), (2, .int x2), (3, .int x3)]) X dd_RuleBook_goRound_163 (by decide) rfl ?_
    refine z_iload_n X dd_RuleBook_goRound_165 rfl 2 rfl ?_
    refine z_iload X dd_RuleBook_goRound_166 0 rfl ?_
    refine z_if_eq (tgt := 175) X dd_RuleBook_goRound_168 (by decide) (fun q37 => ?_) (fun q37 => ?_)
    · rw [if_pos q37] at h
      refine z_iconst (v := 0) X dd_RuleBook_goRound_175 (by decide) ?_
      refine z_sub [1, 3, 4, 0] rfl ?_
      exact t_RuleBook_goRound_176 X H h k0 k1
    · rw [if_neg q37] at h
      refine z_iconst (v := 1) X dd_RuleBook_goRound_171 (by decide) ?_
      refine z_goto (tgt := 176) X dd_RuleBook_goRound_172 (by decide) ?_
      refine z_sub [1, 3, 4, 0] rfl ?_
      exact t_RuleBook_goRound_176 X H h k0 k1
set_option maxRecDepth 100000 in
set_option maxHeartbeats 4000000 in
theorem t_RuleBook_goRound_126  (X : zX p s m args cd D cid B bb_RuleBook_goRound 5 rr_RuleBook zT) (H : zH s meth B n0 (some (.boolean)) "goRound") {nf : Nat} {x0 : Nat} {x1 : Int32} {x2 : Int32} {x3 : Int32} {c : Zc} {r : (Nat × Int32 × Int32 × Zc) ⊕ (Int32 × Zc)} (h : f_RuleBook_goRound_126 nf x0 x1 x2 x3 c = some r) (k0 : ∀ a, r = .inl a → (fun a : Nat × Int32 × Int32 × Zc => Zz p l e (zRm 5 121 0 0) s m args below meth cd Q D cid B 5 0 0 a.2.2.2 119 [(0, .ref a.1), (1, .int a.2.1), (2, .int a.2.2.1)] []) a) (k1 : ∀ b, r = .inr b → (fun b : Int32 × Zc => Zz p l e (zRm 5 121 0 0) s m args below meth cd Q D cid B 5 0 0 b.2 201 [(1, .int b.1)] []) b) : Zz p l e (zRm 5 121 0 0) s m args below meth cd Q D cid B 5 0 0 c 126 [(0, .ref x0), (1, .int x1), (2, .int x2), (3, .int x3)] [] := by
  unfold f_RuleBook_goRound_126 at h
  obtain ⟨b, eb, h⟩ := zb h
  refine zlp_ok (P := fun a : Nat × Int32 × Int32 × Int32 × Zc => Zz p l e (zRm 5 121 0 0) s m args below meth cd _ D cid B 5 0 0 a.2.2.2.2 126 [(0, .ref a.1), (1, .int a.2.1), (2, .int a.2.2.1), (3, .int a.2.2.2.1)] []) (G := fun b : Nat × Int32 × Int32 × Zc => Zz p l e (zRm 5 121 0 0) s m args below meth cd _ D cid B 5 0 0 b.2.2.2 195 [(0, .ref b.1), (1, .int b.2.1), (2, .int b.2.2.1)] []) (fun a r ha k0 k1 => u_RuleBook_goRound_126 X H ha k0 k1) nf _ b eb ?_
  refine z_iinc (v := (b.2.2.1 + 1)) (lv' := [(2, .int (b.2.2.1 + 1)), (0, .ref b.1), (1, .int b.2.1)]) X dd_RuleBook_goRound_195 2 rfl rfl (by decide) rfl ?_
  refine z_goto (tgt := 119) X dd_RuleBook_goRound_198 (by decide) ?_
  refine z_sub [1, 2, 0] rfl ?_
  obtain rfl := Option.some.inj h
  exact k0 _ rfl
set_option maxRecDepth 100000 in
set_option maxHeartbeats 4000000 in
theorem u_RuleBook_goRound_119  (X : zX p s m args cd D cid B bb_RuleBook_goRound 5 rr_RuleBook zT) (H : zH s meth B n0 (some (.boolean)) "goRound") {nf : Nat} {x0 : Nat} {x1 : Int32} {x2 : Int32} {c : Zc} {r : (Nat × Int32 × Int32 × Zc) ⊕ (Int32 × Zc)} (h : g_RuleBook_goRound_119 nf x0 x1 x2 c = some r) (k0 : ∀ a, r = .inl a → (fun a : Nat × Int32 × Int32 × Zc => Zz p l e (zRm 5 121 0 0) s m args below meth cd Q D cid B 5 0 0 a.2.2.2 119 [(0, .ref a.1), (1, .int a.2.1), (2, .int a.2.2.1)] []) a) (k1 : ∀ b, r = .inr b → (fun b : Int32 × Zc => Zz p l e (zRm 5 121 0 0) s m args below meth cd Q D cid B 5 0 0 b.2 201 [(1, .int b.1)] []) b) : Zz p l e (zRm 5 121 0 0) s m args below meth cd Q D cid B 5 0 0 c 119 [(0, .ref x0), (1, .int x1), (2, .int x2)] [] := by
  unfold g_RuleBook_goRound_119 at h
  refine z_iload_n X dd_RuleBook_goRound_119 rfl 2 rfl ?_
  refine z_iconst (v := 4) X dd_RuleBook_goRound_120 (by decide) ?_
  refine z_icmp_ge (tgt := 201) X dd_RuleBook_goRound_121 (by decide) (fun q28 => ?_) (fun q28 => ?_)
  · rw [if_pos q28] at h
    refine z_sub [1] rfl ?_
    obtain rfl := Option.some.inj h
    exact k1 _ rfl
  · rw [if_neg q28] at h
    refine z_iconst (v := 0) X dd_RuleBook_goRound_124 (by decide) ?_
    refine z_istore_n (lv' := [(3, .int 0), (0, .ref x0), (1, .int x1), (2, .int x2)]) X dd_RuleBook_goRound_125 rfl (by decide) rfl ?_
    refine z_sub [1, 2, 3, 0] rfl ?_
    exact t_RuleBook_goRound_126 X H h k0 k1
set_option maxRecDepth 100000 in
set_option maxHeartbeats 4000000 in
theorem t_RuleBook_goRound_119  (X : zX p s m args cd D cid B bb_RuleBook_goRound 5 rr_RuleBook zT) (H : zH s meth B n0 (some (.boolean)) "goRound") {nf : Nat} {x0 : Nat} {x1 : Int32} {x2 : Int32} {c : Zc} {res : Int32 × Zc} (h : f_RuleBook_goRound_119 nf x0 x1 x2 c = some res) : Zz p l e (zRm 5 121 0 0) s m args below meth cd (MQ below (zQi D cid B res.1 res.2 n0 0) args s 0 0 (fun q => B ≤ q)) D cid B 5 0 0 c 119 [(0, .ref x0), (1, .int x1), (2, .int x2)] [] := by
  unfold f_RuleBook_goRound_119 at h
  obtain ⟨b, eb, h⟩ := zb h
  refine zlp_ok (P := fun a : Nat × Int32 × Int32 × Zc => Zz p l e (zRm 5 121 0 0) s m args below meth cd _ D cid B 5 0 0 a.2.2.2 119 [(0, .ref a.1), (1, .int a.2.1), (2, .int a.2.2.1)] []) (G := fun b : Int32 × Zc => Zz p l e (zRm 5 121 0 0) s m args below meth cd _ D cid B 5 0 0 b.2 201 [(1, .int b.1)] []) (fun a r ha k0 k1 => u_RuleBook_goRound_119 X H ha k0 k1) nf _ b eb ?_
  refine z_iload_n X dd_RuleBook_goRound_201 rfl 0 rfl ?_
  obtain ⟨hz, h⟩ := zrz_s h
  obtain rfl := h
  exact z_zret X H.1 (zn_z hz) H.2.1 H.2.2.1 dd_RuleBook_goRound_202
set_option maxRecDepth 100000 in
set_option maxHeartbeats 4000000 in
theorem t_RuleBook_goRound_10  (X : zX p s m args cd D cid B bb_RuleBook_goRound 5 rr_RuleBook zT) (H : zH s meth B n0 (some (.boolean)) "goRound") {nf : Nat} {x0 : Nat} {x1 : Int32} {c : Zc} {res : Int32 × Zc} (h : f_RuleBook_goRound_10 nf x0 x1 c = some res) : Zz p l e (zRm 5 121 0 0) s m args below meth cd (MQ below (zQi D cid B res.1 res.2 n0 0) args s 0 0 (fun q => B ≤ q)) D cid B 5 0 0 c 10 [(0, .ref x0), (1, .int x1)] [] := by
  unfold f_RuleBook_goRound_10 at h
  obtain ⟨b, eb, h⟩ := zb h
  refine zlp_ok (P := fun a : Nat × Int32 × Zc => Zz p l e (zRm 5 121 0 0) s m args below meth cd _ D cid B 5 0 0 a.2.2 10 [(0, .ref a.1), (1, .int a.2.1)] []) (G := fun b : Nat × Zc => Zz p l e (zRm 5 121 0 0) s m args below meth cd _ D cid B 5 0 0 b.2 115 [(0, .ref b.1)] []) (fun a r ha k0 k1 => u_RuleBook_goRound_10 X H ha k0 k1) nf _ b eb ?_
  refine z_iconst (v := 0) X dd_RuleBook_goRound_115 (by decide) ?_
  refine z_istore_n (lv' := [(1, .int 0), (0, .ref b.1)]) X dd_RuleBook_goRound_116 rfl (by decide) rfl ?_
  refine z_iconst (v := 0) X dd_RuleBook_goRound_117 (by decide) ?_
  refine z_istore_n (lv' := [(2, .int 0), (1, .int 0), (0, .ref b.1)]) X dd_RuleBook_goRound_118 rfl (by decide) rfl ?_
  refine z_sub [2, 1, 0] rfl ?_
  exact t_RuleBook_goRound_119 X H h
set_option maxRecDepth 100000 in
set_option maxHeartbeats 4000000 in
theorem c_RuleBook_goRound (l : Launch) {nf : Nat} {a0 : Nat} {c : Zc} {res : Int32 × Zc} (h : f_RuleBook_goRound nf a0 c = some res) : zM l yy_RuleBook_goRound ww_RuleBook_goRound 5 121 0 0 [.ref a0] c (fun D cid B => zQi D cid B res.1 res.2 c.length 0) := by
  refine z_met (cc := bb_RuleBook_goRound) (maxL := 5) (ret := (some (.boolean))) (by decide +kernel) rfl (Nat.le_of_ble_eq_true rfl) ?_
  intro p e s m args below meth cd D cid B X h1 h2 h3 h4
  have X : zX p s m args cd D cid B bb_RuleBook_goRound 5 rr_RuleBook zT := X
  have H : zH s meth B c.length (some (.boolean)) "goRound" := ⟨h1, h2, h4, h3⟩
  unfold f_RuleBook_goRound at h
  show Zz p l e (zRm 5 121 0 0) s m args below meth cd _ D cid B 5 0 0 c 0 [(0, .ref a0)] []
  refine z_aload_n X dd_RuleBook_goRound_0 rfl 0 rfl ?_
  obtain ⟨v1, ev1, h⟩ := zb h
  refine z_get (j := 3) X dd_RuleBook_goRound_1 kc_8 ki_8 (by decide) km_626 (zgr_v ev1) ?_
  refine z_iconst (v := 0) X dd_RuleBook_goRound_4 (by decide) ?_
  obtain ⟨q2, eq2, h⟩ := zb h
  refine z_callSv X [.ref v1, .int 0] rfl dd_RuleBook_goRound_5 (c_Arrays_fill l eq2) (va_cwS 2 X.1.2.2.2.2 (zg_S km_1285 km_162 km_127 km_163) rfl rfl rfl (by decide +kernel) ⟨Nat.le_of_ble_eq_true rfl, Nat.le_of_ble_eq_true rfl⟩) rfl (Nat.le_of_ble_eq_true rfl) ⟨Nat.le_of_ble_eq_true rfl, Nat.le_of_ble_eq_true rfl⟩ ?_
  refine z_iconst (v := 0) X dd_RuleBook_goRound_8 (by decide) ?_
  refine z_istore_n (lv' := [(1, .int 0), (0, .ref a0)]) X dd_RuleBook_goRound_9 rfl (by decide) rfl ?_
  refine z_sub [1, 0] rfl ?_
  exact t_RuleBook_goRound_10 X H h
theorem dd_RuleBook_settle_0 : decode bb_RuleBook_settle 0 = .ok (.aload_n 0, 1) := by decide +kernel
theorem dd_RuleBook_settle_1 : decode bb_RuleBook_settle 1 = .ok (.getfield 21, 3) := by decide +kernel
theorem dd_RuleBook_settle_4 : decode bb_RuleBook_settle 4 = .ok (.aload_n 0, 1) := by decide +kernel
theorem dd_RuleBook_settle_5 : decode bb_RuleBook_settle 5 = .ok (.getfield 29, 3) := by decide +kernel
theorem dd_RuleBook_settle_8 : decode bb_RuleBook_settle 8 = .ok (.getfield 44, 3) := by decide +kernel
theorem dd_RuleBook_settle_11 : decode bb_RuleBook_settle 11 = .ok (.if_icmp .ne 8, 3) := by decide +kernel
theorem dd_RuleBook_settle_14 : decode bb_RuleBook_settle 14 = .ok (.aload_n 0, 1) := by decide +kernel
theorem dd_RuleBook_settle_15 : decode bb_RuleBook_settle 15 = .ok (.getfield 25, 3) := by decide +kernel
theorem dd_RuleBook_settle_18 : decode bb_RuleBook_settle 18 = .ok (.ireturn, 1) := by decide +kernel
theorem dd_RuleBook_settle_19 : decode bb_RuleBook_settle 19 = .ok (.aload_n 0, 1) := by decide +kernel
theorem dd_RuleBook_settle_20 : decode bb_RuleBook_settle 20 = .ok (.aload_n 0, 1) := by decide +kernel
theorem dd_RuleBook_settle_21 : decode bb_RuleBook_settle 21 = .ok (.getfield 29, 3) := by decide +kernel
theorem dd_RuleBook_settle_24 : decode bb_RuleBook_settle 24 = .ok (.getfield 44, 3) := by decide +kernel
theorem dd_RuleBook_settle_27 : decode bb_RuleBook_settle 27 = .ok (.putfield 21, 3) := by decide +kernel
theorem dd_RuleBook_settle_30 : decode bb_RuleBook_settle 30 = .ok (.aload_n 0, 1) := by decide +kernel
theorem dd_RuleBook_settle_31 : decode bb_RuleBook_settle 31 = .ok (.getfield 29, 3) := by decide +kernel
theorem dd_RuleBook_settle_34 : decode bb_RuleBook_settle 34 = .ok (.invokevirtual 49, 3) := by decide +kernel
theorem dd_RuleBook_settle_37 : decode bb_RuleBook_settle 37 = .ok (.aload_n 0, 1) := by decide +kernel
theorem dd_RuleBook_settle_38 : decode bb_RuleBook_settle 38 = .ok (.invokevirtual 52, 3) := by decide +kernel
theorem dd_RuleBook_settle_41 : decode bb_RuleBook_settle 41 = .ok (.lstore_n 1, 1) := by decide +kernel
theorem dd_RuleBook_settle_42 : decode bb_RuleBook_settle 42 = .ok (.sipush 1025, 3) := by decide +kernel
theorem dd_RuleBook_settle_45 : decode bb_RuleBook_settle 45 = .ok (.istore_n 3, 1) := by decide +kernel
theorem dd_RuleBook_settle_46 : decode bb_RuleBook_settle 46 = .ok (.aload_n 0, 1) := by decide +kernel
theorem dd_RuleBook_settle_47 : decode bb_RuleBook_settle 47 = .ok (.invokevirtual 56, 3) := by decide +kernel
theorem dd_RuleBook_settle_50 : decode bb_RuleBook_settle 50 = .ok (.ifCond .le 7, 3) := by decide +kernel
theorem dd_RuleBook_settle_53 : decode bb_RuleBook_settle 53 = .ok (.iconst 1, 1) := by decide +kernel
theorem dd_RuleBook_settle_54 : decode bb_RuleBook_settle 54 = .ok (.goto 4, 3) := by decide +kernel
theorem dd_RuleBook_settle_57 : decode bb_RuleBook_settle 57 = .ok (.iconst 0, 1) := by decide +kernel
theorem dd_RuleBook_settle_58 : decode bb_RuleBook_settle 58 = .ok (.istore 4, 2) := by decide +kernel
theorem dd_RuleBook_settle_60 : decode bb_RuleBook_settle 60 = .ok (.aload_n 0, 1) := by decide +kernel
theorem dd_RuleBook_settle_61 : decode bb_RuleBook_settle 61 = .ok (.aload_n 0, 1) := by decide +kernel
theorem dd_RuleBook_settle_62 : decode bb_RuleBook_settle 62 = .ok (.invokevirtual 60, 3) := by decide +kernel
theorem dd_RuleBook_settle_65 : decode bb_RuleBook_settle 65 = .ok (.putfield 25, 3) := by decide +kernel
theorem dd_RuleBook_settle_68 : decode bb_RuleBook_settle 68 = .ok (.iconst 1, 1) := by decide +kernel
theorem dd_RuleBook_settle_69 : decode bb_RuleBook_settle 69 = .ok (.istore 5, 2) := by decide +kernel
theorem dd_RuleBook_settle_71 : decode bb_RuleBook_settle 71 = .ok (.iload 5, 2) := by decide +kernel
theorem dd_RuleBook_settle_73 : decode bb_RuleBook_settle 73 = .ok (.iload_n 3, 1) := by decide +kernel
theorem dd_RuleBook_settle_74 : decode bb_RuleBook_settle 74 = .ok (.if_icmp .gt 55, 3) := by decide +kernel
theorem dd_RuleBook_settle_77 : decode bb_RuleBook_settle 77 = .ok (.iload 4, 2) := by decide +kernel
theorem dd_RuleBook_settle_79 : decode bb_RuleBook_settle 79 = .ok (.ifCond .eq 50, 3) := by decide +kernel
theorem dd_RuleBook_settle_82 : decode bb_RuleBook_settle 82 = .ok (.aload_n 0, 1) := by decide +kernel
theorem dd_RuleBook_settle_83 : decode bb_RuleBook_settle 83 = .ok (.getfield 25, 3) := by decide +kernel
theorem dd_RuleBook_settle_86 : decode bb_RuleBook_settle 86 = .ok (.ifCond .ne 43, 3) := by decide +kernel
theorem dd_RuleBook_settle_89 : decode bb_RuleBook_settle 89 = .ok (.aload_n 0, 1) := by decide +kernel
theorem dd_RuleBook_settle_90 : decode bb_RuleBook_settle 90 = .ok (.lload_n 1, 1) := by decide +kernel
theorem dd_RuleBook_settle_91 : decode bb_RuleBook_settle 91 = .ok (.iload 5, 2) := by decide +kernel
theorem dd_RuleBook_settle_93 : decode bb_RuleBook_settle 93 = .ok (.i2l, 1) := by decide +kernel
theorem dd_RuleBook_settle_94 : decode bb_RuleBook_settle 94 = .ok (.lmul, 1) := by decide +kernel
theorem dd_RuleBook_settle_95 : decode bb_RuleBook_settle 95 = .ok (.ldc2_w 64, 3) := by decide +kernel
theorem dd_RuleBook_settle_98 : decode bb_RuleBook_settle 98 = .ok (.lcmp, 1) := by decide +kernel
theorem dd_RuleBook_settle_99 : decode bb_RuleBook_settle 99 = .ok (.ifCond .le 7, 3) := by decide +kernel
theorem dd_RuleBook_settle_102 : decode bb_RuleBook_settle 102 = .ok (.iconst 1, 1) := by decide +kernel
theorem dd_RuleBook_settle_103 : decode bb_RuleBook_settle 103 = .ok (.goto 4, 3) := by decide +kernel
theorem dd_RuleBook_settle_106 : decode bb_RuleBook_settle 106 = .ok (.iconst 0, 1) := by decide +kernel
theorem dd_RuleBook_settle_107 : decode bb_RuleBook_settle 107 = .ok (.putfield 25, 3) := by decide +kernel
theorem dd_RuleBook_settle_110 : decode bb_RuleBook_settle 110 = .ok (.aload_n 0, 1) := by decide +kernel
theorem dd_RuleBook_settle_111 : decode bb_RuleBook_settle 111 = .ok (.getfield 25, 3) := by decide +kernel
theorem dd_RuleBook_settle_114 : decode bb_RuleBook_settle 114 = .ok (.ifCond .ne 9, 3) := by decide +kernel
theorem dd_RuleBook_settle_117 : decode bb_RuleBook_settle 117 = .ok (.aload_n 0, 1) := by decide +kernel
theorem dd_RuleBook_settle_118 : decode bb_RuleBook_settle 118 = .ok (.invokevirtual 66, 3) := by decide +kernel
theorem dd_RuleBook_settle_121 : decode bb_RuleBook_settle 121 = .ok (.istore 4, 2) := by decide +kernel
theorem dd_RuleBook_settle_123 : decode bb_RuleBook_settle 123 = .ok (.iinc 5 1, 3) := by decide +kernel
theorem dd_RuleBook_settle_126 : decode bb_RuleBook_settle 126 = .ok (.goto (-55), 3) := by decide +kernel
theorem dd_RuleBook_settle_129 : decode bb_RuleBook_settle 129 = .ok (.aload_n 0, 1) := by decide +kernel
theorem dd_RuleBook_settle_130 : decode bb_RuleBook_settle 130 = .ok (.getfield 25, 3) := by decide +kernel
theorem dd_RuleBook_settle_133 : decode bb_RuleBook_settle 133 = .ok (.ireturn, 1) := by decide +kernel
set_option maxRecDepth 100000 in
set_option maxHeartbeats 4000000 in
theorem t_RuleBook_settle_123  (X : zX p s m args cd D cid B bb_RuleBook_settle 6 rr_RuleBook zT) (H : zH s meth B n0 (some (.boolean)) "settle") {nf : Nat} {x0 : Nat} {x1 : Int64} {x3 : Int32} {x4 : Int32} {x5 : Int32} {c : Zc} {r : (Nat × Int64 × Int32 × Int32 × Int32 × Zc) ⊕ (Nat × Zc)} (h : f_RuleBook_settle_123 nf x0 x1 x3 x4 x5 c = some r) (k0 : ∀ a, r = .inl a → (fun a : Nat × Int64 × Int32 × Int32 × Int32 × Zc => Zz p l e (zRm 6 145 0 0) s m args below meth cd Q D cid B 6 0 0 a.2.2.2.2.2 71 [(0, .ref a.1), (1, .long a.2.1), (3, .int a.2.2.1), (4, .int a.2.2.2.1), (5, .int a.2.2.2.2.1)] []) a) (k1 : ∀ b, r = .inr b → (fun b : Nat × Zc => Zz p l e (zRm 6 145 0 0) s m args below meth cd Q D cid B 6 0 0 b.2 129 [(0, .ref b.1)] []) b) : Zz p l e (zRm 6 145 0 0) s m args below meth cd Q D cid B 6 0 0 c 123 [(0, .ref x0), (1, .long x1), (3, .int x3), (4, .int x4), (5, .int x5)] [] := by
  unfold f_RuleBook_settle_123 at h
  refine z_iinc (v := (x5 + 1)) (lv' := [(5, .int (x5 + 1)), (0, .ref x0), (1, .long x1), (3, .int x3), (4, .int x4)]) X dd_RuleBook_settle_123 4 rfl rfl (by decide) rfl ?_
  refine z_goto (tgt := 71) X dd_RuleBook_settle_126 (by decide) ?_
  refine z_sub [1, 2, 3, 4, 0] rfl ?_
  obtain rfl := Option.some.inj h
  exact k0 _ rfl
set_option maxRecDepth 100000 in
set_option maxHeartbeats 4000000 in
theorem t_RuleBook_settle_107  (X : zX p s m args cd D cid B bb_RuleBook_settle 6 rr_RuleBook zT) (H : zH s meth B n0 (some (.boolean)) "settle") {nf : Nat} {x0 : Nat} {x1 : Int64} {x3 : Int32} {x4 : Int32} {x5 : Int32} {s0 : Nat} {s1 : Int32} {c : Zc} {r : (Nat × Int64 × Int32 × Int32 × Int32 × Zc) ⊕ (Nat × Zc)} (h : f_RuleBook_settle_107 nf x0 x1 x3 x4 x5 s0 s1 c = some r) (k0 : ∀ a, r = .inl a → (fun a : Nat × Int64 × Int32 × Int32 × Int32 × Zc => Zz p l e (zRm 6 145 0 0) s m args below meth cd Q D cid B 6 0 0 a.2.2.2.2.2 71 [(0, .ref a.1), (1, .long a.2.1), (3, .int a.2.2.1), (4, .int a.2.2.2.1), (5, .int a.2.2.2.2.1)] []) a) (k1 : ∀ b, r = .inr b → (fun b : Nat × Zc => Zz p l e (zRm 6 145 0 0) s m args below meth cd Q D cid B 6 0 0 b.2 129 [(0, .ref b.1)] []) b) : Zz p l e (zRm 6 145 0 0) s m args below meth cd Q D cid B 6 0 0 c 107 [(0, .ref x0), (1, .long x1), (3, .int x3), (4, .int x4), (5, .int x5)] [.int s1, .ref s0] := by
  unfold f_RuleBook_settle_107 at h
  obtain ⟨c24, ec24, h⟩ := zb h
  obtain ⟨bc24, ec24⟩ := zpz_s ec24
  refine z_put (j := 5) X dd_RuleBook_settle_107 kc_8 ki_8 tt_RuleBook tk_RuleBook nn_RuleBook (by decide) km_628 rfl (tk_RuleBook 5 (by decide)) (zn_z bc24) (zf_z bc24) ec24 ?_
  refine z_aload_n X dd_RuleBook_settle_110 rfl 0 rfl ?_
  obtain ⟨v25, ev25, h⟩ := zb h
  refine z_get (j := 5) X dd_RuleBook_settle_111 kc_8 ki_8 (by decide) km_628 (zgi_v ev25) ?_
  refine z_if_ne (tgt := 123) X dd_RuleBook_settle_114 (by decide) (fun q26 => ?_) (fun q26 => ?_)
  · rw [if_neg q26] at h
    exact t_RuleBook_settle_123 X H h k0 k1
  · rw [if_pos q26] at h
    refine z_aload_n X dd_RuleBook_settle_117 rfl 0 rfl ?_
    obtain ⟨w28, ew28, h⟩ := zb h
    obtain ⟨q27, eq27, h⟩ := zb h
    refine z_callVi X [] rfl dd_RuleBook_settle_118 (c_RuleBook_goRound l eq27) (cwV 0 X.1.2.2.2.2 (zg_V km_1281 km_1283 km_46 km_135 km_1284) rfl rfl rfl (by decide +kernel) ⟨Nat.le_of_ble_eq_true rfl, Nat.le_of_ble_eq_true rfl⟩) (zob_s ew28) kc_8 rfl (Nat.le_of_ble_eq_true rfl) ⟨Nat.le_of_ble_eq_true rfl, Nat.le_of_ble_eq_true rfl⟩ ?_
    refine z_istore (lv' := [(4, .int q27.1), (0, .ref x0), (1, .long x1), (3, .int x3), (5, .int x5)]) X dd_RuleBook_settle_121 (by decide) rfl ?_
    refine z_sub [1, 2, 3, 0, 4] rfl ?_
    exact t_RuleBook_settle_123 X H h k0 k1
set_option maxRecDepth 100000 in
set_option maxHeartbeats 4000000 in
theorem u_RuleBook_settle_71  (X : zX p s m args cd D cid B bb_RuleBook_settle 6 rr_RuleBook zT) (H : zH s meth B n0 (some (.boolean)) "settle") {nf : Nat} {x0 : Nat} {x1 : Int64} {x3 : Int32} {x4 : Int32} {x5 : Int32} {c : Zc} {r : (Nat × Int64 × Int32 × Int32 × Int32 × Zc) ⊕ (Nat × Zc)} (h : g_RuleBook_settle_71 nf x0 x1 x3 x4 x5 c = some r) (k0 : ∀ a, r = .inl a → (fun a : Nat × Int64 × Int32 × Int32 × Int32 × Zc => Zz p l e (zRm 6 145 0 0) s m args below meth cd Q D cid B 6 0 0 a.2.2.2.2.2 71 [(0, .ref a.1), (1, .long a.2.1), (3, .int a.2.2.1), (4, .int a.2.2.2.1), (5, .int a.2.2.2.2.1)] []) a) (k1 : ∀ b, r = .inr b → (fun b : Nat × Zc => Zz p l e (zRm 6 145 0 0) s m args below meth cd Q D cid B 6 0 0 b.2 129 [(0, .ref b.1)] []) b) : Zz p l e (zRm 6 145 0 0) s m args below meth cd Q D cid B 6 0 0 c 71 [(0, .ref x0), (1, .long x1), (3, .int x3), (4, .int x4), (5, .int x5)] [] := by
  unfold g_RuleBook_settle_71 at h
  refine z_iload X dd_RuleBook_settle_71 4 rfl ?_
  refine z_iload_n X dd_RuleBook_settle_73 rfl 2 rfl ?_
  refine z_icmp_gt (tgt := 129) X dd_RuleBook_settle_74 (by decide) (fun q19 => ?_) (fun q19 => ?_)
  · rw [if_pos q19] at h
    refine z_sub [0] rfl ?_
    obtain rfl := Option.some.inj h
    exact k1 _ rfl
  · rw [if_neg q19] at h
    refine z_iload X dd_RuleBook_settle_77 3 rfl ?_
    refine z_if_eq (tgt := 129) X dd_RuleBook_settle_79 (by decide) (fun q20 => ?_) (fun q20 => ?_)
    · rw [if_pos q20] at h
      refine z_sub [0] rfl ?_
      obtain rfl := Option.some.inj h
      exact k1 _ rfl
    · rw [if_neg q20] at h
      refine z_aload_n X dd_RuleBook_settle_82 rfl 0 rfl ?_
      obtain ⟨v21, ev21, h⟩ := zb h
      refine z_get (j := 5) X dd_RuleBook_settle_83 kc_8 ki_8 (by decide) km_628 (zgi_v ev21) ?_
      refine z_if_ne (tgt := 129) X dd_RuleBook_settle_86 (by decide) (fun q22 => ?_) (fun q22 => ?_)
      · rw [if_neg q22] at h
        refine z_sub [0] rfl ?_
        obtain rfl := Option.some.inj h
        exact k1 _ rfl
      · rw [if_pos q22] at h
        refine z_aload_n X dd_RuleBook_settle_89 rfl 0 rfl ?_
        refine z_lload_n X dd_RuleBook_settle_90 rfl 1 rfl ?_
        refine z_iload X dd_RuleBook_settle_91 4 rfl ?_
        refine z_i2l X dd_RuleBook_settle_93 ?_
        refine z_lmul X dd_RuleBook_settle_94 ?_
        refine z_ldc2 (v := 1000000) X dd_RuleBook_settle_95 km_1280 ?_
        refine z_lcmp X dd_RuleBook_settle_98 ?_
        refine z_if_le (tgt := 106) X dd_RuleBook_settle_99 (by decide) (fun q23 => ?_) (fun q23 => ?_)
        · rw [if_pos q23] at h
          refine z_iconst (v := 0) X dd_RuleBook_settle_106 (by decide) ?_
          exact t_RuleBook_settle_107 X H h k0 k1
        · rw [if_neg q23] at h
          refine z_iconst (v := 1) X dd_RuleBook_settle_102 (by decide) ?_
          refine z_goto (tgt := 107) X dd_RuleBook_settle_103 (by decide) ?_
          exact t_RuleBook_settle_107 X H h k0 k1
set_option maxRecDepth 100000 in
set_option maxHeartbeats 4000000 in
theorem t_RuleBook_settle_129  (X : zX p s m args cd D cid B bb_RuleBook_settle 6 rr_RuleBook zT) (H : zH s meth B n0 (some (.boolean)) "settle") {nf : Nat} {x0 : Nat} {c : Zc} {res : Int32 × Zc} (h : f_RuleBook_settle_129 nf x0 c = some res) : Zz p l e (zRm 6 145 0 0) s m args below meth cd (MQ below (zQi D cid B res.1 res.2 n0 0) args s 0 0 (fun q => B ≤ q)) D cid B 6 0 0 c 129 [(0, .ref x0)] [] := by
  unfold f_RuleBook_settle_129 at h
  refine z_aload_n X dd_RuleBook_settle_129 rfl 0 rfl ?_
  obtain ⟨v29, ev29, h⟩ := zb h
  refine z_get (j := 5) X dd_RuleBook_settle_130 kc_8 ki_8 (by decide) km_628 (zgi_v ev29) ?_
  obtain ⟨hz, h⟩ := zrz_s h
  obtain rfl := h
  exact z_zret X H.1 (zn_z hz) H.2.1 H.2.2.1 dd_RuleBook_settle_133
set_option maxRecDepth 100000 in
set_option maxHeartbeats 4000000 in
theorem t_RuleBook_settle_71  (X : zX p s m args cd D cid B bb_RuleBook_settle 6 rr_RuleBook zT) (H : zH s meth B n0 (some (.boolean)) "settle") {nf : Nat} {x0 : Nat} {x1 : Int64} {x3 : Int32} {x4 : Int32} {x5 : Int32} {c : Zc} {res : Int32 × Zc} (h : f_RuleBook_settle_71 nf x0 x1 x3 x4 x5 c = some res) : Zz p l e (zRm 6 145 0 0) s m args below meth cd (MQ below (zQi D cid B res.1 res.2 n0 0) args s 0 0 (fun q => B ≤ q)) D cid B 6 0 0 c 71 [(0, .ref x0), (1, .long x1), (3, .int x3), (4, .int x4), (5, .int x5)] [] := by
  unfold f_RuleBook_settle_71 at h
  obtain ⟨b, eb, h⟩ := zb h
  refine zlp_ok (P := fun a : Nat × Int64 × Int32 × Int32 × Int32 × Zc => Zz p l e (zRm 6 145 0 0) s m args below meth cd _ D cid B 6 0 0 a.2.2.2.2.2 71 [(0, .ref a.1), (1, .long a.2.1), (3, .int a.2.2.1), (4, .int a.2.2.2.1), (5, .int a.2.2.2.2.1)] []) (G := fun b : Nat × Zc => Zz p l e (zRm 6 145 0 0) s m args below meth cd _ D cid B 6 0 0 b.2 129 [(0, .ref b.1)] []) (fun a r ha k0 k1 => u_RuleBook_settle_71 X H ha k0 k1) nf _ b eb ?_
  exact t_RuleBook_settle_129 X H h
set_option maxRecDepth 100000 in
set_option maxHeartbeats 4000000 in
theorem t_RuleBook_settle_58  (X : zX p s m args cd D cid B bb_RuleBook_settle 6 rr_RuleBook zT) (H : zH s meth B n0 (some (.boolean)) "settle") {nf : Nat} {x0 : Nat} {x1 : Int64} {x3 : Int32} {s0 : Int32} {c : Zc} {res : Int32 × Zc} (h : f_RuleBook_settle_58 nf x0 x1 x3 s0 c = some res) : Zz p l e (zRm 6 145 0 0) s m args below meth cd (MQ below (zQi D cid B res.1 res.2 n0 0) args s 0 0 (fun q => B ≤ q)) D cid B 6 0 0 c 58 [(0, .ref x0), (1, .long x1), (3, .int x3)] [.int s0] := by
  unfold f_RuleBook_settle_58 at h
  refine z_istore (lv' := [(4, .int s0), (0, .ref x0), (1, .long x1), (3, .int x3)]) X dd_RuleBook_settle_58 (by decide) rfl ?_
  refine z_aload_n X dd_RuleBook_settle_60 rfl 1 rfl ?_
  refine z_aload_n X dd_RuleBook_settle_61 rfl 1 rfl ?_
  obtain ⟨w17, ew17, h⟩ := zb h
  obtain ⟨q16, eq16, h⟩ := zb h
  refine z_callVi X [] rfl dd_RuleBook_settle_62 (c_RuleBook_isOneLarge l eq16) (cwV 0 X.1.2.2.2.2 (zg_V km_1275 km_1277 km_45 km_135 km_1278) rfl rfl rfl (by decide +kernel) ⟨Nat.le_of_ble_eq_true rfl, Nat.le_of_ble_eq_true rfl⟩) (zob_s ew17) kc_8 rfl (Nat.le_of_ble_eq_true rfl) ⟨Nat.le_of_ble_eq_true rfl, Nat.le_of_ble_eq_true rfl⟩ ?_
  obtain ⟨c18, ec18, h⟩ := zb h
  obtain ⟨bc18, ec18⟩ := zpz_s ec18
  refine z_put (j := 5) X dd_RuleBook_settle_65 kc_8 ki_8 tt_RuleBook tk_RuleBook nn_RuleBook (by decide) km_628 rfl (tk_RuleBook 5 (by decide)) (zn_z bc18) (zf_z bc18) ec18 ?_
  refine z_iconst (v := 1) X dd_RuleBook_settle_68 (by decide) ?_
  refine z_istore (lv' := [(5, .int 1), (4, .int s0), (0, .ref x0), (1, .long x1), (3, .int x3)]) X dd_RuleBook_settle_69 (by decide) rfl ?_
  refine z_sub [2, 3, 4, 1, 0] rfl ?_
  exact t_RuleBook_settle_71 X H h
set_option maxRecDepth 100000 in
set_option maxHeartbeats 4000000 in
theorem c_RuleBook_settle (l : Launch) {nf : Nat} {a0 : Nat} {c : Zc} {res : Int32 × Zc} (h : f_RuleBook_settle nf a0 c = some res) : zM l yy_RuleBook_settle ww_RuleBook_settle 6 145 0 0 [.ref a0] c (fun D cid B => zQi D cid B res.1 res.2 c.length 0) := by
  refine z_met (cc := bb_RuleBook_settle) (maxL := 6) (ret := (some (.boolean))) (by decide +kernel) rfl (Nat.le_of_ble_eq_true rfl) ?_
  intro p e s m args below meth cd D cid B X h1 h2 h3 h4
  have X : zX p s m args cd D cid B bb_RuleBook_settle 6 rr_RuleBook zT := X
  have H : zH s meth B c.length (some (.boolean)) "settle" := ⟨h1, h2, h4, h3⟩
  unfold f_RuleBook_settle at h
  show Zz p l e (zRm 6 145 0 0) s m args below meth cd _ D cid B 6 0 0 c 0 [(0, .ref a0)] []
  refine z_aload_n X dd_RuleBook_settle_0 rfl 0 rfl ?_
  obtain ⟨v1, ev1, h⟩ := zb h
  refine z_get (j := 4) X dd_RuleBook_settle_1 kc_8 ki_8 (by decide) km_627 (zgi_v ev1) ?_
  refine z_aload_n X dd_RuleBook_settle_4 rfl 0 rfl ?_
  obtain ⟨v2, ev2, h⟩ := zb h
  refine z_get (j := 1) X dd_RuleBook_settle_5 kc_8 ki_8 (by decide) km_624 (zgr_v ev2) ?_
  obtain ⟨v3, ev3, h⟩ := zb h
  refine z_get (j := 9) X dd_RuleBook_settle_8 kc_0 ki_0 (by decide) km_181 (zgi_v ev3) ?_
  refine z_icmp_ne (tgt := 19) X dd_RuleBook_settle_11 (by decide) (fun q4 => ?_) (fun q4 => ?_)
  · rw [if_neg q4] at h
    refine z_aload_n X dd_RuleBook_settle_19 rfl 0 rfl ?_
    refine z_aload_n X dd_RuleBook_settle_20 rfl 0 rfl ?_
    obtain ⟨v5, ev5, h⟩ := zb h
    refine z_get (j := 1) X dd_RuleBook_settle_21 kc_8 ki_8 (by decide) km_624 (zgr_v ev5) ?_
    obtain ⟨v6, ev6, h⟩ := zb h
    refine z_get (j := 9) X dd_RuleBook_settle_24 kc_0 ki_0 (by decide) km_181 (zgi_v ev6) ?_
    obtain ⟨c7, ec7, h⟩ := zb h
    refine z_put (j := 4) X dd_RuleBook_settle_27 kc_8 ki_8 tt_RuleBook tk_RuleBook nn_RuleBook (by decide) km_627 rfl (tk_RuleBook 4 (by decide)) rfl rfl ec7 ?_
    refine z_aload_n X dd_RuleBook_settle_30 rfl 0 rfl ?_
    obtain ⟨v8, ev8, h⟩ := zb h
    refine z_get (j := 1) X dd_RuleBook_settle_31 kc_8 ki_8 (by decide) km_624 (zgr_v ev8) ?_
    obtain ⟨w10, ew10, h⟩ := zb h
    obtain ⟨q9, eq9, h⟩ := zb h
    refine z_callVv X [] rfl dd_RuleBook_settle_34 (c_Graph_relate l eq9) (cwV 0 X.1.2.2.2.2 (zg_V km_1258 km_1259 km_1260 km_126 km_1261) rfl rfl rfl (by decide +kernel) ⟨Nat.le_of_ble_eq_true rfl, Nat.le_of_ble_eq_true rfl⟩) (zob_s ew10) kc_0 rfl (Nat.le_of_ble_eq_true rfl) ⟨Nat.le_of_ble_eq_true rfl, Nat.le_of_ble_eq_true rfl⟩ ?_
    refine z_aload_n X dd_RuleBook_settle_37 rfl 0 rfl ?_
    obtain ⟨w12, ew12, h⟩ := zb h
    obtain ⟨q11, eq11, h⟩ := zb h
    refine z_callVl X [] rfl dd_RuleBook_settle_38 (c_RuleBook_workOfAll l eq11) (cwV 0 X.1.2.2.2.2 (zg_V km_1266 km_1268 km_44 km_135 km_1269) rfl rfl rfl (by decide +kernel) ⟨Nat.le_of_ble_eq_true rfl, Nat.le_of_ble_eq_true rfl⟩) (zob_s ew12) kc_8 rfl (Nat.le_of_ble_eq_true rfl) ⟨Nat.le_of_ble_eq_true rfl, Nat.le_of_ble_eq_true rfl⟩ ?_
    refine z_lstore_n (lv' := [(1, .long q11.1), (0, .ref a0)]) X dd_RuleBook_settle_41 rfl (by decide) rfl ?_
    refine z_sipush (v := 1025) X dd_RuleBook_settle_42 (by decide) ?_
    refine z_istore_n (lv' := [(3, .int 1025), (1, .long q11.1), (0, .ref a0)]) X dd_RuleBook_settle_45 rfl (by decide) rfl ?_
    refine z_aload_n X dd_RuleBook_settle_46 rfl 2 rfl ?_
    obtain ⟨w14, ew14, h⟩ := zb h
    obtain ⟨q13, eq13, h⟩ := zb h
    refine z_callVi X [] rfl dd_RuleBook_settle_47 (c_RuleBook_standing l eq13) (cwV 0 X.1.2.2.2.2 (zg_V km_1274 km_788 km_789 km_135 km_790) rfl rfl rfl (by decide +kernel) ⟨Nat.le_of_ble_eq_true rfl, Nat.le_of_ble_eq_true rfl⟩) (zob_s ew14) kc_8 rfl (Nat.le_of_ble_eq_true rfl) ⟨Nat.le_of_ble_eq_true rfl, Nat.le_of_ble_eq_true rfl⟩ ?_
    refine z_if_le (tgt := 57) X dd_RuleBook_settle_50 (by decide) (fun q15 => ?_) (fun q15 => ?_)
    · rw [if_pos q15] at h
      refine z_iconst (v := 0) X dd_RuleBook_settle_57 (by decide) ?_
      refine z_sub [2, 1, 0] rfl ?_
      exact t_RuleBook_settle_58 X H h
    · rw [if_neg q15] at h
      refine z_iconst (v := 1) X dd_RuleBook_settle_53 (by decide) ?_
      refine z_goto (tgt := 58) X dd_RuleBook_settle_54 (by decide) ?_
      refine z_sub [2, 1, 0] rfl ?_
      exact t_RuleBook_settle_58 X H h
  · rw [if_pos q4] at h
    refine z_aload_n X dd_RuleBook_settle_14 rfl 0 rfl ?_
    obtain ⟨v30, ev30, h⟩ := zb h
    refine z_get (j := 5) X dd_RuleBook_settle_15 kc_8 ki_8 (by decide) km_628 (zgi_v ev30) ?_
    obtain ⟨hz, h⟩ := zrz_s h
    obtain rfl := h
    exact z_zret X H.1 (zn_z hz) H.2.1 H.2.2.1 dd_RuleBook_settle_18
end ZzM
