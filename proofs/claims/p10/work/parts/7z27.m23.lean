section ZzM
variable {p : Program} {l : Launch} {e : Env} {s : State} {m : MethodId} {args : Array Value} {below : List Frame} {meth : Method} {cd : Code} {Q : State → Prop} {D : va_G} {cid : Nat → ClassId} {B n0 : Nat}
theorem dd_Mo_compareRows_0 : decode bb_Mo_compareRows 0 = .ok (.iconst 0, 1) := by decide +kernel
theorem dd_Mo_compareRows_1 : decode bb_Mo_compareRows 1 = .ok (.istore_n 3, 1) := by decide +kernel
theorem dd_Mo_compareRows_2 : decode bb_Mo_compareRows 2 = .ok (.iload_n 3, 1) := by decide +kernel
theorem dd_Mo_compareRows_3 : decode bb_Mo_compareRows 3 = .ok (.aload_n 0, 1) := by decide +kernel
theorem dd_Mo_compareRows_4 : decode bb_Mo_compareRows 4 = .ok (.getfield 512, 3) := by decide +kernel
theorem dd_Mo_compareRows_7 : decode bb_Mo_compareRows 7 = .ok (.if_icmp .ge 65, 3) := by decide +kernel
theorem dd_Mo_compareRows_10 : decode bb_Mo_compareRows 10 = .ok (.aload_n 0, 1) := by decide +kernel
theorem dd_Mo_compareRows_11 : decode bb_Mo_compareRows 11 = .ok (.getfield 204, 3) := by decide +kernel
theorem dd_Mo_compareRows_14 : decode bb_Mo_compareRows 14 = .ok (.bipush 8, 2) := by decide +kernel
theorem dd_Mo_compareRows_16 : decode bb_Mo_compareRows 16 = .ok (.iload_n 1, 1) := by decide +kernel
theorem dd_Mo_compareRows_17 : decode bb_Mo_compareRows 17 = .ok (.imul, 1) := by decide +kernel
theorem dd_Mo_compareRows_18 : decode bb_Mo_compareRows 18 = .ok (.aload_n 0, 1) := by decide +kernel
theorem dd_Mo_compareRows_19 : decode bb_Mo_compareRows 19 = .ok (.getfield 226, 3) := by decide +kernel
theorem dd_Mo_compareRows_22 : decode bb_Mo_compareRows 22 = .ok (.iload_n 3, 1) := by decide +kernel
theorem dd_Mo_compareRows_23 : decode bb_Mo_compareRows 23 = .ok (.iaload, 1) := by decide +kernel
theorem dd_Mo_compareRows_24 : decode bb_Mo_compareRows 24 = .ok (.iadd, 1) := by decide +kernel
theorem dd_Mo_compareRows_25 : decode bb_Mo_compareRows 25 = .ok (.iaload, 1) := by decide +kernel
theorem dd_Mo_compareRows_26 : decode bb_Mo_compareRows 26 = .ok (.istore 4, 2) := by decide +kernel
theorem dd_Mo_compareRows_28 : decode bb_Mo_compareRows 28 = .ok (.aload_n 0, 1) := by decide +kernel
theorem dd_Mo_compareRows_29 : decode bb_Mo_compareRows 29 = .ok (.getfield 204, 3) := by decide +kernel
theorem dd_Mo_compareRows_32 : decode bb_Mo_compareRows 32 = .ok (.bipush 8, 2) := by decide +kernel
theorem dd_Mo_compareRows_34 : decode bb_Mo_compareRows 34 = .ok (.iload_n 2, 1) := by decide +kernel
theorem dd_Mo_compareRows_35 : decode bb_Mo_compareRows 35 = .ok (.imul, 1) := by decide +kernel
theorem dd_Mo_compareRows_36 : decode bb_Mo_compareRows 36 = .ok (.aload_n 0, 1) := by decide +kernel
theorem dd_Mo_compareRows_37 : decode bb_Mo_compareRows 37 = .ok (.getfield 226, 3) := by decide +kernel
theorem dd_Mo_compareRows_40 : decode bb_Mo_compareRows 40 = .ok (.iload_n 3, 1) := by decide +kernel
theorem dd_Mo_compareRows_41 : decode bb_Mo_compareRows 41 = .ok (.iaload, 1) := by decide +kernel
theorem dd_Mo_compareRows_42 : decode bb_Mo_compareRows 42 = .ok (.iadd, 1) := by decide +kernel
theorem dd_Mo_compareRows_43 : decode bb_Mo_compareRows 43 = .ok (.iaload, 1) := by decide +kernel
theorem dd_Mo_compareRows_44 : decode bb_Mo_compareRows 44 = .ok (.istore 5, 2) := by decide +kernel
theorem dd_Mo_compareRows_46 : decode bb_Mo_compareRows 46 = .ok (.iload 4, 2) := by decide +kernel
theorem dd_Mo_compareRows_48 : decode bb_Mo_compareRows 48 = .ok (.iload 5, 2) := by decide +kernel
theorem dd_Mo_compareRows_50 : decode bb_Mo_compareRows 50 = .ok (.if_icmp .eq 16, 3) := by decide +kernel
theorem dd_Mo_compareRows_53 : decode bb_Mo_compareRows 53 = .ok (.iload 4, 2) := by decide +kernel
theorem dd_Mo_compareRows_55 : decode bb_Mo_compareRows 55 = .ok (.iload 5, 2) := by decide +kernel
theorem dd_Mo_compareRows_57 : decode bb_Mo_compareRows 57 = .ok (.if_icmp .ge 7, 3) := by decide +kernel
theorem dd_Mo_compareRows_60 : decode bb_Mo_compareRows 60 = .ok (.iconst (-1), 1) := by decide +kernel
theorem dd_Mo_compareRows_61 : decode bb_Mo_compareRows 61 = .ok (.goto 4, 3) := by decide +kernel
theorem dd_Mo_compareRows_64 : decode bb_Mo_compareRows 64 = .ok (.iconst 1, 1) := by decide +kernel
theorem dd_Mo_compareRows_65 : decode bb_Mo_compareRows 65 = .ok (.ireturn, 1) := by decide +kernel
theorem dd_Mo_compareRows_66 : decode bb_Mo_compareRows 66 = .ok (.iinc 3 1, 3) := by decide +kernel
theorem dd_Mo_compareRows_69 : decode bb_Mo_compareRows 69 = .ok (.goto (-67), 3) := by decide +kernel
theorem dd_Mo_compareRows_72 : decode bb_Mo_compareRows 72 = .ok (.iconst 0, 1) := by decide +kernel
theorem dd_Mo_compareRows_73 : decode bb_Mo_compareRows 73 = .ok (.ireturn, 1) := by decide +kernel
set_option maxRecDepth 100000 in
set_option maxHeartbeats 4000000 in
theorem u_Mo_compareRows_2  (X : zX p s m args cd D cid B bb_Mo_compareRows 6 rr_Mo zT) (H : zH s meth B n0 (some (.int)) "compareRows") {nf : Nat} {x0 : Nat} {x1 : Int32} {x2 : Int32} {x3 : Int32} {c : Zc} {r : (Nat × Int32 × Int32 × Int32 × Zc) ⊕ ((Int32 × Int32 × Zc) ⊕ (Zc))} (h : g_Mo_compareRows_2 nf x0 x1 x2 x3 c = some r) (k0 : ∀ a, r = .inl a → (fun a : Nat × Int32 × Int32 × Int32 × Zc => Zz p l e (zRm 0 0 0 0) s m args below meth cd Q D cid B 6 0 0 a.2.2.2.2 2 [(0, .ref a.1), (1, .int a.2.1), (2, .int a.2.2.1), (3, .int a.2.2.2.1)] []) a) (k1 : ∀ b, r = .inr b → (fun b : (Int32 × Int32 × Zc) ⊕ (Zc) => Sum.elim (fun b => Zz p l e (zRm 0 0 0 0) s m args below meth cd Q D cid B 6 0 0 b.2.2 53 [(4, .int b.1), (5, .int b.2.1)] []) (fun b => Zz p l e (zRm 0 0 0 0) s m args below meth cd Q D cid B 6 0 0 b 72 [] []) b) b) : Zz p l e (zRm 0 0 0 0) s m args below meth cd Q D cid B 6 0 0 c 2 [(0, .ref x0), (1, .int x1), (2, .int x2), (3, .int x3)] [] := by
  unfold g_Mo_compareRows_2 at h
  refine z_iload_n X dd_Mo_compareRows_2 rfl 3 rfl ?_
  refine z_aload_n X dd_Mo_compareRows_3 rfl 0 rfl ?_
  obtain ⟨v1, ev1, h⟩ := zb h
  refine z_get (j := 87) X dd_Mo_compareRows_4 kc_12 ki_12 (by decide) km_1608 (zgi_v ev1) ?_
  refine z_icmp_ge (tgt := 72) X dd_Mo_compareRows_7 (by decide) (fun q2 => ?_) (fun q2 => ?_)
  · rw [if_pos q2] at h
    refine z_sub [] rfl ?_
    obtain rfl := Option.some.inj h
    exact k1 _ rfl
  · rw [if_neg q2] at h
    refine z_aload_n X dd_Mo_compareRows_10 rfl 0 rfl ?_
    obtain ⟨v3, ev3, h⟩ := zb h
    refine z_get (j := 78) X dd_Mo_compareRows_11 kc_12 ki_12 (by decide) km_1599 (zgr_v ev3) ?_
    refine z_bipush (v := 8) X dd_Mo_compareRows_14 (by decide) ?_
    refine z_iload_n X dd_Mo_compareRows_16 rfl 1 rfl ?_
    refine z_imul X dd_Mo_compareRows_17 ?_
    refine z_aload_n X dd_Mo_compareRows_18 rfl 0 rfl ?_
    obtain ⟨v4, ev4, h⟩ := zb h
    refine z_get (j := 86) X dd_Mo_compareRows_19 kc_12 ki_12 (by decide) km_1607 (zgr_v ev4) ?_
    refine z_iload_n X dd_Mo_compareRows_22 rfl 3 rfl ?_
    obtain ⟨v5, ev5, h⟩ := zb h
    refine z_iaload X dd_Mo_compareRows_23 rfl ev5 ?_
    refine z_iadd X dd_Mo_compareRows_24 ?_
    obtain ⟨v6, ev6, h⟩ := zb h
    refine z_iaload X dd_Mo_compareRows_25 rfl ev6 ?_
    refine z_istore (lv' := [(4, .int v6), (0, .ref x0), (1, .int x1), (2, .int x2), (3, .int x3)]) X dd_Mo_compareRows_26 (by decide) rfl ?_
    refine z_aload_n X dd_Mo_compareRows_28 rfl 1 rfl ?_
    obtain ⟨v7, ev7, h⟩ := zb h
    refine z_get (j := 78) X dd_Mo_compareRows_29 kc_12 ki_12 (by decide) km_1599 (zgr_v ev7) ?_
    refine z_bipush (v := 8) X dd_Mo_compareRows_32 (by decide) ?_
    refine z_iload_n X dd_Mo_compareRows_34 rfl 3 rfl ?_
    refine z_imul X dd_Mo_compareRows_35 ?_
    refine z_aload_n X dd_Mo_compareRows_36 rfl 1 rfl ?_
    obtain ⟨v8, ev8, h⟩ := zb h
    refine z_get (j := 86) X dd_Mo_compareRows_37 kc_12 ki_12 (by decide) km_1607 (zgr_v ev8) ?_
    refine z_iload_n X dd_Mo_compareRows_40 rfl 4 rfl ?_
    obtain ⟨v9, ev9, h⟩ := zb h
    refine z_iaload X dd_Mo_compareRows_41 rfl ev9 ?_
    refine z_iadd X dd_Mo_compareRows_42 ?_
    obtain ⟨v10, ev10, h⟩ := zb h
    refine z_iaload X dd_Mo_compareRows_43 rfl ev10 ?_
    refine z_istore (lv' := [(5, .int v10), (4, .int v6), (0, .ref x0), (1, .int x1), (2, .int x2), (3, .int x3)]) X dd_Mo_compareRows_44 (by decide) rfl ?_
    refine z_iload X dd_Mo_compareRows_46 1 rfl ?_
    refine z_iload X dd_Mo_compareRows_48 0 rfl ?_
    refine z_icmp_eq (tgt := 66) X dd_Mo_compareRows_50 (by decide) (fun q11 => ?_) (fun q11 => ?_)
    · rw [if_pos q11] at h
      refine z_iinc (v := (x3 + 1)) (lv' := [(3, .int (x3 + 1)), (5, .int v10), (4, .int v6), (0, .ref x0), (1, .int x1), (2, .int x2)]) X dd_Mo_compareRows_66 5 rfl rfl (by decide) rfl ?_
      refine z_goto (tgt := 2) X dd_Mo_compareRows_69 (by decide) ?_
      refine z_sub [3, 4, 5, 0] rfl ?_
      obtain rfl := Option.some.inj h
      exact k0 _ rfl
    · rw [if_neg q11] at h
      refine z_sub [1, 0] rfl ?_
      obtain rfl := Option.some.inj h
      exact k1 _ rfl
set_option maxRecDepth 100000 in
set_option maxHeartbeats 4000000 in
theorem t_Mo_compareRows_65  (X : zX p s m args cd D cid B bb_Mo_compareRows 6 rr_Mo zT) (H : zH s meth B n0 (some (.int)) "compareRows") {nf : Nat} {s0 : Int32} {c : Zc} {res : Int32 × Zc} (h : f_Mo_compareRows_65 nf s0 c = some res) : Zz p l e (zRm 0 0 0 0) s m args below meth cd (MQ below (zQi D cid B res.1 res.2 n0 0) args s 0 0 (fun q => B ≤ q)) D cid B 6 0 0 c 65 [] [.int s0] := by
  unfold f_Mo_compareRows_65 at h
  obtain rfl := Option.some.inj h
  exact z_iret X H.1 H.2.1 H.2.2.1 dd_Mo_compareRows_65
set_option maxRecDepth 100000 in
set_option maxHeartbeats 4000000 in
theorem t_Mo_compareRows_2  (X : zX p s m args cd D cid B bb_Mo_compareRows 6 rr_Mo zT) (H : zH s meth B n0 (some (.int)) "compareRows") {nf : Nat} {x0 : Nat} {x1 : Int32} {x2 : Int32} {x3 : Int32} {c : Zc} {res : Int32 × Zc} (h : f_Mo_compareRows_2 nf x0 x1 x2 x3 c = some res) : Zz p l e (zRm 0 0 0 0) s m args below meth cd (MQ below (zQi D cid B res.1 res.2 n0 0) args s 0 0 (fun q => B ≤ q)) D cid B 6 0 0 c 2 [(0, .ref x0), (1, .int x1), (2, .int x2), (3, .int x3)] [] := by
  unfold f_Mo_compareRows_2 at h
  obtain ⟨b, eb, h⟩ := zb h
  refine zlp_ok (P := fun a : Nat × Int32 × Int32 × Int32 × Zc => Zz p l e (zRm 0 0 0 0) s m args below meth cd _ D cid B 6 0 0 a.2.2.2.2 2 [(0, .ref a.1), (1, .int a.2.1), (2, .int a.2.2.1), (3, .int a.2.2.2.1)] []) (G := fun b : (Int32 × Int32 × Zc) ⊕ (Zc) => Sum.elim (fun b => Zz p l e (zRm 0 0 0 0) s m args below meth cd _ D cid B 6 0 0 b.2.2 53 [(4, .int b.1), (5, .int b.2.1)] []) (fun b => Zz p l e (zRm 0 0 0 0) s m args below meth cd _ D cid B 6 0 0 b 72 [] []) b) (fun a r ha k0 k1 => u_Mo_compareRows_2 X H ha k0 k1) nf _ b eb ?_
  rcases b with b | b
  · simp only [Sum.elim_inl] at h ⊢
    refine z_iload X dd_Mo_compareRows_53 0 rfl ?_
    refine z_iload X dd_Mo_compareRows_55 1 rfl ?_
    refine z_icmp_ge (tgt := 64) X dd_Mo_compareRows_57 (by decide) (fun q12 => ?_) (fun q12 => ?_)
    · rw [if_pos q12] at h
      refine z_iconst (v := 1) X dd_Mo_compareRows_64 (by decide) ?_
      refine z_sub [] rfl ?_
      exact t_Mo_compareRows_65 X H h
    · rw [if_neg q12] at h
      refine z_iconst (v := (-1)) X dd_Mo_compareRows_60 (by decide) ?_
      refine z_goto (tgt := 65) X dd_Mo_compareRows_61 (by decide) ?_
      refine z_sub [] rfl ?_
      exact t_Mo_compareRows_65 X H h
  · simp only [Sum.elim_inr] at h ⊢
    refine z_iconst (v := 0) X dd_Mo_compareRows_72 (by decide) ?_
    obtain rfl := Option.some.inj h
    exact z_iret X H.1 H.2.1 H.2.2.1 dd_Mo_compareRows_73
set_option maxRecDepth 100000 in
set_option maxHeartbeats 4000000 in
theorem c_Mo_compareRows (l : Launch) {nf : Nat} {a0 : Nat} {a1 : Int32} {a2 : Int32} {c : Zc} {res : Int32 × Zc} (h : f_Mo_compareRows nf a0 a1 a2 c = some res) : zM l yy_Mo_compareRows ww_Mo_compareRows 0 0 0 0 [.ref a0, .int a1, .int a2] c (fun D cid B => zQi D cid B res.1 res.2 c.length 0) := by
  refine z_met (cc := bb_Mo_compareRows) (maxL := 6) (ret := (some (.int))) (by decide +kernel) rfl (Nat.le_of_ble_eq_true rfl) ?_
  intro p e s m args below meth cd D cid B X h1 h2 h3 h4
  have X : zX p s m args cd D cid B bb_Mo_compareRows 6 rr_Mo zT := X
  have H : zH s meth B c.length (some (.int)) "compareRows" := ⟨h1, h2, h4, h3⟩
  unfold f_Mo_compareRows at h
  show Zz p l e (zRm 0 0 0 0) s m args below meth cd _ D cid B 6 0 0 c 0 [(0, .ref a0), (1, .int a1), (2, .int a2)] []
  refine z_iconst (v := 0) X dd_Mo_compareRows_0 (by decide) ?_
  refine z_istore_n (lv' := [(3, .int 0), (0, .ref a0), (1, .int a1), (2, .int a2)]) X dd_Mo_compareRows_1 rfl (by decide) rfl ?_
  refine z_sub [1, 2, 3, 0] rfl ?_
  exact t_Mo_compareRows_2 X H h
theorem dd_Mo_sortRows_0 : decode bb_Mo_sortRows 0 = .ok (.iconst 0, 1) := by decide +kernel
theorem dd_Mo_sortRows_1 : decode bb_Mo_sortRows 1 = .ok (.istore_n 1, 1) := by decide +kernel
theorem dd_Mo_sortRows_2 : decode bb_Mo_sortRows 2 = .ok (.iload_n 1, 1) := by decide +kernel
theorem dd_Mo_sortRows_3 : decode bb_Mo_sortRows 3 = .ok (.aload_n 0, 1) := by decide +kernel
theorem dd_Mo_sortRows_4 : decode bb_Mo_sortRows 4 = .ok (.getfield 515, 3) := by decide +kernel
theorem dd_Mo_sortRows_7 : decode bb_Mo_sortRows 7 = .ok (.if_icmp .ge 16, 3) := by decide +kernel
theorem dd_Mo_sortRows_10 : decode bb_Mo_sortRows 10 = .ok (.aload_n 0, 1) := by decide +kernel
theorem dd_Mo_sortRows_11 : decode bb_Mo_sortRows 11 = .ok (.getfield 207, 3) := by decide +kernel
theorem dd_Mo_sortRows_14 : decode bb_Mo_sortRows 14 = .ok (.iload_n 1, 1) := by decide +kernel
theorem dd_Mo_sortRows_15 : decode bb_Mo_sortRows 15 = .ok (.iload_n 1, 1) := by decide +kernel
theorem dd_Mo_sortRows_16 : decode bb_Mo_sortRows 16 = .ok (.iastore, 1) := by decide +kernel
theorem dd_Mo_sortRows_17 : decode bb_Mo_sortRows 17 = .ok (.iinc 1 1, 3) := by decide +kernel
theorem dd_Mo_sortRows_20 : decode bb_Mo_sortRows 20 = .ok (.goto (-18), 3) := by decide +kernel
theorem dd_Mo_sortRows_23 : decode bb_Mo_sortRows 23 = .ok (.iconst 1, 1) := by decide +kernel
theorem dd_Mo_sortRows_24 : decode bb_Mo_sortRows 24 = .ok (.istore_n 1, 1) := by decide +kernel
theorem dd_Mo_sortRows_25 : decode bb_Mo_sortRows 25 = .ok (.iload_n 1, 1) := by decide +kernel
theorem dd_Mo_sortRows_26 : decode bb_Mo_sortRows 26 = .ok (.aload_n 0, 1) := by decide +kernel
theorem dd_Mo_sortRows_27 : decode bb_Mo_sortRows 27 = .ok (.getfield 515, 3) := by decide +kernel
theorem dd_Mo_sortRows_30 : decode bb_Mo_sortRows 30 = .ok (.if_icmp .ge 226, 3) := by decide +kernel
theorem dd_Mo_sortRows_33 : decode bb_Mo_sortRows 33 = .ok (.iconst 0, 1) := by decide +kernel
theorem dd_Mo_sortRows_34 : decode bb_Mo_sortRows 34 = .ok (.istore_n 2, 1) := by decide +kernel
theorem dd_Mo_sortRows_35 : decode bb_Mo_sortRows 35 = .ok (.iload_n 2, 1) := by decide +kernel
theorem dd_Mo_sortRows_36 : decode bb_Mo_sortRows 36 = .ok (.aload_n 0, 1) := by decide +kernel
theorem dd_Mo_sortRows_37 : decode bb_Mo_sortRows 37 = .ok (.getfield 515, 3) := by decide +kernel
theorem dd_Mo_sortRows_40 : decode bb_Mo_sortRows 40 = .ok (.if_icmp .ge 181, 3) := by decide +kernel
theorem dd_Mo_sortRows_43 : decode bb_Mo_sortRows 43 = .ok (.iload_n 2, 1) := by decide +kernel
theorem dd_Mo_sortRows_44 : decode bb_Mo_sortRows 44 = .ok (.iload_n 1, 1) := by decide +kernel
theorem dd_Mo_sortRows_45 : decode bb_Mo_sortRows 45 = .ok (.iadd, 1) := by decide +kernel
theorem dd_Mo_sortRows_46 : decode bb_Mo_sortRows 46 = .ok (.aload_n 0, 1) := by decide +kernel
theorem dd_Mo_sortRows_47 : decode bb_Mo_sortRows 47 = .ok (.getfield 515, 3) := by decide +kernel
theorem dd_Mo_sortRows_50 : decode bb_Mo_sortRows 50 = .ok (.if_icmp .ge 9, 3) := by decide +kernel
theorem dd_Mo_sortRows_53 : decode bb_Mo_sortRows 53 = .ok (.iload_n 2, 1) := by decide +kernel
theorem dd_Mo_sortRows_54 : decode bb_Mo_sortRows 54 = .ok (.iload_n 1, 1) := by decide +kernel
theorem dd_Mo_sortRows_55 : decode bb_Mo_sortRows 55 = .ok (.iadd, 1) := by decide +kernel
theorem dd_Mo_sortRows_56 : decode bb_Mo_sortRows 56 = .ok (.goto 7, 3) := by decide +kernel
theorem dd_Mo_sortRows_59 : decode bb_Mo_sortRows 59 = .ok (.aload_n 0, 1) := by decide +kernel
theorem dd_Mo_sortRows_60 : decode bb_Mo_sortRows 60 = .ok (.getfield 515, 3) := by decide +kernel
theorem dd_Mo_sortRows_63 : decode bb_Mo_sortRows 63 = .ok (.istore_n 3, 1) := by decide +kernel
theorem dd_Mo_sortRows_64 : decode bb_Mo_sortRows 64 = .ok (.iload_n 2, 1) := by decide +kernel
theorem dd_Mo_sortRows_65 : decode bb_Mo_sortRows 65 = .ok (.iconst 2, 1) := by decide +kernel
theorem dd_Mo_sortRows_66 : decode bb_Mo_sortRows 66 = .ok (.iload_n 1, 1) := by decide +kernel
theorem dd_Mo_sortRows_67 : decode bb_Mo_sortRows 67 = .ok (.imul, 1) := by decide +kernel
theorem dd_Mo_sortRows_68 : decode bb_Mo_sortRows 68 = .ok (.iadd, 1) := by decide +kernel
theorem dd_Mo_sortRows_69 : decode bb_Mo_sortRows 69 = .ok (.aload_n 0, 1) := by decide +kernel
theorem dd_Mo_sortRows_70 : decode bb_Mo_sortRows 70 = .ok (.getfield 515, 3) := by decide +kernel
theorem dd_Mo_sortRows_73 : decode bb_Mo_sortRows 73 = .ok (.if_icmp .ge 11, 3) := by decide +kernel
theorem dd_Mo_sortRows_76 : decode bb_Mo_sortRows 76 = .ok (.iload_n 2, 1) := by decide +kernel
theorem dd_Mo_sortRows_77 : decode bb_Mo_sortRows 77 = .ok (.iconst 2, 1) := by decide +kernel
theorem dd_Mo_sortRows_78 : decode bb_Mo_sortRows 78 = .ok (.iload_n 1, 1) := by decide +kernel
theorem dd_Mo_sortRows_79 : decode bb_Mo_sortRows 79 = .ok (.imul, 1) := by decide +kernel
theorem dd_Mo_sortRows_80 : decode bb_Mo_sortRows 80 = .ok (.iadd, 1) := by decide +kernel
theorem dd_Mo_sortRows_81 : decode bb_Mo_sortRows 81 = .ok (.goto 7, 3) := by decide +kernel
theorem dd_Mo_sortRows_84 : decode bb_Mo_sortRows 84 = .ok (.aload_n 0, 1) := by decide +kernel
theorem dd_Mo_sortRows_85 : decode bb_Mo_sortRows 85 = .ok (.getfield 515, 3) := by decide +kernel
theorem dd_Mo_sortRows_88 : decode bb_Mo_sortRows 88 = .ok (.istore 4, 2) := by decide +kernel
theorem dd_Mo_sortRows_90 : decode bb_Mo_sortRows 90 = .ok (.iload_n 2, 1) := by decide +kernel
theorem dd_Mo_sortRows_91 : decode bb_Mo_sortRows 91 = .ok (.istore 5, 2) := by decide +kernel
theorem dd_Mo_sortRows_93 : decode bb_Mo_sortRows 93 = .ok (.iload_n 3, 1) := by decide +kernel
theorem dd_Mo_sortRows_94 : decode bb_Mo_sortRows 94 = .ok (.istore 6, 2) := by decide +kernel
theorem dd_Mo_sortRows_96 : decode bb_Mo_sortRows 96 = .ok (.iload_n 2, 1) := by decide +kernel
theorem dd_Mo_sortRows_97 : decode bb_Mo_sortRows 97 = .ok (.istore 7, 2) := by decide +kernel
theorem dd_Mo_sortRows_99 : decode bb_Mo_sortRows 99 = .ok (.iload 7, 2) := by decide +kernel
theorem dd_Mo_sortRows_101 : decode bb_Mo_sortRows 101 = .ok (.iload 4, 2) := by decide +kernel
theorem dd_Mo_sortRows_103 : decode bb_Mo_sortRows 103 = .ok (.if_icmp .ge 109, 3) := by decide +kernel
theorem dd_Mo_sortRows_106 : decode bb_Mo_sortRows 106 = .ok (.iload 6, 2) := by decide +kernel
theorem dd_Mo_sortRows_108 : decode bb_Mo_sortRows 108 = .ok (.iload 4, 2) := by decide +kernel
theorem dd_Mo_sortRows_110 : decode bb_Mo_sortRows 110 = .ok (.if_icmp .eq 30, 3) := by decide +kernel
theorem dd_Mo_sortRows_113 : decode bb_Mo_sortRows 113 = .ok (.iload 5, 2) := by decide +kernel
theorem dd_Mo_sortRows_115 : decode bb_Mo_sortRows 115 = .ok (.iload_n 3, 1) := by decide +kernel
theorem dd_Mo_sortRows_116 : decode bb_Mo_sortRows 116 = .ok (.if_icmp .ge 28, 3) := by decide +kernel
theorem dd_Mo_sortRows_119 : decode bb_Mo_sortRows 119 = .ok (.aload_n 0, 1) := by decide +kernel
theorem dd_Mo_sortRows_120 : decode bb_Mo_sortRows 120 = .ok (.aload_n 0, 1) := by decide +kernel
theorem dd_Mo_sortRows_121 : decode bb_Mo_sortRows 121 = .ok (.getfield 207, 3) := by decide +kernel
theorem dd_Mo_sortRows_124 : decode bb_Mo_sortRows 124 = .ok (.iload 5, 2) := by decide +kernel
theorem dd_Mo_sortRows_126 : decode bb_Mo_sortRows 126 = .ok (.iaload, 1) := by decide +kernel
theorem dd_Mo_sortRows_127 : decode bb_Mo_sortRows 127 = .ok (.aload_n 0, 1) := by decide +kernel
theorem dd_Mo_sortRows_128 : decode bb_Mo_sortRows 128 = .ok (.getfield 207, 3) := by decide +kernel
theorem dd_Mo_sortRows_131 : decode bb_Mo_sortRows 131 = .ok (.iload 6, 2) := by decide +kernel
theorem dd_Mo_sortRows_133 : decode bb_Mo_sortRows 133 = .ok (.iaload, 1) := by decide +kernel
theorem dd_Mo_sortRows_134 : decode bb_Mo_sortRows 134 = .ok (.invokevirtual 518, 3) := by decide +kernel
theorem dd_Mo_sortRows_137 : decode bb_Mo_sortRows 137 = .ok (.ifCond .gt 7, 3) := by decide +kernel
theorem dd_Mo_sortRows_140 : decode bb_Mo_sortRows 140 = .ok (.iconst 1, 1) := by decide +kernel
theorem dd_Mo_sortRows_141 : decode bb_Mo_sortRows 141 = .ok (.goto 4, 3) := by decide +kernel
theorem dd_Mo_sortRows_144 : decode bb_Mo_sortRows 144 = .ok (.iconst 0, 1) := by decide +kernel
theorem dd_Mo_sortRows_145 : decode bb_Mo_sortRows 145 = .ok (.istore 8, 2) := by decide +kernel
theorem dd_Mo_sortRows_147 : decode bb_Mo_sortRows 147 = .ok (.aload_n 0, 1) := by decide +kernel
theorem dd_Mo_sortRows_148 : decode bb_Mo_sortRows 148 = .ok (.getfield 210, 3) := by decide +kernel
theorem dd_Mo_sortRows_151 : decode bb_Mo_sortRows 151 = .ok (.iload 7, 2) := by decide +kernel
theorem dd_Mo_sortRows_153 : decode bb_Mo_sortRows 153 = .ok (.iload 8, 2) := by decide +kernel
theorem dd_Mo_sortRows_155 : decode bb_Mo_sortRows 155 = .ok (.ifCond .eq 13, 3) := by decide +kernel
theorem dd_Mo_sortRows_158 : decode bb_Mo_sortRows 158 = .ok (.aload_n 0, 1) := by decide +kernel
theorem dd_Mo_sortRows_159 : decode bb_Mo_sortRows 159 = .ok (.getfield 207, 3) := by decide +kernel
theorem dd_Mo_sortRows_162 : decode bb_Mo_sortRows 162 = .ok (.iload 5, 2) := by decide +kernel
theorem dd_Mo_sortRows_164 : decode bb_Mo_sortRows 164 = .ok (.iaload, 1) := by decide +kernel
theorem dd_Mo_sortRows_165 : decode bb_Mo_sortRows 165 = .ok (.goto 10, 3) := by decide +kernel
theorem dd_Mo_sortRows_168 : decode bb_Mo_sortRows 168 = .ok (.aload_n 0, 1) := by decide +kernel
theorem dd_Mo_sortRows_169 : decode bb_Mo_sortRows 169 = .ok (.getfield 207, 3) := by decide +kernel
theorem dd_Mo_sortRows_172 : decode bb_Mo_sortRows 172 = .ok (.iload 6, 2) := by decide +kernel
theorem dd_Mo_sortRows_174 : decode bb_Mo_sortRows 174 = .ok (.iaload, 1) := by decide +kernel
theorem dd_Mo_sortRows_175 : decode bb_Mo_sortRows 175 = .ok (.iastore, 1) := by decide +kernel
theorem dd_Mo_sortRows_176 : decode bb_Mo_sortRows 176 = .ok (.iload 5, 2) := by decide +kernel
theorem dd_Mo_sortRows_178 : decode bb_Mo_sortRows 178 = .ok (.iload 8, 2) := by decide +kernel
theorem dd_Mo_sortRows_180 : decode bb_Mo_sortRows 180 = .ok (.ifCond .eq 7, 3) := by decide +kernel
theorem dd_Mo_sortRows_183 : decode bb_Mo_sortRows 183 = .ok (.iconst 1, 1) := by decide +kernel
theorem dd_Mo_sortRows_184 : decode bb_Mo_sortRows 184 = .ok (.goto 4, 3) := by decide +kernel
theorem dd_Mo_sortRows_187 : decode bb_Mo_sortRows 187 = .ok (.iconst 0, 1) := by decide +kernel
theorem dd_Mo_sortRows_188 : decode bb_Mo_sortRows 188 = .ok (.iadd, 1) := by decide +kernel
theorem dd_Mo_sortRows_189 : decode bb_Mo_sortRows 189 = .ok (.istore 5, 2) := by decide +kernel
theorem dd_Mo_sortRows_191 : decode bb_Mo_sortRows 191 = .ok (.iload 6, 2) := by decide +kernel
theorem dd_Mo_sortRows_193 : decode bb_Mo_sortRows 193 = .ok (.iload 8, 2) := by decide +kernel
theorem dd_Mo_sortRows_195 : decode bb_Mo_sortRows 195 = .ok (.ifCond .eq 7, 3) := by decide +kernel
theorem dd_Mo_sortRows_198 : decode bb_Mo_sortRows 198 = .ok (.iconst 0, 1) := by decide +kernel
theorem dd_Mo_sortRows_199 : decode bb_Mo_sortRows 199 = .ok (.goto 4, 3) := by decide +kernel
theorem dd_Mo_sortRows_202 : decode bb_Mo_sortRows 202 = .ok (.iconst 1, 1) := by decide +kernel
theorem dd_Mo_sortRows_203 : decode bb_Mo_sortRows 203 = .ok (.iadd, 1) := by decide +kernel
theorem dd_Mo_sortRows_204 : decode bb_Mo_sortRows 204 = .ok (.istore 6, 2) := by decide +kernel
theorem dd_Mo_sortRows_206 : decode bb_Mo_sortRows 206 = .ok (.iinc 7 1, 3) := by decide +kernel
theorem dd_Mo_sortRows_209 : decode bb_Mo_sortRows 209 = .ok (.goto (-110), 3) := by decide +kernel
theorem dd_Mo_sortRows_212 : decode bb_Mo_sortRows 212 = .ok (.iload_n 2, 1) := by decide +kernel
theorem dd_Mo_sortRows_213 : decode bb_Mo_sortRows 213 = .ok (.iconst 2, 1) := by decide +kernel
theorem dd_Mo_sortRows_214 : decode bb_Mo_sortRows 214 = .ok (.iload_n 1, 1) := by decide +kernel
theorem dd_Mo_sortRows_215 : decode bb_Mo_sortRows 215 = .ok (.imul, 1) := by decide +kernel
theorem dd_Mo_sortRows_216 : decode bb_Mo_sortRows 216 = .ok (.iadd, 1) := by decide +kernel
theorem dd_Mo_sortRows_217 : decode bb_Mo_sortRows 217 = .ok (.istore_n 2, 1) := by decide +kernel
theorem dd_Mo_sortRows_218 : decode bb_Mo_sortRows 218 = .ok (.goto (-183), 3) := by decide +kernel
theorem dd_Mo_sortRows_221 : decode bb_Mo_sortRows 221 = .ok (.iconst 0, 1) := by decide +kernel
theorem dd_Mo_sortRows_222 : decode bb_Mo_sortRows 222 = .ok (.istore_n 2, 1) := by decide +kernel
theorem dd_Mo_sortRows_223 : decode bb_Mo_sortRows 223 = .ok (.iload_n 2, 1) := by decide +kernel
theorem dd_Mo_sortRows_224 : decode bb_Mo_sortRows 224 = .ok (.aload_n 0, 1) := by decide +kernel
theorem dd_Mo_sortRows_225 : decode bb_Mo_sortRows 225 = .ok (.getfield 515, 3) := by decide +kernel
theorem dd_Mo_sortRows_228 : decode bb_Mo_sortRows 228 = .ok (.if_icmp .ge 21, 3) := by decide +kernel
theorem dd_Mo_sortRows_231 : decode bb_Mo_sortRows 231 = .ok (.aload_n 0, 1) := by decide +kernel
theorem dd_Mo_sortRows_232 : decode bb_Mo_sortRows 232 = .ok (.getfield 207, 3) := by decide +kernel
theorem dd_Mo_sortRows_235 : decode bb_Mo_sortRows 235 = .ok (.iload_n 2, 1) := by decide +kernel
theorem dd_Mo_sortRows_236 : decode bb_Mo_sortRows 236 = .ok (.aload_n 0, 1) := by decide +kernel
theorem dd_Mo_sortRows_237 : decode bb_Mo_sortRows 237 = .ok (.getfield 210, 3) := by decide +kernel
theorem dd_Mo_sortRows_240 : decode bb_Mo_sortRows 240 = .ok (.iload_n 2, 1) := by decide +kernel
theorem dd_Mo_sortRows_241 : decode bb_Mo_sortRows 241 = .ok (.iaload, 1) := by decide +kernel
theorem dd_Mo_sortRows_242 : decode bb_Mo_sortRows 242 = .ok (.iastore, 1) := by decide +kernel
theorem dd_Mo_sortRows_243 : decode bb_Mo_sortRows 243 = .ok (.iinc 2 1, 3) := by decide +kernel
theorem dd_Mo_sortRows_246 : decode bb_Mo_sortRows 246 = .ok (.goto (-23), 3) := by decide +kernel
theorem dd_Mo_sortRows_249 : decode bb_Mo_sortRows 249 = .ok (.iload_n 1, 1) := by decide +kernel
theorem dd_Mo_sortRows_250 : decode bb_Mo_sortRows 250 = .ok (.iconst 2, 1) := by decide +kernel
theorem dd_Mo_sortRows_251 : decode bb_Mo_sortRows 251 = .ok (.imul, 1) := by decide +kernel
theorem dd_Mo_sortRows_252 : decode bb_Mo_sortRows 252 = .ok (.istore_n 1, 1) := by decide +kernel
theorem dd_Mo_sortRows_253 : decode bb_Mo_sortRows 253 = .ok (.goto (-228), 3) := by decide +kernel
theorem dd_Mo_sortRows_256 : decode bb_Mo_sortRows 256 = .ok (.return_, 1) := by decide +kernel
set_option maxRecDepth 100000 in
set_option maxHeartbeats 4000000 in
theorem u_Mo_sortRows_2  (X : zX p s m args cd D cid B bb_Mo_sortRows 9 rr_Mo zT) (H : zH s meth B n0 none "sortRows") {nf : Nat} {x0 : Nat} {x1 : Int32} {c : Zc} {r : (Nat × Int32 × Zc) ⊕ (Nat × Zc)} (h : g_Mo_sortRows_2 nf x0 x1 c = some r) (k0 : ∀ a, r = .inl a → (fun a : Nat × Int32 × Zc => Zz p l e (zRm 1 25 0 0) s m args below meth cd Q D cid B 9 0 0 a.2.2 2 [(0, .ref a.1), (1, .int a.2.1)] []) a) (k1 : ∀ b, r = .inr b → (fun b : Nat × Zc => Zz p l e (zRm 1 25 0 0) s m args below meth cd Q D cid B 9 0 0 b.2 23 [(0, .ref b.1)] []) b) : Zz p l e (zRm 1 25 0 0) s m args below meth cd Q D cid B 9 0 0 c 2 [(0, .ref x0), (1, .int x1)] [] := by
  unfold g_Mo_sortRows_2 at h
  refine z_iload_n X dd_Mo_sortRows_2 rfl 1 rfl ?_
  refine z_aload_n X dd_Mo_sortRows_3 rfl 0 rfl ?_
  obtain ⟨v1, ev1, h⟩ := zb h
  refine z_get (j := 81) X dd_Mo_sortRows_4 kc_12 ki_12 (by decide) km_1602 (zgi_v ev1) ?_
  refine z_icmp_ge (tgt := 23) X dd_Mo_sortRows_7 (by decide) (fun q2 => ?_) (fun q2 => ?_)
  · rw [if_pos q2] at h
    refine z_sub [0] rfl ?_
    obtain rfl := Option.some.inj h
    exact k1 _ rfl
  · rw [if_neg q2] at h
    refine z_aload_n X dd_Mo_sortRows_10 rfl 0 rfl ?_
    obtain ⟨v3, ev3, h⟩ := zb h
    refine z_get (j := 79) X dd_Mo_sortRows_11 kc_12 ki_12 (by decide) km_1600 (zgr_v ev3) ?_
    refine z_iload_n X dd_Mo_sortRows_14 rfl 1 rfl ?_
    refine z_iload_n X dd_Mo_sortRows_15 rfl 1 rfl ?_
    obtain ⟨c4, ec4, h⟩ := zb h
    refine z_iastore X dd_Mo_sortRows_16 rfl ec4 ?_
    refine z_iinc (v := (x1 + 1)) (lv' := [(1, .int (x1 + 1)), (0, .ref x0)]) X dd_Mo_sortRows_17 1 rfl rfl (by decide) rfl ?_
    refine z_goto (tgt := 2) X dd_Mo_sortRows_20 (by decide) ?_
    refine z_sub [1, 0] rfl ?_
    obtain rfl := Option.some.inj h
    exact k0 _ rfl
set_option maxRecDepth 100000 in
set_option maxHeartbeats 4000000 in
theorem t_Mo_sortRows_203  (X : zX p s m args cd D cid B bb_Mo_sortRows 9 rr_Mo zT) (H : zH s meth B n0 none "sortRows") {nf : Nat} {x0 : Nat} {x1 : Int32} {x2 : Int32} {x3 : Int32} {x4 : Int32} {x5 : Int32} {x7 : Int32} {s0 : Int32} {s1 : Int32} {c : Zc} {r : (Nat × Int32 × Int32 × Int32 × Int32 × Int32 × Int32 × Int32 × Zc) ⊕ (Nat × Int32 × Int32 × Zc)} (h : f_Mo_sortRows_203 nf x0 x1 x2 x3 x4 x5 x7 s0 s1 c = some r) (k0 : ∀ a, r = .inl a → (fun a : Nat × Int32 × Int32 × Int32 × Int32 × Int32 × Int32 × Int32 × Zc => Zz p l e (zRm 1 25 0 0) s m args below meth cd Q D cid B 9 0 0 a.2.2.2.2.2.2.2.2 99 [(0, .ref a.1), (1, .int a.2.1), (2, .int a.2.2.1), (3, .int a.2.2.2.1), (4, .int a.2.2.2.2.1), (5, .int a.2.2.2.2.2.1), (6, .int a.2.2.2.2.2.2.1), (7, .int a.2.2.2.2.2.2.2.1)] []) a) (k1 : ∀ b, r = .inr b → (fun b : Nat × Int32 × Int32 × Zc => Zz p l e (zRm 1 25 0 0) s m args below meth cd Q D cid B 9 0 0 b.2.2.2 212 [(0, .ref b.1), (1, .int b.2.1), (2, .int b.2.2.1)] []) b) : Zz p l e (zRm 1 25 0 0) s m args below meth cd Q D cid B 9 0 0 c 203 [(0, .ref x0), (1, .int x1), (2, .int x2), (3, .int x3), (4, .int x4), (5, .int x5), (7, .int x7)] [.int s1, .int s0] := by
  unfold f_Mo_sortRows_203 at h
  refine z_iadd X dd_Mo_sortRows_203 ?_
  refine z_istore (lv' := [(6, .int (s0 + s1)), (0, .ref x0), (1, .int x1), (2, .int x2), (3, .int x3), (4, .int x4), (5, .int x5), (7, .int x7)]) X dd_Mo_sortRows_204 (by decide) rfl ?_
  refine z_iinc (v := (x7 + 1)) (lv' := [(7, .int (x7 + 1)), (6, .int (s0 + s1)), (0, .ref x0), (1, .int x1), (2, .int x2), (3, .int x3), (4, .int x4), (5, .int x5)]) X dd_Mo_sortRows_206 7 rfl rfl (by decide) rfl ?_
  refine z_goto (tgt := 99) X dd_Mo_sortRows_209 (by decide) ?_
  refine z_sub [2, 3, 4, 5, 6, 7, 1, 0] rfl ?_
  obtain rfl := Option.some.inj h
  exact k0 _ rfl
set_option maxRecDepth 100000 in
set_option maxHeartbeats 4000000 in
theorem t_Mo_sortRows_188  (X : zX p s m args cd D cid B bb_Mo_sortRows 9 rr_Mo zT) (H : zH s meth B n0 none "sortRows") {nf : Nat} {x0 : Nat} {x1 : Int32} {x2 : Int32} {x3 : Int32} {x4 : Int32} {x6 : Int32} {x7 : Int32} {x8 : Int32} {s0 : Int32} {s1 : Int32} {c : Zc} {r : (Nat × Int32 × Int32 × Int32 × Int32 × Int32 × Int32 × Int32 × Zc) ⊕ (Nat × Int32 × Int32 × Zc)} (h : f_Mo_sortRows_188 nf x0 x1 x2 x3 x4 x6 x7 x8 s0 s1 c = some r) (k0 : ∀ a, r = .inl a → (fun a : Nat × Int32 × Int32 × Int32 × Int32 × Int32 × Int32 × Int32 × Zc => Zz p l e (zRm 1 25 0 0) s m args below meth cd Q D cid B 9 0 0 a.2.2.2.2.2.2.2.2 99 [(0, .ref a.1), (1, .int a.2.1), (2, .int a.2.2.1), (3, .int a.2.2.2.1), (4, .int a.2.2.2.2.1), (5, .int a.2.2.2.2.2.1), (6, .int a.2.2.2.2.2.2.1), (7, .int a.2.2.2.2.2.2.2.1)] []) a) (k1 : ∀ b, r = .inr b → (fun b : Nat × Int32 × Int32 × Zc => Zz p l e (zRm 1 25 0 0) s m args below meth cd Q D cid B 9 0 0 b.2.2.2 212 [(0, .ref b.1), (1, .int b.2.1), (2, .int b.2.2.1)] []) b) : Zz p l e (zRm 1 25 0 0) s m args below meth cd Q D cid B 9 0 0 c 188 [(0, .ref x0), (1, .int x1), (2, .int x2), (3, .int x3), (4, .int x4), (6, .int x6), (7, .int x7), (8, .int x8)] [.int s1, .int s0] := by
  unfold f_Mo_sortRows_188 at h
  refine z_iadd X dd_Mo_sortRows_188 ?_
  refine z_istore (lv' := [(5, .int (s0 + s1)), (0, .ref x0), (1, .int x1), (2, .int x2), (3, .int x3), (4, .int x4), (6, .int x6), (7, .int x7), (8, .int x8)]) X dd_Mo_sortRows_189 (by decide) rfl ?_
  refine z_iload X dd_Mo_sortRows_191 6 rfl ?_
  refine z_iload X dd_Mo_sortRows_193 8 rfl ?_
  refine z_if_eq (tgt := 202) X dd_Mo_sortRows_195 (by decide) (fun q23 => ?_) (fun q23 => ?_)
  · rw [if_pos q23] at h
    refine z_iconst (v := 1) X dd_Mo_sortRows_202 (by decide) ?_
    refine z_sub [1, 2, 3, 4, 5, 0, 7] rfl ?_
    exact t_Mo_sortRows_203 X H h k0 k1
  · rw [if_neg q23] at h
    refine z_iconst (v := 0) X dd_Mo_sortRows_198 (by decide) ?_
    refine z_goto (tgt := 203) X dd_Mo_sortRows_199 (by decide) ?_
    refine z_sub [1, 2, 3, 4, 5, 0, 7] rfl ?_
    exact t_Mo_sortRows_203 X H h k0 k1
set_option maxRecDepth 100000 in
set_option maxHeartbeats 4000000 in
theorem t_Mo_sortRows_175  (X : zX p s m args cd D cid B bb_Mo_sortRows 9 rr_Mo zT) (H : zH s meth B n0 none "sortRows") {nf : Nat} {x0 : Nat} {x1 : Int32} {x2 : Int32} {x3 : Int32} {x4 : Int32} {x5 : Int32} {x6 : Int32} {x7 : Int32} {x8 : Int32} {s0 : Nat} {s1 : Int32} {s2 : Int32} {c : Zc} {r : (Nat × Int32 × Int32 × Int32 × Int32 × Int32 × Int32 × Int32 × Zc) ⊕ (Nat × Int32 × Int32 × Zc)} (h : f_Mo_sortRows_175 nf x0 x1 x2 x3 x4 x5 x6 x7 x8 s0 s1 s2 c = some r) (k0 : ∀ a, r = .inl a → (fun a : Nat × Int32 × Int32 × Int32 × Int32 × Int32 × Int32 × Int32 × Zc => Zz p l e (zRm 1 25 0 0) s m args below meth cd Q D cid B 9 0 0 a.2.2.2.2.2.2.2.2 99 [(0, .ref a.1), (1, .int a.2.1), (2, .int a.2.2.1), (3, .int a.2.2.2.1), (4, .int a.2.2.2.2.1), (5, .int a.2.2.2.2.2.1), (6, .int a.2.2.2.2.2.2.1), (7, .int a.2.2.2.2.2.2.2.1)] []) a) (k1 : ∀ b, r = .inr b → (fun b : Nat × Int32 × Int32 × Zc => Zz p l e (zRm 1 25 0 0) s m args below meth cd Q D cid B 9 0 0 b.2.2.2 212 [(0, .ref b.1), (1, .int b.2.1), (2, .int b.2.2.1)] []) b) : Zz p l e (zRm 1 25 0 0) s m args below meth cd Q D cid B 9 0 0 c 175 [(0, .ref x0), (1, .int x1), (2, .int x2), (3, .int x3), (4, .int x4), (5, .int x5), (6, .int x6), (7, .int x7), (8, .int x8)] [.int s2, .int s1, .ref s0] := by
  unfold f_Mo_sortRows_175 at h
  obtain ⟨c21, ec21, h⟩ := zb h
  refine z_iastore X dd_Mo_sortRows_175 rfl ec21 ?_
  refine z_iload X dd_Mo_sortRows_176 5 rfl ?_
  refine z_iload X dd_Mo_sortRows_178 8 rfl ?_
  refine z_if_eq (tgt := 187) X dd_Mo_sortRows_180 (by decide) (fun q22 => ?_) (fun q22 => ?_)
  · rw [if_pos q22] at h
    refine z_iconst (v := 0) X dd_Mo_sortRows_187 (by decide) ?_
    refine z_sub [0, 1, 2, 3, 4, 6, 7, 8] rfl ?_
    exact t_Mo_sortRows_188 X H h k0 k1
  · rw [if_neg q22] at h
    refine z_iconst (v := 1) X dd_Mo_sortRows_183 (by decide) ?_
    refine z_goto (tgt := 188) X dd_Mo_sortRows_184 (by decide) ?_
    refine z_sub [0, 1, 2, 3, 4, 6, 7, 8] rfl ?_
    exact t_Mo_sortRows_188 X H h k0 k1
set_option maxRecDepth 100000 in
set_option maxHeartbeats 4000000 in
theorem t_Mo_sortRows_145  (X : zX p s m args cd D cid B bb_Mo_sortRows 9 rr_Mo zT) (H : zH s meth B n0 none "sortRows") {nf : Nat} {x0 : Nat} {x1 : Int32} {x2 : Int32} {x3 : Int32} {x4 : Int32} {x5 : Int32} {x6 : Int32} {x7 : Int32} {s0 : Int32} {c : Zc} {r : (Nat × Int32 × Int32 × Int32 × Int32 × Int32 × Int32 × Int32 × Zc) ⊕ (Nat × Int32 × Int32 × Zc)} (h : f_Mo_sortRows_145 nf x0 x1 x2 x3 x4 x5 x6 x7 s0 c = some r) (k0 : ∀ a, r = .inl a → (fun a : Nat × Int32 × Int32 × Int32 × Int32 × Int32 × Int32 × Int32 × Zc => Zz p l e (zRm 1 25 0 0) s m args below meth cd Q D cid B 9 0 0 a.2.2.2.2.2.2.2.2 99 [(0, .ref a.1), (1, .int a.2.1), (2, .int a.2.2.1), (3, .int a.2.2.2.1), (4, .int a.2.2.2.2.1), (5, .int a.2.2.2.2.2.1), (6, .int a.2.2.2.2.2.2.1), (7, .int a.2.2.2.2.2.2.2.1)] []) a) (k1 : ∀ b, r = .inr b → (fun b : Nat × Int32 × Int32 × Zc => Zz p l e (zRm 1 25 0 0) s m args below meth cd Q D cid B 9 0 0 b.2.2.2 212 [(0, .ref b.1), (1, .int b.2.1), (2, .int b.2.2.1)] []) b) : Zz p l e (zRm 1 25 0 0) s m args below meth cd Q D cid B 9 0 0 c 145 [(0, .ref x0), (1, .int x1), (2, .int x2), (3, .int x3), (4, .int x4), (5, .int x5), (6, .int x6), (7, .int x7)] [.int s0] := by
  unfold f_Mo_sortRows_145 at h
  refine z_istore (lv' := [(8, .int s0), (0, .ref x0), (1, .int x1), (2, .int x2), (3, .int x3), (4, .int x4), (5, .int x5), (6, .int x6), (7, .int x7)]) X dd_Mo_sortRows_145 (by decide) rfl ?_
  refine z_aload_n X dd_Mo_sortRows_147 rfl 1 rfl ?_
  obtain ⟨v17, ev17, h⟩ := zb h
  refine z_get (j := 80) X dd_Mo_sortRows_148 kc_12 ki_12 (by decide) km_1601 (zgr_v ev17) ?_
  refine z_iload X dd_Mo_sortRows_151 8 rfl ?_
  refine z_iload X dd_Mo_sortRows_153 0 rfl ?_
  refine z_if_eq (tgt := 168) X dd_Mo_sortRows_155 (by decide) (fun q18 => ?_) (fun q18 => ?_)
  · rw [if_pos q18] at h
    refine z_aload_n X dd_Mo_sortRows_168 rfl 1 rfl ?_
    obtain ⟨v19, ev19, h⟩ := zb h
    refine z_get (j := 79) X dd_Mo_sortRows_169 kc_12 ki_12 (by decide) km_1600 (zgr_v ev19) ?_
    refine z_iload X dd_Mo_sortRows_172 7 rfl ?_
    obtain ⟨v20, ev20, h⟩ := zb h
    refine z_iaload X dd_Mo_sortRows_174 rfl ev20 ?_
    refine z_sub [1, 2, 3, 4, 5, 6, 7, 8, 0] rfl ?_
    exact t_Mo_sortRows_175 X H h k0 k1
  · rw [if_neg q18] at h
    refine z_aload_n X dd_Mo_sortRows_158 rfl 1 rfl ?_
    obtain ⟨v24, ev24, h⟩ := zb h
    refine z_get (j := 79) X dd_Mo_sortRows_159 kc_12 ki_12 (by decide) km_1600 (zgr_v ev24) ?_
    refine z_iload X dd_Mo_sortRows_162 6 rfl ?_
    obtain ⟨v25, ev25, h⟩ := zb h
    refine z_iaload X dd_Mo_sortRows_164 rfl ev25 ?_
    refine z_goto (tgt := 175) X dd_Mo_sortRows_165 (by decide) ?_
    refine z_sub [1, 2, 3, 4, 5, 6, 7, 8, 0] rfl ?_
    exact t_Mo_sortRows_175 X H h k0 k1
set_option maxRecDepth 100000 in
set_option maxHeartbeats 4000000 in
theorem t_Mo_sortRows_140  (X : zX p s m args cd D cid B bb_Mo_sortRows 9 rr_Mo zT) (H : zH s meth B n0 none "sortRows") {nf : Nat} {x0 : Nat} {x1 : Int32} {x2 : Int32} {x3 : Int32} {x4 : Int32} {x5 : Int32} {x6 : Int32} {x7 : Int32} {c : Zc} {r : (Nat × Int32 × Int32 × Int32 × Int32 × Int32 × Int32 × Int32 × Zc) ⊕ (Nat × Int32 × Int32 × Zc)} (h : f_Mo_sortRows_140 nf x0 x1 x2 x3 x4 x5 x6 x7 c = some r) (k0 : ∀ a, r = .inl a → (fun a : Nat × Int32 × Int32 × Int32 × Int32 × Int32 × Int32 × Int32 × Zc => Zz p l e (zRm 1 25 0 0) s m args below meth cd Q D cid B 9 0 0 a.2.2.2.2.2.2.2.2 99 [(0, .ref a.1), (1, .int a.2.1), (2, .int a.2.2.1), (3, .int a.2.2.2.1), (4, .int a.2.2.2.2.1), (5, .int a.2.2.2.2.2.1), (6, .int a.2.2.2.2.2.2.1), (7, .int a.2.2.2.2.2.2.2.1)] []) a) (k1 : ∀ b, r = .inr b → (fun b : Nat × Int32 × Int32 × Zc => Zz p l e (zRm 1 25 0 0) s m args below meth cd Q D cid B 9 0 0 b.2.2.2 212 [(0, .ref b.1), (1, .int b.2.1), (2, .int b.2.2.1)] []) b) : Zz p l e (zRm 1 25 0 0) s m args below meth cd Q D cid B 9 0 0 c 140 [(0, .ref x0), (1, .int x1), (2, .int x2), (3, .int x3), (4, .int x4), (5, .int x5), (6, .int x6), (7, .int x7)] [] := by
  unfold f_Mo_sortRows_140 at h
  refine z_iconst (v := 1) X dd_Mo_sortRows_140 (by decide) ?_
  refine z_goto (tgt := 145) X dd_Mo_sortRows_141 (by decide) ?_
  exact t_Mo_sortRows_145 X H h k0 k1
set_option maxRecDepth 100000 in
set_option maxHeartbeats 4000000 in
theorem t_Mo_sortRows_144  (X : zX p s m args cd D cid B bb_Mo_sortRows 9 rr_Mo zT) (H : zH s meth B n0 none "sortRows") {nf : Nat} {x0 : Nat} {x1 : Int32} {x2 : Int32} {x3 : Int32} {x4 : Int32} {x5 : Int32} {x6 : Int32} {x7 : Int32} {c : Zc} {r : (Nat × Int32 × Int32 × Int32 × Int32 × Int32 × Int32 × Int32 × Zc) ⊕ (Nat × Int32 × Int32 × Zc)} (h : f_Mo_sortRows_144 nf x0 x1 x2 x3 x4 x5 x6 x7 c = some r) (k0 : ∀ a, r = .inl a → (fun a : Nat × Int32 × Int32 × Int32 × Int32 × Int32 × Int32 × Int32 × Zc => Zz p l e (zRm 1 25 0 0) s m args below meth cd Q D cid B 9 0 0 a.2.2.2.2.2.2.2.2 99 [(0, .ref a.1), (1, .int a.2.1), (2, .int a.2.2.1), (3, .int a.2.2.2.1), (4, .int a.2.2.2.2.1), (5, .int a.2.2.2.2.2.1), (6, .int a.2.2.2.2.2.2.1), (7, .int a.2.2.2.2.2.2.2.1)] []) a) (k1 : ∀ b, r = .inr b → (fun b : Nat × Int32 × Int32 × Zc => Zz p l e (zRm 1 25 0 0) s m args below meth cd Q D cid B 9 0 0 b.2.2.2 212 [(0, .ref b.1), (1, .int b.2.1), (2, .int b.2.2.1)] []) b) : Zz p l e (zRm 1 25 0 0) s m args below meth cd Q D cid B 9 0 0 c 144 [(0, .ref x0), (1, .int x1), (2, .int x2), (3, .int x3), (4, .int x4), (5, .int x5), (6, .int x6), (7, .int x7)] [] := by
  unfold f_Mo_sortRows_144 at h
  refine z_iconst (v := 0) X dd_Mo_sortRows_144 (by decide) ?_
  exact t_Mo_sortRows_145 X H h k0 k1
set_option maxRecDepth 100000 in
set_option maxHeartbeats 4000000 in
theorem u_Mo_sortRows_99  (X : zX p s m args cd D cid B bb_Mo_sortRows 9 rr_Mo zT) (H : zH s meth B n0 none "sortRows") {nf : Nat} {x0 : Nat} {x1 : Int32} {x2 : Int32} {x3 : Int32} {x4 : Int32} {x5 : Int32} {x6 : Int32} {x7 : Int32} {c : Zc} {r : (Nat × Int32 × Int32 × Int32 × Int32 × Int32 × Int32 × Int32 × Zc) ⊕ (Nat × Int32 × Int32 × Zc)} (h : g_Mo_sortRows_99 nf x0 x1 x2 x3 x4 x5 x6 x7 c = some r) (k0 : ∀ a, r = .inl a → (fun a : Nat × Int32 × Int32 × Int32 × Int32 × Int32 × Int32 × Int32 × Zc => Zz p l e (zRm 1 25 0 0) s m args below meth cd Q D cid B 9 0 0 a.2.2.2.2.2.2.2.2 99 [(0, .ref a.1), (1, .int a.2.1), (2, .int a.2.2.1), (3, .int a.2.2.2.1), (4, .int a.2.2.2.2.1), (5, .int a.2.2.2.2.2.1), (6, .int a.2.2.2.2.2.2.1), (7, .int a.2.2.2.2.2.2.2.1)] []) a) (k1 : ∀ b, r = .inr b → (fun b : Nat × Int32 × Int32 × Zc => Zz p l e (zRm 1 25 0 0) s m args below meth cd Q D cid B 9 0 0 b.2.2.2 212 [(0, .ref b.1), (1, .int b.2.1), (2, .int b.2.2.1)] []) b) : Zz p l e (zRm 1 25 0 0) s m args below meth cd Q D cid B 9 0 0 c 99 [(0, .ref x0), (1, .int x1), (2, .int x2), (3, .int x3), (4, .int x4), (5, .int x5), (6, .int x6), (7, .int x7)] [] := by
  unfold g_Mo_sortRows_99 at h
  refine z_iload X dd_Mo_sortRows_99 7 rfl ?_
  refine z_iload X dd_Mo_sortRows_101 4 rfl ?_
  refine z_icmp_ge (tgt := 212) X dd_Mo_sortRows_103 (by decide) (fun q15 => ?_) (fun q15 => ?_)
  · rw [if_pos q15] at h
    refine z_sub [0, 1, 2] rfl ?_
    obtain rfl := Option.some.inj h
    exact k1 _ rfl
  · rw [if_neg q15] at h
    refine z_iload X dd_Mo_sortRows_106 6 rfl ?_
    refine z_iload X dd_Mo_sortRows_108 4 rfl ?_
    refine z_icmp_eq (tgt := 140) X dd_Mo_sortRows_110 (by decide) (fun q16 => ?_) (fun q16 => ?_)
    · rw [if_pos q16] at h
      exact t_Mo_sortRows_140 X H h k0 k1
    · rw [if_neg q16] at h
      refine z_iload X dd_Mo_sortRows_113 5 rfl ?_
      refine z_iload_n X dd_Mo_sortRows_115 rfl 3 rfl ?_
      refine z_icmp_ge (tgt := 144) X dd_Mo_sortRows_116 (by decide) (fun q26 => ?_) (fun q26 => ?_)
      · rw [if_pos q26] at h
        exact t_Mo_sortRows_144 X H h k0 k1
      · rw [if_neg q26] at h
        refine z_aload_n X dd_Mo_sortRows_119 rfl 0 rfl ?_
        refine z_aload_n X dd_Mo_sortRows_120 rfl 0 rfl ?_
        obtain ⟨v27, ev27, h⟩ := zb h
        refine z_get (j := 79) X dd_Mo_sortRows_121 kc_12 ki_12 (by decide) km_1600 (zgr_v ev27) ?_
        refine z_iload X dd_Mo_sortRows_124 5 rfl ?_
        obtain ⟨v28, ev28, h⟩ := zb h
        refine z_iaload X dd_Mo_sortRows_126 rfl ev28 ?_
        refine z_aload_n X dd_Mo_sortRows_127 rfl 0 rfl ?_
        obtain ⟨v29, ev29, h⟩ := zb h
        refine z_get (j := 79) X dd_Mo_sortRows_128 kc_12 ki_12 (by decide) km_1600 (zgr_v ev29) ?_
        refine z_iload X dd_Mo_sortRows_131 6 rfl ?_
        obtain ⟨v30, ev30, h⟩ := zb h
        refine z_iaload X dd_Mo_sortRows_133 rfl ev30 ?_
        obtain ⟨w32, ew32, h⟩ := zb h
        obtain ⟨q31, eq31, h⟩ := zb h
        refine z_callVi X [.int v28, .int v30] rfl dd_Mo_sortRows_134 (c_Mo_compareRows l eq31) (cwV 2 X.1.2.2.2.2 (zg_V km_2151 km_2153 km_122 km_138 km_2154) rfl rfl rfl (by decide +kernel) ⟨Nat.le_of_ble_eq_true rfl, Nat.le_of_ble_eq_true rfl⟩) (zob_s ew32) kc_12 rfl (Nat.le_of_ble_eq_true rfl) ⟨Nat.le_of_ble_eq_true rfl, Nat.le_of_ble_eq_true rfl⟩ ?_
        refine z_if_gt (tgt := 144) X dd_Mo_sortRows_137 (by decide) (fun q33 => ?_) (fun q33 => ?_)
        · rw [if_pos q33] at h
          exact t_Mo_sortRows_144 X H h k0 k1
        · rw [if_neg q33] at h
          exact t_Mo_sortRows_140 X H h k0 k1
set_option maxRecDepth 100000 in
set_option maxHeartbeats 4000000 in
theorem t_Mo_sortRows_99  (X : zX p s m args cd D cid B bb_Mo_sortRows 9 rr_Mo zT) (H : zH s meth B n0 none "sortRows") {nf : Nat} {x0 : Nat} {x1 : Int32} {x2 : Int32} {x3 : Int32} {x4 : Int32} {x5 : Int32} {x6 : Int32} {x7 : Int32} {c : Zc} {r : (Nat × Int32 × Int32 × Zc) ⊕ (Nat × Int32 × Zc)} (h : f_Mo_sortRows_99 nf x0 x1 x2 x3 x4 x5 x6 x7 c = some r) (k0 : ∀ a, r = .inl a → (fun a : Nat × Int32 × Int32 × Zc => Zz p l e (zRm 1 25 0 0) s m args below meth cd Q D cid B 9 0 0 a.2.2.2 35 [(0, .ref a.1), (1, .int a.2.1), (2, .int a.2.2.1)] []) a) (k1 : ∀ b, r = .inr b → (fun b : Nat × Int32 × Zc => Zz p l e (zRm 1 25 0 0) s m args below meth cd Q D cid B 9 0 0 b.2.2 221 [(0, .ref b.1), (1, .int b.2.1)] []) b) : Zz p l e (zRm 1 25 0 0) s m args below meth cd Q D cid B 9 0 0 c 99 [(0, .ref x0), (1, .int x1), (2, .int x2), (3, .int x3), (4, .int x4), (5, .int x5), (6, .int x6), (7, .int x7)] [] := by
  unfold f_Mo_sortRows_99 at h
  obtain ⟨b, eb, h⟩ := zb h
  refine zlp_ok (P := fun a : Nat × Int32 × Int32 × Int32 × Int32 × Int32 × Int32 × Int32 × Zc => Zz p l e (zRm 1 25 0 0) s m args below meth cd _ D cid B 9 0 0 a.2.2.2.2.2.2.2.2 99 [(0, .ref a.1), (1, .int a.2.1), (2, .int a.2.2.1), (3, .int a.2.2.2.1), (4, .int a.2.2.2.2.1), (5, .int a.2.2.2.2.2.1), (6, .int a.2.2.2.2.2.2.1), (7, .int a.2.2.2.2.2.2.2.1)] []) (G := fun b : Nat × Int32 × Int32 × Zc => Zz p l e (zRm 1 25 0 0) s m args below meth cd _ D cid B 9 0 0 b.2.2.2 212 [(0, .ref b.1), (1, .int b.2.1), (2, .int b.2.2.1)] []) (fun a r ha k0 k1 => u_Mo_sortRows_99 X H ha k0 k1) nf _ b eb ?_
  refine z_iload_n X dd_Mo_sortRows_212 rfl 2 rfl ?_
  refine z_iconst (v := 2) X dd_Mo_sortRows_213 (by decide) ?_
  refine z_iload_n X dd_Mo_sortRows_214 rfl 1 rfl ?_
  refine z_imul X dd_Mo_sortRows_215 ?_
  refine z_iadd X dd_Mo_sortRows_216 ?_
  refine z_istore_n (lv' := [(2, .int (b.2.2.1 + (2 * b.2.1))), (0, .ref b.1), (1, .int b.2.1)]) X dd_Mo_sortRows_217 rfl (by decide) rfl ?_
  refine z_goto (tgt := 35) X dd_Mo_sortRows_218 (by decide) ?_
  refine z_sub [1, 2, 0] rfl ?_
  obtain rfl := Option.some.inj h
  exact k0 _ rfl
set_option maxRecDepth 100000 in
set_option maxHeartbeats 4000000 in
theorem t_Mo_sortRows_88  (X : zX p s m args cd D cid B bb_Mo_sortRows 9 rr_Mo zT) (H : zH s meth B n0 none "sortRows") {nf : Nat} {x0 : Nat} {x1 : Int32} {x2 : Int32} {x3 : Int32} {s0 : Int32} {c : Zc} {r : (Nat × Int32 × Int32 × Zc) ⊕ (Nat × Int32 × Zc)} (h : f_Mo_sortRows_88 nf x0 x1 x2 x3 s0 c = some r) (k0 : ∀ a, r = .inl a → (fun a : Nat × Int32 × Int32 × Zc => Zz p l e (zRm 1 25 0 0) s m args below meth cd Q D cid B 9 0 0 a.2.2.2 35 [(0, .ref a.1), (1, .int a.2.1), (2, .int a.2.2.1)] []) a) (k1 : ∀ b, r = .inr b → (fun b : Nat × Int32 × Zc => Zz p l e (zRm 1 25 0 0) s m args below meth cd Q D cid B 9 0 0 b.2.2 221 [(0, .ref b.1), (1, .int b.2.1)] []) b) : Zz p l e (zRm 1 25 0 0) s m args below meth cd Q D cid B 9 0 0 c 88 [(0, .ref x0), (1, .int x1), (2, .int x2), (3, .int x3)] [.int s0] := by
  unfold f_Mo_sortRows_88 at h
  refine z_istore (lv' := [(4, .int s0), (0, .ref x0), (1, .int x1), (2, .int x2), (3, .int x3)]) X dd_Mo_sortRows_88 (by decide) rfl ?_
  refine z_iload_n X dd_Mo_sortRows_90 rfl 3 rfl ?_
  refine z_istore (lv' := [(5, .int x2), (4, .int s0), (0, .ref x0), (1, .int x1), (2, .int x2), (3, .int x3)]) X dd_Mo_sortRows_91 (by decide) rfl ?_
  refine z_iload_n X dd_Mo_sortRows_93 rfl 5 rfl ?_
  refine z_istore (lv' := [(6, .int x3), (5, .int x2), (4, .int s0), (0, .ref x0), (1, .int x1), (2, .int x2), (3, .int x3)]) X dd_Mo_sortRows_94 (by decide) rfl ?_
  refine z_iload_n X dd_Mo_sortRows_96 rfl 5 rfl ?_
  refine z_istore (lv' := [(7, .int x2), (6, .int x3), (5, .int x2), (4, .int s0), (0, .ref x0), (1, .int x1), (2, .int x2), (3, .int x3)]) X dd_Mo_sortRows_97 (by decide) rfl ?_
  refine z_sub [4, 5, 6, 7, 3, 2, 1, 0] rfl ?_
  exact t_Mo_sortRows_99 X H h k0 k1
set_option maxRecDepth 100000 in
set_option maxHeartbeats 4000000 in
theorem t_Mo_sortRows_63  (X : zX p s m args cd D cid B bb_Mo_sortRows 9 rr_Mo zT) (H : zH s meth B n0 none "sortRows") {nf : Nat} {x0 : Nat} {x1 : Int32} {x2 : Int32} {s0 : Int32} {c : Zc} {r : (Nat × Int32 × Int32 × Zc) ⊕ (Nat × Int32 × Zc)} (h : f_Mo_sortRows_63 nf x0 x1 x2 s0 c = some r) (k0 : ∀ a, r = .inl a → (fun a : Nat × Int32 × Int32 × Zc => Zz p l e (zRm 1 25 0 0) s m args below meth cd Q D cid B 9 0 0 a.2.2.2 35 [(0, .ref a.1), (1, .int a.2.1), (2, .int a.2.2.1)] []) a) (k1 : ∀ b, r = .inr b → (fun b : Nat × Int32 × Zc => Zz p l e (zRm 1 25 0 0) s m args below meth cd Q D cid B 9 0 0 b.2.2 221 [(0, .ref b.1), (1, .int b.2.1)] []) b) : Zz p l e (zRm 1 25 0 0) s m args below meth cd Q D cid B 9 0 0 c 63 [(0, .ref x0), (1, .int x1), (2, .int x2)] [.int s0] := by
  unfold f_Mo_sortRows_63 at h
  refine z_istore_n (lv' := [(3, .int s0), (0, .ref x0), (1, .int x1), (2, .int x2)]) X dd_Mo_sortRows_63 rfl (by decide) rfl ?_
  refine z_iload_n X dd_Mo_sortRows_64 rfl 3 rfl ?_
  refine z_iconst (v := 2) X dd_Mo_sortRows_65 (by decide) ?_
  refine z_iload_n X dd_Mo_sortRows_66 rfl 2 rfl ?_
  refine z_imul X dd_Mo_sortRows_67 ?_
  refine z_iadd X dd_Mo_sortRows_68 ?_
  refine z_aload_n X dd_Mo_sortRows_69 rfl 1 rfl ?_
  obtain ⟨v12, ev12, h⟩ := zb h
  refine z_get (j := 81) X dd_Mo_sortRows_70 kc_12 ki_12 (by decide) km_1602 (zgi_v ev12) ?_
  refine z_icmp_ge (tgt := 84) X dd_Mo_sortRows_73 (by decide) (fun q13 => ?_) (fun q13 => ?_)
  · rw [if_pos q13] at h
    refine z_aload_n X dd_Mo_sortRows_84 rfl 1 rfl ?_
    obtain ⟨v14, ev14, h⟩ := zb h
    refine z_get (j := 81) X dd_Mo_sortRows_85 kc_12 ki_12 (by decide) km_1602 (zgi_v ev14) ?_
    refine z_sub [1, 2, 3, 0] rfl ?_
    exact t_Mo_sortRows_88 X H h k0 k1
  · rw [if_neg q13] at h
    refine z_iload_n X dd_Mo_sortRows_76 rfl 3 rfl ?_
    refine z_iconst (v := 2) X dd_Mo_sortRows_77 (by decide) ?_
    refine z_iload_n X dd_Mo_sortRows_78 rfl 2 rfl ?_
    refine z_imul X dd_Mo_sortRows_79 ?_
    refine z_iadd X dd_Mo_sortRows_80 ?_
    refine z_goto (tgt := 88) X dd_Mo_sortRows_81 (by decide) ?_
    refine z_sub [1, 2, 3, 0] rfl ?_
    exact t_Mo_sortRows_88 X H h k0 k1
set_option maxRecDepth 100000 in
set_option maxHeartbeats 4000000 in
theorem u_Mo_sortRows_35  (X : zX p s m args cd D cid B bb_Mo_sortRows 9 rr_Mo zT) (H : zH s meth B n0 none "sortRows") {nf : Nat} {x0 : Nat} {x1 : Int32} {x2 : Int32} {c : Zc} {r : (Nat × Int32 × Int32 × Zc) ⊕ (Nat × Int32 × Zc)} (h : g_Mo_sortRows_35 nf x0 x1 x2 c = some r) (k0 : ∀ a, r = .inl a → (fun a : Nat × Int32 × Int32 × Zc => Zz p l e (zRm 1 25 0 0) s m args below meth cd Q D cid B 9 0 0 a.2.2.2 35 [(0, .ref a.1), (1, .int a.2.1), (2, .int a.2.2.1)] []) a) (k1 : ∀ b, r = .inr b → (fun b : Nat × Int32 × Zc => Zz p l e (zRm 1 25 0 0) s m args below meth cd Q D cid B 9 0 0 b.2.2 221 [(0, .ref b.1), (1, .int b.2.1)] []) b) : Zz p l e (zRm 1 25 0 0) s m args below meth cd Q D cid B 9 0 0 c 35 [(0, .ref x0), (1, .int x1), (2, .int x2)] [] := by
  unfold g_Mo_sortRows_35 at h
  refine z_iload_n X dd_Mo_sortRows_35 rfl 2 rfl ?_
  refine z_aload_n X dd_Mo_sortRows_36 rfl 0 rfl ?_
  obtain ⟨v7, ev7, h⟩ := zb h
  refine z_get (j := 81) X dd_Mo_sortRows_37 kc_12 ki_12 (by decide) km_1602 (zgi_v ev7) ?_
  refine z_icmp_ge (tgt := 221) X dd_Mo_sortRows_40 (by decide) (fun q8 => ?_) (fun q8 => ?_)
  · rw [if_pos q8] at h
    refine z_sub [0, 1] rfl ?_
    obtain rfl := Option.some.inj h
    exact k1 _ rfl
  · rw [if_neg q8] at h
    refine z_iload_n X dd_Mo_sortRows_43 rfl 2 rfl ?_
    refine z_iload_n X dd_Mo_sortRows_44 rfl 1 rfl ?_
    refine z_iadd X dd_Mo_sortRows_45 ?_
    refine z_aload_n X dd_Mo_sortRows_46 rfl 0 rfl ?_
    obtain ⟨v9, ev9, h⟩ := zb h
    refine z_get (j := 81) X dd_Mo_sortRows_47 kc_12 ki_12 (by decide) km_1602 (zgi_v ev9) ?_
    refine z_icmp_ge (tgt := 59) X dd_Mo_sortRows_50 (by decide) (fun q10 => ?_) (fun q10 => ?_)
    · rw [if_pos q10] at h
      refine z_aload_n X dd_Mo_sortRows_59 rfl 0 rfl ?_
      obtain ⟨v11, ev11, h⟩ := zb h
      refine z_get (j := 81) X dd_Mo_sortRows_60 kc_12 ki_12 (by decide) km_1602 (zgi_v ev11) ?_
      exact t_Mo_sortRows_63 X H h k0 k1
    · rw [if_neg q10] at h
      refine z_iload_n X dd_Mo_sortRows_53 rfl 2 rfl ?_
      refine z_iload_n X dd_Mo_sortRows_54 rfl 1 rfl ?_
      refine z_iadd X dd_Mo_sortRows_55 ?_
      refine z_goto (tgt := 63) X dd_Mo_sortRows_56 (by decide) ?_
      exact t_Mo_sortRows_63 X H h k0 k1
set_option maxRecDepth 100000 in
set_option maxHeartbeats 4000000 in
theorem u_Mo_sortRows_223  (X : zX p s m args cd D cid B bb_Mo_sortRows 9 rr_Mo zT) (H : zH s meth B n0 none "sortRows") {nf : Nat} {x0 : Nat} {x1 : Int32} {x2 : Int32} {c : Zc} {r : (Nat × Int32 × Int32 × Zc) ⊕ (Nat × Int32 × Zc)} (h : g_Mo_sortRows_223 nf x0 x1 x2 c = some r) (k0 : ∀ a, r = .inl a → (fun a : Nat × Int32 × Int32 × Zc => Zz p l e (zRm 1 25 0 0) s m args below meth cd Q D cid B 9 0 0 a.2.2.2 223 [(0, .ref a.1), (1, .int a.2.1), (2, .int a.2.2.1)] []) a) (k1 : ∀ b, r = .inr b → (fun b : Nat × Int32 × Zc => Zz p l e (zRm 1 25 0 0) s m args below meth cd Q D cid B 9 0 0 b.2.2 249 [(0, .ref b.1), (1, .int b.2.1)] []) b) : Zz p l e (zRm 1 25 0 0) s m args below meth cd Q D cid B 9 0 0 c 223 [(0, .ref x0), (1, .int x1), (2, .int x2)] [] := by
  unfold g_Mo_sortRows_223 at h
  refine z_iload_n X dd_Mo_sortRows_223 rfl 2 rfl ?_
  refine z_aload_n X dd_Mo_sortRows_224 rfl 0 rfl ?_
  obtain ⟨v34, ev34, h⟩ := zb h
  refine z_get (j := 81) X dd_Mo_sortRows_225 kc_12 ki_12 (by decide) km_1602 (zgi_v ev34) ?_
  refine z_icmp_ge (tgt := 249) X dd_Mo_sortRows_228 (by decide) (fun q35 => ?_) (fun q35 => ?_)
  · rw [if_pos q35] at h
    refine z_sub [0, 1] rfl ?_
    obtain rfl := Option.some.inj h
    exact k1 _ rfl
  · rw [if_neg q35] at h
    refine z_aload_n X dd_Mo_sortRows_231 rfl 0 rfl ?_
    obtain ⟨v36, ev36, h⟩ := zb h
    refine z_get (j := 79) X dd_Mo_sortRows_232 kc_12 ki_12 (by decide) km_1600 (zgr_v ev36) ?_
    refine z_iload_n X dd_Mo_sortRows_235 rfl 2 rfl ?_
    refine z_aload_n X dd_Mo_sortRows_236 rfl 0 rfl ?_
    obtain ⟨v37, ev37, h⟩ := zb h
    refine z_get (j := 80) X dd_Mo_sortRows_237 kc_12 ki_12 (by decide) km_1601 (zgr_v ev37) ?_
    refine z_iload_n X dd_Mo_sortRows_240 rfl 2 rfl ?_
    obtain ⟨v38, ev38, h⟩ := zb h
    refine z_iaload X dd_Mo_sortRows_241 rfl ev38 ?_
    obtain ⟨c39, ec39, h⟩ := zb h
    refine z_iastore X dd_Mo_sortRows_242 rfl ec39 ?_
    refine z_iinc (v := (x2 + 1)) (lv' := [(2, .int (x2 + 1)), (0, .ref x0), (1, .int x1)]) X dd_Mo_sortRows_243 2 rfl rfl (by decide) rfl ?_
    refine z_goto (tgt := 223) X dd_Mo_sortRows_246 (by decide) ?_
    refine z_sub [1, 2, 0] rfl ?_
    obtain rfl := Option.some.inj h
    exact k0 _ rfl
set_option maxRecDepth 100000 in
set_option maxHeartbeats 4000000 in
theorem t_Mo_sortRows_223  (X : zX p s m args cd D cid B bb_Mo_sortRows 9 rr_Mo zT) (H : zH s meth B n0 none "sortRows") {nf : Nat} {x0 : Nat} {x1 : Int32} {x2 : Int32} {c : Zc} {r : (Nat × Int32 × Zc) ⊕ (Zc)} (h : f_Mo_sortRows_223 nf x0 x1 x2 c = some r) (k0 : ∀ a, r = .inl a → (fun a : Nat × Int32 × Zc => Zz p l e (zRm 1 25 0 0) s m args below meth cd Q D cid B 9 0 0 a.2.2 25 [(0, .ref a.1), (1, .int a.2.1)] []) a) (k1 : ∀ b, r = .inr b → (fun b : Zc => Zz p l e (zRm 1 25 0 0) s m args below meth cd Q D cid B 9 0 0 b 256 [] []) b) : Zz p l e (zRm 1 25 0 0) s m args below meth cd Q D cid B 9 0 0 c 223 [(0, .ref x0), (1, .int x1), (2, .int x2)] [] := by
  unfold f_Mo_sortRows_223 at h
  obtain ⟨b, eb, h⟩ := zb h
  refine zlp_ok (P := fun a : Nat × Int32 × Int32 × Zc => Zz p l e (zRm 1 25 0 0) s m args below meth cd _ D cid B 9 0 0 a.2.2.2 223 [(0, .ref a.1), (1, .int a.2.1), (2, .int a.2.2.1)] []) (G := fun b : Nat × Int32 × Zc => Zz p l e (zRm 1 25 0 0) s m args below meth cd _ D cid B 9 0 0 b.2.2 249 [(0, .ref b.1), (1, .int b.2.1)] []) (fun a r ha k0 k1 => u_Mo_sortRows_223 X H ha k0 k1) nf _ b eb ?_
  refine z_iload_n X dd_Mo_sortRows_249 rfl 1 rfl ?_
  refine z_iconst (v := 2) X dd_Mo_sortRows_250 (by decide) ?_
  refine z_imul X dd_Mo_sortRows_251 ?_
  refine z_istore_n (lv' := [(1, .int (b.2.1 * 2)), (0, .ref b.1)]) X dd_Mo_sortRows_252 rfl (by decide) rfl ?_
  refine z_goto (tgt := 25) X dd_Mo_sortRows_253 (by decide) ?_
  refine z_sub [1, 0] rfl ?_
  obtain rfl := Option.some.inj h
  exact k0 _ rfl
set_option maxRecDepth 100000 in
set_option maxHeartbeats 4000000 in
theorem t_Mo_sortRows_35  (X : zX p s m args cd D cid B bb_Mo_sortRows 9 rr_Mo zT) (H : zH s meth B n0 none "sortRows") {nf : Nat} {x0 : Nat} {x1 : Int32} {x2 : Int32} {c : Zc} {r : (Nat × Int32 × Zc) ⊕ (Zc)} (h : f_Mo_sortRows_35 nf x0 x1 x2 c = some r) (k0 : ∀ a, r = .inl a → (fun a : Nat × Int32 × Zc => Zz p l e (zRm 1 25 0 0) s m args below meth cd Q D cid B 9 0 0 a.2.2 25 [(0, .ref a.1), (1, .int a.2.1)] []) a) (k1 : ∀ b, r = .inr b → (fun b : Zc => Zz p l e (zRm 1 25 0 0) s m args below meth cd Q D cid B 9 0 0 b 256 [] []) b) : Zz p l e (zRm 1 25 0 0) s m args below meth cd Q D cid B 9 0 0 c 35 [(0, .ref x0), (1, .int x1), (2, .int x2)] [] := by
  unfold f_Mo_sortRows_35 at h
  obtain ⟨b, eb, h⟩ := zb h
  refine zlp_ok (P := fun a : Nat × Int32 × Int32 × Zc => Zz p l e (zRm 1 25 0 0) s m args below meth cd _ D cid B 9 0 0 a.2.2.2 35 [(0, .ref a.1), (1, .int a.2.1), (2, .int a.2.2.1)] []) (G := fun b : Nat × Int32 × Zc => Zz p l e (zRm 1 25 0 0) s m args below meth cd _ D cid B 9 0 0 b.2.2 221 [(0, .ref b.1), (1, .int b.2.1)] []) (fun a r ha k0 k1 => u_Mo_sortRows_35 X H ha k0 k1) nf _ b eb ?_
  refine z_iconst (v := 0) X dd_Mo_sortRows_221 (by decide) ?_
  refine z_istore_n (lv' := [(2, .int 0), (0, .ref b.1), (1, .int b.2.1)]) X dd_Mo_sortRows_222 rfl (by decide) rfl ?_
  refine z_sub [1, 2, 0] rfl ?_
  exact t_Mo_sortRows_223 X H h k0 k1
set_option maxRecDepth 100000 in
set_option maxHeartbeats 4000000 in
theorem u_Mo_sortRows_25  (X : zX p s m args cd D cid B bb_Mo_sortRows 9 rr_Mo zT) (H : zH s meth B n0 none "sortRows") {nf : Nat} {x0 : Nat} {x1 : Int32} {c : Zc} {r : (Nat × Int32 × Zc) ⊕ (Zc)} (h : g_Mo_sortRows_25 nf x0 x1 c = some r) (k0 : ∀ a, r = .inl a → (fun a : Nat × Int32 × Zc => Zz p l e (zRm 1 25 0 0) s m args below meth cd Q D cid B 9 0 0 a.2.2 25 [(0, .ref a.1), (1, .int a.2.1)] []) a) (k1 : ∀ b, r = .inr b → (fun b : Zc => Zz p l e (zRm 1 25 0 0) s m args below meth cd Q D cid B 9 0 0 b 256 [] []) b) : Zz p l e (zRm 1 25 0 0) s m args below meth cd Q D cid B 9 0 0 c 25 [(0, .ref x0), (1, .int x1)] [] := by
  unfold g_Mo_sortRows_25 at h
  refine z_iload_n X dd_Mo_sortRows_25 rfl 1 rfl ?_
  refine z_aload_n X dd_Mo_sortRows_26 rfl 0 rfl ?_
  obtain ⟨v5, ev5, h⟩ := zb h
  refine z_get (j := 81) X dd_Mo_sortRows_27 kc_12 ki_12 (by decide) km_1602 (zgi_v ev5) ?_
  refine z_icmp_ge (tgt := 256) X dd_Mo_sortRows_30 (by decide) (fun q6 => ?_) (fun q6 => ?_)
  · rw [if_pos q6] at h
    refine z_sub [] rfl ?_
    obtain rfl := Option.some.inj h
    exact k1 _ rfl
  · rw [if_neg q6] at h
    refine z_iconst (v := 0) X dd_Mo_sortRows_33 (by decide) ?_
    refine z_istore_n (lv' := [(2, .int 0), (0, .ref x0), (1, .int x1)]) X dd_Mo_sortRows_34 rfl (by decide) rfl ?_
    refine z_sub [1, 2, 0] rfl ?_
    exact t_Mo_sortRows_35 X H h k0 k1
set_option maxRecDepth 100000 in
set_option maxHeartbeats 4000000 in
theorem t_Mo_sortRows_25  (X : zX p s m args cd D cid B bb_Mo_sortRows 9 rr_Mo zT) (H : zH s meth B n0 none "sortRows") {nf : Nat} {x0 : Nat} {x1 : Int32} {c : Zc} {res : Zc} (h : f_Mo_sortRows_25 nf x0 x1 c = some res) : Zz p l e (zRm 1 25 0 0) s m args below meth cd (MQ below (zQv D cid B res n0 0) args s 0 0 (fun q => B ≤ q)) D cid B 9 0 0 c 25 [(0, .ref x0), (1, .int x1)] [] := by
  unfold f_Mo_sortRows_25 at h
  obtain ⟨b, eb, h⟩ := zb h
  refine zlp_ok (P := fun a : Nat × Int32 × Zc => Zz p l e (zRm 1 25 0 0) s m args below meth cd _ D cid B 9 0 0 a.2.2 25 [(0, .ref a.1), (1, .int a.2.1)] []) (G := fun b : Zc => Zz p l e (zRm 1 25 0 0) s m args below meth cd _ D cid B 9 0 0 b 256 [] []) (fun a r ha k0 k1 => u_Mo_sortRows_25 X H ha k0 k1) nf _ b eb ?_
  obtain rfl := Option.some.inj h
  exact z_vret X H.1 H.2.1 H.2.2.1 dd_Mo_sortRows_256
set_option maxRecDepth 100000 in
set_option maxHeartbeats 4000000 in
theorem t_Mo_sortRows_2  (X : zX p s m args cd D cid B bb_Mo_sortRows 9 rr_Mo zT) (H : zH s meth B n0 none "sortRows") {nf : Nat} {x0 : Nat} {x1 : Int32} {c : Zc} {res : Zc} (h : f_Mo_sortRows_2 nf x0 x1 c = some res) : Zz p l e (zRm 1 25 0 0) s m args below meth cd (MQ below (zQv D cid B res n0 0) args s 0 0 (fun q => B ≤ q)) D cid B 9 0 0 c 2 [(0, .ref x0), (1, .int x1)] [] := by
  unfold f_Mo_sortRows_2 at h
  obtain ⟨b, eb, h⟩ := zb h
  refine zlp_ok (P := fun a : Nat × Int32 × Zc => Zz p l e (zRm 1 25 0 0) s m args below meth cd _ D cid B 9 0 0 a.2.2 2 [(0, .ref a.1), (1, .int a.2.1)] []) (G := fun b : Nat × Zc => Zz p l e (zRm 1 25 0 0) s m args below meth cd _ D cid B 9 0 0 b.2 23 [(0, .ref b.1)] []) (fun a r ha k0 k1 => u_Mo_sortRows_2 X H ha k0 k1) nf _ b eb ?_
  refine z_iconst (v := 1) X dd_Mo_sortRows_23 (by decide) ?_
  refine z_istore_n (lv' := [(1, .int 1), (0, .ref b.1)]) X dd_Mo_sortRows_24 rfl (by decide) rfl ?_
  refine z_sub [1, 0] rfl ?_
  exact t_Mo_sortRows_25 X H h
set_option maxRecDepth 100000 in
set_option maxHeartbeats 4000000 in
theorem c_Mo_sortRows (l : Launch) {nf : Nat} {a0 : Nat} {c : Zc} {res : Zc} (h : f_Mo_sortRows nf a0 c = some res) : zM l yy_Mo_sortRows ww_Mo_sortRows 1 25 0 0 [.ref a0] c (fun D cid B => zQv D cid B res c.length 0) := by
  refine z_met (cc := bb_Mo_sortRows) (maxL := 9) (ret := none) (by decide +kernel) rfl (Nat.le_of_ble_eq_true rfl) ?_
  intro p e s m args below meth cd D cid B X h1 h2 h3 h4
  have X : zX p s m args cd D cid B bb_Mo_sortRows 9 rr_Mo zT := X
  have H : zH s meth B c.length none "sortRows" := ⟨h1, h2, h4, h3⟩
  unfold f_Mo_sortRows at h
  show Zz p l e (zRm 1 25 0 0) s m args below meth cd _ D cid B 9 0 0 c 0 [(0, .ref a0)] []
  refine z_iconst (v := 0) X dd_Mo_sortRows_0 (by decide) ?_
  refine z_istore_n (lv' := [(1, .int 0), (0, .ref a0)]) X dd_Mo_sortRows_1 rfl (by decide) rfl ?_
  refine z_sub [1, 0] rfl ?_
  exact t_Mo_sortRows_2 X H h
theorem dd_Mo_collect_0 : decode bb_Mo_collect 0 = .ok (.aload_n 0, 1) := by decide +kernel
theorem dd_Mo_collect_1 : decode bb_Mo_collect 1 = .ok (.iconst 0, 1) := by decide +kernel
theorem dd_Mo_collect_2 : decode bb_Mo_collect 2 = .ok (.putfield 515, 3) := by decide +kernel
theorem dd_Mo_collect_5 : decode bb_Mo_collect 5 = .ok (.aload_n 0, 1) := by decide +kernel
theorem dd_Mo_collect_6 : decode bb_Mo_collect 6 = .ok (.invokevirtual 506, 3) := by decide +kernel
theorem dd_Mo_collect_9 : decode bb_Mo_collect 9 = .ok (.aload_n 0, 1) := by decide +kernel
theorem dd_Mo_collect_10 : decode bb_Mo_collect 10 = .ok (.getfield 450, 3) := by decide +kernel
theorem dd_Mo_collect_13 : decode bb_Mo_collect 13 = .ok (.ifCond .le 7, 3) := by decide +kernel
theorem dd_Mo_collect_16 : decode bb_Mo_collect 16 = .ok (.iconst 1, 1) := by decide +kernel
theorem dd_Mo_collect_17 : decode bb_Mo_collect 17 = .ok (.goto 4, 3) := by decide +kernel
theorem dd_Mo_collect_20 : decode bb_Mo_collect 20 = .ok (.iconst 0, 1) := by decide +kernel
theorem dd_Mo_collect_21 : decode bb_Mo_collect 21 = .ok (.istore_n 1, 1) := by decide +kernel
theorem dd_Mo_collect_22 : decode bb_Mo_collect 22 = .ok (.iload_n 1, 1) := by decide +kernel
theorem dd_Mo_collect_23 : decode bb_Mo_collect 23 = .ok (.ifCond .eq 107, 3) := by decide +kernel
theorem dd_Mo_collect_26 : decode bb_Mo_collect 26 = .ok (.aload_n 0, 1) := by decide +kernel
theorem dd_Mo_collect_27 : decode bb_Mo_collect 27 = .ok (.invokevirtual 509, 3) := by decide +kernel
theorem dd_Mo_collect_30 : decode bb_Mo_collect 30 = .ok (.ifCond .eq 91, 3) := by decide +kernel
theorem dd_Mo_collect_33 : decode bb_Mo_collect 33 = .ok (.iconst 0, 1) := by decide +kernel
theorem dd_Mo_collect_34 : decode bb_Mo_collect 34 = .ok (.istore_n 2, 1) := by decide +kernel
theorem dd_Mo_collect_35 : decode bb_Mo_collect 35 = .ok (.iload_n 2, 1) := by decide +kernel
theorem dd_Mo_collect_36 : decode bb_Mo_collect 36 = .ok (.aload_n 0, 1) := by decide +kernel
theorem dd_Mo_collect_37 : decode bb_Mo_collect 37 = .ok (.getfield 116, 3) := by decide +kernel
theorem dd_Mo_collect_40 : decode bb_Mo_collect 40 = .ok (.aload_n 0, 1) := by decide +kernel
theorem dd_Mo_collect_41 : decode bb_Mo_collect 41 = .ok (.getfield 331, 3) := by decide +kernel
theorem dd_Mo_collect_44 : decode bb_Mo_collect 44 = .ok (.iaload, 1) := by decide +kernel
theorem dd_Mo_collect_45 : decode bb_Mo_collect 45 = .ok (.if_icmp .ge 66, 3) := by decide +kernel
theorem dd_Mo_collect_48 : decode bb_Mo_collect 48 = .ok (.bipush 8, 2) := by decide +kernel
theorem dd_Mo_collect_50 : decode bb_Mo_collect 50 = .ok (.aload_n 0, 1) := by decide +kernel
theorem dd_Mo_collect_51 : decode bb_Mo_collect 51 = .ok (.getfield 331, 3) := by decide +kernel
theorem dd_Mo_collect_54 : decode bb_Mo_collect 54 = .ok (.imul, 1) := by decide +kernel
theorem dd_Mo_collect_55 : decode bb_Mo_collect 55 = .ok (.iload_n 2, 1) := by decide +kernel
theorem dd_Mo_collect_56 : decode bb_Mo_collect 56 = .ok (.iadd, 1) := by decide +kernel
theorem dd_Mo_collect_57 : decode bb_Mo_collect 57 = .ok (.istore_n 3, 1) := by decide +kernel
theorem dd_Mo_collect_58 : decode bb_Mo_collect 58 = .ok (.aload_n 0, 1) := by decide +kernel
theorem dd_Mo_collect_59 : decode bb_Mo_collect 59 = .ok (.getfield 204, 3) := by decide +kernel
theorem dd_Mo_collect_62 : decode bb_Mo_collect 62 = .ok (.bipush 8, 2) := by decide +kernel
theorem dd_Mo_collect_64 : decode bb_Mo_collect 64 = .ok (.aload_n 0, 1) := by decide +kernel
theorem dd_Mo_collect_65 : decode bb_Mo_collect 65 = .ok (.getfield 515, 3) := by decide +kernel
theorem dd_Mo_collect_68 : decode bb_Mo_collect 68 = .ok (.imul, 1) := by decide +kernel
theorem dd_Mo_collect_69 : decode bb_Mo_collect 69 = .ok (.iload_n 2, 1) := by decide +kernel
theorem dd_Mo_collect_70 : decode bb_Mo_collect 70 = .ok (.iadd, 1) := by decide +kernel
theorem dd_Mo_collect_71 : decode bb_Mo_collect 71 = .ok (.aload_n 0, 1) := by decide +kernel
theorem dd_Mo_collect_72 : decode bb_Mo_collect 72 = .ok (.getfield 119, 3) := by decide +kernel
theorem dd_Mo_collect_75 : decode bb_Mo_collect 75 = .ok (.iload_n 3, 1) := by decide +kernel
theorem dd_Mo_collect_76 : decode bb_Mo_collect 76 = .ok (.iaload, 1) := by decide +kernel
theorem dd_Mo_collect_77 : decode bb_Mo_collect 77 = .ok (.bipush 109, 2) := by decide +kernel
theorem dd_Mo_collect_79 : decode bb_Mo_collect 79 = .ok (.if_icmp .ne 7, 3) := by decide +kernel
theorem dd_Mo_collect_82 : decode bb_Mo_collect 82 = .ok (.iconst 1, 1) := by decide +kernel
theorem dd_Mo_collect_83 : decode bb_Mo_collect 83 = .ok (.goto 21, 3) := by decide +kernel
theorem dd_Mo_collect_86 : decode bb_Mo_collect 86 = .ok (.aload_n 0, 1) := by decide +kernel
theorem dd_Mo_collect_87 : decode bb_Mo_collect 87 = .ok (.aload_n 0, 1) := by decide +kernel
theorem dd_Mo_collect_88 : decode bb_Mo_collect 88 = .ok (.getfield 122, 3) := by decide +kernel
theorem dd_Mo_collect_91 : decode bb_Mo_collect 91 = .ok (.iload_n 3, 1) := by decide +kernel
theorem dd_Mo_collect_92 : decode bb_Mo_collect 92 = .ok (.iaload, 1) := by decide +kernel
theorem dd_Mo_collect_93 : decode bb_Mo_collect 93 = .ok (.sipush 512, 3) := by decide +kernel
theorem dd_Mo_collect_96 : decode bb_Mo_collect 96 = .ok (.aload_n 0, 1) := by decide +kernel
theorem dd_Mo_collect_97 : decode bb_Mo_collect 97 = .ok (.getfield 331, 3) := by decide +kernel
theorem dd_Mo_collect_100 : decode bb_Mo_collect 100 = .ok (.imul, 1) := by decide +kernel
theorem dd_Mo_collect_101 : decode bb_Mo_collect 101 = .ok (.invokevirtual 485, 3) := by decide +kernel
theorem dd_Mo_collect_104 : decode bb_Mo_collect 104 = .ok (.iastore, 1) := by decide +kernel
theorem dd_Mo_collect_105 : decode bb_Mo_collect 105 = .ok (.iinc 2 1, 3) := by decide +kernel
theorem dd_Mo_collect_108 : decode bb_Mo_collect 108 = .ok (.goto (-73), 3) := by decide +kernel
theorem dd_Mo_collect_111 : decode bb_Mo_collect 111 = .ok (.aload_n 0, 1) := by decide +kernel
theorem dd_Mo_collect_112 : decode bb_Mo_collect 112 = .ok (.dup, 1) := by decide +kernel
theorem dd_Mo_collect_113 : decode bb_Mo_collect 113 = .ok (.getfield 515, 3) := by decide +kernel
theorem dd_Mo_collect_116 : decode bb_Mo_collect 116 = .ok (.iconst 1, 1) := by decide +kernel
theorem dd_Mo_collect_117 : decode bb_Mo_collect 117 = .ok (.iadd, 1) := by decide +kernel
theorem dd_Mo_collect_118 : decode bb_Mo_collect 118 = .ok (.putfield 515, 3) := by decide +kernel
theorem dd_Mo_collect_121 : decode bb_Mo_collect 121 = .ok (.aload_n 0, 1) := by decide +kernel
theorem dd_Mo_collect_122 : decode bb_Mo_collect 122 = .ok (.iconst 0, 1) := by decide +kernel
theorem dd_Mo_collect_123 : decode bb_Mo_collect 123 = .ok (.invokevirtual 466, 3) := by decide +kernel
theorem dd_Mo_collect_126 : decode bb_Mo_collect 126 = .ok (.istore_n 1, 1) := by decide +kernel
theorem dd_Mo_collect_127 : decode bb_Mo_collect 127 = .ok (.goto (-105), 3) := by decide +kernel
theorem dd_Mo_collect_130 : decode bb_Mo_collect 130 = .ok (.return_, 1) := by decide +kernel
set_option maxRecDepth 100000 in
set_option maxHeartbeats 4000000 in
theorem t_Mo_collect_121  (X : zX p s m args cd D cid B bb_Mo_collect 4 rr_Mo zT) (H : zH s meth B n0 none "collect") {nf : Nat} {x0 : Nat} {c : Zc} {r : (Nat × Int32 × Zc) ⊕ (Zc)} (h : f_Mo_collect_121 nf x0 c = some r) (k0 : ∀ a, r = .inl a → (fun a : Nat × Int32 × Zc => Zz p l e (zRm 5 114 0 0) s m args below meth cd Q D cid B 4 0 0 a.2.2 22 [(0, .ref a.1), (1, .int a.2.1)] []) a) (k1 : ∀ b, r = .inr b → (fun b : Zc => Zz p l e (zRm 5 114 0 0) s m args below meth cd Q D cid B 4 0 0 b 130 [] []) b) : Zz p l e (zRm 5 114 0 0) s m args below meth cd Q D cid B 4 0 0 c 121 [(0, .ref x0)] [] := by
  unfold f_Mo_collect_121 at h
  refine z_aload_n X dd_Mo_collect_121 rfl 0 rfl ?_
  refine z_iconst (v := 0) X dd_Mo_collect_122 (by decide) ?_
  obtain ⟨w11, ew11, h⟩ := zb h
  obtain ⟨q10, eq10, h⟩ := zb h
  refine z_callVi X [.int 0] rfl dd_Mo_collect_123 (c_Mo_goesOn l eq10) (cwV 1 X.1.2.2.2.2 (zg_V km_2121 km_2123 km_117 km_138 km_2124) rfl rfl rfl (by decide +kernel) ⟨Nat.le_of_ble_eq_true rfl, Nat.le_of_ble_eq_true rfl⟩) (zob_s ew11) kc_12 rfl (Nat.le_of_ble_eq_true rfl) ⟨Nat.le_of_ble_eq_true rfl, Nat.le_of_ble_eq_true rfl⟩ ?_
  refine z_istore_n (lv' := [(1, .int q10.1), (0, .ref x0)]) X dd_Mo_collect_126 rfl (by decide) rfl ?_
  refine z_goto (tgt := 22) X dd_Mo_collect_127 (by decide) ?_
  refine z_sub [1, 0] rfl ?_
  obtain rfl := Option.some.inj h
  exact k0 _ rfl
set_option maxRecDepth 100000 in
set_option maxHeartbeats 4000000 in
theorem t_Mo_collect_104  (X : zX p s m args cd D cid B bb_Mo_collect 4 rr_Mo zT) (H : zH s meth B n0 none "collect") {nf : Nat} {x0 : Nat} {x2 : Int32} {s0 : Nat} {s1 : Int32} {s2 : Int32} {c : Zc} {r : (Nat × Int32 × Zc) ⊕ (Nat × Zc)} (h : f_Mo_collect_104 nf x0 x2 s0 s1 s2 c = some r) (k0 : ∀ a, r = .inl a → (fun a : Nat × Int32 × Zc => Zz p l e (zRm 5 114 0 0) s m args below meth cd Q D cid B 4 0 0 a.2.2 35 [(0, .ref a.1), (2, .int a.2.1)] []) a) (k1 : ∀ b, r = .inr b → (fun b : Nat × Zc => Zz p l e (zRm 5 114 0 0) s m args below meth cd Q D cid B 4 0 0 b.2 111 [(0, .ref b.1)] []) b) : Zz p l e (zRm 5 114 0 0) s m args below meth cd Q D cid B 4 0 0 c 104 [(0, .ref x0), (2, .int x2)] [.int s2, .int s1, .ref s0] := by
  unfold f_Mo_collect_104 at h
  obtain ⟨c27, ec27, h⟩ := zb h
  refine z_iastore X dd_Mo_collect_104 rfl ec27 ?_
  refine z_iinc (v := (x2 + 1)) (lv' := [(2, .int (x2 + 1)), (0, .ref x0)]) X dd_Mo_collect_105 1 rfl rfl (by decide) rfl ?_
  refine z_goto (tgt := 35) X dd_Mo_collect_108 (by decide) ?_
  refine z_sub [1, 0] rfl ?_
  obtain rfl := Option.some.inj h
  exact k0 _ rfl
set_option maxRecDepth 100000 in
set_option maxHeartbeats 4000000 in
theorem u_Mo_collect_35  (X : zX p s m args cd D cid B bb_Mo_collect 4 rr_Mo zT) (H : zH s meth B n0 none "collect") {nf : Nat} {x0 : Nat} {x2 : Int32} {c : Zc} {r : (Nat × Int32 × Zc) ⊕ (Nat × Zc)} (h : g_Mo_collect_35 nf x0 x2 c = some r) (k0 : ∀ a, r = .inl a → (fun a : Nat × Int32 × Zc => Zz p l e (zRm 5 114 0 0) s m args below meth cd Q D cid B 4 0 0 a.2.2 35 [(0, .ref a.1), (2, .int a.2.1)] []) a) (k1 : ∀ b, r = .inr b → (fun b : Nat × Zc => Zz p l e (zRm 5 114 0 0) s m args below meth cd Q D cid B 4 0 0 b.2 111 [(0, .ref b.1)] []) b) : Zz p l e (zRm 5 114 0 0) s m args below meth cd Q D cid B 4 0 0 c 35 [(0, .ref x0), (2, .int x2)] [] := by
  unfold g_Mo_collect_35 at h
  refine z_iload_n X dd_Mo_collect_35 rfl 1 rfl ?_
  refine z_aload_n X dd_Mo_collect_36 rfl 0 rfl ?_
  obtain ⟨v12, ev12, h⟩ := zb h
  refine z_get (j := 43) X dd_Mo_collect_37 kc_12 ki_12 (by decide) km_1564 (zgr_v ev12) ?_
  refine z_aload_n X dd_Mo_collect_40 rfl 0 rfl ?_
  obtain ⟨v13, ev13, h⟩ := zb h
  refine z_get (j := 25) X dd_Mo_collect_41 kc_12 ki_12 (by decide) km_1546 (zgi_v ev13) ?_
  obtain ⟨v14, ev14, h⟩ := zb h
  refine z_iaload X dd_Mo_collect_44 rfl ev14 ?_
  refine z_icmp_ge (tgt := 111) X dd_Mo_collect_45 (by decide) (fun q15 => ?_) (fun q15 => ?_)
  · rw [if_pos q15] at h
    refine z_sub [0] rfl ?_
    obtain rfl := Option.some.inj h
    exact k1 _ rfl
  · rw [if_neg q15] at h
    refine z_bipush (v := 8) X dd_Mo_collect_48 (by decide) ?_
    refine z_aload_n X dd_Mo_collect_50 rfl 0 rfl ?_
    obtain ⟨v16, ev16, h⟩ := zb h
    refine z_get (j := 25) X dd_Mo_collect_51 kc_12 ki_12 (by decide) km_1546 (zgi_v ev16) ?_
    refine z_imul X dd_Mo_collect_54 ?_
    refine z_iload_n X dd_Mo_collect_55 rfl 1 rfl ?_
    refine z_iadd X dd_Mo_collect_56 ?_
    refine z_istore_n (lv' := [(3, .int ((8 * v16) + x2)), (0, .ref x0), (2, .int x2)]) X dd_Mo_collect_57 rfl (by decide) rfl ?_
    refine z_aload_n X dd_Mo_collect_58 rfl 1 rfl ?_
    obtain ⟨v17, ev17, h⟩ := zb h
    refine z_get (j := 78) X dd_Mo_collect_59 kc_12 ki_12 (by decide) km_1599 (zgr_v ev17) ?_
    refine z_bipush (v := 8) X dd_Mo_collect_62 (by decide) ?_
    refine z_aload_n X dd_Mo_collect_64 rfl 1 rfl ?_
    obtain ⟨v18, ev18, h⟩ := zb h
    refine z_get (j := 81) X dd_Mo_collect_65 kc_12 ki_12 (by decide) km_1602 (zgi_v ev18) ?_
    refine z_imul X dd_Mo_collect_68 ?_
    refine z_iload_n X dd_Mo_collect_69 rfl 2 rfl ?_
    refine z_iadd X dd_Mo_collect_70 ?_
    refine z_aload_n X dd_Mo_collect_71 rfl 1 rfl ?_
    obtain ⟨v19, ev19, h⟩ := zb h
    refine z_get (j := 44) X dd_Mo_collect_72 kc_12 ki_12 (by decide) km_1565 (zgr_v ev19) ?_
    refine z_iload_n X dd_Mo_collect_75 rfl 0 rfl ?_
    obtain ⟨v20, ev20, h⟩ := zb h
    refine z_iaload X dd_Mo_collect_76 rfl ev20 ?_
    refine z_bipush (v := 109) X dd_Mo_collect_77 (by decide) ?_
    refine z_icmp_ne (tgt := 86) X dd_Mo_collect_79 (by decide) (fun q21 => ?_) (fun q21 => ?_)
    · rw [if_neg q21] at h
      refine z_aload_n X dd_Mo_collect_86 rfl 1 rfl ?_
      refine z_aload_n X dd_Mo_collect_87 rfl 1 rfl ?_
      obtain ⟨v22, ev22, h⟩ := zb h
      refine z_get (j := 45) X dd_Mo_collect_88 kc_12 ki_12 (by decide) km_1566 (zgr_v ev22) ?_
      refine z_iload_n X dd_Mo_collect_91 rfl 0 rfl ?_
      obtain ⟨v23, ev23, h⟩ := zb h
      refine z_iaload X dd_Mo_collect_92 rfl ev23 ?_
      refine z_sipush (v := 512) X dd_Mo_collect_93 (by decide) ?_
      refine z_aload_n X dd_Mo_collect_96 rfl 1 rfl ?_
      obtain ⟨v24, ev24, h⟩ := zb h
      refine z_get (j := 25) X dd_Mo_collect_97 kc_12 ki_12 (by decide) km_1546 (zgi_v ev24) ?_
      refine z_imul X dd_Mo_collect_100 ?_
      obtain ⟨w26, ew26, h⟩ := zb h
      obtain ⟨q25, eq25, h⟩ := zb h
      refine z_callVi X [.int v23, .int (512 * v24)] rfl dd_Mo_collect_101 (c_Mo_work l eq25) (cwV 2 X.1.2.2.2.2 (zg_V km_2113 km_2115 km_115 km_138 km_2116) rfl rfl rfl (by decide +kernel) ⟨Nat.le_of_ble_eq_true rfl, Nat.le_of_ble_eq_true rfl⟩) (zob_s ew26) kc_12 rfl (Nat.le_of_ble_eq_true rfl) ⟨Nat.le_of_ble_eq_true rfl, Nat.le_of_ble_eq_true rfl⟩ ?_
      refine z_sub [1, 2] rfl ?_
      exact t_Mo_collect_104 X H h k0 k1
    · rw [if_pos q21] at h
      refine z_iconst (v := 1) X dd_Mo_collect_82 (by decide) ?_
      refine z_goto (tgt := 104) X dd_Mo_collect_83 (by decide) ?_
      refine z_sub [1, 2] rfl ?_
      exact t_Mo_collect_104 X H h k0 k1
set_option maxRecDepth 100000 in
set_option maxHeartbeats 4000000 in
theorem t_Mo_collect_35  (X : zX p s m args cd D cid B bb_Mo_collect 4 rr_Mo zT) (H : zH s meth B n0 none "collect") {nf : Nat} {x0 : Nat} {x2 : Int32} {c : Zc} {r : (Nat × Int32 × Zc) ⊕ (Zc)} (h : f_Mo_collect_35 nf x0 x2 c = some r) (k0 : ∀ a, r = .inl a → (fun a : Nat × Int32 × Zc => Zz p l e (zRm 5 114 0 0) s m args below meth cd Q D cid B 4 0 0 a.2.2 22 [(0, .ref a.1), (1, .int a.2.1)] []) a) (k1 : ∀ b, r = .inr b → (fun b : Zc => Zz p l e (zRm 5 114 0 0) s m args below meth cd Q D cid B 4 0 0 b 130 [] []) b) : Zz p l e (zRm 5 114 0 0) s m args below meth cd Q D cid B 4 0 0 c 35 [(0, .ref x0), (2, .int x2)] [] := by
  unfold f_Mo_collect_35 at h
  obtain ⟨b, eb, h⟩ := zb h
  refine zlp_ok (P := fun a : Nat × Int32 × Zc => Zz p l e (zRm 5 114 0 0) s m args below meth cd _ D cid B 4 0 0 a.2.2 35 [(0, .ref a.1), (2, .int a.2.1)] []) (G := fun b : Nat × Zc => Zz p l e (zRm 5 114 0 0) s m args below meth cd _ D cid B 4 0 0 b.2 111 [(0, .ref b.1)] []) (fun a r ha k0 k1 => u_Mo_collect_35 X H ha k0 k1) nf _ b eb ?_
  refine z_aload_n X dd_Mo_collect_111 rfl 0 rfl ?_
  refine z_dup X dd_Mo_collect_112 rfl ?_
  obtain ⟨v28, ev28, h⟩ := zb h
  refine z_get (j := 81) X dd_Mo_collect_113 kc_12 ki_12 (by decide) km_1602 (zgi_v ev28) ?_
  refine z_iconst (v := 1) X dd_Mo_collect_116 (by decide) ?_
  refine z_iadd X dd_Mo_collect_117 ?_
  obtain ⟨c29, ec29, h⟩ := zb h
  refine z_put (j := 81) X dd_Mo_collect_118 kc_12 ki_12 tt_Mo tk_Mo nn_Mo (by decide) km_1602 rfl (tk_Mo 81 (by decide)) rfl rfl ec29 ?_
  exact t_Mo_collect_121 X H h k0 k1
set_option maxRecDepth 100000 in
set_option maxHeartbeats 4000000 in
theorem u_Mo_collect_22  (X : zX p s m args cd D cid B bb_Mo_collect 4 rr_Mo zT) (H : zH s meth B n0 none "collect") {nf : Nat} {x0 : Nat} {x1 : Int32} {c : Zc} {r : (Nat × Int32 × Zc) ⊕ (Zc)} (h : g_Mo_collect_22 nf x0 x1 c = some r) (k0 : ∀ a, r = .inl a → (fun a : Nat × Int32 × Zc => Zz p l e (zRm 5 114 0 0) s m args below meth cd Q D cid B 4 0 0 a.2.2 22 [(0, .ref a.1), (1, .int a.2.1)] []) a) (k1 : ∀ b, r = .inr b → (fun b : Zc => Zz p l e (zRm 5 114 0 0) s m args below meth cd Q D cid B 4 0 0 b 130 [] []) b) : Zz p l e (zRm 5 114 0 0) s m args below meth cd Q D cid B 4 0 0 c 22 [(0, .ref x0), (1, .int x1)] [] := by
  unfold g_Mo_collect_22 at h
  refine z_iload_n X dd_Mo_collect_22 rfl 1 rfl ?_
  refine z_if_eq (tgt := 130) X dd_Mo_collect_23 (by decide) (fun q6 => ?_) (fun q6 => ?_)
  · rw [if_pos q6] at h
    refine z_sub [] rfl ?_
    obtain rfl := Option.some.inj h
    exact k1 _ rfl
  · rw [if_neg q6] at h
    refine z_aload_n X dd_Mo_collect_26 rfl 0 rfl ?_
    obtain ⟨w8, ew8, h⟩ := zb h
    obtain ⟨q7, eq7, h⟩ := zb h
    refine z_callVi X [] rfl dd_Mo_collect_27 (c_Mo_holds l eq7) (cwV 0 X.1.2.2.2.2 (zg_V km_2101 km_2103 km_112 km_138 km_2104) rfl rfl rfl (by decide +kernel) ⟨Nat.le_of_ble_eq_true rfl, Nat.le_of_ble_eq_true rfl⟩) (zob_s ew8) kc_12 rfl (Nat.le_of_ble_eq_true rfl) ⟨Nat.le_of_ble_eq_true rfl, Nat.le_of_ble_eq_true rfl⟩ ?_
    refine z_if_eq (tgt := 121) X dd_Mo_collect_30 (by decide) (fun q9 => ?_) (fun q9 => ?_)
    · rw [if_pos q9] at h
      refine z_sub [0] rfl ?_
      exact t_Mo_collect_121 X H h k0 k1
    · rw [if_neg q9] at h
      refine z_iconst (v := 0) X dd_Mo_collect_33 (by decide) ?_
      refine z_istore_n (lv' := [(2, .int 0), (0, .ref x0), (1, .int x1)]) X dd_Mo_collect_34 rfl (by decide) rfl ?_
      refine z_sub [1, 0] rfl ?_
      exact t_Mo_collect_35 X H h k0 k1
set_option maxRecDepth 100000 in
set_option maxHeartbeats 4000000 in
theorem t_Mo_collect_22  (X : zX p s m args cd D cid B bb_Mo_collect 4 rr_Mo zT) (H : zH s meth B n0 none "collect") {nf : Nat} {x0 : Nat} {x1 : Int32} {c : Zc} {res : Zc} (h : f_Mo_collect_22 nf x0 x1 c = some res) : Zz p l e (zRm 5 114 0 0) s m args below meth cd (MQ below (zQv D cid B res n0 0) args s 0 0 (fun q => B ≤ q)) D cid B 4 0 0 c 22 [(0, .ref x0), (1, .int x1)] [] := by
  unfold f_Mo_collect_22 at h
  obtain ⟨b, eb, h⟩ := zb h
  refine zlp_ok (P := fun a : Nat × Int32 × Zc => Zz p l e (zRm 5 114 0 0) s m args below meth cd _ D cid B 4 0 0 a.2.2 22 [(0, .ref a.1), (1, .int a.2.1)] []) (G := fun b : Zc => Zz p l e (zRm 5 114 0 0) s m args below meth cd _ D cid B 4 0 0 b 130 [] []) (fun a r ha k0 k1 => u_Mo_collect_22 X H ha k0 k1) nf _ b eb ?_
  obtain rfl := Option.some.inj h
  exact z_vret X H.1 H.2.1 H.2.2.1 dd_Mo_collect_130
set_option maxRecDepth 100000 in
set_option maxHeartbeats 4000000 in
theorem t_Mo_collect_21  (X : zX p s m args cd D cid B bb_Mo_collect 4 rr_Mo zT) (H : zH s meth B n0 none "collect") {nf : Nat} {x0 : Nat} {s0 : Int32} {c : Zc} {res : Zc} (h : f_Mo_collect_21 nf x0 s0 c = some res) : Zz p l e (zRm 5 114 0 0) s m args below meth cd (MQ below (zQv D cid B res n0 0) args s 0 0 (fun q => B ≤ q)) D cid B 4 0 0 c 21 [(0, .ref x0)] [.int s0] := by
  unfold f_Mo_collect_21 at h
  refine z_istore_n (lv' := [(1, .int s0), (0, .ref x0)]) X dd_Mo_collect_21 rfl (by decide) rfl ?_
  refine z_sub [1, 0] rfl ?_
  exact t_Mo_collect_22 X H h
set_option maxRecDepth 100000 in
set_option maxHeartbeats 4000000 in
theorem c_Mo_collect (l : Launch) {nf : Nat} {a0 : Nat} {c : Zc} {res : Zc} (h : f_Mo_collect nf a0 c = some res) : zM l yy_Mo_collect ww_Mo_collect 5 114 0 0 [.ref a0] c (fun D cid B => zQv D cid B res c.length 0) := by
  refine z_met (cc := bb_Mo_collect) (maxL := 4) (ret := none) (by decide +kernel) rfl (Nat.le_of_ble_eq_true rfl) ?_
  intro p e s m args below meth cd D cid B X h1 h2 h3 h4
  have X : zX p s m args cd D cid B bb_Mo_collect 4 rr_Mo zT := X
  have H : zH s meth B c.length none "collect" := ⟨h1, h2, h4, h3⟩
  unfold f_Mo_collect at h
  show Zz p l e (zRm 5 114 0 0) s m args below meth cd _ D cid B 4 0 0 c 0 [(0, .ref a0)] []
  refine z_aload_n X dd_Mo_collect_0 rfl 0 rfl ?_
  refine z_iconst (v := 0) X dd_Mo_collect_1 (by decide) ?_
  obtain ⟨c1, ec1, h⟩ := zb h
  refine z_put (j := 81) X dd_Mo_collect_2 kc_12 ki_12 tt_Mo tk_Mo nn_Mo (by decide) km_1602 rfl (tk_Mo 81 (by decide)) rfl rfl ec1 ?_
  refine z_aload_n X dd_Mo_collect_5 rfl 0 rfl ?_
  obtain ⟨w3, ew3, h⟩ := zb h
  obtain ⟨q2, eq2, h⟩ := zb h
  refine z_callVv X [] rfl dd_Mo_collect_6 (c_Mo_firstRow l eq2) (cwV 0 X.1.2.2.2.2 (zg_V km_2097 km_2099 km_111 km_138 km_2100) rfl rfl rfl (by decide +kernel) ⟨Nat.le_of_ble_eq_true rfl, Nat.le_of_ble_eq_true rfl⟩) (zob_s ew3) kc_12 rfl (Nat.le_of_ble_eq_true rfl) ⟨Nat.le_of_ble_eq_true rfl, Nat.le_of_ble_eq_true rfl⟩ ?_
  refine z_aload_n X dd_Mo_collect_9 rfl 0 rfl ?_
  obtain ⟨v4, ev4, h⟩ := zb h
  refine z_get (j := 0) X dd_Mo_collect_10 kc_12 ki_12 (by decide) km_1521 (zgi_v ev4) ?_
  refine z_if_le (tgt := 20) X dd_Mo_collect_13 (by decide) (fun q5 => ?_) (fun q5 => ?_)
  · rw [if_pos q5] at h
    refine z_iconst (v := 0) X dd_Mo_collect_20 (by decide) ?_
    exact t_Mo_collect_21 X H h
  · rw [if_neg q5] at h
    refine z_iconst (v := 1) X dd_Mo_collect_16 (by decide) ?_
    refine z_goto (tgt := 21) X dd_Mo_collect_17 (by decide) ?_
    exact t_Mo_collect_21 X H h
theorem dd_Mo_together_0 : decode bb_Mo_together 0 = .ok (.aload_n 0, 1) := by decide +kernel
theorem dd_Mo_together_1 : decode bb_Mo_together 1 = .ok (.getfield 119, 3) := by decide +kernel
theorem dd_Mo_together_4 : decode bb_Mo_together 4 = .ok (.bipush 8, 2) := by decide +kernel
theorem dd_Mo_together_6 : decode bb_Mo_together 6 = .ok (.aload_n 0, 1) := by decide +kernel
theorem dd_Mo_together_7 : decode bb_Mo_together 7 = .ok (.getfield 331, 3) := by decide +kernel
theorem dd_Mo_together_10 : decode bb_Mo_together 10 = .ok (.imul, 1) := by decide +kernel
theorem dd_Mo_together_11 : decode bb_Mo_together 11 = .ok (.iload_n 3, 1) := by decide +kernel
theorem dd_Mo_together_12 : decode bb_Mo_together 12 = .ok (.iadd, 1) := by decide +kernel
theorem dd_Mo_together_13 : decode bb_Mo_together 13 = .ok (.iaload, 1) := by decide +kernel
theorem dd_Mo_together_14 : decode bb_Mo_together 14 = .ok (.istore 4, 2) := by decide +kernel
theorem dd_Mo_together_16 : decode bb_Mo_together 16 = .ok (.aload_n 0, 1) := by decide +kernel
theorem dd_Mo_together_17 : decode bb_Mo_together 17 = .ok (.getfield 204, 3) := by decide +kernel
theorem dd_Mo_together_20 : decode bb_Mo_together 20 = .ok (.bipush 8, 2) := by decide +kernel
theorem dd_Mo_together_22 : decode bb_Mo_together 22 = .ok (.aload_n 0, 1) := by decide +kernel
theorem dd_Mo_together_23 : decode bb_Mo_together 23 = .ok (.getfield 207, 3) := by decide +kernel
theorem dd_Mo_together_26 : decode bb_Mo_together 26 = .ok (.iload_n 1, 1) := by decide +kernel
theorem dd_Mo_together_27 : decode bb_Mo_together 27 = .ok (.iaload, 1) := by decide +kernel
theorem dd_Mo_together_28 : decode bb_Mo_together 28 = .ok (.imul, 1) := by decide +kernel
theorem dd_Mo_together_29 : decode bb_Mo_together 29 = .ok (.iload_n 3, 1) := by decide +kernel
theorem dd_Mo_together_30 : decode bb_Mo_together 30 = .ok (.iadd, 1) := by decide +kernel
theorem dd_Mo_together_31 : decode bb_Mo_together 31 = .ok (.iaload, 1) := by decide +kernel
theorem dd_Mo_together_32 : decode bb_Mo_together 32 = .ok (.istore 5, 2) := by decide +kernel
theorem dd_Mo_together_34 : decode bb_Mo_together 34 = .ok (.iload 4, 2) := by decide +kernel
theorem dd_Mo_together_36 : decode bb_Mo_together 36 = .ok (.ifCond .ne 6, 3) := by decide +kernel
theorem dd_Mo_together_39 : decode bb_Mo_together 39 = .ok (.iload 5, 2) := by decide +kernel
theorem dd_Mo_together_41 : decode bb_Mo_together 41 = .ok (.ireturn, 1) := by decide +kernel
theorem dd_Mo_together_42 : decode bb_Mo_together 42 = .ok (.iload 4, 2) := by decide +kernel
theorem dd_Mo_together_44 : decode bb_Mo_together 44 = .ok (.bipush 109, 2) := by decide +kernel
theorem dd_Mo_together_46 : decode bb_Mo_together 46 = .ok (.if_icmp .ne 7, 3) := by decide +kernel
theorem dd_Mo_together_49 : decode bb_Mo_together 49 = .ok (.iload_n 2, 1) := by decide +kernel
theorem dd_Mo_together_50 : decode bb_Mo_together 50 = .ok (.iload_n 1, 1) := by decide +kernel
theorem dd_Mo_together_51 : decode bb_Mo_together 51 = .ok (.isub, 1) := by decide +kernel
theorem dd_Mo_together_52 : decode bb_Mo_together 52 = .ok (.ireturn, 1) := by decide +kernel
theorem dd_Mo_together_53 : decode bb_Mo_together 53 = .ok (.lconst 0, 1) := by decide +kernel
theorem dd_Mo_together_54 : decode bb_Mo_together 54 = .ok (.lstore 6, 2) := by decide +kernel
theorem dd_Mo_together_56 : decode bb_Mo_together 56 = .ok (.iload 5, 2) := by decide +kernel
theorem dd_Mo_together_58 : decode bb_Mo_together 58 = .ok (.istore 8, 2) := by decide +kernel
theorem dd_Mo_together_60 : decode bb_Mo_together 60 = .ok (.iload 5, 2) := by decide +kernel
theorem dd_Mo_together_62 : decode bb_Mo_together 62 = .ok (.istore 9, 2) := by decide +kernel
theorem dd_Mo_together_64 : decode bb_Mo_together 64 = .ok (.iload_n 1, 1) := by decide +kernel
theorem dd_Mo_together_65 : decode bb_Mo_together 65 = .ok (.istore 10, 2) := by decide +kernel
theorem dd_Mo_together_67 : decode bb_Mo_together 67 = .ok (.iload 10, 2) := by decide +kernel
theorem dd_Mo_together_69 : decode bb_Mo_together 69 = .ok (.iload_n 2, 1) := by decide +kernel
theorem dd_Mo_together_70 : decode bb_Mo_together 70 = .ok (.if_icmp .ge 68, 3) := by decide +kernel
theorem dd_Mo_together_73 : decode bb_Mo_together 73 = .ok (.aload_n 0, 1) := by decide +kernel
theorem dd_Mo_together_74 : decode bb_Mo_together 74 = .ok (.getfield 204, 3) := by decide +kernel
theorem dd_Mo_together_77 : decode bb_Mo_together 77 = .ok (.bipush 8, 2) := by decide +kernel
theorem dd_Mo_together_79 : decode bb_Mo_together 79 = .ok (.aload_n 0, 1) := by decide +kernel
theorem dd_Mo_together_80 : decode bb_Mo_together 80 = .ok (.getfield 207, 3) := by decide +kernel
theorem dd_Mo_together_83 : decode bb_Mo_together 83 = .ok (.iload 10, 2) := by decide +kernel
theorem dd_Mo_together_85 : decode bb_Mo_together 85 = .ok (.iaload, 1) := by decide +kernel
theorem dd_Mo_together_86 : decode bb_Mo_together 86 = .ok (.imul, 1) := by decide +kernel
theorem dd_Mo_together_87 : decode bb_Mo_together 87 = .ok (.iload_n 3, 1) := by decide +kernel
theorem dd_Mo_together_88 : decode bb_Mo_together 88 = .ok (.iadd, 1) := by decide +kernel
theorem dd_Mo_together_89 : decode bb_Mo_together 89 = .ok (.iaload, 1) := by decide +kernel
theorem dd_Mo_together_90 : decode bb_Mo_together 90 = .ok (.istore 11, 2) := by decide +kernel
theorem dd_Mo_together_92 : decode bb_Mo_together 92 = .ok (.lload 6, 2) := by decide +kernel
theorem dd_Mo_together_94 : decode bb_Mo_together 94 = .ok (.iload 11, 2) := by decide +kernel
theorem dd_Mo_together_96 : decode bb_Mo_together 96 = .ok (.i2l, 1) := by decide +kernel
theorem dd_Mo_together_97 : decode bb_Mo_together 97 = .ok (.ladd, 1) := by decide +kernel
theorem dd_Mo_together_98 : decode bb_Mo_together 98 = .ok (.lstore 6, 2) := by decide +kernel
theorem dd_Mo_together_100 : decode bb_Mo_together 100 = .ok (.iload 11, 2) := by decide +kernel
theorem dd_Mo_together_102 : decode bb_Mo_together 102 = .ok (.iload 8, 2) := by decide +kernel
theorem dd_Mo_together_104 : decode bb_Mo_together 104 = .ok (.if_icmp .ge 8, 3) := by decide +kernel
theorem dd_Mo_together_107 : decode bb_Mo_together 107 = .ok (.iload 11, 2) := by decide +kernel
theorem dd_Mo_together_109 : decode bb_Mo_together 109 = .ok (.goto 5, 3) := by decide +kernel
theorem dd_Mo_together_112 : decode bb_Mo_together 112 = .ok (.iload 8, 2) := by decide +kernel
theorem dd_Mo_together_114 : decode bb_Mo_together 114 = .ok (.istore 8, 2) := by decide +kernel
theorem dd_Mo_together_116 : decode bb_Mo_together 116 = .ok (.iload 11, 2) := by decide +kernel
theorem dd_Mo_together_118 : decode bb_Mo_together 118 = .ok (.iload 9, 2) := by decide +kernel
theorem dd_Mo_together_120 : decode bb_Mo_together 120 = .ok (.if_icmp .le 8, 3) := by decide +kernel
theorem dd_Mo_together_123 : decode bb_Mo_together 123 = .ok (.iload 11, 2) := by decide +kernel
theorem dd_Mo_together_125 : decode bb_Mo_together 125 = .ok (.goto 5, 3) := by decide +kernel
theorem dd_Mo_together_128 : decode bb_Mo_together 128 = .ok (.iload 9, 2) := by decide +kernel
theorem dd_Mo_together_130 : decode bb_Mo_together 130 = .ok (.istore 9, 2) := by decide +kernel
theorem dd_Mo_together_132 : decode bb_Mo_together 132 = .ok (.iinc 10 1, 3) := by decide +kernel
theorem dd_Mo_together_135 : decode bb_Mo_together 135 = .ok (.goto (-68), 3) := by decide +kernel
theorem dd_Mo_together_138 : decode bb_Mo_together 138 = .ok (.iload 4, 2) := by decide +kernel
theorem dd_Mo_together_140 : decode bb_Mo_together 140 = .ok (.bipush 110, 2) := by decide +kernel
theorem dd_Mo_together_142 : decode bb_Mo_together 142 = .ok (.if_icmp .ne 11, 3) := by decide +kernel
theorem dd_Mo_together_145 : decode bb_Mo_together 145 = .ok (.lload 6, 2) := by decide +kernel
theorem dd_Mo_together_147 : decode bb_Mo_together 147 = .ok (.invokestatic 482, 3) := by decide +kernel
theorem dd_Mo_together_150 : decode bb_Mo_together 150 = .ok (.goto 17, 3) := by decide +kernel
theorem dd_Mo_together_153 : decode bb_Mo_together 153 = .ok (.iload 4, 2) := by decide +kernel
theorem dd_Mo_together_155 : decode bb_Mo_together 155 = .ok (.bipush 111, 2) := by decide +kernel
theorem dd_Mo_together_157 : decode bb_Mo_together 157 = .ok (.if_icmp .ne 8, 3) := by decide +kernel
theorem dd_Mo_together_160 : decode bb_Mo_together 160 = .ok (.iload 8, 2) := by decide +kernel
theorem dd_Mo_together_162 : decode bb_Mo_together 162 = .ok (.goto 5, 3) := by decide +kernel
theorem dd_Mo_together_165 : decode bb_Mo_together 165 = .ok (.iload 9, 2) := by decide +kernel
theorem dd_Mo_together_167 : decode bb_Mo_together 167 = .ok (.ireturn, 1) := by decide +kernel
set_option maxRecDepth 100000 in
set_option maxHeartbeats 4000000 in
theorem t_Mo_together_130  (X : zX p s m args cd D cid B bb_Mo_together 12 rr_Mo zT) (H : zH s meth B n0 (some (.int)) "together") {nf : Nat} {x0 : Nat} {x2 : Int32} {x3 : Int32} {x4 : Int32} {x6 : Int64} {x8 : Int32} {x10 : Int32} {s0 : Int32} {c : Zc} {r : (Nat × Int32 × Int32 × Int32 × Int64 × Int32 × Int32 × Int32 × Zc) ⊕ (Int32 × Int64 × Int32 × Int32 × Zc)} (h : f_Mo_together_130 nf x0 x2 x3 x4 x6 x8 x10 s0 c = some r) (k0 : ∀ a, r = .inl a → (fun a : Nat × Int32 × Int32 × Int32 × Int64 × Int32 × Int32 × Int32 × Zc => Zz p l e (zRm 1 21 0 0) s m args below meth cd Q D cid B 12 0 0 a.2.2.2.2.2.2.2.2 67 [(0, .ref a.1), (2, .int a.2.1), (3, .int a.2.2.1), (4, .int a.2.2.2.1), (6, .long a.2.2.2.2.1), (8, .int a.2.2.2.2.2.1), (9, .int a.2.2.2.2.2.2.1), (10, .int a.2.2.2.2.2.2.2.1)] []) a) (k1 : ∀ b, r = .inr b → (fun b : Int32 × Int64 × Int32 × Int32 × Zc => Zz p l e (zRm 1 21 0 0) s m args below meth cd Q D cid B 12 0 0 b.2.2.2.2 138 [(4, .int b.1), (6, .long b.2.1), (8, .int b.2.2.1), (9, .int b.2.2.2.1)] []) b) : Zz p l e (zRm 1 21 0 0) s m args below meth cd Q D cid B 12 0 0 c 130 [(0, .ref x0), (2, .int x2), (3, .int x3), (4, .int x4), (6, .long x6), (8, .int x8), (10, .int x10)] [.int s0] := by
  unfold f_Mo_together_130 at h
  refine z_istore (lv' := [(9, .int s0), (0, .ref x0), (2, .int x2), (3, .int x3), (4, .int x4), (6, .long x6), (8, .int x8), (10, .int x10)]) X dd_Mo_together_130 (by decide) rfl ?_
  refine z_iinc (v := (x10 + 1)) (lv' := [(10, .int (x10 + 1)), (9, .int s0), (0, .ref x0), (2, .int x2), (3, .int x3), (4, .int x4), (6, .long x6), (8, .int x8)]) X dd_Mo_together_132 7 rfl rfl (by decide) rfl ?_
  refine z_goto (tgt := 67) X dd_Mo_together_135 (by decide) ?_
  refine z_sub [2, 3, 4, 5, 6, 7, 1, 0] rfl ?_
  obtain rfl := Option.some.inj h
  exact k0 _ rfl
set_option maxRecDepth 100000 in
set_option maxHeartbeats 4000000 in
theorem t_Mo_together_114  (X : zX p s m args cd D cid B bb_Mo_together 12 rr_Mo zT) (H : zH s meth B n0 (some (.int)) "together") {nf : Nat} {x0 : Nat} {x2 : Int32} {x3 : Int32} {x4 : Int32} {x6 : Int64} {x9 : Int32} {x10 : Int32} {x11 : Int32} {s0 : Int32} {c : Zc} {r : (Nat × Int32 × Int32 × Int32 × Int64 × Int32 × Int32 × Int32 × Zc) ⊕ (Int32 × Int64 × Int32 × Int32 × Zc)} (h : f_Mo_together_114 nf x0 x2 x3 x4 x6 x9 x10 x11 s0 c = some r) (k0 : ∀ a, r = .inl a → (fun a : Nat × Int32 × Int32 × Int32 × Int64 × Int32 × Int32 × Int32 × Zc => Zz p l e (zRm 1 21 0 0) s m args below meth cd Q D cid B 12 0 0 a.2.2.2.2.2.2.2.2 67 [(0, .ref a.1), (2, .int a.2.1), (3, .int a.2.2.1), (4, .int a.2.2.2.1), (6, .long a.2.2.2.2.1), (8, .int a.2.2.2.2.2.1), (9, .int a.2.2.2.2.2.2.1), (10, .int a.2.2.2.2.2.2.2.1)] []) a) (k1 : ∀ b, r = .inr b → (fun b : Int32 × Int64 × Int32 × Int32 × Zc => Zz p l e (zRm 1 21 0 0) s m args below meth cd Q D cid B 12 0 0 b.2.2.2.2 138 [(4, .int b.1), (6, .long b.2.1), (8, .int b.2.2.1), (9, .int b.2.2.2.1)] []) b) : Zz p l e (zRm 1 21 0 0) s m args below meth cd Q D cid B 12 0 0 c 114 [(0, .ref x0), (2, .int x2), (3, .int x3), (4, .int x4), (6, .long x6), (9, .int x9), (10, .int x10), (11, .int x11)] [.int s0] := by
  unfold f_Mo_together_114 at h
  refine z_istore (lv' := [(8, .int s0), (0, .ref x0), (2, .int x2), (3, .int x3), (4, .int x4), (6, .long x6), (9, .int x9), (10, .int x10), (11, .int x11)]) X dd_Mo_together_114 (by decide) rfl ?_
  refine z_iload X dd_Mo_together_116 8 rfl ?_
  refine z_iload X dd_Mo_together_118 6 rfl ?_
  refine z_icmp_le (tgt := 128) X dd_Mo_together_120 (by decide) (fun q16 => ?_) (fun q16 => ?_)
  · rw [if_pos q16] at h
    refine z_iload X dd_Mo_together_128 6 rfl ?_
    refine z_sub [1, 2, 3, 4, 5, 0, 7] rfl ?_
    exact t_Mo_together_130 X H h k0 k1
  · rw [if_neg q16] at h
    refine z_iload X dd_Mo_together_123 8 rfl ?_
    refine z_goto (tgt := 130) X dd_Mo_together_125 (by decide) ?_
    refine z_sub [1, 2, 3, 4, 5, 0, 7] rfl ?_
    exact t_Mo_together_130 X H h k0 k1
set_option maxRecDepth 100000 in
set_option maxHeartbeats 4000000 in
theorem u_Mo_together_67  (X : zX p s m args cd D cid B bb_Mo_together 12 rr_Mo zT) (H : zH s meth B n0 (some (.int)) "together") {nf : Nat} {x0 : Nat} {x2 : Int32} {x3 : Int32} {x4 : Int32} {x6 : Int64} {x8 : Int32} {x9 : Int32} {x10 : Int32} {c : Zc} {r : (Nat × Int32 × Int32 × Int32 × Int64 × Int32 × Int32 × Int32 × Zc) ⊕ (Int32 × Int64 × Int32 × Int32 × Zc)} (h : g_Mo_together_67 nf x0 x2 x3 x4 x6 x8 x9 x10 c = some r) (k0 : ∀ a, r = .inl a → (fun a : Nat × Int32 × Int32 × Int32 × Int64 × Int32 × Int32 × Int32 × Zc => Zz p l e (zRm 1 21 0 0) s m args below meth cd Q D cid B 12 0 0 a.2.2.2.2.2.2.2.2 67 [(0, .ref a.1), (2, .int a.2.1), (3, .int a.2.2.1), (4, .int a.2.2.2.1), (6, .long a.2.2.2.2.1), (8, .int a.2.2.2.2.2.1), (9, .int a.2.2.2.2.2.2.1), (10, .int a.2.2.2.2.2.2.2.1)] []) a) (k1 : ∀ b, r = .inr b → (fun b : Int32 × Int64 × Int32 × Int32 × Zc => Zz p l e (zRm 1 21 0 0) s m args below meth cd Q D cid B 12 0 0 b.2.2.2.2 138 [(4, .int b.1), (6, .long b.2.1), (8, .int b.2.2.1), (9, .int b.2.2.2.1)] []) b) : Zz p l e (zRm 1 21 0 0) s m args below meth cd Q D cid B 12 0 0 c 67 [(0, .ref x0), (2, .int x2), (3, .int x3), (4, .int x4), (6, .long x6), (8, .int x8), (9, .int x9), (10, .int x10)] [] := by
  unfold g_Mo_together_67 at h
  refine z_iload X dd_Mo_together_67 7 rfl ?_
  refine z_iload_n X dd_Mo_together_69 rfl 1 rfl ?_
  refine z_icmp_ge (tgt := 138) X dd_Mo_together_70 (by decide) (fun q10 => ?_) (fun q10 => ?_)
  · rw [if_pos q10] at h
    refine z_sub [3, 4, 5, 6] rfl ?_
    obtain rfl := Option.some.inj h
    exact k1 _ rfl
  · rw [if_neg q10] at h
    refine z_aload_n X dd_Mo_together_73 rfl 0 rfl ?_
    obtain ⟨v11, ev11, h⟩ := zb h
    refine z_get (j := 78) X dd_Mo_together_74 kc_12 ki_12 (by decide) km_1599 (zgr_v ev11) ?_
    refine z_bipush (v := 8) X dd_Mo_together_77 (by decide) ?_
    refine z_aload_n X dd_Mo_together_79 rfl 0 rfl ?_
    obtain ⟨v12, ev12, h⟩ := zb h
    refine z_get (j := 79) X dd_Mo_together_80 kc_12 ki_12 (by decide) km_1600 (zgr_v ev12) ?_
    refine z_iload X dd_Mo_together_83 7 rfl ?_
    obtain ⟨v13, ev13, h⟩ := zb h
    refine z_iaload X dd_Mo_together_85 rfl ev13 ?_
    refine z_imul X dd_Mo_together_86 ?_
    refine z_iload_n X dd_Mo_together_87 rfl 2 rfl ?_
    refine z_iadd X dd_Mo_together_88 ?_
    obtain ⟨v14, ev14, h⟩ := zb h
    refine z_iaload X dd_Mo_together_89 rfl ev14 ?_
    refine z_istore (lv' := [(11, .int v14), (0, .ref x0), (2, .int x2), (3, .int x3), (4, .int x4), (6, .long x6), (8, .int x8), (9, .int x9), (10, .int x10)]) X dd_Mo_together_90 (by decide) rfl ?_
    refine z_lload X dd_Mo_together_92 5 rfl ?_
    refine z_iload X dd_Mo_together_94 0 rfl ?_
    refine z_i2l X dd_Mo_together_96 ?_
    refine z_ladd X dd_Mo_together_97 ?_
    refine z_lstore (lv' := [(6, .long (x6 + (Int32.toInt64 v14))), (11, .int v14), (0, .ref x0), (2, .int x2), (3, .int x3), (4, .int x4), (8, .int x8), (9, .int x9), (10, .int x10)]) X dd_Mo_together_98 (by decide) rfl ?_
    refine z_iload X dd_Mo_together_100 1 rfl ?_
    refine z_iload X dd_Mo_together_102 6 rfl ?_
    refine z_icmp_ge (tgt := 112) X dd_Mo_together_104 (by decide) (fun q15 => ?_) (fun q15 => ?_)
    · rw [if_pos q15] at h
      refine z_iload X dd_Mo_together_112 6 rfl ?_
      refine z_sub [2, 3, 4, 5, 0, 7, 8, 1] rfl ?_
      exact t_Mo_together_114 X H h k0 k1
    · rw [if_neg q15] at h
      refine z_iload X dd_Mo_together_107 1 rfl ?_
      refine z_goto (tgt := 114) X dd_Mo_together_109 (by decide) ?_
      refine z_sub [2, 3, 4, 5, 0, 7, 8, 1] rfl ?_
      exact t_Mo_together_114 X H h k0 k1
set_option maxRecDepth 100000 in
set_option maxHeartbeats 4000000 in
theorem t_Mo_together_167  (X : zX p s m args cd D cid B bb_Mo_together 12 rr_Mo zT) (H : zH s meth B n0 (some (.int)) "together") {nf : Nat} {s0 : Int32} {c : Zc} {res : Int32 × Zc} (h : f_Mo_together_167 nf s0 c = some res) : Zz p l e (zRm 1 21 0 0) s m args below meth cd (MQ below (zQi D cid B res.1 res.2 n0 0) args s 0 0 (fun q => B ≤ q)) D cid B 12 0 0 c 167 [] [.int s0] := by
  unfold f_Mo_together_167 at h
  obtain rfl := Option.some.inj h
  exact z_iret X H.1 H.2.1 H.2.2.1 dd_Mo_together_167
set_option maxRecDepth 100000 in
set_option maxHeartbeats 4000000 in
theorem t_Mo_together_67  (X : zX p s m args cd D cid B bb_Mo_together 12 rr_Mo zT) (H : zH s meth B n0 (some (.int)) "together") {nf : Nat} {x0 : Nat} {x2 : Int32} {x3 : Int32} {x4 : Int32} {x6 : Int64} {x8 : Int32} {x9 : Int32} {x10 : Int32} {c : Zc} {res : Int32 × Zc} (h : f_Mo_together_67 nf x0 x2 x3 x4 x6 x8 x9 x10 c = some res) : Zz p l e (zRm 1 21 0 0) s m args below meth cd (MQ below (zQi D cid B res.1 res.2 n0 0) args s 0 0 (fun q => B ≤ q)) D cid B 12 0 0 c 67 [(0, .ref x0), (2, .int x2), (3, .int x3), (4, .int x4), (6, .long x6), (8, .int x8), (9, .int x9), (10, .int x10)] [] := by
  unfold f_Mo_together_67 at h
  obtain ⟨b, eb, h⟩ := zb h
  refine zlp_ok (P := fun a : Nat × Int32 × Int32 × Int32 × Int64 × Int32 × Int32 × Int32 × Zc => Zz p l e (zRm 1 21 0 0) s m args below meth cd _ D cid B 12 0 0 a.2.2.2.2.2.2.2.2 67 [(0, .ref a.1), (2, .int a.2.1), (3, .int a.2.2.1), (4, .int a.2.2.2.1), (6, .long a.2.2.2.2.1), (8, .int a.2.2.2.2.2.1), (9, .int a.2.2.2.2.2.2.1), (10, .int a.2.2.2.2.2.2.2.1)] []) (G := fun b : Int32 × Int64 × Int32 × Int32 × Zc => Zz p l e (zRm 1 21 0 0) s m args below meth cd _ D cid B 12 0 0 b.2.2.2.2 138 [(4, .int b.1), (6, .long b.2.1), (8, .int b.2.2.1), (9, .int b.2.2.2.1)] []) (fun a r ha k0 k1 => u_Mo_together_67 X H ha k0 k1) nf _ b eb ?_
  refine z_iload X dd_Mo_together_138 0 rfl ?_
  refine z_bipush (v := 110) X dd_Mo_together_140 (by decide) ?_
  refine z_icmp_ne (tgt := 153) X dd_Mo_together_142 (by decide) (fun q17 => ?_) (fun q17 => ?_)
  · rw [if_neg q17] at h
    refine z_iload X dd_Mo_together_153 0 rfl ?_
    refine z_bipush (v := 111) X dd_Mo_together_155 (by decide) ?_
    refine z_icmp_ne (tgt := 165) X dd_Mo_together_157 (by decide) (fun q18 => ?_) (fun q18 => ?_)
    · rw [if_neg q18] at h
      refine z_iload X dd_Mo_together_165 3 rfl ?_
      refine z_sub [] rfl ?_
      exact t_Mo_together_167 X H h
    · rw [if_pos q18] at h
      refine z_iload X dd_Mo_together_160 2 rfl ?_
      refine z_goto (tgt := 167) X dd_Mo_together_162 (by decide) ?_
      refine z_sub [] rfl ?_
      exact t_Mo_together_167 X H h
  · rw [if_pos q17] at h
    refine z_lload X dd_Mo_together_145 1 rfl ?_
    obtain ⟨q19, eq19, h⟩ := zb h
    refine z_callSi X [.long b.2.1] rfl dd_Mo_together_147 (c_Mo_bounded l eq19) (va_cwS 1 X.1.2.2.2.2 (zg_S km_2128 km_2129 km_138 km_2130) rfl rfl rfl (by decide +kernel) ⟨Nat.le_of_ble_eq_true rfl, Nat.le_of_ble_eq_true rfl⟩) rfl (Nat.le_of_ble_eq_true rfl) ⟨Nat.le_of_ble_eq_true rfl, Nat.le_of_ble_eq_true rfl⟩ ?_
    refine z_goto (tgt := 167) X dd_Mo_together_150 (by decide) ?_
    refine z_sub [] rfl ?_
    exact t_Mo_together_167 X H h
set_option maxRecDepth 100000 in
set_option maxHeartbeats 4000000 in
theorem c_Mo_together (l : Launch) {nf : Nat} {a0 : Nat} {a1 : Int32} {a2 : Int32} {a3 : Int32} {c : Zc} {res : Int32 × Zc} (h : f_Mo_together nf a0 a1 a2 a3 c = some res) : zM l yy_Mo_together ww_Mo_together 1 21 0 0 [.ref a0, .int a1, .int a2, .int a3] c (fun D cid B => zQi D cid B res.1 res.2 c.length 0) := by
  refine z_met (cc := bb_Mo_together) (maxL := 12) (ret := (some (.int))) (by decide +kernel) rfl (Nat.le_of_ble_eq_true rfl) ?_
  intro p e s m args below meth cd D cid B X h1 h2 h3 h4
  have X : zX p s m args cd D cid B bb_Mo_together 12 rr_Mo zT := X
  have H : zH s meth B c.length (some (.int)) "together" := ⟨h1, h2, h4, h3⟩
  unfold f_Mo_together at h
  show Zz p l e (zRm 1 21 0 0) s m args below meth cd _ D cid B 12 0 0 c 0 [(0, .ref a0), (1, .int a1), (2, .int a2), (3, .int a3)] []
  refine z_aload_n X dd_Mo_together_0 rfl 0 rfl ?_
  obtain ⟨v1, ev1, h⟩ := zb h
  refine z_get (j := 44) X dd_Mo_together_1 kc_12 ki_12 (by decide) km_1565 (zgr_v ev1) ?_
  refine z_bipush (v := 8) X dd_Mo_together_4 (by decide) ?_
  refine z_aload_n X dd_Mo_together_6 rfl 0 rfl ?_
  obtain ⟨v2, ev2, h⟩ := zb h
  refine z_get (j := 25) X dd_Mo_together_7 kc_12 ki_12 (by decide) km_1546 (zgi_v ev2) ?_
  refine z_imul X dd_Mo_together_10 ?_
  refine z_iload_n X dd_Mo_together_11 rfl 3 rfl ?_
  refine z_iadd X dd_Mo_together_12 ?_
  obtain ⟨v3, ev3, h⟩ := zb h
  refine z_iaload X dd_Mo_together_13 rfl ev3 ?_
  refine z_istore (lv' := [(4, .int v3), (0, .ref a0), (1, .int a1), (2, .int a2), (3, .int a3)]) X dd_Mo_together_14 (by decide) rfl ?_
  refine z_aload_n X dd_Mo_together_16 rfl 1 rfl ?_
  obtain ⟨v4, ev4, h⟩ := zb h
  refine z_get (j := 78) X dd_Mo_together_17 kc_12 ki_12 (by decide) km_1599 (zgr_v ev4) ?_
  refine z_bipush (v := 8) X dd_Mo_together_20 (by decide) ?_
  refine z_aload_n X dd_Mo_together_22 rfl 1 rfl ?_
  obtain ⟨v5, ev5, h⟩ := zb h
  refine z_get (j := 79) X dd_Mo_together_23 kc_12 ki_12 (by decide) km_1600 (zgr_v ev5) ?_
  refine z_iload_n X dd_Mo_together_26 rfl 2 rfl ?_
  obtain ⟨v6, ev6, h⟩ := zb h
  refine z_iaload X dd_Mo_together_27 rfl ev6 ?_
  refine z_imul X dd_Mo_together_28 ?_
  refine z_iload_n X dd_Mo_together_29 rfl 4 rfl ?_
  refine z_iadd X dd_Mo_together_30 ?_
  obtain ⟨v7, ev7, h⟩ := zb h
  refine z_iaload X dd_Mo_together_31 rfl ev7 ?_
  refine z_istore (lv' := [(5, .int v7), (4, .int v3), (0, .ref a0), (1, .int a1), (2, .int a2), (3, .int a3)]) X dd_Mo_together_32 (by decide) rfl ?_
  refine z_iload X dd_Mo_together_34 1 rfl ?_
  refine z_if_ne (tgt := 42) X dd_Mo_together_36 (by decide) (fun q8 => ?_) (fun q8 => ?_)
  · rw [if_neg q8] at h
    refine z_iload X dd_Mo_together_42 1 rfl ?_
    refine z_bipush (v := 109) X dd_Mo_together_44 (by decide) ?_
    refine z_icmp_ne (tgt := 53) X dd_Mo_together_46 (by decide) (fun q9 => ?_) (fun q9 => ?_)
    · rw [if_neg q9] at h
      refine z_lconst (v := 0) X dd_Mo_together_53 (by decide) ?_
      refine z_lstore (lv' := [(6, .long 0), (5, .int v7), (4, .int v3), (0, .ref a0), (1, .int a1), (2, .int a2), (3, .int a3)]) X dd_Mo_together_54 (by decide) rfl ?_
      refine z_iload X dd_Mo_together_56 1 rfl ?_
      refine z_istore (lv' := [(8, .int v7), (6, .long 0), (5, .int v7), (4, .int v3), (0, .ref a0), (1, .int a1), (2, .int a2), (3, .int a3)]) X dd_Mo_together_58 (by decide) rfl ?_
      refine z_iload X dd_Mo_together_60 2 rfl ?_
      refine z_istore (lv' := [(9, .int v7), (8, .int v7), (6, .long 0), (5, .int v7), (4, .int v3), (0, .ref a0), (1, .int a1), (2, .int a2), (3, .int a3)]) X dd_Mo_together_62 (by decide) rfl ?_
      refine z_iload_n X dd_Mo_together_64 rfl 6 rfl ?_
      refine z_istore (lv' := [(10, .int a1), (9, .int v7), (8, .int v7), (6, .long 0), (5, .int v7), (4, .int v3), (0, .ref a0), (1, .int a1), (2, .int a2), (3, .int a3)]) X dd_Mo_together_65 (by decide) rfl ?_
      refine z_sub [6, 8, 9, 5, 3, 2, 1, 0] rfl ?_
      exact t_Mo_together_67 X H h
    · rw [if_pos q9] at h
      refine z_iload_n X dd_Mo_together_49 rfl 4 rfl ?_
      refine z_iload_n X dd_Mo_together_50 rfl 3 rfl ?_
      refine z_isub X dd_Mo_together_51 ?_
      obtain rfl := Option.some.inj h
      exact z_iret X H.1 H.2.1 H.2.2.1 dd_Mo_together_52
  · rw [if_pos q8] at h
    refine z_iload X dd_Mo_together_39 0 rfl ?_
    obtain rfl := Option.some.inj h
    exact z_iret X H.1 H.2.1 H.2.2.1 dd_Mo_together_41
theorem dd_Mo_groupRows_0 : decode bb_Mo_groupRows 0 = .ok (.aload_n 0, 1) := by decide +kernel
theorem dd_Mo_groupRows_1 : decode bb_Mo_groupRows 1 = .ok (.iconst 0, 1) := by decide +kernel
theorem dd_Mo_groupRows_2 : decode bb_Mo_groupRows 2 = .ok (.putfield 512, 3) := by decide +kernel
theorem dd_Mo_groupRows_5 : decode bb_Mo_groupRows 5 = .ok (.iconst 0, 1) := by decide +kernel
theorem dd_Mo_groupRows_6 : decode bb_Mo_groupRows 6 = .ok (.istore_n 1, 1) := by decide +kernel
theorem dd_Mo_groupRows_7 : decode bb_Mo_groupRows 7 = .ok (.iload_n 1, 1) := by decide +kernel
theorem dd_Mo_groupRows_8 : decode bb_Mo_groupRows 8 = .ok (.aload_n 0, 1) := by decide +kernel
theorem dd_Mo_groupRows_9 : decode bb_Mo_groupRows 9 = .ok (.getfield 116, 3) := by decide +kernel
theorem dd_Mo_groupRows_12 : decode bb_Mo_groupRows 12 = .ok (.aload_n 0, 1) := by decide +kernel
theorem dd_Mo_groupRows_13 : decode bb_Mo_groupRows 13 = .ok (.getfield 331, 3) := by decide +kernel
theorem dd_Mo_groupRows_16 : decode bb_Mo_groupRows 16 = .ok (.iaload, 1) := by decide +kernel
theorem dd_Mo_groupRows_17 : decode bb_Mo_groupRows 17 = .ok (.if_icmp .ge 46, 3) := by decide +kernel
theorem dd_Mo_groupRows_20 : decode bb_Mo_groupRows 20 = .ok (.aload_n 0, 1) := by decide +kernel
theorem dd_Mo_groupRows_21 : decode bb_Mo_groupRows 21 = .ok (.getfield 119, 3) := by decide +kernel
theorem dd_Mo_groupRows_24 : decode bb_Mo_groupRows 24 = .ok (.bipush 8, 2) := by decide +kernel
theorem dd_Mo_groupRows_26 : decode bb_Mo_groupRows 26 = .ok (.aload_n 0, 1) := by decide +kernel
theorem dd_Mo_groupRows_27 : decode bb_Mo_groupRows 27 = .ok (.getfield 331, 3) := by decide +kernel
theorem dd_Mo_groupRows_30 : decode bb_Mo_groupRows 30 = .ok (.imul, 1) := by decide +kernel
theorem dd_Mo_groupRows_31 : decode bb_Mo_groupRows 31 = .ok (.iload_n 1, 1) := by decide +kernel
theorem dd_Mo_groupRows_32 : decode bb_Mo_groupRows 32 = .ok (.iadd, 1) := by decide +kernel
theorem dd_Mo_groupRows_33 : decode bb_Mo_groupRows 33 = .ok (.iaload, 1) := by decide +kernel
theorem dd_Mo_groupRows_34 : decode bb_Mo_groupRows 34 = .ok (.ifCond .ne 23, 3) := by decide +kernel
theorem dd_Mo_groupRows_37 : decode bb_Mo_groupRows 37 = .ok (.aload_n 0, 1) := by decide +kernel
theorem dd_Mo_groupRows_38 : decode bb_Mo_groupRows 38 = .ok (.getfield 226, 3) := by decide +kernel
theorem dd_Mo_groupRows_41 : decode bb_Mo_groupRows 41 = .ok (.aload_n 0, 1) := by decide +kernel
theorem dd_Mo_groupRows_42 : decode bb_Mo_groupRows 42 = .ok (.getfield 512, 3) := by decide +kernel
theorem dd_Mo_groupRows_45 : decode bb_Mo_groupRows 45 = .ok (.iload_n 1, 1) := by decide +kernel
theorem dd_Mo_groupRows_46 : decode bb_Mo_groupRows 46 = .ok (.iastore, 1) := by decide +kernel
theorem dd_Mo_groupRows_47 : decode bb_Mo_groupRows 47 = .ok (.aload_n 0, 1) := by decide +kernel
theorem dd_Mo_groupRows_48 : decode bb_Mo_groupRows 48 = .ok (.dup, 1) := by decide +kernel
theorem dd_Mo_groupRows_49 : decode bb_Mo_groupRows 49 = .ok (.getfield 512, 3) := by decide +kernel
theorem dd_Mo_groupRows_52 : decode bb_Mo_groupRows 52 = .ok (.iconst 1, 1) := by decide +kernel
theorem dd_Mo_groupRows_53 : decode bb_Mo_groupRows 53 = .ok (.iadd, 1) := by decide +kernel
theorem dd_Mo_groupRows_54 : decode bb_Mo_groupRows 54 = .ok (.putfield 512, 3) := by decide +kernel
theorem dd_Mo_groupRows_57 : decode bb_Mo_groupRows 57 = .ok (.iinc 1 1, 3) := by decide +kernel
theorem dd_Mo_groupRows_60 : decode bb_Mo_groupRows 60 = .ok (.goto (-53), 3) := by decide +kernel
theorem dd_Mo_groupRows_63 : decode bb_Mo_groupRows 63 = .ok (.aload_n 0, 1) := by decide +kernel
theorem dd_Mo_groupRows_64 : decode bb_Mo_groupRows 64 = .ok (.invokevirtual 521, 3) := by decide +kernel
theorem dd_Mo_groupRows_67 : decode bb_Mo_groupRows 67 = .ok (.iconst 0, 1) := by decide +kernel
theorem dd_Mo_groupRows_68 : decode bb_Mo_groupRows 68 = .ok (.istore_n 1, 1) := by decide +kernel
theorem dd_Mo_groupRows_69 : decode bb_Mo_groupRows 69 = .ok (.iconst 0, 1) := by decide +kernel
theorem dd_Mo_groupRows_70 : decode bb_Mo_groupRows 70 = .ok (.istore_n 2, 1) := by decide +kernel
theorem dd_Mo_groupRows_71 : decode bb_Mo_groupRows 71 = .ok (.iload_n 2, 1) := by decide +kernel
theorem dd_Mo_groupRows_72 : decode bb_Mo_groupRows 72 = .ok (.aload_n 0, 1) := by decide +kernel
theorem dd_Mo_groupRows_73 : decode bb_Mo_groupRows 73 = .ok (.getfield 515, 3) := by decide +kernel
theorem dd_Mo_groupRows_76 : decode bb_Mo_groupRows 76 = .ok (.if_icmp .ge 89, 3) := by decide +kernel
theorem dd_Mo_groupRows_79 : decode bb_Mo_groupRows 79 = .ok (.iload_n 2, 1) := by decide +kernel
theorem dd_Mo_groupRows_80 : decode bb_Mo_groupRows 80 = .ok (.istore_n 3, 1) := by decide +kernel
theorem dd_Mo_groupRows_81 : decode bb_Mo_groupRows 81 = .ok (.iload_n 3, 1) := by decide +kernel
theorem dd_Mo_groupRows_82 : decode bb_Mo_groupRows 82 = .ok (.aload_n 0, 1) := by decide +kernel
theorem dd_Mo_groupRows_83 : decode bb_Mo_groupRows 83 = .ok (.getfield 515, 3) := by decide +kernel
theorem dd_Mo_groupRows_86 : decode bb_Mo_groupRows 86 = .ok (.if_icmp .ge 28, 3) := by decide +kernel
theorem dd_Mo_groupRows_89 : decode bb_Mo_groupRows 89 = .ok (.aload_n 0, 1) := by decide +kernel
theorem dd_Mo_groupRows_90 : decode bb_Mo_groupRows 90 = .ok (.aload_n 0, 1) := by decide +kernel
theorem dd_Mo_groupRows_91 : decode bb_Mo_groupRows 91 = .ok (.getfield 207, 3) := by decide +kernel
theorem dd_Mo_groupRows_94 : decode bb_Mo_groupRows 94 = .ok (.iload_n 2, 1) := by decide +kernel
theorem dd_Mo_groupRows_95 : decode bb_Mo_groupRows 95 = .ok (.iaload, 1) := by decide +kernel
theorem dd_Mo_groupRows_96 : decode bb_Mo_groupRows 96 = .ok (.aload_n 0, 1) := by decide +kernel
theorem dd_Mo_groupRows_97 : decode bb_Mo_groupRows 97 = .ok (.getfield 207, 3) := by decide +kernel
theorem dd_Mo_groupRows_100 : decode bb_Mo_groupRows 100 = .ok (.iload_n 3, 1) := by decide +kernel
theorem dd_Mo_groupRows_101 : decode bb_Mo_groupRows 101 = .ok (.iaload, 1) := by decide +kernel
theorem dd_Mo_groupRows_102 : decode bb_Mo_groupRows 102 = .ok (.invokevirtual 518, 3) := by decide +kernel
theorem dd_Mo_groupRows_105 : decode bb_Mo_groupRows 105 = .ok (.ifCond .ne 9, 3) := by decide +kernel
theorem dd_Mo_groupRows_108 : decode bb_Mo_groupRows 108 = .ok (.iinc 3 1, 3) := by decide +kernel
theorem dd_Mo_groupRows_111 : decode bb_Mo_groupRows 111 = .ok (.goto (-30), 3) := by decide +kernel
theorem dd_Mo_groupRows_114 : decode bb_Mo_groupRows 114 = .ok (.iconst 0, 1) := by decide +kernel
theorem dd_Mo_groupRows_115 : decode bb_Mo_groupRows 115 = .ok (.istore 4, 2) := by decide +kernel
theorem dd_Mo_groupRows_117 : decode bb_Mo_groupRows 117 = .ok (.iload 4, 2) := by decide +kernel
theorem dd_Mo_groupRows_119 : decode bb_Mo_groupRows 119 = .ok (.aload_n 0, 1) := by decide +kernel
theorem dd_Mo_groupRows_120 : decode bb_Mo_groupRows 120 = .ok (.getfield 116, 3) := by decide +kernel
theorem dd_Mo_groupRows_123 : decode bb_Mo_groupRows 123 = .ok (.aload_n 0, 1) := by decide +kernel
theorem dd_Mo_groupRows_124 : decode bb_Mo_groupRows 124 = .ok (.getfield 331, 3) := by decide +kernel
theorem dd_Mo_groupRows_127 : decode bb_Mo_groupRows 127 = .ok (.iaload, 1) := by decide +kernel
theorem dd_Mo_groupRows_128 : decode bb_Mo_groupRows 128 = .ok (.if_icmp .ge 29, 3) := by decide +kernel
theorem dd_Mo_groupRows_131 : decode bb_Mo_groupRows 131 = .ok (.aload_n 0, 1) := by decide +kernel
theorem dd_Mo_groupRows_132 : decode bb_Mo_groupRows 132 = .ok (.getfield 229, 3) := by decide +kernel
theorem dd_Mo_groupRows_135 : decode bb_Mo_groupRows 135 = .ok (.bipush 8, 2) := by decide +kernel
theorem dd_Mo_groupRows_137 : decode bb_Mo_groupRows 137 = .ok (.iload_n 1, 1) := by decide +kernel
theorem dd_Mo_groupRows_138 : decode bb_Mo_groupRows 138 = .ok (.imul, 1) := by decide +kernel
theorem dd_Mo_groupRows_139 : decode bb_Mo_groupRows 139 = .ok (.iload 4, 2) := by decide +kernel
theorem dd_Mo_groupRows_141 : decode bb_Mo_groupRows 141 = .ok (.iadd, 1) := by decide +kernel
theorem dd_Mo_groupRows_142 : decode bb_Mo_groupRows 142 = .ok (.aload_n 0, 1) := by decide +kernel
theorem dd_Mo_groupRows_143 : decode bb_Mo_groupRows 143 = .ok (.iload_n 2, 1) := by decide +kernel
theorem dd_Mo_groupRows_144 : decode bb_Mo_groupRows 144 = .ok (.iload_n 3, 1) := by decide +kernel
theorem dd_Mo_groupRows_145 : decode bb_Mo_groupRows 145 = .ok (.iload 4, 2) := by decide +kernel
theorem dd_Mo_groupRows_147 : decode bb_Mo_groupRows 147 = .ok (.invokevirtual 524, 3) := by decide +kernel
theorem dd_Mo_groupRows_150 : decode bb_Mo_groupRows 150 = .ok (.iastore, 1) := by decide +kernel
theorem dd_Mo_groupRows_151 : decode bb_Mo_groupRows 151 = .ok (.iinc 4 1, 3) := by decide +kernel
theorem dd_Mo_groupRows_154 : decode bb_Mo_groupRows 154 = .ok (.goto (-37), 3) := by decide +kernel
theorem dd_Mo_groupRows_157 : decode bb_Mo_groupRows 157 = .ok (.iinc 1 1, 3) := by decide +kernel
theorem dd_Mo_groupRows_160 : decode bb_Mo_groupRows 160 = .ok (.iload_n 3, 1) := by decide +kernel
theorem dd_Mo_groupRows_161 : decode bb_Mo_groupRows 161 = .ok (.istore_n 2, 1) := by decide +kernel
theorem dd_Mo_groupRows_162 : decode bb_Mo_groupRows 162 = .ok (.goto (-91), 3) := by decide +kernel
theorem dd_Mo_groupRows_165 : decode bb_Mo_groupRows 165 = .ok (.iload_n 1, 1) := by decide +kernel
theorem dd_Mo_groupRows_166 : decode bb_Mo_groupRows 166 = .ok (.ireturn, 1) := by decide +kernel
set_option maxRecDepth 100000 in
set_option maxHeartbeats 4000000 in
theorem t_Mo_groupRows_57  (X : zX p s m args cd D cid B bb_Mo_groupRows 5 rr_Mo zT) (H : zH s meth B n0 (some (.int)) "groupRows") {nf : Nat} {x0 : Nat} {x1 : Int32} {c : Zc} {r : (Nat × Int32 × Zc) ⊕ (Nat × Zc)} (h : f_Mo_groupRows_57 nf x0 x1 c = some r) (k0 : ∀ a, r = .inl a → (fun a : Nat × Int32 × Zc => Zz p l e (zRm 2 53 0 0) s m args below meth cd Q D cid B 5 0 0 a.2.2 7 [(0, .ref a.1), (1, .int a.2.1)] []) a) (k1 : ∀ b, r = .inr b → (fun b : Nat × Zc => Zz p l e (zRm 2 53 0 0) s m args below meth cd Q D cid B 5 0 0 b.2 63 [(0, .ref b.1)] []) b) : Zz p l e (zRm 2 53 0 0) s m args below meth cd Q D cid B 5 0 0 c 57 [(0, .ref x0), (1, .int x1)] [] := by
  unfold f_Mo_groupRows_57 at h
  refine z_iinc (v := (x1 + 1)) (lv' := [(1, .int (x1 + 1)), (0, .ref x0)]) X dd_Mo_groupRows_57 1 rfl rfl (by decide) rfl ?_
  refine z_goto (tgt := 7) X dd_Mo_groupRows_60 (by decide) ?_
  refine z_sub [1, 0] rfl ?_
  obtain rfl := Option.some.inj h
  exact k0 _ rfl
set_option maxRecDepth 100000 in
set_option maxHeartbeats 4000000 in
theorem u_Mo_groupRows_7  (X : zX p s m args cd D cid B bb_Mo_groupRows 5 rr_Mo zT) (H : zH s meth B n0 (some (.int)) "groupRows") {nf : Nat} {x0 : Nat} {x1 : Int32} {c : Zc} {r : (Nat × Int32 × Zc) ⊕ (Nat × Zc)} (h : g_Mo_groupRows_7 nf x0 x1 c = some r) (k0 : ∀ a, r = .inl a → (fun a : Nat × Int32 × Zc => Zz p l e (zRm 2 53 0 0) s m args below meth cd Q D cid B 5 0 0 a.2.2 7 [(0, .ref a.1), (1, .int a.2.1)] []) a) (k1 : ∀ b, r = .inr b → (fun b : Nat × Zc => Zz p l e (zRm 2 53 0 0) s m args below meth cd Q D cid B 5 0 0 b.2 63 [(0, .ref b.1)] []) b) : Zz p l e (zRm 2 53 0 0) s m args below meth cd Q D cid B 5 0 0 c 7 [(0, .ref x0), (1, .int x1)] [] := by
  unfold g_Mo_groupRows_7 at h
  refine z_iload_n X dd_Mo_groupRows_7 rfl 1 rfl ?_
  refine z_aload_n X dd_Mo_groupRows_8 rfl 0 rfl ?_
  obtain ⟨v2, ev2, h⟩ := zb h
  refine z_get (j := 43) X dd_Mo_groupRows_9 kc_12 ki_12 (by decide) km_1564 (zgr_v ev2) ?_
  refine z_aload_n X dd_Mo_groupRows_12 rfl 0 rfl ?_
  obtain ⟨v3, ev3, h⟩ := zb h
  refine z_get (j := 25) X dd_Mo_groupRows_13 kc_12 ki_12 (by decide) km_1546 (zgi_v ev3) ?_
  obtain ⟨v4, ev4, h⟩ := zb h
  refine z_iaload X dd_Mo_groupRows_16 rfl ev4 ?_
  refine z_icmp_ge (tgt := 63) X dd_Mo_groupRows_17 (by decide) (fun q5 => ?_) (fun q5 => ?_)
  · rw [if_pos q5] at h
    refine z_sub [0] rfl ?_
    obtain rfl := Option.some.inj h
    exact k1 _ rfl
  · rw [if_neg q5] at h
    refine z_aload_n X dd_Mo_groupRows_20 rfl 0 rfl ?_
    obtain ⟨v6, ev6, h⟩ := zb h
    refine z_get (j := 44) X dd_Mo_groupRows_21 kc_12 ki_12 (by decide) km_1565 (zgr_v ev6) ?_
    refine z_bipush (v := 8) X dd_Mo_groupRows_24 (by decide) ?_
    refine z_aload_n X dd_Mo_groupRows_26 rfl 0 rfl ?_
    obtain ⟨v7, ev7, h⟩ := zb h
    refine z_get (j := 25) X dd_Mo_groupRows_27 kc_12 ki_12 (by decide) km_1546 (zgi_v ev7) ?_
    refine z_imul X dd_Mo_groupRows_30 ?_
    refine z_iload_n X dd_Mo_groupRows_31 rfl 1 rfl ?_
    refine z_iadd X dd_Mo_groupRows_32 ?_
    obtain ⟨v8, ev8, h⟩ := zb h
    refine z_iaload X dd_Mo_groupRows_33 rfl ev8 ?_
    refine z_if_ne (tgt := 57) X dd_Mo_groupRows_34 (by decide) (fun q9 => ?_) (fun q9 => ?_)
    · rw [if_neg q9] at h
      exact t_Mo_groupRows_57 X H h k0 k1
    · rw [if_pos q9] at h
      refine z_aload_n X dd_Mo_groupRows_37 rfl 0 rfl ?_
      obtain ⟨v10, ev10, h⟩ := zb h
      refine z_get (j := 86) X dd_Mo_groupRows_38 kc_12 ki_12 (by decide) km_1607 (zgr_v ev10) ?_
      refine z_aload_n X dd_Mo_groupRows_41 rfl 0 rfl ?_
      obtain ⟨v11, ev11, h⟩ := zb h
      refine z_get (j := 87) X dd_Mo_groupRows_42 kc_12 ki_12 (by decide) km_1608 (zgi_v ev11) ?_
      refine z_iload_n X dd_Mo_groupRows_45 rfl 1 rfl ?_
      obtain ⟨c12, ec12, h⟩ := zb h
      refine z_iastore X dd_Mo_groupRows_46 rfl ec12 ?_
      refine z_aload_n X dd_Mo_groupRows_47 rfl 0 rfl ?_
      refine z_dup X dd_Mo_groupRows_48 rfl ?_
      obtain ⟨v13, ev13, h⟩ := zb h
      refine z_get (j := 87) X dd_Mo_groupRows_49 kc_12 ki_12 (by decide) km_1608 (zgi_v ev13) ?_
      refine z_iconst (v := 1) X dd_Mo_groupRows_52 (by decide) ?_
      refine z_iadd X dd_Mo_groupRows_53 ?_
      obtain ⟨c14, ec14, h⟩ := zb h
      refine z_put (j := 87) X dd_Mo_groupRows_54 kc_12 ki_12 tt_Mo tk_Mo nn_Mo (by decide) km_1608 rfl (tk_Mo 87 (by decide)) rfl rfl ec14 ?_
      exact t_Mo_groupRows_57 X H h k0 k1
set_option maxRecDepth 100000 in
set_option maxHeartbeats 4000000 in
theorem u_Mo_groupRows_81  (X : zX p s m args cd D cid B bb_Mo_groupRows 5 rr_Mo zT) (H : zH s meth B n0 (some (.int)) "groupRows") {nf : Nat} {x0 : Nat} {x1 : Int32} {x2 : Int32} {x3 : Int32} {c : Zc} {r : (Nat × Int32 × Int32 × Int32 × Zc) ⊕ (Nat × Int32 × Int32 × Int32 × Zc)} (h : g_Mo_groupRows_81 nf x0 x1 x2 x3 c = some r) (k0 : ∀ a, r = .inl a → (fun a : Nat × Int32 × Int32 × Int32 × Zc => Zz p l e (zRm 2 53 0 0) s m args below meth cd Q D cid B 5 0 0 a.2.2.2.2 81 [(0, .ref a.1), (1, .int a.2.1), (2, .int a.2.2.1), (3, .int a.2.2.2.1)] []) a) (k1 : ∀ b, r = .inr b → (fun b : Nat × Int32 × Int32 × Int32 × Zc => Zz p l e (zRm 2 53 0 0) s m args below meth cd Q D cid B 5 0 0 b.2.2.2.2 114 [(0, .ref b.1), (1, .int b.2.1), (2, .int b.2.2.1), (3, .int b.2.2.2.1)] []) b) : Zz p l e (zRm 2 53 0 0) s m args below meth cd Q D cid B 5 0 0 c 81 [(0, .ref x0), (1, .int x1), (2, .int x2), (3, .int x3)] [] := by
  unfold g_Mo_groupRows_81 at h
  refine z_iload_n X dd_Mo_groupRows_81 rfl 3 rfl ?_
  refine z_aload_n X dd_Mo_groupRows_82 rfl 0 rfl ?_
  obtain ⟨v19, ev19, h⟩ := zb h
  refine z_get (j := 81) X dd_Mo_groupRows_83 kc_12 ki_12 (by decide) km_1602 (zgi_v ev19) ?_
  refine z_icmp_ge (tgt := 114) X dd_Mo_groupRows_86 (by decide) (fun q20 => ?_) (fun q20 => ?_)
  · rw [if_pos q20] at h
    obtain rfl := Option.some.inj h
    exact k1 _ rfl
  · rw [if_neg q20] at h
    refine z_aload_n X dd_Mo_groupRows_89 rfl 0 rfl ?_
    refine z_aload_n X dd_Mo_groupRows_90 rfl 0 rfl ?_
    obtain ⟨v21, ev21, h⟩ := zb h
    refine z_get (j := 79) X dd_Mo_groupRows_91 kc_12 ki_12 (by decide) km_1600 (zgr_v ev21) ?_
    refine z_iload_n X dd_Mo_groupRows_94 rfl 2 rfl ?_
    obtain ⟨v22, ev22, h⟩ := zb h
    refine z_iaload X dd_Mo_groupRows_95 rfl ev22 ?_
    refine z_aload_n X dd_Mo_groupRows_96 rfl 0 rfl ?_
    obtain ⟨v23, ev23, h⟩ := zb h
    refine z_get (j := 79) X dd_Mo_groupRows_97 kc_12 ki_12 (by decide) km_1600 (zgr_v ev23) ?_
    refine z_iload_n X dd_Mo_groupRows_100 rfl 3 rfl ?_
    obtain ⟨v24, ev24, h⟩ := zb h
    refine z_iaload X dd_Mo_groupRows_101 rfl ev24 ?_
    obtain ⟨w26, ew26, h⟩ := zb h
    obtain ⟨q25, eq25, h⟩ := zb h
    refine z_callVi X [.int v22, .int v24] rfl dd_Mo_groupRows_102 (c_Mo_compareRows l eq25) (cwV 2 X.1.2.2.2.2 (zg_V km_2151 km_2153 km_122 km_138 km_2154) rfl rfl rfl (by decide +kernel) ⟨Nat.le_of_ble_eq_true rfl, Nat.le_of_ble_eq_true rfl⟩) (zob_s ew26) kc_12 rfl (Nat.le_of_ble_eq_true rfl) ⟨Nat.le_of_ble_eq_true rfl, Nat.le_of_ble_eq_true rfl⟩ ?_
    refine z_if_ne (tgt := 114) X dd_Mo_groupRows_105 (by decide) (fun q27 => ?_) (fun q27 => ?_)
    · rw [if_neg q27] at h
      obtain rfl := Option.some.inj h
      exact k1 _ rfl
    · rw [if_pos q27] at h
      refine z_iinc (v := (x3 + 1)) (lv' := [(3, .int (x3 + 1)), (0, .ref x0), (1, .int x1), (2, .int x2)]) X dd_Mo_groupRows_108 3 rfl rfl (by decide) rfl ?_
      refine z_goto (tgt := 81) X dd_Mo_groupRows_111 (by decide) ?_
      refine z_sub [1, 2, 3, 0] rfl ?_
      obtain rfl := Option.some.inj h
      exact k0 _ rfl
set_option maxRecDepth 100000 in
set_option maxHeartbeats 4000000 in
theorem u_Mo_groupRows_117  (X : zX p s m args cd D cid B bb_Mo_groupRows 5 rr_Mo zT) (H : zH s meth B n0 (some (.int)) "groupRows") {nf : Nat} {x0 : Nat} {x1 : Int32} {x2 : Int32} {x3 : Int32} {x4 : Int32} {c : Zc} {r : (Nat × Int32 × Int32 × Int32 × Int32 × Zc) ⊕ (Nat × Int32 × Int32 × Zc)} (h : g_Mo_groupRows_117 nf x0 x1 x2 x3 x4 c = some r) (k0 : ∀ a, r = .inl a → (fun a : Nat × Int32 × Int32 × Int32 × Int32 × Zc => Zz p l e (zRm 2 53 0 0) s m args below meth cd Q D cid B 5 0 0 a.2.2.2.2.2 117 [(0, .ref a.1), (1, .int a.2.1), (2, .int a.2.2.1), (3, .int a.2.2.2.1), (4, .int a.2.2.2.2.1)] []) a) (k1 : ∀ b, r = .inr b → (fun b : Nat × Int32 × Int32 × Zc => Zz p l e (zRm 2 53 0 0) s m args below meth cd Q D cid B 5 0 0 b.2.2.2 157 [(0, .ref b.1), (1, .int b.2.1), (3, .int b.2.2.1)] []) b) : Zz p l e (zRm 2 53 0 0) s m args below meth cd Q D cid B 5 0 0 c 117 [(0, .ref x0), (1, .int x1), (2, .int x2), (3, .int x3), (4, .int x4)] [] := by
  unfold g_Mo_groupRows_117 at h
  refine z_iload X dd_Mo_groupRows_117 4 rfl ?_
  refine z_aload_n X dd_Mo_groupRows_119 rfl 0 rfl ?_
  obtain ⟨v28, ev28, h⟩ := zb h
  refine z_get (j := 43) X dd_Mo_groupRows_120 kc_12 ki_12 (by decide) km_1564 (zgr_v ev28) ?_
  refine z_aload_n X dd_Mo_groupRows_123 rfl 0 rfl ?_
  obtain ⟨v29, ev29, h⟩ := zb h
  refine z_get (j := 25) X dd_Mo_groupRows_124 kc_12 ki_12 (by decide) km_1546 (zgi_v ev29) ?_
  obtain ⟨v30, ev30, h⟩ := zb h
  refine z_iaload X dd_Mo_groupRows_127 rfl ev30 ?_
  refine z_icmp_ge (tgt := 157) X dd_Mo_groupRows_128 (by decide) (fun q31 => ?_) (fun q31 => ?_)
  · rw [if_pos q31] at h
    refine z_sub [0, 1, 3] rfl ?_
    obtain rfl := Option.some.inj h
    exact k1 _ rfl
  · rw [if_neg q31] at h
    refine z_aload_n X dd_Mo_groupRows_131 rfl 0 rfl ?_
    obtain ⟨v32, ev32, h⟩ := zb h
    refine z_get (j := 88) X dd_Mo_groupRows_132 kc_12 ki_12 (by decide) km_1609 (zgr_v ev32) ?_
    refine z_bipush (v := 8) X dd_Mo_groupRows_135 (by decide) ?_
    refine z_iload_n X dd_Mo_groupRows_137 rfl 1 rfl ?_
    refine z_imul X dd_Mo_groupRows_138 ?_
    refine z_iload X dd_Mo_groupRows_139 4 rfl ?_
    refine z_iadd X dd_Mo_groupRows_141 ?_
    refine z_aload_n X dd_Mo_groupRows_142 rfl 0 rfl ?_
    refine z_iload_n X dd_Mo_groupRows_143 rfl 2 rfl ?_
    refine z_iload_n X dd_Mo_groupRows_144 rfl 3 rfl ?_
    refine z_iload X dd_Mo_groupRows_145 4 rfl ?_
    obtain ⟨w34, ew34, h⟩ := zb h
    obtain ⟨q33, eq33, h⟩ := zb h
    refine z_callVi X [.int x2, .int x3, .int x4] rfl dd_Mo_groupRows_147 (c_Mo_together l eq33) (cwV 3 X.1.2.2.2.2 (zg_V km_2155 km_2157 km_123 km_138 km_2158) rfl rfl rfl (by decide +kernel) ⟨Nat.le_of_ble_eq_true rfl, Nat.le_of_ble_eq_true rfl⟩) (zob_s ew34) kc_12 rfl (Nat.le_of_ble_eq_true rfl) ⟨Nat.le_of_ble_eq_true rfl, Nat.le_of_ble_eq_true rfl⟩ ?_
    obtain ⟨c35, ec35, h⟩ := zb h
    refine z_iastore X dd_Mo_groupRows_150 rfl ec35 ?_
    refine z_iinc (v := (x4 + 1)) (lv' := [(4, .int (x4 + 1)), (0, .ref x0), (1, .int x1), (2, .int x2), (3, .int x3)]) X dd_Mo_groupRows_151 4 rfl rfl (by decide) rfl ?_
    refine z_goto (tgt := 117) X dd_Mo_groupRows_154 (by decide) ?_
    refine z_sub [1, 2, 3, 4, 0] rfl ?_
    obtain rfl := Option.some.inj h
    exact k0 _ rfl
set_option maxRecDepth 100000 in
set_option maxHeartbeats 4000000 in
theorem t_Mo_groupRows_117  (X : zX p s m args cd D cid B bb_Mo_groupRows 5 rr_Mo zT) (H : zH s meth B n0 (some (.int)) "groupRows") {nf : Nat} {x0 : Nat} {x1 : Int32} {x2 : Int32} {x3 : Int32} {x4 : Int32} {c : Zc} {r : (Nat × Int32 × Int32 × Zc) ⊕ (Int32 × Zc)} (h : f_Mo_groupRows_117 nf x0 x1 x2 x3 x4 c = some r) (k0 : ∀ a, r = .inl a → (fun a : Nat × Int32 × Int32 × Zc => Zz p l e (zRm 2 53 0 0) s m args below meth cd Q D cid B 5 0 0 a.2.2.2 71 [(0, .ref a.1), (1, .int a.2.1), (2, .int a.2.2.1)] []) a) (k1 : ∀ b, r = .inr b → (fun b : Int32 × Zc => Zz p l e (zRm 2 53 0 0) s m args below meth cd Q D cid B 5 0 0 b.2 165 [(1, .int b.1)] []) b) : Zz p l e (zRm 2 53 0 0) s m args below meth cd Q D cid B 5 0 0 c 117 [(0, .ref x0), (1, .int x1), (2, .int x2), (3, .int x3), (4, .int x4)] [] := by
  unfold f_Mo_groupRows_117 at h
  obtain ⟨b, eb, h⟩ := zb h
  refine zlp_ok (P := fun a : Nat × Int32 × Int32 × Int32 × Int32 × Zc => Zz p l e (zRm 2 53 0 0) s m args below meth cd _ D cid B 5 0 0 a.2.2.2.2.2 117 [(0, .ref a.1), (1, .int a.2.1), (2, .int a.2.2.1), (3, .int a.2.2.2.1), (4, .int a.2.2.2.2.1)] []) (G := fun b : Nat × Int32 × Int32 × Zc => Zz p l e (zRm 2 53 0 0) s m args below meth cd _ D cid B 5 0 0 b.2.2.2 157 [(0, .ref b.1), (1, .int b.2.1), (3, .int b.2.2.1)] []) (fun a r ha k0 k1 => u_Mo_groupRows_117 X H ha k0 k1) nf _ b eb ?_
  refine z_iinc (v := (b.2.1 + 1)) (lv' := [(1, .int (b.2.1 + 1)), (0, .ref b.1), (3, .int b.2.2.1)]) X dd_Mo_groupRows_157 1 rfl rfl (by decide) rfl ?_
  refine z_iload_n X dd_Mo_groupRows_160 rfl 2 rfl ?_
  refine z_istore_n (lv' := [(2, .int b.2.2.1), (1, .int (b.2.1 + 1)), (0, .ref b.1), (3, .int b.2.2.1)]) X dd_Mo_groupRows_161 rfl (by decide) rfl ?_
  refine z_goto (tgt := 71) X dd_Mo_groupRows_162 (by decide) ?_
  refine z_sub [2, 1, 0] rfl ?_
  obtain rfl := Option.some.inj h
  exact k0 _ rfl
set_option maxRecDepth 100000 in
set_option maxHeartbeats 4000000 in
theorem t_Mo_groupRows_114  (X : zX p s m args cd D cid B bb_Mo_groupRows 5 rr_Mo zT) (H : zH s meth B n0 (some (.int)) "groupRows") {nf : Nat} {x0 : Nat} {x1 : Int32} {x2 : Int32} {x3 : Int32} {c : Zc} {r : (Nat × Int32 × Int32 × Zc) ⊕ (Int32 × Zc)} (h : f_Mo_groupRows_114 nf x0 x1 x2 x3 c = some r) (k0 : ∀ a, r = .inl a → (fun a : Nat × Int32 × Int32 × Zc => Zz p l e (zRm 2 53 0 0) s m args below meth cd Q D cid B 5 0 0 a.2.2.2 71 [(0, .ref a.1), (1, .int a.2.1), (2, .int a.2.2.1)] []) a) (k1 : ∀ b, r = .inr b → (fun b : Int32 × Zc => Zz p l e (zRm 2 53 0 0) s m args below meth cd Q D cid B 5 0 0 b.2 165 [(1, .int b.1)] []) b) : Zz p l e (zRm 2 53 0 0) s m args below meth cd Q D cid B 5 0 0 c 114 [(0, .ref x0), (1, .int x1), (2, .int x2), (3, .int x3)] [] := by
  unfold f_Mo_groupRows_114 at h
  refine z_iconst (v := 0) X dd_Mo_groupRows_114 (by decide) ?_
  refine z_istore (lv' := [(4, .int 0), (0, .ref x0), (1, .int x1), (2, .int x2), (3, .int x3)]) X dd_Mo_groupRows_115 (by decide) rfl ?_
  refine z_sub [1, 2, 3, 4, 0] rfl ?_
  exact t_Mo_groupRows_117 X H h k0 k1
set_option maxRecDepth 100000 in
set_option maxHeartbeats 4000000 in
theorem t_Mo_groupRows_81  (X : zX p s m args cd D cid B bb_Mo_groupRows 5 rr_Mo zT) (H : zH s meth B n0 (some (.int)) "groupRows") {nf : Nat} {x0 : Nat} {x1 : Int32} {x2 : Int32} {x3 : Int32} {c : Zc} {r : (Nat × Int32 × Int32 × Zc) ⊕ (Int32 × Zc)} (h : f_Mo_groupRows_81 nf x0 x1 x2 x3 c = some r) (k0 : ∀ a, r = .inl a → (fun a : Nat × Int32 × Int32 × Zc => Zz p l e (zRm 2 53 0 0) s m args below meth cd Q D cid B 5 0 0 a.2.2.2 71 [(0, .ref a.1), (1, .int a.2.1), (2, .int a.2.2.1)] []) a) (k1 : ∀ b, r = .inr b → (fun b : Int32 × Zc => Zz p l e (zRm 2 53 0 0) s m args below meth cd Q D cid B 5 0 0 b.2 165 [(1, .int b.1)] []) b) : Zz p l e (zRm 2 53 0 0) s m args below meth cd Q D cid B 5 0 0 c 81 [(0, .ref x0), (1, .int x1), (2, .int x2), (3, .int x3)] [] := by
  unfold f_Mo_groupRows_81 at h
  obtain ⟨b, eb, h⟩ := zb h
  refine zlp_ok (P := fun a : Nat × Int32 × Int32 × Int32 × Zc => Zz p l e (zRm 2 53 0 0) s m args below meth cd _ D cid B 5 0 0 a.2.2.2.2 81 [(0, .ref a.1), (1, .int a.2.1), (2, .int a.2.2.1), (3, .int a.2.2.2.1)] []) (G := fun b : Nat × Int32 × Int32 × Int32 × Zc => Zz p l e (zRm 2 53 0 0) s m args below meth cd _ D cid B 5 0 0 b.2.2.2.2 114 [(0, .ref b.1), (1, .int b.2.1), (2, .int b.2.2.1), (3, .int b.2.2.2.1)] []) (fun a r ha k0 k1 => u_Mo_groupRows_81 X H ha k0 k1) nf _ b eb ?_
  exact t_Mo_groupRows_114 X H h k0 k1
set_option maxRecDepth 100000 in
set_option maxHeartbeats 4000000 in
theorem u_Mo_groupRows_71  (X : zX p s m args cd D cid B bb_Mo_groupRows 5 rr_Mo zT) (H : zH s meth B n0 (some (.int)) "groupRows") {nf : Nat} {x0 : Nat} {x1 : Int32} {x2 : Int32} {c : Zc} {r : (Nat × Int32 × Int32 × Zc) ⊕ (Int32 × Zc)} (h : g_Mo_groupRows_71 nf x0 x1 x2 c = some r) (k0 : ∀ a, r = .inl a → (fun a : Nat × Int32 × Int32 × Zc => Zz p l e (zRm 2 53 0 0) s m args below meth cd Q D cid B 5 0 0 a.2.2.2 71 [(0, .ref a.1), (1, .int a.2.1), (2, .int a.2.2.1)] []) a) (k1 : ∀ b, r = .inr b → (fun b : Int32 × Zc => Zz p l e (zRm 2 53 0 0) s m args below meth cd Q D cid B 5 0 0 b.2 165 [(1, .int b.1)] []) b) : Zz p l e (zRm 2 53 0 0) s m args below meth cd Q D cid B 5 0 0 c 71 [(0, .ref x0), (1, .int x1), (2, .int x2)] [] := by
  unfold g_Mo_groupRows_71 at h
  refine z_iload_n X dd_Mo_groupRows_71 rfl 2 rfl ?_
  refine z_aload_n X dd_Mo_groupRows_72 rfl 0 rfl ?_
  obtain ⟨v17, ev17, h⟩ := zb h
  refine z_get (j := 81) X dd_Mo_groupRows_73 kc_12 ki_12 (by decide) km_1602 (zgi_v ev17) ?_
  refine z_icmp_ge (tgt := 165) X dd_Mo_groupRows_76 (by decide) (fun q18 => ?_) (fun q18 => ?_)
  · rw [if_pos q18] at h
    refine z_sub [1] rfl ?_
    obtain rfl := Option.some.inj h
    exact k1 _ rfl
  · rw [if_neg q18] at h
    refine z_iload_n X dd_Mo_groupRows_79 rfl 2 rfl ?_
    refine z_istore_n (lv' := [(3, .int x2), (0, .ref x0), (1, .int x1), (2, .int x2)]) X dd_Mo_groupRows_80 rfl (by decide) rfl ?_
    refine z_sub [1, 2, 3, 0] rfl ?_
    exact t_Mo_groupRows_81 X H h k0 k1
set_option maxRecDepth 100000 in
set_option maxHeartbeats 4000000 in
theorem t_Mo_groupRows_71  (X : zX p s m args cd D cid B bb_Mo_groupRows 5 rr_Mo zT) (H : zH s meth B n0 (some (.int)) "groupRows") {nf : Nat} {x0 : Nat} {x1 : Int32} {x2 : Int32} {c : Zc} {res : Int32 × Zc} (h : f_Mo_groupRows_71 nf x0 x1 x2 c = some res) : Zz p l e (zRm 2 53 0 0) s m args below meth cd (MQ below (zQi D cid B res.1 res.2 n0 0) args s 0 0 (fun q => B ≤ q)) D cid B 5 0 0 c 71 [(0, .ref x0), (1, .int x1), (2, .int x2)] [] := by
  unfold f_Mo_groupRows_71 at h
  obtain ⟨b, eb, h⟩ := zb h
  refine zlp_ok (P := fun a : Nat × Int32 × Int32 × Zc => Zz p l e (zRm 2 53 0 0) s m args below meth cd _ D cid B 5 0 0 a.2.2.2 71 [(0, .ref a.1), (1, .int a.2.1), (2, .int a.2.2.1)] []) (G := fun b : Int32 × Zc => Zz p l e (zRm 2 53 0 0) s m args below meth cd _ D cid B 5 0 0 b.2 165 [(1, .int b.1)] []) (fun a r ha k0 k1 => u_Mo_groupRows_71 X H ha k0 k1) nf _ b eb ?_
  refine z_iload_n X dd_Mo_groupRows_165 rfl 0 rfl ?_
  obtain rfl := Option.some.inj h
  exact z_iret X H.1 H.2.1 H.2.2.1 dd_Mo_groupRows_166
set_option maxRecDepth 100000 in
set_option maxHeartbeats 4000000 in
theorem t_Mo_groupRows_7  (X : zX p s m args cd D cid B bb_Mo_groupRows 5 rr_Mo zT) (H : zH s meth B n0 (some (.int)) "groupRows") {nf : Nat} {x0 : Nat} {x1 : Int32} {c : Zc} {res : Int32 × Zc} (h : f_Mo_groupRows_7 nf x0 x1 c = some res) : Zz p l e (zRm 2 53 0 0) s m args below meth cd (MQ below (zQi D cid B res.1 res.2 n0 0) args s 0 0 (fun q => B ≤ q)) D cid B 5 0 0 c 7 [(0, .ref x0), (1, .int x1)] [] := by
  unfold f_Mo_groupRows_7 at h
  obtain ⟨b, eb, h⟩ := zb h
  refine zlp_ok (P := fun a : Nat × Int32 × Zc => Zz p l e (zRm 2 53 0 0) s m args below meth cd _ D cid B 5 0 0 a.2.2 7 [(0, .ref a.1), (1, .int a.2.1)] []) (G := fun b : Nat × Zc => Zz p l e (zRm 2 53 0 0) s m args below meth cd _ D cid B 5 0 0 b.2 63 [(0, .ref b.1)] []) (fun a r ha k0 k1 => u_Mo_groupRows_7 X H ha k0 k1) nf _ b eb ?_
  refine z_aload_n X dd_Mo_groupRows_63 rfl 0 rfl ?_
  obtain ⟨w16, ew16, h⟩ := zb h
  obtain ⟨q15, eq15, h⟩ := zb h
  refine z_callVv X [] rfl dd_Mo_groupRows_64 (c_Mo_sortRows l eq15) (cwV 0 X.1.2.2.2.2 (zg_V km_2147 km_2149 km_121 km_138 km_2150) rfl rfl rfl (by decide +kernel) ⟨Nat.le_of_ble_eq_true rfl, Nat.le_of_ble_eq_true rfl⟩) (zob_s ew16) kc_12 rfl (Nat.le_of_ble_eq_true rfl) ⟨Nat.le_of_ble_eq_true rfl, Nat.le_of_ble_eq_true rfl⟩ ?_
  refine z_iconst (v := 0) X dd_Mo_groupRows_67 (by decide) ?_
  refine z_istore_n (lv' := [(1, .int 0), (0, .ref b.1)]) X dd_Mo_groupRows_68 rfl (by decide) rfl ?_
  refine z_iconst (v := 0) X dd_Mo_groupRows_69 (by decide) ?_
  refine z_istore_n (lv' := [(2, .int 0), (1, .int 0), (0, .ref b.1)]) X dd_Mo_groupRows_70 rfl (by decide) rfl ?_
  refine z_sub [2, 1, 0] rfl ?_
  exact t_Mo_groupRows_71 X H h
set_option maxRecDepth 100000 in
set_option maxHeartbeats 4000000 in
theorem c_Mo_groupRows (l : Launch) {nf : Nat} {a0 : Nat} {c : Zc} {res : Int32 × Zc} (h : f_Mo_groupRows nf a0 c = some res) : zM l yy_Mo_groupRows ww_Mo_groupRows 2 53 0 0 [.ref a0] c (fun D cid B => zQi D cid B res.1 res.2 c.length 0) := by
  refine z_met (cc := bb_Mo_groupRows) (maxL := 5) (ret := (some (.int))) (by decide +kernel) rfl (Nat.le_of_ble_eq_true rfl) ?_
  intro p e s m args below meth cd D cid B X h1 h2 h3 h4
  have X : zX p s m args cd D cid B bb_Mo_groupRows 5 rr_Mo zT := X
  have H : zH s meth B c.length (some (.int)) "groupRows" := ⟨h1, h2, h4, h3⟩
  unfold f_Mo_groupRows at h
  show Zz p l e (zRm 2 53 0 0) s m args below meth cd _ D cid B 5 0 0 c 0 [(0, .ref a0)] []
  refine z_aload_n X dd_Mo_groupRows_0 rfl 0 rfl ?_
  refine z_iconst (v := 0) X dd_Mo_groupRows_1 (by decide) ?_
  obtain ⟨c1, ec1, h⟩ := zb h
  refine z_put (j := 87) X dd_Mo_groupRows_2 kc_12 ki_12 tt_Mo tk_Mo nn_Mo (by decide) km_1608 rfl (tk_Mo 87 (by decide)) rfl rfl ec1 ?_
  refine z_iconst (v := 0) X dd_Mo_groupRows_5 (by decide) ?_
  refine z_istore_n (lv' := [(1, .int 0), (0, .ref a0)]) X dd_Mo_groupRows_6 rfl (by decide) rfl ?_
  refine z_sub [1, 0] rfl ?_
  exact t_Mo_groupRows_7 X H h
end ZzM
