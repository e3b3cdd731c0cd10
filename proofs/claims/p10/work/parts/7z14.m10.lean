section ZzM
variable {p : Program} {l : Launch} {e : Env} {s : State} {m : MethodId} {args : Array Value} {below : List Frame} {meth : Method} {cd : Code} {Q : State → Prop} {D : va_G} {cid : Nat → ClassId} {B n0 : Nat}
theorem dd_Finder_measureFrom_0 : decode bb_Finder_measureFrom 0 = .ok (.aload_n 1, 1) := by decide +kernel
theorem dd_Finder_measureFrom_1 : decode bb_Finder_measureFrom 1 = .ok (.getfield 150, 3) := by decide +kernel
theorem dd_Finder_measureFrom_4 : decode bb_Finder_measureFrom 4 = .ok (.ldc2_w 154, 3) := by decide +kernel
theorem dd_Finder_measureFrom_7 : decode bb_Finder_measureFrom 7 = .ok (.land, 1) := by decide +kernel
theorem dd_Finder_measureFrom_8 : decode bb_Finder_measureFrom 8 = .ok (.lconst 0, 1) := by decide +kernel
theorem dd_Finder_measureFrom_9 : decode bb_Finder_measureFrom 9 = .ok (.lcmp, 1) := by decide +kernel
theorem dd_Finder_measureFrom_10 : decode bb_Finder_measureFrom 10 = .ok (.ifCond .eq 12, 3) := by decide +kernel
theorem dd_Finder_measureFrom_13 : decode bb_Finder_measureFrom 13 = .ok (.aload_n 1, 1) := by decide +kernel
theorem dd_Finder_measureFrom_14 : decode bb_Finder_measureFrom 14 = .ok (.iload_n 2, 1) := by decide +kernel
theorem dd_Finder_measureFrom_15 : decode bb_Finder_measureFrom 15 = .ok (.iconst 1, 1) := by decide +kernel
theorem dd_Finder_measureFrom_16 : decode bb_Finder_measureFrom 16 = .ok (.iload_n 2, 1) := by decide +kernel
theorem dd_Finder_measureFrom_17 : decode bb_Finder_measureFrom 17 = .ok (.ishl, 1) := by decide +kernel
theorem dd_Finder_measureFrom_18 : decode bb_Finder_measureFrom 18 = .ok (.iconst 0, 1) := by decide +kernel
theorem dd_Finder_measureFrom_19 : decode bb_Finder_measureFrom 19 = .ok (.invokevirtual 156, 3) := by decide +kernel
theorem dd_Finder_measureFrom_22 : decode bb_Finder_measureFrom 22 = .ok (.aload_n 0, 1) := by decide +kernel
theorem dd_Finder_measureFrom_23 : decode bb_Finder_measureFrom 23 = .ok (.aload_n 1, 1) := by decide +kernel
theorem dd_Finder_measureFrom_24 : decode bb_Finder_measureFrom 24 = .ok (.iload_n 2, 1) := by decide +kernel
theorem dd_Finder_measureFrom_25 : decode bb_Finder_measureFrom 25 = .ok (.invokevirtual 160, 3) := by decide +kernel
theorem dd_Finder_measureFrom_28 : decode bb_Finder_measureFrom 28 = .ok (.istore_n 3, 1) := by decide +kernel
theorem dd_Finder_measureFrom_29 : decode bb_Finder_measureFrom 29 = .ok (.iconst 1, 1) := by decide +kernel
theorem dd_Finder_measureFrom_30 : decode bb_Finder_measureFrom 30 = .ok (.aload_n 0, 1) := by decide +kernel
theorem dd_Finder_measureFrom_31 : decode bb_Finder_measureFrom 31 = .ok (.getfield 27, 3) := by decide +kernel
theorem dd_Finder_measureFrom_34 : decode bb_Finder_measureFrom 34 = .ok (.getfield 143, 3) := by decide +kernel
theorem dd_Finder_measureFrom_37 : decode bb_Finder_measureFrom 37 = .ok (.ishl, 1) := by decide +kernel
theorem dd_Finder_measureFrom_38 : decode bb_Finder_measureFrom 38 = .ok (.iconst 1, 1) := by decide +kernel
theorem dd_Finder_measureFrom_39 : decode bb_Finder_measureFrom 39 = .ok (.isub, 1) := by decide +kernel
theorem dd_Finder_measureFrom_40 : decode bb_Finder_measureFrom 40 = .ok (.istore 4, 2) := by decide +kernel
theorem dd_Finder_measureFrom_42 : decode bb_Finder_measureFrom 42 = .ok (.sipush 256, 3) := by decide +kernel
theorem dd_Finder_measureFrom_45 : decode bb_Finder_measureFrom 45 = .ok (.istore 5, 2) := by decide +kernel
theorem dd_Finder_measureFrom_47 : decode bb_Finder_measureFrom 47 = .ok (.iconst 1, 1) := by decide +kernel
theorem dd_Finder_measureFrom_48 : decode bb_Finder_measureFrom 48 = .ok (.istore 6, 2) := by decide +kernel
theorem dd_Finder_measureFrom_50 : decode bb_Finder_measureFrom 50 = .ok (.iload 6, 2) := by decide +kernel
theorem dd_Finder_measureFrom_52 : decode bb_Finder_measureFrom 52 = .ok (.iload 5, 2) := by decide +kernel
theorem dd_Finder_measureFrom_54 : decode bb_Finder_measureFrom 54 = .ok (.if_icmp .gt 89, 3) := by decide +kernel
theorem dd_Finder_measureFrom_57 : decode bb_Finder_measureFrom 57 = .ok (.iload_n 3, 1) := by decide +kernel
theorem dd_Finder_measureFrom_58 : decode bb_Finder_measureFrom 58 = .ok (.ifCond .eq 85, 3) := by decide +kernel
theorem dd_Finder_measureFrom_61 : decode bb_Finder_measureFrom 61 = .ok (.aload_n 1, 1) := by decide +kernel
theorem dd_Finder_measureFrom_62 : decode bb_Finder_measureFrom 62 = .ok (.getfield 164, 3) := by decide +kernel
theorem dd_Finder_measureFrom_65 : decode bb_Finder_measureFrom 65 = .ok (.iload_n 2, 1) := by decide +kernel
theorem dd_Finder_measureFrom_66 : decode bb_Finder_measureFrom 66 = .ok (.iaload, 1) := by decide +kernel
theorem dd_Finder_measureFrom_67 : decode bb_Finder_measureFrom 67 = .ok (.iload 4, 2) := by decide +kernel
theorem dd_Finder_measureFrom_69 : decode bb_Finder_measureFrom 69 = .ok (.if_icmp .eq 74, 3) := by decide +kernel
theorem dd_Finder_measureFrom_72 : decode bb_Finder_measureFrom 72 = .ok (.iconst 0, 1) := by decide +kernel
theorem dd_Finder_measureFrom_73 : decode bb_Finder_measureFrom 73 = .ok (.istore 7, 2) := by decide +kernel
theorem dd_Finder_measureFrom_75 : decode bb_Finder_measureFrom 75 = .ok (.iconst 0, 1) := by decide +kernel
theorem dd_Finder_measureFrom_76 : decode bb_Finder_measureFrom 76 = .ok (.istore 8, 2) := by decide +kernel
theorem dd_Finder_measureFrom_78 : decode bb_Finder_measureFrom 78 = .ok (.iload 8, 2) := by decide +kernel
theorem dd_Finder_measureFrom_80 : decode bb_Finder_measureFrom 80 = .ok (.aload_n 1, 1) := by decide +kernel
theorem dd_Finder_measureFrom_81 : decode bb_Finder_measureFrom 81 = .ok (.getfield 167, 3) := by decide +kernel
theorem dd_Finder_measureFrom_84 : decode bb_Finder_measureFrom 84 = .ok (.if_icmp .ge 38, 3) := by decide +kernel
theorem dd_Finder_measureFrom_87 : decode bb_Finder_measureFrom 87 = .ok (.aload_n 1, 1) := by decide +kernel
theorem dd_Finder_measureFrom_88 : decode bb_Finder_measureFrom 88 = .ok (.getfield 150, 3) := by decide +kernel
theorem dd_Finder_measureFrom_91 : decode bb_Finder_measureFrom 91 = .ok (.bipush 16, 2) := by decide +kernel
theorem dd_Finder_measureFrom_93 : decode bb_Finder_measureFrom 93 = .ok (.iload 8, 2) := by decide +kernel
theorem dd_Finder_measureFrom_95 : decode bb_Finder_measureFrom 95 = .ok (.iadd, 1) := by decide +kernel
theorem dd_Finder_measureFrom_96 : decode bb_Finder_measureFrom 96 = .ok (.lshr, 1) := by decide +kernel
theorem dd_Finder_measureFrom_97 : decode bb_Finder_measureFrom 97 = .ok (.lconst 1, 1) := by decide +kernel
theorem dd_Finder_measureFrom_98 : decode bb_Finder_measureFrom 98 = .ok (.land, 1) := by decide +kernel
theorem dd_Finder_measureFrom_99 : decode bb_Finder_measureFrom 99 = .ok (.lconst 0, 1) := by decide +kernel
theorem dd_Finder_measureFrom_100 : decode bb_Finder_measureFrom 100 = .ok (.lcmp, 1) := by decide +kernel
theorem dd_Finder_measureFrom_101 : decode bb_Finder_measureFrom 101 = .ok (.ifCond .eq 15, 3) := by decide +kernel
theorem dd_Finder_measureFrom_104 : decode bb_Finder_measureFrom 104 = .ok (.iload 7, 2) := by decide +kernel
theorem dd_Finder_measureFrom_106 : decode bb_Finder_measureFrom 106 = .ok (.aload_n 0, 1) := by decide +kernel
theorem dd_Finder_measureFrom_107 : decode bb_Finder_measureFrom 107 = .ok (.getfield 18, 3) := by decide +kernel
theorem dd_Finder_measureFrom_110 : decode bb_Finder_measureFrom 110 = .ok (.iload 8, 2) := by decide +kernel
theorem dd_Finder_measureFrom_112 : decode bb_Finder_measureFrom 112 = .ok (.iaload, 1) := by decide +kernel
theorem dd_Finder_measureFrom_113 : decode bb_Finder_measureFrom 113 = .ok (.ior, 1) := by decide +kernel
theorem dd_Finder_measureFrom_114 : decode bb_Finder_measureFrom 114 = .ok (.istore 7, 2) := by decide +kernel
theorem dd_Finder_measureFrom_116 : decode bb_Finder_measureFrom 116 = .ok (.iinc 8 1, 3) := by decide +kernel
theorem dd_Finder_measureFrom_119 : decode bb_Finder_measureFrom 119 = .ok (.goto (-41), 3) := by decide +kernel
theorem dd_Finder_measureFrom_122 : decode bb_Finder_measureFrom 122 = .ok (.aload_n 1, 1) := by decide +kernel
theorem dd_Finder_measureFrom_123 : decode bb_Finder_measureFrom 123 = .ok (.iload_n 2, 1) := by decide +kernel
theorem dd_Finder_measureFrom_124 : decode bb_Finder_measureFrom 124 = .ok (.iload 7, 2) := by decide +kernel
theorem dd_Finder_measureFrom_126 : decode bb_Finder_measureFrom 126 = .ok (.iload 6, 2) := by decide +kernel
theorem dd_Finder_measureFrom_128 : decode bb_Finder_measureFrom 128 = .ok (.invokevirtual 156, 3) := by decide +kernel
theorem dd_Finder_measureFrom_131 : decode bb_Finder_measureFrom 131 = .ok (.aload_n 0, 1) := by decide +kernel
theorem dd_Finder_measureFrom_132 : decode bb_Finder_measureFrom 132 = .ok (.aload_n 1, 1) := by decide +kernel
theorem dd_Finder_measureFrom_133 : decode bb_Finder_measureFrom 133 = .ok (.invokevirtual 170, 3) := by decide +kernel
theorem dd_Finder_measureFrom_136 : decode bb_Finder_measureFrom 136 = .ok (.istore_n 3, 1) := by decide +kernel
theorem dd_Finder_measureFrom_137 : decode bb_Finder_measureFrom 137 = .ok (.iinc 6 1, 3) := by decide +kernel
theorem dd_Finder_measureFrom_140 : decode bb_Finder_measureFrom 140 = .ok (.goto (-90), 3) := by decide +kernel
theorem dd_Finder_measureFrom_143 : decode bb_Finder_measureFrom 143 = .ok (.return_, 1) := by decide +kernel
set_option maxRecDepth 100000 in
set_option maxHeartbeats 4000000 in
theorem t_Finder_measureFrom_116  (X : zX p s m args cd D cid B bb_Finder_measureFrom 9 rr_Finder zT) (H : zH s meth B n0 none "measureFrom") {nf : Nat} {x0 : Nat} {x1 : Nat} {x2 : Int32} {x4 : Int32} {x5 : Int32} {x6 : Int32} {x7 : Int32} {x8 : Int32} {c : Zc} {r : (Nat × Nat × Int32 × Int32 × Int32 × Int32 × Int32 × Int32 × Zc) ⊕ (Nat × Nat × Int32 × Int32 × Int32 × Int32 × Int32 × Zc)} (h : f_Finder_measureFrom_116 nf x0 x1 x2 x4 x5 x6 x7 x8 c = some r) (k0 : ∀ a, r = .inl a → (fun a : Nat × Nat × Int32 × Int32 × Int32 × Int32 × Int32 × Int32 × Zc => Zz p l e (zRm 2 49 0 0) s m args below meth cd Q D cid B 9 0 0 a.2.2.2.2.2.2.2.2 78 [(0, .ref a.1), (1, .ref a.2.1), (2, .int a.2.2.1), (4, .int a.2.2.2.1), (5, .int a.2.2.2.2.1), (6, .int a.2.2.2.2.2.1), (7, .int a.2.2.2.2.2.2.1), (8, .int a.2.2.2.2.2.2.2.1)] []) a) (k1 : ∀ b, r = .inr b → (fun b : Nat × Nat × Int32 × Int32 × Int32 × Int32 × Int32 × Zc => Zz p l e (zRm 2 49 0 0) s m args below meth cd Q D cid B 9 0 0 b.2.2.2.2.2.2.2 122 [(0, .ref b.1), (1, .ref b.2.1), (2, .int b.2.2.1), (4, .int b.2.2.2.1), (5, .int b.2.2.2.2.1), (6, .int b.2.2.2.2.2.1), (7, .int b.2.2.2.2.2.2.1)] []) b) : Zz p l e (zRm 2 49 0 0) s m args below meth cd Q D cid B 9 0 0 c 116 [(0, .ref x0), (1, .ref x1), (2, .int x2), (4, .int x4), (5, .int x5), (6, .int x6), (7, .int x7), (8, .int x8)] [] := by
  unfold f_Finder_measureFrom_116 at h
  refine z_iinc (v := (x8 + 1)) (lv' := [(8, .int (x8 + 1)), (0, .ref x0), (1, .ref x1), (2, .int x2), (4, .int x4), (5, .int x5), (6, .int x6), (7, .int x7)]) X dd_Finder_measureFrom_116 7 rfl rfl (by decide) rfl ?_
  refine z_goto (tgt := 78) X dd_Finder_measureFrom_119 (by decide) ?_
  refine z_sub [1, 2, 3, 4, 5, 6, 7, 0] rfl ?_
  obtain rfl := Option.some.inj h
  exact k0 _ rfl
set_option maxRecDepth 100000 in
set_option maxHeartbeats 4000000 in
theorem u_Finder_measureFrom_78  (X : zX p s m args cd D cid B bb_Finder_measureFrom 9 rr_Finder zT) (H : zH s meth B n0 none "measureFrom") {nf : Nat} {x0 : Nat} {x1 : Nat} {x2 : Int32} {x4 : Int32} {x5 : Int32} {x6 : Int32} {x7 : Int32} {x8 : Int32} {c : Zc} {r : (Nat × Nat × Int32 × Int32 × Int32 × Int32 × Int32 × Int32 × Zc) ⊕ (Nat × Nat × Int32 × Int32 × Int32 × Int32 × Int32 × Zc)} (h : g_Finder_measureFrom_78 nf x0 x1 x2 x4 x5 x6 x7 x8 c = some r) (k0 : ∀ a, r = .inl a → (fun a : Nat × Nat × Int32 × Int32 × Int32 × Int32 × Int32 × Int32 × Zc => Zz p l e (zRm 2 49 0 0) s m args below meth cd Q D cid B 9 0 0 a.2.2.2.2.2.2.2.2 78 [(0, .ref a.1), (1, .ref a.2.1), (2, .int a.2.2.1), (4, .int a.2.2.2.1), (5, .int a.2.2.2.2.1), (6, .int a.2.2.2.2.2.1), (7, .int a.2.2.2.2.2.2.1), (8, .int a.2.2.2.2.2.2.2.1)] []) a) (k1 : ∀ b, r = .inr b → (fun b : Nat × Nat × Int32 × Int32 × Int32 × Int32 × Int32 × Zc => Zz p l e (zRm 2 49 0 0) s m args below meth cd Q D cid B 9 0 0 b.2.2.2.2.2.2.2 122 [(0, .ref b.1), (1, .ref b.2.1), (2, .int b.2.2.1), (4, .int b.2.2.2.1), (5, .int b.2.2.2.2.1), (6, .int b.2.2.2.2.2.1), (7, .int b.2.2.2.2.2.2.1)] []) b) : Zz p l e (zRm 2 49 0 0) s m args below meth cd Q D cid B 9 0 0 c 78 [(0, .ref x0), (1, .ref x1), (2, .int x2), (4, .int x4), (5, .int x5), (6, .int x6), (7, .int x7), (8, .int x8)] [] := by
  unfold g_Finder_measureFrom_78 at h
  refine z_iload X dd_Finder_measureFrom_78 7 rfl ?_
  refine z_aload_n X dd_Finder_measureFrom_80 rfl 1 rfl ?_
  obtain ⟨v12, ev12, h⟩ := zb h
  refine z_get (j := 5) X dd_Finder_measureFrom_81 kc_1 ki_1 (by decide) km_236 (zgi_v ev12) ?_
  refine z_icmp_ge (tgt := 122) X dd_Finder_measureFrom_84 (by decide) (fun q13 => ?_) (fun q13 => ?_)
  · rw [if_pos q13] at h
    refine z_sub [0, 1, 2, 3, 4, 5, 6] rfl ?_
    obtain rfl := Option.some.inj h
    exact k1 _ rfl
  · rw [if_neg q13] at h
    refine z_aload_n X dd_Finder_measureFrom_87 rfl 1 rfl ?_
    obtain ⟨v14, ev14, h⟩ := zb h
    refine z_get (j := 8) X dd_Finder_measureFrom_88 kc_1 ki_1 (by decide) km_243 (zgl_v ev14) ?_
    refine z_bipush (v := 16) X dd_Finder_measureFrom_91 (by decide) ?_
    refine z_iload X dd_Finder_measureFrom_93 7 rfl ?_
    refine z_iadd X dd_Finder_measureFrom_95 ?_
    refine z_lshr X dd_Finder_measureFrom_96 ?_
    refine z_lconst (v := 1) X dd_Finder_measureFrom_97 (by decide) ?_
    refine z_land X dd_Finder_measureFrom_98 ?_
    refine z_lconst (v := 0) X dd_Finder_measureFrom_99 (by decide) ?_
    refine z_lcmp X dd_Finder_measureFrom_100 ?_
    refine z_if_eq (tgt := 116) X dd_Finder_measureFrom_101 (by decide) (fun q15 => ?_) (fun q15 => ?_)
    · rw [if_pos q15] at h
      exact t_Finder_measureFrom_116 X H h k0 k1
    · rw [if_neg q15] at h
      refine z_iload X dd_Finder_measureFrom_104 6 rfl ?_
      refine z_aload_n X dd_Finder_measureFrom_106 rfl 0 rfl ?_
      obtain ⟨v16, ev16, h⟩ := zb h
      refine z_get (j := 5) X dd_Finder_measureFrom_107 kc_7 ki_7 (by decide) km_590 (zgr_v ev16) ?_
      refine z_iload X dd_Finder_measureFrom_110 7 rfl ?_
      obtain ⟨v17, ev17, h⟩ := zb h
      refine z_iaload X dd_Finder_measureFrom_112 rfl ev17 ?_
      refine z_ior X dd_Finder_measureFrom_113 ?_
      refine z_istore (lv' := [(7, .int (x7 ||| v17)), (0, .ref x0), (1, .ref x1), (2, .int x2), (4, .int x4), (5, .int x5), (6, .int x6), (8, .int x8)]) X dd_Finder_measureFrom_114 (by decide) rfl ?_
      refine z_sub [1, 2, 3, 4, 5, 6, 0, 7] rfl ?_
      exact t_Finder_measureFrom_116 X H h k0 k1
set_option maxRecDepth 100000 in
set_option maxHeartbeats 4000000 in
theorem t_Finder_measureFrom_78  (X : zX p s m args cd D cid B bb_Finder_measureFrom 9 rr_Finder zT) (H : zH s meth B n0 none "measureFrom") {nf : Nat} {x0 : Nat} {x1 : Nat} {x2 : Int32} {x4 : Int32} {x5 : Int32} {x6 : Int32} {x7 : Int32} {x8 : Int32} {c : Zc} {r : (Nat × Nat × Int32 × Int32 × Int32 × Int32 × Int32 × Zc) ⊕ (Zc)} (h : f_Finder_measureFrom_78 nf x0 x1 x2 x4 x5 x6 x7 x8 c = some r) (k0 : ∀ a, r = .inl a → (fun a : Nat × Nat × Int32 × Int32 × Int32 × Int32 × Int32 × Zc => Zz p l e (zRm 2 49 0 0) s m args below meth cd Q D cid B 9 0 0 a.2.2.2.2.2.2.2 50 [(0, .ref a.1), (1, .ref a.2.1), (2, .int a.2.2.1), (3, .int a.2.2.2.1), (4, .int a.2.2.2.2.1), (5, .int a.2.2.2.2.2.1), (6, .int a.2.2.2.2.2.2.1)] []) a) (k1 : ∀ b, r = .inr b → (fun b : Zc => Zz p l e (zRm 2 49 0 0) s m args below meth cd Q D cid B 9 0 0 b 143 [] []) b) : Zz p l e (zRm 2 49 0 0) s m args below meth cd Q D cid B 9 0 0 c 78 [(0, .ref x0), (1, .ref x1), (2, .int x2), (4, .int x4), (5, .int x5), (6, .int x6), (7, .int x7), (8, .int x8)] [] := by
  unfold f_Finder_measureFrom_78 at h
  obtain ⟨b, eb, h⟩ := zb h
  refine zlp_ok (P := fun a : Nat × Nat × Int32 × Int32 × Int32 × Int32 × Int32 × Int32 × Zc => Zz p l e (zRm 2 49 0 0) s m args below meth cd _ D cid B 9 0 0 a.2.2.2.2.2.2.2.2 78 [(0, .ref a.1), (1, .ref a.2.1), (2, .int a.2.2.1), (4, .int a.2.2.2.1), (5, .int a.2.2.2.2.1), (6, .int a.2.2.2.2.2.1), (7, .int a.2.2.2.2.2.2.1), (8, .int a.2.2.2.2.2.2.2.1)] []) (G := fun b : Nat × Nat × Int32 × Int32 × Int32 × Int32 × Int32 × Zc => Zz p l e (zRm 2 49 0 0) s m args below meth cd _ D cid B 9 0 0 b.2.2.2.2.2.2.2 122 [(0, .ref b.1), (1, .ref b.2.1), (2, .int b.2.2.1), (4, .int b.2.2.2.1), (5, .int b.2.2.2.2.1), (6, .int b.2.2.2.2.2.1), (7, .int b.2.2.2.2.2.2.1)] []) (fun a r ha k0 k1 => u_Finder_measureFrom_78 X H ha k0 k1) nf _ b eb ?_
  refine z_aload_n X dd_Finder_measureFrom_122 rfl 1 rfl ?_
  refine z_iload_n X dd_Finder_measureFrom_123 rfl 2 rfl ?_
  refine z_iload X dd_Finder_measureFrom_124 6 rfl ?_
  refine z_iload X dd_Finder_measureFrom_126 5 rfl ?_
  obtain ⟨w19, ew19, h⟩ := zb h
  obtain ⟨q18, eq18, h⟩ := zb h
  refine z_callVv X [.int b.2.2.1, .int b.2.2.2.2.2.2.1, .int b.2.2.2.2.2.1] rfl dd_Finder_measureFrom_128 (c_Way_arrive l eq18) (cwV 3 X.1.2.2.2.2 (zg_V km_1307 km_1308 km_1309 km_129 km_1310) rfl rfl rfl (by decide +kernel) ⟨Nat.le_of_ble_eq_true rfl, Nat.le_of_ble_eq_true rfl⟩) (zob_s ew19) kc_1 rfl (Nat.le_of_ble_eq_true rfl) ⟨Nat.le_of_ble_eq_true rfl, Nat.le_of_ble_eq_true rfl⟩ ?_
  refine z_aload_n X dd_Finder_measureFrom_131 rfl 0 rfl ?_
  refine z_aload_n X dd_Finder_measureFrom_132 rfl 1 rfl ?_
  obtain ⟨w21, ew21, h⟩ := zb h
  obtain ⟨q20, eq20, h⟩ := zb h
  refine z_callVi X [.ref b.2.1] rfl dd_Finder_measureFrom_133 (c_Finder_goOn l eq20) (cwV 1 X.1.2.2.2.2 (zg_V km_1315 km_1317 km_49 km_133 km_1318) rfl rfl rfl (by decide +kernel) ⟨Nat.le_of_ble_eq_true rfl, Nat.le_of_ble_eq_true rfl⟩) (zob_s ew21) kc_7 rfl (Nat.le_of_ble_eq_true rfl) ⟨Nat.le_of_ble_eq_true rfl, Nat.le_of_ble_eq_true rfl⟩ ?_
  refine z_istore_n (lv' := [(3, .int q20.1), (0, .ref b.1), (1, .ref b.2.1), (2, .int b.2.2.1), (4, .int b.2.2.2.1), (5, .int b.2.2.2.2.1), (6, .int b.2.2.2.2.2.1), (7, .int b.2.2.2.2.2.2.1)]) X dd_Finder_measureFrom_136 rfl (by decide) rfl ?_
  refine z_iinc (v := (b.2.2.2.2.2.1 + 1)) (lv' := [(6, .int (b.2.2.2.2.2.1 + 1)), (3, .int q20.1), (0, .ref b.1), (1, .ref b.2.1), (2, .int b.2.2.1), (4, .int b.2.2.2.1), (5, .int b.2.2.2.2.1), (7, .int b.2.2.2.2.2.2.1)]) X dd_Finder_measureFrom_137 6 rfl rfl (by decide) rfl ?_
  refine z_goto (tgt := 50) X dd_Finder_measureFrom_140 (by decide) ?_
  refine z_sub [2, 3, 4, 1, 5, 6, 0] rfl ?_
  obtain rfl := Option.some.inj h
  exact k0 _ rfl
set_option maxRecDepth 100000 in
set_option maxHeartbeats 4000000 in
theorem u_Finder_measureFrom_50  (X : zX p s m args cd D cid B bb_Finder_measureFrom 9 rr_Finder zT) (H : zH s meth B n0 none "measureFrom") {nf : Nat} {x0 : Nat} {x1 : Nat} {x2 : Int32} {x3 : Int32} {x4 : Int32} {x5 : Int32} {x6 : Int32} {c : Zc} {r : (Nat × Nat × Int32 × Int32 × Int32 × Int32 × Int32 × Zc) ⊕ (Zc)} (h : g_Finder_measureFrom_50 nf x0 x1 x2 x3 x4 x5 x6 c = some r) (k0 : ∀ a, r = .inl a → (fun a : Nat × Nat × Int32 × Int32 × Int32 × Int32 × Int32 × Zc => Zz p l e (zRm 2 49 0 0) s m args below meth cd Q D cid B 9 0 0 a.2.2.2.2.2.2.2 50 [(0, .ref a.1), (1, .ref a.2.1), (2, .int a.2.2.1), (3, .int a.2.2.2.1), (4, .int a.2.2.2.2.1), (5, .int a.2.2.2.2.2.1), (6, .int a.2.2.2.2.2.2.1)] []) a) (k1 : ∀ b, r = .inr b → (fun b : Zc => Zz p l e (zRm 2 49 0 0) s m args below meth cd Q D cid B 9 0 0 b 143 [] []) b) : Zz p l e (zRm 2 49 0 0) s m args below meth cd Q D cid B 9 0 0 c 50 [(0, .ref x0), (1, .ref x1), (2, .int x2), (3, .int x3), (4, .int x4), (5, .int x5), (6, .int x6)] [] := by
  unfold g_Finder_measureFrom_50 at h
  refine z_iload X dd_Finder_measureFrom_50 6 rfl ?_
  refine z_iload X dd_Finder_measureFrom_52 5 rfl ?_
  refine z_icmp_gt (tgt := 143) X dd_Finder_measureFrom_54 (by decide) (fun q7 => ?_) (fun q7 => ?_)
  · rw [if_pos q7] at h
    refine z_sub [] rfl ?_
    obtain rfl := Option.some.inj h
    exact k1 _ rfl
  · rw [if_neg q7] at h
    refine z_iload_n X dd_Finder_measureFrom_57 rfl 3 rfl ?_
    refine z_if_eq (tgt := 143) X dd_Finder_measureFrom_58 (by decide) (fun q8 => ?_) (fun q8 => ?_)
    · rw [if_pos q8] at h
      refine z_sub [] rfl ?_
      obtain rfl := Option.some.inj h
      exact k1 _ rfl
    · rw [if_neg q8] at h
      refine z_aload_n X dd_Finder_measureFrom_61 rfl 1 rfl ?_
      obtain ⟨v9, ev9, h⟩ := zb h
      refine z_get (j := 14) X dd_Finder_measureFrom_62 kc_1 ki_1 (by decide) km_252 (zgr_v ev9) ?_
      refine z_iload_n X dd_Finder_measureFrom_65 rfl 2 rfl ?_
      obtain ⟨v10, ev10, h⟩ := zb h
      refine z_iaload X dd_Finder_measureFrom_66 rfl ev10 ?_
      refine z_iload X dd_Finder_measureFrom_67 4 rfl ?_
      refine z_icmp_eq (tgt := 143) X dd_Finder_measureFrom_69 (by decide) (fun q11 => ?_) (fun q11 => ?_)
      · rw [if_pos q11] at h
        refine z_sub [] rfl ?_
        obtain rfl := Option.some.inj h
        exact k1 _ rfl
      · rw [if_neg q11] at h
        refine z_iconst (v := 0) X dd_Finder_measureFrom_72 (by decide) ?_
        refine z_istore (lv' := [(7, .int 0), (0, .ref x0), (1, .ref x1), (2, .int x2), (3, .int x3), (4, .int x4), (5, .int x5), (6, .int x6)]) X dd_Finder_measureFrom_73 (by decide) rfl ?_
        refine z_iconst (v := 0) X dd_Finder_measureFrom_75 (by decide) ?_
        refine z_istore (lv' := [(8, .int 0), (7, .int 0), (0, .ref x0), (1, .ref x1), (2, .int x2), (3, .int x3), (4, .int x4), (5, .int x5), (6, .int x6)]) X dd_Finder_measureFrom_76 (by decide) rfl ?_
        refine z_sub [2, 3, 4, 6, 7, 8, 1, 0] rfl ?_
        exact t_Finder_measureFrom_78 X H h k0 k1
set_option maxRecDepth 100000 in
set_option maxHeartbeats 4000000 in
theorem t_Finder_measureFrom_143  (X : zX p s m args cd D cid B bb_Finder_measureFrom 9 rr_Finder zT) (H : zH s meth B n0 none "measureFrom") {nf : Nat}  {c : Zc} {res : Zc} (h : f_Finder_measureFrom_143 nf  c = some res) : Zz p l e (zRm 2 49 0 0) s m args below meth cd (MQ below (zQv D cid B res n0 0) args s 0 0 (fun q => B ≤ q)) D cid B 9 0 0 c 143 [] [] := by
  unfold f_Finder_measureFrom_143 at h
  obtain rfl := Option.some.inj h
  exact z_vret X H.1 H.2.1 H.2.2.1 dd_Finder_measureFrom_143
set_option maxRecDepth 100000 in
set_option maxHeartbeats 4000000 in
theorem t_Finder_measureFrom_50  (X : zX p s m args cd D cid B bb_Finder_measureFrom 9 rr_Finder zT) (H : zH s meth B n0 none "measureFrom") {nf : Nat} {x0 : Nat} {x1 : Nat} {x2 : Int32} {x3 : Int32} {x4 : Int32} {x5 : Int32} {x6 : Int32} {c : Zc} {res : Zc} (h : f_Finder_measureFrom_50 nf x0 x1 x2 x3 x4 x5 x6 c = some res) : Zz p l e (zRm 2 49 0 0) s m args below meth cd (MQ below (zQv D cid B res n0 0) args s 0 0 (fun q => B ≤ q)) D cid B 9 0 0 c 50 [(0, .ref x0), (1, .ref x1), (2, .int x2), (3, .int x3), (4, .int x4), (5, .int x5), (6, .int x6)] [] := by
  unfold f_Finder_measureFrom_50 at h
  obtain ⟨b, eb, h⟩ := zb h
  refine zlp_ok (P := fun a : Nat × Nat × Int32 × Int32 × Int32 × Int32 × Int32 × Zc => Zz p l e (zRm 2 49 0 0) s m args below meth cd _ D cid B 9 0 0 a.2.2.2.2.2.2.2 50 [(0, .ref a.1), (1, .ref a.2.1), (2, .int a.2.2.1), (3, .int a.2.2.2.1), (4, .int a.2.2.2.2.1), (5, .int a.2.2.2.2.2.1), (6, .int a.2.2.2.2.2.2.1)] []) (G := fun b : Zc => Zz p l e (zRm 2 49 0 0) s m args below meth cd _ D cid B 9 0 0 b 143 [] []) (fun a r ha k0 k1 => u_Finder_measureFrom_50 X H ha k0 k1) nf _ b eb ?_
  exact t_Finder_measureFrom_143 X H h
set_option maxRecDepth 100000 in
set_option maxHeartbeats 4000000 in
theorem t_Finder_measureFrom_22  (X : zX p s m args cd D cid B bb_Finder_measureFrom 9 rr_Finder zT) (H : zH s meth B n0 none "measureFrom") {nf : Nat} {x0 : Nat} {x1 : Nat} {x2 : Int32} {c : Zc} {res : Zc} (h : f_Finder_measureFrom_22 nf x0 x1 x2 c = some res) : Zz p l e (zRm 2 49 0 0) s m args below meth cd (MQ below (zQv D cid B res n0 0) args s 0 0 (fun q => B ≤ q)) D cid B 9 0 0 c 22 [(0, .ref x0), (1, .ref x1), (2, .int x2)] [] := by
  unfold f_Finder_measureFrom_22 at h
  refine z_aload_n X dd_Finder_measureFrom_22 rfl 0 rfl ?_
  refine z_aload_n X dd_Finder_measureFrom_23 rfl 1 rfl ?_
  refine z_iload_n X dd_Finder_measureFrom_24 rfl 2 rfl ?_
  obtain ⟨w4, ew4, h⟩ := zb h
  obtain ⟨q3, eq3, h⟩ := zb h
  refine z_callVi X [.ref x1, .int x2] rfl dd_Finder_measureFrom_25 (c_Finder_goFirst l eq3) (cwV 2 X.1.2.2.2.2 (zg_V km_1311 km_1313 km_48 km_133 km_1314) rfl rfl rfl (by decide +kernel) ⟨Nat.le_of_ble_eq_true rfl, Nat.le_of_ble_eq_true rfl⟩) (zob_s ew4) kc_7 rfl (Nat.le_of_ble_eq_true rfl) ⟨Nat.le_of_ble_eq_true rfl, Nat.le_of_ble_eq_true rfl⟩ ?_
  refine z_istore_n (lv' := [(3, .int q3.1), (0, .ref x0), (1, .ref x1), (2, .int x2)]) X dd_Finder_measureFrom_28 rfl (by decide) rfl ?_
  refine z_iconst (v := 1) X dd_Finder_measureFrom_29 (by decide) ?_
  refine z_aload_n X dd_Finder_measureFrom_30 rfl 1 rfl ?_
  obtain ⟨v5, ev5, h⟩ := zb h
  refine z_get (j := 1) X dd_Finder_measureFrom_31 kc_7 ki_7 (by decide) km_586 (zgr_v ev5) ?_
  obtain ⟨v6, ev6, h⟩ := zb h
  refine z_get (j := 7) X dd_Finder_measureFrom_34 kc_0 ki_0 (by decide) km_176 (zgi_v ev6) ?_
  refine z_ishl X dd_Finder_measureFrom_37 ?_
  refine z_iconst (v := 1) X dd_Finder_measureFrom_38 (by decide) ?_
  refine z_isub X dd_Finder_measureFrom_39 ?_
  refine z_istore (lv' := [(4, .int ((1 <<< (v6 &&& 31)) - 1)), (3, .int q3.1), (0, .ref x0), (1, .ref x1), (2, .int x2)]) X dd_Finder_measureFrom_40 (by decide) rfl ?_
  refine z_sipush (v := 256) X dd_Finder_measureFrom_42 (by decide) ?_
  refine z_istore (lv' := [(5, .int 256), (4, .int ((1 <<< (v6 &&& 31)) - 1)), (3, .int q3.1), (0, .ref x0), (1, .ref x1), (2, .int x2)]) X dd_Finder_measureFrom_45 (by decide) rfl ?_
  refine z_iconst (v := 1) X dd_Finder_measureFrom_47 (by decide) ?_
  refine z_istore (lv' := [(6, .int 1), (5, .int 256), (4, .int ((1 <<< (v6 &&& 31)) - 1)), (3, .int q3.1), (0, .ref x0), (1, .ref x1), (2, .int x2)]) X dd_Finder_measureFrom_48 (by decide) rfl ?_
  refine z_sub [4, 5, 6, 3, 2, 1, 0] rfl ?_
  exact t_Finder_measureFrom_50 X H h
set_option maxRecDepth 100000 in
set_option maxHeartbeats 4000000 in
theorem c_Finder_measureFrom (l : Launch) {nf : Nat} {a0 : Nat} {a1 : Nat} {a2 : Int32} {c : Zc} {res : Zc} (h : f_Finder_measureFrom nf a0 a1 a2 c = some res) : zM l yy_Finder_measureFrom ww_Finder_measureFrom 2 49 0 0 [.ref a0, .ref a1, .int a2] c (fun D cid B => zQv D cid B res c.length 0) := by
  refine z_met (cc := bb_Finder_measureFrom) (maxL := 9) (ret := none) (by decide +kernel) rfl (Nat.le_of_ble_eq_true rfl) ?_
  intro p e s m args below meth cd D cid B X h1 h2 h3 h4
  have X : zX p s m args cd D cid B bb_Finder_measureFrom 9 rr_Finder zT := X
  have H : zH s meth B c.length none "measureFrom" := ⟨h1, h2, h4, h3⟩
  unfold f_Finder_measureFrom at h
  show Zz p l e (zRm 2 49 0 0) s m args below meth cd _ D cid B 9 0 0 c 0 [(0, .ref a0), (1, .ref a1), (2, .int a2)] []
  refine z_aload_n X dd_Finder_measureFrom_0 rfl 1 rfl ?_
  obtain ⟨v1, ev1, h⟩ := zb h
  refine z_get (j := 8) X dd_Finder_measureFrom_1 kc_1 ki_1 (by decide) km_243 (zgl_v ev1) ?_
  refine z_ldc2 (v := 4294967296) X dd_Finder_measureFrom_4 km_1306 ?_
  refine z_land X dd_Finder_measureFrom_7 ?_
  refine z_lconst (v := 0) X dd_Finder_measureFrom_8 (by decide) ?_
  refine z_lcmp X dd_Finder_measureFrom_9 ?_
  refine z_if_eq (tgt := 22) X dd_Finder_measureFrom_10 (by decide) (fun q2 => ?_) (fun q2 => ?_)
  · rw [if_pos q2] at h
    exact t_Finder_measureFrom_22 X H h
  · rw [if_neg q2] at h
    refine z_aload_n X dd_Finder_measureFrom_13 rfl 1 rfl ?_
    refine z_iload_n X dd_Finder_measureFrom_14 rfl 2 rfl ?_
    refine z_iconst (v := 1) X dd_Finder_measureFrom_15 (by decide) ?_
    refine z_iload_n X dd_Finder_measureFrom_16 rfl 2 rfl ?_
    refine z_ishl X dd_Finder_measureFrom_17 ?_
    refine z_iconst (v := 0) X dd_Finder_measureFrom_18 (by decide) ?_
    obtain ⟨w23, ew23, h⟩ := zb h
    obtain ⟨q22, eq22, h⟩ := zb h
    refine z_callVv X [.int a2, .int (1 <<< (a2 &&& 31)), .int 0] rfl dd_Finder_measureFrom_19 (c_Way_arrive l eq22) (cwV 3 X.1.2.2.2.2 (zg_V km_1307 km_1308 km_1309 km_129 km_1310) rfl rfl rfl (by decide +kernel) ⟨Nat.le_of_ble_eq_true rfl, Nat.le_of_ble_eq_true rfl⟩) (zob_s ew23) kc_1 rfl (Nat.le_of_ble_eq_true rfl) ⟨Nat.le_of_ble_eq_true rfl, Nat.le_of_ble_eq_true rfl⟩ ?_
    exact t_Finder_measureFrom_22 X H h
theorem dd_Finder_bringUpToDate_0 : decode bb_Finder_bringUpToDate 0 = .ok (.aload_n 1, 1) := by decide +kernel
theorem dd_Finder_bringUpToDate_1 : decode bb_Finder_bringUpToDate 1 = .ok (.getfield 134, 3) := by decide +kernel
theorem dd_Finder_bringUpToDate_4 : decode bb_Finder_bringUpToDate 4 = .ok (.aload_n 0, 1) := by decide +kernel
theorem dd_Finder_bringUpToDate_5 : decode bb_Finder_bringUpToDate 5 = .ok (.getfield 27, 3) := by decide +kernel
theorem dd_Finder_bringUpToDate_8 : decode bb_Finder_bringUpToDate 8 = .ok (.getfield 137, 3) := by decide +kernel
theorem dd_Finder_bringUpToDate_11 : decode bb_Finder_bringUpToDate 11 = .ok (.if_icmp .ne 4, 3) := by decide +kernel
theorem dd_Finder_bringUpToDate_14 : decode bb_Finder_bringUpToDate 14 = .ok (.return_, 1) := by decide +kernel
theorem dd_Finder_bringUpToDate_15 : decode bb_Finder_bringUpToDate 15 = .ok (.aload_n 1, 1) := by decide +kernel
theorem dd_Finder_bringUpToDate_16 : decode bb_Finder_bringUpToDate 16 = .ok (.aload_n 0, 1) := by decide +kernel
theorem dd_Finder_bringUpToDate_17 : decode bb_Finder_bringUpToDate 17 = .ok (.getfield 27, 3) := by decide +kernel
theorem dd_Finder_bringUpToDate_20 : decode bb_Finder_bringUpToDate 20 = .ok (.getfield 137, 3) := by decide +kernel
theorem dd_Finder_bringUpToDate_23 : decode bb_Finder_bringUpToDate 23 = .ok (.putfield 134, 3) := by decide +kernel
theorem dd_Finder_bringUpToDate_26 : decode bb_Finder_bringUpToDate 26 = .ok (.aload_n 1, 1) := by decide +kernel
theorem dd_Finder_bringUpToDate_27 : decode bb_Finder_bringUpToDate 27 = .ok (.invokevirtual 140, 3) := by decide +kernel
theorem dd_Finder_bringUpToDate_30 : decode bb_Finder_bringUpToDate 30 = .ok (.iconst 0, 1) := by decide +kernel
theorem dd_Finder_bringUpToDate_31 : decode bb_Finder_bringUpToDate 31 = .ok (.istore_n 2, 1) := by decide +kernel
theorem dd_Finder_bringUpToDate_32 : decode bb_Finder_bringUpToDate 32 = .ok (.iload_n 2, 1) := by decide +kernel
theorem dd_Finder_bringUpToDate_33 : decode bb_Finder_bringUpToDate 33 = .ok (.aload_n 0, 1) := by decide +kernel
theorem dd_Finder_bringUpToDate_34 : decode bb_Finder_bringUpToDate 34 = .ok (.getfield 27, 3) := by decide +kernel
theorem dd_Finder_bringUpToDate_37 : decode bb_Finder_bringUpToDate 37 = .ok (.getfield 143, 3) := by decide +kernel
theorem dd_Finder_bringUpToDate_40 : decode bb_Finder_bringUpToDate 40 = .ok (.if_icmp .ge 15, 3) := by decide +kernel
theorem dd_Finder_bringUpToDate_43 : decode bb_Finder_bringUpToDate 43 = .ok (.aload_n 0, 1) := by decide +kernel
theorem dd_Finder_bringUpToDate_44 : decode bb_Finder_bringUpToDate 44 = .ok (.aload_n 1, 1) := by decide +kernel
theorem dd_Finder_bringUpToDate_45 : decode bb_Finder_bringUpToDate 45 = .ok (.iload_n 2, 1) := by decide +kernel
theorem dd_Finder_bringUpToDate_46 : decode bb_Finder_bringUpToDate 46 = .ok (.invokevirtual 146, 3) := by decide +kernel
theorem dd_Finder_bringUpToDate_49 : decode bb_Finder_bringUpToDate 49 = .ok (.iinc 2 1, 3) := by decide +kernel
theorem dd_Finder_bringUpToDate_52 : decode bb_Finder_bringUpToDate 52 = .ok (.goto (-20), 3) := by decide +kernel
theorem dd_Finder_bringUpToDate_55 : decode bb_Finder_bringUpToDate 55 = .ok (.return_, 1) := by decide +kernel
set_option maxRecDepth 100000 in
set_option maxHeartbeats 4000000 in
theorem u_Finder_bringUpToDate_32  (X : zX p s m args cd D cid B bb_Finder_bringUpToDate 3 rr_Finder zT) (H : zH s meth B n0 none "bringUpToDate") {nf : Nat} {x0 : Nat} {x1 : Nat} {x2 : Int32} {c : Zc} {r : (Nat × Nat × Int32 × Zc) ⊕ (Zc)} (h : g_Finder_bringUpToDate_32 nf x0 x1 x2 c = some r) (k0 : ∀ a, r = .inl a → (fun a : Nat × Nat × Int32 × Zc => Zz p l e (zRm 3 77 0 0) s m args below meth cd Q D cid B 3 0 0 a.2.2.2 32 [(0, .ref a.1), (1, .ref a.2.1), (2, .int a.2.2.1)] []) a) (k1 : ∀ b, r = .inr b → (fun b : Zc => Zz p l e (zRm 3 77 0 0) s m args below meth cd Q D cid B 3 0 0 b 55 [] []) b) : Zz p l e (zRm 3 77 0 0) s m args below meth cd Q D cid B 3 0 0 c 32 [(0, .ref x0), (1, .ref x1), (2, .int x2)] [] := by
  unfold g_Finder_bringUpToDate_32 at h
  refine z_iload_n X dd_Finder_bringUpToDate_32 rfl 2 rfl ?_
  refine z_aload_n X dd_Finder_bringUpToDate_33 rfl 0 rfl ?_
  obtain ⟨v10, ev10, h⟩ := zb h
  refine z_get (j := 1) X dd_Finder_bringUpToDate_34 kc_7 ki_7 (by decide) km_586 (zgr_v ev10) ?_
  obtain ⟨v11, ev11, h⟩ := zb h
  refine z_get (j := 7) X dd_Finder_bringUpToDate_37 kc_0 ki_0 (by decide) km_176 (zgi_v ev11) ?_
  refine z_icmp_ge (tgt := 55) X dd_Finder_bringUpToDate_40 (by decide) (fun q12 => ?_) (fun q12 => ?_)
  · rw [if_pos q12] at h
    refine z_sub [] rfl ?_
    obtain rfl := Option.some.inj h
    exact k1 _ rfl
  · rw [if_neg q12] at h
    refine z_aload_n X dd_Finder_bringUpToDate_43 rfl 0 rfl ?_
    refine z_aload_n X dd_Finder_bringUpToDate_44 rfl 1 rfl ?_
    refine z_iload_n X dd_Finder_bringUpToDate_45 rfl 2 rfl ?_
    obtain ⟨w14, ew14, h⟩ := zb h
    obtain ⟨q13, eq13, h⟩ := zb h
    refine z_callVv X [.ref x1, .int x2] rfl dd_Finder_bringUpToDate_46 (c_Finder_measureFrom l eq13) (cwV 2 X.1.2.2.2.2 (zg_V km_1302 km_1304 km_47 km_133 km_1305) rfl rfl rfl (by decide +kernel) ⟨Nat.le_of_ble_eq_true rfl, Nat.le_of_ble_eq_true rfl⟩) (zob_s ew14) kc_7 rfl (Nat.le_of_ble_eq_true rfl) ⟨Nat.le_of_ble_eq_true rfl, Nat.le_of_ble_eq_true rfl⟩ ?_
    refine z_iinc (v := (x2 + 1)) (lv' := [(2, .int (x2 + 1)), (0, .ref x0), (1, .ref x1)]) X dd_Finder_bringUpToDate_49 2 rfl rfl (by decide) rfl ?_
    refine z_goto (tgt := 32) X dd_Finder_bringUpToDate_52 (by decide) ?_
    refine z_sub [1, 2, 0] rfl ?_
    obtain rfl := Option.some.inj h
    exact k0 _ rfl
set_option maxRecDepth 100000 in
set_option maxHeartbeats 4000000 in
theorem t_Finder_bringUpToDate_32  (X : zX p s m args cd D cid B bb_Finder_bringUpToDate 3 rr_Finder zT) (H : zH s meth B n0 none "bringUpToDate") {nf : Nat} {x0 : Nat} {x1 : Nat} {x2 : Int32} {c : Zc} {res : Zc} (h : f_Finder_bringUpToDate_32 nf x0 x1 x2 c = some res) : Zz p l e (zRm 3 77 0 0) s m args below meth cd (MQ below (zQv D cid B res n0 0) args s 0 0 (fun q => B ≤ q)) D cid B 3 0 0 c 32 [(0, .ref x0), (1, .ref x1), (2, .int x2)] [] := by
  unfold f_Finder_bringUpToDate_32 at h
  obtain ⟨b, eb, h⟩ := zb h
  refine zlp_ok (P := fun a : Nat × Nat × Int32 × Zc => Zz p l e (zRm 3 77 0 0) s m args below meth cd _ D cid B 3 0 0 a.2.2.2 32 [(0, .ref a.1), (1, .ref a.2.1), (2, .int a.2.2.1)] []) (G := fun b : Zc => Zz p l e (zRm 3 77 0 0) s m args below meth cd _ D cid B 3 0 0 b 55 [] []) (fun a r ha k0 k1 => u_Finder_bringUpToDate_32 X H ha k0 k1) nf _ b eb ?_
  obtain rfl := Option.some.inj h
  exact z_vret X H.1 H.2.1 H.2.2.1 dd_Finder_bringUpToDate_55
set_option maxRecDepth 100000 in
set_option maxHeartbeats 4000000 in
theorem c_Finder_bringUpToDate (l : Launch) {nf : Nat} {a0 : Nat} {a1 : Nat} {c : Zc} {res : Zc} (h : f_Finder_bringUpToDate nf a0 a1 c = some res) : zM l yy_Finder_bringUpToDate ww_Finder_bringUpToDate 3 77 0 0 [.ref a0, .ref a1] c (fun D cid B => zQv D cid B res c.length 0) := by
  refine z_met (cc := bb_Finder_bringUpToDate) (maxL := 3) (ret := none) (by decide +kernel) rfl (Nat.le_of_ble_eq_true rfl) ?_
  intro p e s m args below meth cd D cid B X h1 h2 h3 h4
  have X : zX p s m args cd D cid B bb_Finder_bringUpToDate 3 rr_Finder zT := X
  have H : zH s meth B c.length none "bringUpToDate" := ⟨h1, h2, h4, h3⟩
  unfold f_Finder_bringUpToDate at h
  show Zz p l e (zRm 3 77 0 0) s m args below meth cd _ D cid B 3 0 0 c 0 [(0, .ref a0), (1, .ref a1)] []
  refine z_aload_n X dd_Finder_bringUpToDate_0 rfl 1 rfl ?_
  obtain ⟨v1, ev1, h⟩ := zb h
  refine z_get (j := 17) X dd_Finder_bringUpToDate_1 kc_1 ki_1 (by decide) km_258 (zgi_v ev1) ?_
  refine z_aload_n X dd_Finder_bringUpToDate_4 rfl 0 rfl ?_
  obtain ⟨v2, ev2, h⟩ := zb h
  refine z_get (j := 1) X dd_Finder_bringUpToDate_5 kc_7 ki_7 (by decide) km_586 (zgr_v ev2) ?_
  obtain ⟨v3, ev3, h⟩ := zb h
  refine z_get (j := 9) X dd_Finder_bringUpToDate_8 kc_0 ki_0 (by decide) km_182 (zgi_v ev3) ?_
  refine z_icmp_ne (tgt := 15) X dd_Finder_bringUpToDate_11 (by decide) (fun q4 => ?_) (fun q4 => ?_)
  · rw [if_neg q4] at h
    refine z_aload_n X dd_Finder_bringUpToDate_15 rfl 1 rfl ?_
    refine z_aload_n X dd_Finder_bringUpToDate_16 rfl 0 rfl ?_
    obtain ⟨v5, ev5, h⟩ := zb h
    refine z_get (j := 1) X dd_Finder_bringUpToDate_17 kc_7 ki_7 (by decide) km_586 (zgr_v ev5) ?_
    obtain ⟨v6, ev6, h⟩ := zb h
    refine z_get (j := 9) X dd_Finder_bringUpToDate_20 kc_0 ki_0 (by decide) km_182 (zgi_v ev6) ?_
    obtain ⟨c7, ec7, h⟩ := zb h
    refine z_put (j := 17) X dd_Finder_bringUpToDate_23 kc_1 ki_1 tt_Way tk_Way nn_Way (by decide) km_258 rfl (tk_Way 17 (by decide)) rfl rfl ec7 ?_
    refine z_aload_n X dd_Finder_bringUpToDate_26 rfl 1 rfl ?_
    obtain ⟨w9, ew9, h⟩ := zb h
    obtain ⟨q8, eq8, h⟩ := zb h
    refine z_callVv X [] rfl dd_Finder_bringUpToDate_27 (c_Way_forgetArcs l eq8) (cwV 0 X.1.2.2.2.2 (zg_V km_1297 km_1298 km_1299 km_129 km_1300) rfl rfl rfl (by decide +kernel) ⟨Nat.le_of_ble_eq_true rfl, Nat.le_of_ble_eq_true rfl⟩) (zob_s ew9) kc_1 rfl (Nat.le_of_ble_eq_true rfl) ⟨Nat.le_of_ble_eq_true rfl, Nat.le_of_ble_eq_true rfl⟩ ?_
    refine z_iconst (v := 0) X dd_Finder_bringUpToDate_30 (by decide) ?_
    refine z_istore_n (lv' := [(2, .int 0), (0, .ref a0), (1, .ref a1)]) X dd_Finder_bringUpToDate_31 rfl (by decide) rfl ?_
    refine z_sub [1, 2, 0] rfl ?_
    exact t_Finder_bringUpToDate_32 X H h
  · rw [if_pos q4] at h
    obtain rfl := Option.some.inj h
    exact z_vret X H.1 H.2.1 H.2.2.1 dd_Finder_bringUpToDate_14
theorem dd_Finder_start_0 : decode bb_Finder_start 0 = .ok (.aload_n 0, 1) := by decide +kernel
theorem dd_Finder_start_1 : decode bb_Finder_start 1 = .ok (.aload_n 1, 1) := by decide +kernel
theorem dd_Finder_start_2 : decode bb_Finder_start 2 = .ok (.putfield 31, 3) := by decide +kernel
theorem dd_Finder_start_5 : decode bb_Finder_start 5 = .ok (.iconst 0, 1) := by decide +kernel
theorem dd_Finder_start_6 : decode bb_Finder_start 6 = .ok (.istore_n 2, 1) := by decide +kernel
theorem dd_Finder_start_7 : decode bb_Finder_start 7 = .ok (.iload_n 2, 1) := by decide +kernel
theorem dd_Finder_start_8 : decode bb_Finder_start 8 = .ok (.aload_n 0, 1) := by decide +kernel
theorem dd_Finder_start_9 : decode bb_Finder_start 9 = .ok (.getfield 31, 3) := by decide +kernel
theorem dd_Finder_start_12 : decode bb_Finder_start 12 = .ok (.getfield 47, 3) := by decide +kernel
theorem dd_Finder_start_15 : decode bb_Finder_start 15 = .ok (.if_icmp .ge 22, 3) := by decide +kernel
theorem dd_Finder_start_18 : decode bb_Finder_start 18 = .ok (.aload_n 0, 1) := by decide +kernel
theorem dd_Finder_start_19 : decode bb_Finder_start 19 = .ok (.aload_n 0, 1) := by decide +kernel
theorem dd_Finder_start_20 : decode bb_Finder_start 20 = .ok (.getfield 31, 3) := by decide +kernel
theorem dd_Finder_start_23 : decode bb_Finder_start 23 = .ok (.getfield 53, 3) := by decide +kernel
theorem dd_Finder_start_26 : decode bb_Finder_start 26 = .ok (.iload_n 2, 1) := by decide +kernel
theorem dd_Finder_start_27 : decode bb_Finder_start 27 = .ok (.aaload, 1) := by decide +kernel
theorem dd_Finder_start_28 : decode bb_Finder_start 28 = .ok (.invokevirtual 57, 3) := by decide +kernel
theorem dd_Finder_start_31 : decode bb_Finder_start 31 = .ok (.iinc 2 1, 3) := by decide +kernel
theorem dd_Finder_start_34 : decode bb_Finder_start 34 = .ok (.goto (-27), 3) := by decide +kernel
theorem dd_Finder_start_37 : decode bb_Finder_start 37 = .ok (.iconst 0, 1) := by decide +kernel
theorem dd_Finder_start_38 : decode bb_Finder_start 38 = .ok (.istore_n 2, 1) := by decide +kernel
theorem dd_Finder_start_39 : decode bb_Finder_start 39 = .ok (.iload_n 2, 1) := by decide +kernel
theorem dd_Finder_start_40 : decode bb_Finder_start 40 = .ok (.aload_n 0, 1) := by decide +kernel
theorem dd_Finder_start_41 : decode bb_Finder_start 41 = .ok (.getfield 31, 3) := by decide +kernel
theorem dd_Finder_start_44 : decode bb_Finder_start 44 = .ok (.getfield 61, 3) := by decide +kernel
theorem dd_Finder_start_47 : decode bb_Finder_start 47 = .ok (.if_icmp .ge 38, 3) := by decide +kernel
theorem dd_Finder_start_50 : decode bb_Finder_start 50 = .ok (.aload_n 0, 1) := by decide +kernel
theorem dd_Finder_start_51 : decode bb_Finder_start 51 = .ok (.getfield 31, 3) := by decide +kernel
theorem dd_Finder_start_54 : decode bb_Finder_start 54 = .ok (.getfield 64, 3) := by decide +kernel
theorem dd_Finder_start_57 : decode bb_Finder_start 57 = .ok (.iload_n 2, 1) := by decide +kernel
theorem dd_Finder_start_58 : decode bb_Finder_start 58 = .ok (.aload_n 0, 1) := by decide +kernel
theorem dd_Finder_start_59 : decode bb_Finder_start 59 = .ok (.getfield 27, 3) := by decide +kernel
theorem dd_Finder_start_62 : decode bb_Finder_start 62 = .ok (.aload_n 0, 1) := by decide +kernel
theorem dd_Finder_start_63 : decode bb_Finder_start 63 = .ok (.getfield 31, 3) := by decide +kernel
theorem dd_Finder_start_66 : decode bb_Finder_start 66 = .ok (.getfield 67, 3) := by decide +kernel
theorem dd_Finder_start_69 : decode bb_Finder_start 69 = .ok (.iload_n 2, 1) := by decide +kernel
theorem dd_Finder_start_70 : decode bb_Finder_start 70 = .ok (.iaload, 1) := by decide +kernel
theorem dd_Finder_start_71 : decode bb_Finder_start 71 = .ok (.sipush 256, 3) := by decide +kernel
theorem dd_Finder_start_74 : decode bb_Finder_start 74 = .ok (.irem, 1) := by decide +kernel
theorem dd_Finder_start_75 : decode bb_Finder_start 75 = .ok (.invokevirtual 70, 3) := by decide +kernel
theorem dd_Finder_start_78 : decode bb_Finder_start 78 = .ok (.iastore, 1) := by decide +kernel
theorem dd_Finder_start_79 : decode bb_Finder_start 79 = .ok (.iinc 2 1, 3) := by decide +kernel
theorem dd_Finder_start_82 : decode bb_Finder_start 82 = .ok (.goto (-43), 3) := by decide +kernel
theorem dd_Finder_start_85 : decode bb_Finder_start 85 = .ok (.aload_n 0, 1) := by decide +kernel
theorem dd_Finder_start_86 : decode bb_Finder_start 86 = .ok (.getfield 40, 3) := by decide +kernel
theorem dd_Finder_start_89 : decode bb_Finder_start 89 = .ok (.aload_n 0, 1) := by decide +kernel
theorem dd_Finder_start_90 : decode bb_Finder_start 90 = .ok (.getfield 31, 3) := by decide +kernel
theorem dd_Finder_start_93 : decode bb_Finder_start 93 = .ok (.iconst 0, 1) := by decide +kernel
theorem dd_Finder_start_94 : decode bb_Finder_start 94 = .ok (.invokevirtual 76, 3) := by decide +kernel
theorem dd_Finder_start_97 : decode bb_Finder_start 97 = .ok (.return_, 1) := by decide +kernel
set_option maxRecDepth 100000 in
set_option maxHeartbeats 4000000 in
theorem u_Finder_start_7  (X : zX p s m args cd D cid B bb_Finder_start 3 rr_Finder zT) (H : zH s meth B n0 none "start") {nf : Nat} {x0 : Nat} {x2 : Int32} {c : Zc} {r : (Nat × Int32 × Zc) ⊕ (Nat × Zc)} (h : g_Finder_start_7 nf x0 x2 c = some r) (k0 : ∀ a, r = .inl a → (fun a : Nat × Int32 × Zc => Zz p l e (zRm 4 99 0 0) s m args below meth cd Q D cid B 3 0 0 a.2.2 7 [(0, .ref a.1), (2, .int a.2.1)] []) a) (k1 : ∀ b, r = .inr b → (fun b : Nat × Zc => Zz p l e (zRm 4 99 0 0) s m args below meth cd Q D cid B 3 0 0 b.2 37 [(0, .ref b.1)] []) b) : Zz p l e (zRm 4 99 0 0) s m args below meth cd Q D cid B 3 0 0 c 7 [(0, .ref x0), (2, .int x2)] [] := by
  unfold g_Finder_start_7 at h
  refine z_iload_n X dd_Finder_start_7 rfl 1 rfl ?_
  refine z_aload_n X dd_Finder_start_8 rfl 0 rfl ?_
  obtain ⟨v2, ev2, h⟩ := zb h
  refine z_get (j := 8) X dd_Finder_start_9 kc_7 ki_7 (by decide) km_593 (zgr_v ev2) ?_
  obtain ⟨v3, ev3, h⟩ := zb h
  refine z_get (j := 3) X dd_Finder_start_12 kc_2 ki_2 (by decide) km_309 (zgi_v ev3) ?_
  refine z_icmp_ge (tgt := 37) X dd_Finder_start_15 (by decide) (fun q4 => ?_) (fun q4 => ?_)
  · rw [if_pos q4] at h
    refine z_sub [0] rfl ?_
    obtain rfl := Option.some.inj h
    exact k1 _ rfl
  · rw [if_neg q4] at h
    refine z_aload_n X dd_Finder_start_18 rfl 0 rfl ?_
    refine z_aload_n X dd_Finder_start_19 rfl 0 rfl ?_
    obtain ⟨v5, ev5, h⟩ := zb h
    refine z_get (j := 8) X dd_Finder_start_20 kc_7 ki_7 (by decide) km_593 (zgr_v ev5) ?_
    obtain ⟨v6, ev6, h⟩ := zb h
    refine z_get (j := 4) X dd_Finder_start_23 kc_2 ki_2 (by decide) km_315 (zgr_v ev6) ?_
    refine z_iload_n X dd_Finder_start_26 rfl 1 rfl ?_
    obtain ⟨v7, ev7, h⟩ := zb h
    refine z_aaload X dd_Finder_start_27 rfl ev7 ?_
    obtain ⟨w9, ew9, h⟩ := zb h
    obtain ⟨q8, eq8, h⟩ := zb h
    refine z_callVv X [.ref v7] rfl dd_Finder_start_28 (c_Finder_bringUpToDate l eq8) (cwV 1 X.1.2.2.2.2 (zg_V km_1293 km_1294 km_1295 km_133 km_1296) rfl rfl rfl (by decide +kernel) ⟨Nat.le_of_ble_eq_true rfl, Nat.le_of_ble_eq_true rfl⟩) (zob_s ew9) kc_7 rfl (Nat.le_of_ble_eq_true rfl) ⟨Nat.le_of_ble_eq_true rfl, Nat.le_of_ble_eq_true rfl⟩ ?_
    refine z_iinc (v := (x2 + 1)) (lv' := [(2, .int (x2 + 1)), (0, .ref x0)]) X dd_Finder_start_31 1 rfl rfl (by decide) rfl ?_
    refine z_goto (tgt := 7) X dd_Finder_start_34 (by decide) ?_
    refine z_sub [1, 0] rfl ?_
    obtain rfl := Option.some.inj h
    exact k0 _ rfl
set_option maxRecDepth 100000 in
set_option maxHeartbeats 4000000 in
theorem u_Finder_start_39  (X : zX p s m args cd D cid B bb_Finder_start 3 rr_Finder zT) (H : zH s meth B n0 none "start") {nf : Nat} {x0 : Nat} {x2 : Int32} {c : Zc} {r : (Nat × Int32 × Zc) ⊕ (Nat × Zc)} (h : g_Finder_start_39 nf x0 x2 c = some r) (k0 : ∀ a, r = .inl a → (fun a : Nat × Int32 × Zc => Zz p l e (zRm 4 99 0 0) s m args below meth cd Q D cid B 3 0 0 a.2.2 39 [(0, .ref a.1), (2, .int a.2.1)] []) a) (k1 : ∀ b, r = .inr b → (fun b : Nat × Zc => Zz p l e (zRm 4 99 0 0) s m args below meth cd Q D cid B 3 0 0 b.2 85 [(0, .ref b.1)] []) b) : Zz p l e (zRm 4 99 0 0) s m args below meth cd Q D cid B 3 0 0 c 39 [(0, .ref x0), (2, .int x2)] [] := by
  unfold g_Finder_start_39 at h
  refine z_iload_n X dd_Finder_start_39 rfl 1 rfl ?_
  refine z_aload_n X dd_Finder_start_40 rfl 0 rfl ?_
  obtain ⟨v10, ev10, h⟩ := zb h
  refine z_get (j := 8) X dd_Finder_start_41 kc_7 ki_7 (by decide) km_593 (zgr_v ev10) ?_
  obtain ⟨v11, ev11, h⟩ := zb h
  refine z_get (j := 5) X dd_Finder_start_44 kc_2 ki_2 (by decide) km_320 (zgi_v ev11) ?_
  refine z_icmp_ge (tgt := 85) X dd_Finder_start_47 (by decide) (fun q12 => ?_) (fun q12 => ?_)
  · rw [if_pos q12] at h
    refine z_sub [0] rfl ?_
    obtain rfl := Option.some.inj h
    exact k1 _ rfl
  · rw [if_neg q12] at h
    refine z_aload_n X dd_Finder_start_50 rfl 0 rfl ?_
    obtain ⟨v13, ev13, h⟩ := zb h
    refine z_get (j := 8) X dd_Finder_start_51 kc_7 ki_7 (by decide) km_593 (zgr_v ev13) ?_
    obtain ⟨v14, ev14, h⟩ := zb h
    refine z_get (j := 7) X dd_Finder_start_54 kc_2 ki_2 (by decide) km_325 (zgr_v ev14) ?_
    refine z_iload_n X dd_Finder_start_57 rfl 1 rfl ?_
    refine z_aload_n X dd_Finder_start_58 rfl 0 rfl ?_
    obtain ⟨v15, ev15, h⟩ := zb h
    refine z_get (j := 1) X dd_Finder_start_59 kc_7 ki_7 (by decide) km_586 (zgr_v ev15) ?_
    refine z_aload_n X dd_Finder_start_62 rfl 0 rfl ?_
    obtain ⟨v16, ev16, h⟩ := zb h
    refine z_get (j := 8) X dd_Finder_start_63 kc_7 ki_7 (by decide) km_593 (zgr_v ev16) ?_
    obtain ⟨v17, ev17, h⟩ := zb h
    refine z_get (j := 6) X dd_Finder_start_66 kc_2 ki_2 (by decide) km_322 (zgr_v ev17) ?_
    refine z_iload_n X dd_Finder_start_69 rfl 1 rfl ?_
    obtain ⟨v18, ev18, h⟩ := zb h
    refine z_iaload X dd_Finder_start_70 rfl ev18 ?_
    refine z_sipush (v := 256) X dd_Finder_start_71 (by decide) ?_
    refine z_irem X dd_Finder_start_74 (by decide) ?_
    obtain ⟨w21, ew21, h⟩ := zb h
    obtain ⟨q20, eq20, h⟩ := zb h
    refine z_callVi X [.int (v18 - v18 / 256 * 256)] rfl dd_Finder_start_75 (c_Graph_nodesWith l eq20) (cwV 1 X.1.2.2.2.2 (zg_V km_1324 km_1325 km_1326 km_126 km_1327) rfl rfl rfl (by decide +kernel) ⟨Nat.le_of_ble_eq_true rfl, Nat.le_of_ble_eq_true rfl⟩) (zob_s ew21) kc_0 rfl (Nat.le_of_ble_eq_true rfl) ⟨Nat.le_of_ble_eq_true rfl, Nat.le_of_ble_eq_true rfl⟩ ?_
    obtain ⟨c22, ec22, h⟩ := zb h
    refine z_iastore X dd_Finder_start_78 rfl ec22 ?_
    refine z_iinc (v := (x2 + 1)) (lv' := [(2, .int (x2 + 1)), (0, .ref x0)]) X dd_Finder_start_79 1 rfl rfl (by decide) rfl ?_
    refine z_goto (tgt := 39) X dd_Finder_start_82 (by decide) ?_
    refine z_sub [1, 0] rfl ?_
    obtain rfl := Option.some.inj h
    exact k0 _ rfl
set_option maxRecDepth 100000 in
set_option maxHeartbeats 4000000 in
theorem t_Finder_start_39  (X : zX p s m args cd D cid B bb_Finder_start 3 rr_Finder zT) (H : zH s meth B n0 none "start") {nf : Nat} {x0 : Nat} {x2 : Int32} {c : Zc} {res : Zc} (h : f_Finder_start_39 nf x0 x2 c = some res) : Zz p l e (zRm 4 99 0 0) s m args below meth cd (MQ below (zQv D cid B res n0 0) args s 0 0 (fun q => B ≤ q)) D cid B 3 0 0 c 39 [(0, .ref x0), (2, .int x2)] [] := by
  unfold f_Finder_start_39 at h
  obtain ⟨b, eb, h⟩ := zb h
  refine zlp_ok (P := fun a : Nat × Int32 × Zc => Zz p l e (zRm 4 99 0 0) s m args below meth cd _ D cid B 3 0 0 a.2.2 39 [(0, .ref a.1), (2, .int a.2.1)] []) (G := fun b : Nat × Zc => Zz p l e (zRm 4 99 0 0) s m args below meth cd _ D cid B 3 0 0 b.2 85 [(0, .ref b.1)] []) (fun a r ha k0 k1 => u_Finder_start_39 X H ha k0 k1) nf _ b eb ?_
  refine z_aload_n X dd_Finder_start_85 rfl 0 rfl ?_
  obtain ⟨v23, ev23, h⟩ := zb h
  refine z_get (j := 2) X dd_Finder_start_86 kc_7 ki_7 (by decide) km_587 (zgr_v ev23) ?_
  refine z_aload_n X dd_Finder_start_89 rfl 0 rfl ?_
  obtain ⟨v24, ev24, h⟩ := zb h
  refine z_get (j := 8) X dd_Finder_start_90 kc_7 ki_7 (by decide) km_593 (zgr_v ev24) ?_
  refine z_iconst (v := 0) X dd_Finder_start_93 (by decide) ?_
  obtain ⟨w26, ew26, h⟩ := zb h
  obtain ⟨q25, eq25, h⟩ := zb h
  refine z_callVv X [.ref v24, .int 0] rfl dd_Finder_start_94 (c_Search_begin l eq25) (cwV 2 X.1.2.2.2.2 (zg_V km_1328 km_1329 km_1330 km_134 km_1331) rfl rfl rfl (by decide +kernel) ⟨Nat.le_of_ble_eq_true rfl, Nat.le_of_ble_eq_true rfl⟩) (zob_s ew26) kc_6 rfl (Nat.le_of_ble_eq_true rfl) ⟨Nat.le_of_ble_eq_true rfl, Nat.le_of_ble_eq_true rfl⟩ ?_
  obtain rfl := Option.some.inj h
  exact z_vret X H.1 H.2.1 H.2.2.1 dd_Finder_start_97
set_option maxRecDepth 100000 in
set_option maxHeartbeats 4000000 in
theorem t_Finder_start_7  (X : zX p s m args cd D cid B bb_Finder_start 3 rr_Finder zT) (H : zH s meth B n0 none "start") {nf : Nat} {x0 : Nat} {x2 : Int32} {c : Zc} {res : Zc} (h : f_Finder_start_7 nf x0 x2 c = some res) : Zz p l e (zRm 4 99 0 0) s m args below meth cd (MQ below (zQv D cid B res n0 0) args s 0 0 (fun q => B ≤ q)) D cid B 3 0 0 c 7 [(0, .ref x0), (2, .int x2)] [] := by
  unfold f_Finder_start_7 at h
  obtain ⟨b, eb, h⟩ := zb h
  refine zlp_ok (P := fun a : Nat × Int32 × Zc => Zz p l e (zRm 4 99 0 0) s m args below meth cd _ D cid B 3 0 0 a.2.2 7 [(0, .ref a.1), (2, .int a.2.1)] []) (G := fun b : Nat × Zc => Zz p l e (zRm 4 99 0 0) s m args below meth cd _ D cid B 3 0 0 b.2 37 [(0, .ref b.1)] []) (fun a r ha k0 k1 => u_Finder_start_7 X H ha k0 k1) nf _ b eb ?_
  refine z_iconst (v := 0) X dd_Finder_start_37 (by decide) ?_
  refine z_istore_n (lv' := [(2, .int 0), (0, .ref b.1)]) X dd_Finder_start_38 rfl (by decide) rfl ?_
  refine z_sub [1, 0] rfl ?_
  exact t_Finder_start_39 X H h
set_option maxRecDepth 100000 in
set_option maxHeartbeats 4000000 in
theorem c_Finder_start (l : Launch) {nf : Nat} {a0 : Nat} {a1 : Nat} {c : Zc} {res : Zc} (h : f_Finder_start nf a0 a1 c = some res) : zM l yy_Finder_start ww_Finder_start 4 99 0 0 [.ref a0, .ref a1] c (fun D cid B => zQv D cid B res c.length 0) := by
  refine z_met (cc := bb_Finder_start) (maxL := 3) (ret := none) (by decide +kernel) rfl (Nat.le_of_ble_eq_true rfl) ?_
  intro p e s m args below meth cd D cid B X h1 h2 h3 h4
  have X : zX p s m args cd D cid B bb_Finder_start 3 rr_Finder zT := X
  have H : zH s meth B c.length none "start" := ⟨h1, h2, h4, h3⟩
  unfold f_Finder_start at h
  show Zz p l e (zRm 4 99 0 0) s m args below meth cd _ D cid B 3 0 0 c 0 [(0, .ref a0), (1, .ref a1)] []
  refine z_aload_n X dd_Finder_start_0 rfl 0 rfl ?_
  refine z_aload_n X dd_Finder_start_1 rfl 1 rfl ?_
  obtain ⟨c1, ec1, h⟩ := zb h
  refine z_put (j := 8) X dd_Finder_start_2 kc_7 ki_7 tt_Finder tk_Finder nn_Finder (by decide) km_593 rfl (tk_Finder 8 (by decide)) rfl rfl ec1 ?_
  refine z_iconst (v := 0) X dd_Finder_start_5 (by decide) ?_
  refine z_istore_n (lv' := [(2, .int 0), (0, .ref a0), (1, .ref a1)]) X dd_Finder_start_6 rfl (by decide) rfl ?_
  refine z_sub [1, 0] rfl ?_
  exact t_Finder_start_7 X H h
theorem dd_Finder_load_0 : decode bb_Finder_load 0 = .ok (.iload_n 1, 1) := by decide +kernel
theorem dd_Finder_load_1 : decode bb_Finder_load 1 = .ok (.tableswitch 96 1 4 #[31, 38, 61, 94], 31) := by decide +kernel
theorem dd_Finder_load_32 : decode bb_Finder_load 32 = .ok (.aload_n 0, 1) := by decide +kernel
theorem dd_Finder_load_33 : decode bb_Finder_load 33 = .ok (.getfield 9, 3) := by decide +kernel
theorem dd_Finder_load_36 : decode bb_Finder_load 36 = .ok (.iload_n 2, 1) := by decide +kernel
theorem dd_Finder_load_37 : decode bb_Finder_load 37 = .ok (.iaload, 1) := by decide +kernel
theorem dd_Finder_load_38 : decode bb_Finder_load 38 = .ok (.ireturn, 1) := by decide +kernel
theorem dd_Finder_load_39 : decode bb_Finder_load 39 = .ok (.aload_n 0, 1) := by decide +kernel
theorem dd_Finder_load_40 : decode bb_Finder_load 40 = .ok (.getfield 27, 3) := by decide +kernel
theorem dd_Finder_load_43 : decode bb_Finder_load 43 = .ok (.getfield 110, 3) := by decide +kernel
theorem dd_Finder_load_46 : decode bb_Finder_load 46 = .ok (.aload_n 0, 1) := by decide +kernel
theorem dd_Finder_load_47 : decode bb_Finder_load 47 = .ok (.getfield 9, 3) := by decide +kernel
theorem dd_Finder_load_50 : decode bb_Finder_load 50 = .ok (.iload_n 2, 1) := by decide +kernel
theorem dd_Finder_load_51 : decode bb_Finder_load 51 = .ok (.iconst 4, 1) := by decide +kernel
theorem dd_Finder_load_52 : decode bb_Finder_load 52 = .ok (.idiv, 1) := by decide +kernel
theorem dd_Finder_load_53 : decode bb_Finder_load 53 = .ok (.iaload, 1) := by decide +kernel
theorem dd_Finder_load_54 : decode bb_Finder_load 54 = .ok (.iconst 4, 1) := by decide +kernel
theorem dd_Finder_load_55 : decode bb_Finder_load 55 = .ok (.imul, 1) := by decide +kernel
theorem dd_Finder_load_56 : decode bb_Finder_load 56 = .ok (.iload_n 2, 1) := by decide +kernel
theorem dd_Finder_load_57 : decode bb_Finder_load 57 = .ok (.iconst 4, 1) := by decide +kernel
theorem dd_Finder_load_58 : decode bb_Finder_load 58 = .ok (.irem, 1) := by decide +kernel
theorem dd_Finder_load_59 : decode bb_Finder_load 59 = .ok (.iadd, 1) := by decide +kernel
theorem dd_Finder_load_60 : decode bb_Finder_load 60 = .ok (.iaload, 1) := by decide +kernel
theorem dd_Finder_load_61 : decode bb_Finder_load 61 = .ok (.ireturn, 1) := by decide +kernel
theorem dd_Finder_load_62 : decode bb_Finder_load 62 = .ok (.aload_n 0, 1) := by decide +kernel
theorem dd_Finder_load_63 : decode bb_Finder_load 63 = .ok (.getfield 31, 3) := by decide +kernel
theorem dd_Finder_load_66 : decode bb_Finder_load 66 = .ok (.getfield 53, 3) := by decide +kernel
theorem dd_Finder_load_69 : decode bb_Finder_load 69 = .ok (.iload_n 2, 1) := by decide +kernel
theorem dd_Finder_load_70 : decode bb_Finder_load 70 = .ok (.aaload, 1) := by decide +kernel
theorem dd_Finder_load_71 : decode bb_Finder_load 71 = .ok (.astore_n 3, 1) := by decide +kernel
theorem dd_Finder_load_72 : decode bb_Finder_load 72 = .ok (.aload_n 3, 1) := by decide +kernel
theorem dd_Finder_load_73 : decode bb_Finder_load 73 = .ok (.aload_n 0, 1) := by decide +kernel
theorem dd_Finder_load_74 : decode bb_Finder_load 74 = .ok (.getfield 9, 3) := by decide +kernel
theorem dd_Finder_load_77 : decode bb_Finder_load 77 = .ok (.aload_n 3, 1) := by decide +kernel
theorem dd_Finder_load_78 : decode bb_Finder_load 78 = .ok (.getfield 113, 3) := by decide +kernel
theorem dd_Finder_load_81 : decode bb_Finder_load 81 = .ok (.iaload, 1) := by decide +kernel
theorem dd_Finder_load_82 : decode bb_Finder_load 82 = .ok (.aload_n 0, 1) := by decide +kernel
theorem dd_Finder_load_83 : decode bb_Finder_load 83 = .ok (.getfield 9, 3) := by decide +kernel
theorem dd_Finder_load_86 : decode bb_Finder_load 86 = .ok (.aload_n 3, 1) := by decide +kernel
theorem dd_Finder_load_87 : decode bb_Finder_load 87 = .ok (.getfield 118, 3) := by decide +kernel
theorem dd_Finder_load_90 : decode bb_Finder_load 90 = .ok (.iaload, 1) := by decide +kernel
theorem dd_Finder_load_91 : decode bb_Finder_load 91 = .ok (.invokevirtual 121, 3) := by decide +kernel
theorem dd_Finder_load_94 : decode bb_Finder_load 94 = .ok (.ireturn, 1) := by decide +kernel
theorem dd_Finder_load_95 : decode bb_Finder_load 95 = .ok (.iconst 1, 1) := by decide +kernel
theorem dd_Finder_load_96 : decode bb_Finder_load 96 = .ok (.ireturn, 1) := by decide +kernel
theorem dd_Finder_load_97 : decode bb_Finder_load 97 = .ok (.iload_n 2, 1) := by decide +kernel
theorem dd_Finder_load_98 : decode bb_Finder_load 98 = .ok (.ireturn, 1) := by decide +kernel
set_option maxRecDepth 100000 in
set_option maxHeartbeats 4000000 in
theorem c_Finder_load (l : Launch) {nf : Nat} {a0 : Nat} {a1 : Int32} {a2 : Int32} {c : Zc} {res : Int32 × Zc} (h : f_Finder_load nf a0 a1 a2 c = some res) : zM l yy_Finder_load ww_Finder_load 1 22 0 0 [.ref a0, .int a1, .int a2] c (fun D cid B => zQi D cid B res.1 res.2 c.length 0) := by
  refine z_met (cc := bb_Finder_load) (maxL := 4) (ret := (some (.int))) (by decide +kernel) rfl (Nat.le_of_ble_eq_true rfl) ?_
  intro p e s m args below meth cd D cid B X h1 h2 h3 h4
  have X : zX p s m args cd D cid B bb_Finder_load 4 rr_Finder zT := X
  have H : zH s meth B c.length (some (.int)) "load" := ⟨h1, h2, h4, h3⟩
  unfold f_Finder_load at h
  show Zz p l e (zRm 1 22 0 0) s m args below meth cd _ D cid B 4 0 0 c 0 [(0, .ref a0), (1, .int a1), (2, .int a2)] []
  refine z_iload_n X dd_Finder_load_0 rfl 1 rfl ?_
  by_cases q1 : a1 = 1
  · rw [if_pos q1] at h
    refine z_tableIn (tgt := 32) (off := 31) X dd_Finder_load_1 (by rw [q1]; decide) (by rw [q1]; decide) (by rw [q1]; rfl) (by decide) ?_
    refine z_aload_n X dd_Finder_load_32 rfl 0 rfl ?_
    obtain ⟨v2, ev2, h⟩ := zb h
    refine z_get (j := 0) X dd_Finder_load_33 kc_7 ki_7 (by decide) km_584 (zgr_v ev2) ?_
    refine z_iload_n X dd_Finder_load_36 rfl 2 rfl ?_
    obtain ⟨v3, ev3, h⟩ := zb h
    refine z_iaload X dd_Finder_load_37 rfl ev3 ?_
    obtain rfl := Option.some.inj h
    exact z_iret X H.1 H.2.1 H.2.2.1 dd_Finder_load_38
  rw [if_neg q1] at h
  by_cases q4 : a1 = 2
  · rw [if_pos q4] at h
    refine z_tableIn (tgt := 39) (off := 38) X dd_Finder_load_1 (by rw [q4]; decide) (by rw [q4]; decide) (by rw [q4]; rfl) (by decide) ?_
    refine z_aload_n X dd_Finder_load_39 rfl 0 rfl ?_
    obtain ⟨v5, ev5, h⟩ := zb h
    refine z_get (j := 1) X dd_Finder_load_40 kc_7 ki_7 (by decide) km_586 (zgr_v ev5) ?_
    obtain ⟨v6, ev6, h⟩ := zb h
    refine z_get (j := 1) X dd_Finder_load_43 kc_0 ki_0 (by decide) km_166 (zgr_v ev6) ?_
    refine z_aload_n X dd_Finder_load_46 rfl 0 rfl ?_
    obtain ⟨v7, ev7, h⟩ := zb h
    refine z_get (j := 0) X dd_Finder_load_47 kc_7 ki_7 (by decide) km_584 (zgr_v ev7) ?_
    refine z_iload_n X dd_Finder_load_50 rfl 2 rfl ?_
    refine z_iconst (v := 4) X dd_Finder_load_51 (by decide) ?_
    refine z_idiv X dd_Finder_load_52 (by decide) ?_
    obtain ⟨v9, ev9, h⟩ := zb h
    refine z_iaload X dd_Finder_load_53 rfl ev9 ?_
    refine z_iconst (v := 4) X dd_Finder_load_54 (by decide) ?_
    refine z_imul X dd_Finder_load_55 ?_
    refine z_iload_n X dd_Finder_load_56 rfl 2 rfl ?_
    refine z_iconst (v := 4) X dd_Finder_load_57 (by decide) ?_
    refine z_irem X dd_Finder_load_58 (by decide) ?_
    refine z_iadd X dd_Finder_load_59 ?_
    obtain ⟨v11, ev11, h⟩ := zb h
    refine z_iaload X dd_Finder_load_60 rfl ev11 ?_
    obtain rfl := Option.some.inj h
    exact z_iret X H.1 H.2.1 H.2.2.1 dd_Finder_load_61
  rw [if_neg q4] at h
  by_cases q12 : a1 = 3
  · rw [if_pos q12] at h
    refine z_tableIn (tgt := 62) (off := 61) X dd_Finder_load_1 (by rw [q12]; decide) (by rw [q12]; decide) (by rw [q12]; rfl) (by decide) ?_
    refine z_aload_n X dd_Finder_load_62 rfl 0 rfl ?_
    obtain ⟨v13, ev13, h⟩ := zb h
    refine z_get (j := 8) X dd_Finder_load_63 kc_7 ki_7 (by decide) km_593 (zgr_v ev13) ?_
    obtain ⟨v14, ev14, h⟩ := zb h
    refine z_get (j := 4) X dd_Finder_load_66 kc_2 ki_2 (by decide) km_315 (zgr_v ev14) ?_
    refine z_iload_n X dd_Finder_load_69 rfl 2 rfl ?_
    obtain ⟨v15, ev15, h⟩ := zb h
    refine z_aaload X dd_Finder_load_70 rfl ev15 ?_
    refine z_astore_n (lv' := [(3, .ref v15), (0, .ref a0), (1, .int a1), (2, .int a2)]) X dd_Finder_load_71 rfl (by decide) rfl ?_
    refine z_aload_n X dd_Finder_load_72 rfl 0 rfl ?_
    refine z_aload_n X dd_Finder_load_73 rfl 1 rfl ?_
    obtain ⟨v16, ev16, h⟩ := zb h
    refine z_get (j := 0) X dd_Finder_load_74 kc_7 ki_7 (by decide) km_584 (zgr_v ev16) ?_
    refine z_aload_n X dd_Finder_load_77 rfl 0 rfl ?_
    obtain ⟨v17, ev17, h⟩ := zb h
    refine z_get (j := 0) X dd_Finder_load_78 kc_1 ki_1 (by decide) km_222 (zgi_v ev17) ?_
    obtain ⟨v18, ev18, h⟩ := zb h
    refine z_iaload X dd_Finder_load_81 rfl ev18 ?_
    refine z_aload_n X dd_Finder_load_82 rfl 1 rfl ?_
    obtain ⟨v19, ev19, h⟩ := zb h
    refine z_get (j := 0) X dd_Finder_load_83 kc_7 ki_7 (by decide) km_584 (zgr_v ev19) ?_
    refine z_aload_n X dd_Finder_load_86 rfl 0 rfl ?_
    obtain ⟨v20, ev20, h⟩ := zb h
    refine z_get (j := 1) X dd_Finder_load_87 kc_1 ki_1 (by decide) km_225 (zgi_v ev20) ?_
    obtain ⟨v21, ev21, h⟩ := zb h
    refine z_iaload X dd_Finder_load_90 rfl ev21 ?_
    obtain ⟨w23, ew23, h⟩ := zb h
    obtain ⟨q22, eq22, h⟩ := zb h
    refine z_callVi X [.int v18, .int v21] rfl dd_Finder_load_91 (c_Way_arcsBetween l eq22) (cwV 2 X.1.2.2.2.2 (zg_V km_1368 km_1369 km_1370 km_129 km_1371) rfl rfl rfl (by decide +kernel) ⟨Nat.le_of_ble_eq_true rfl, Nat.le_of_ble_eq_true rfl⟩) (zob_s ew23) kc_1 rfl (Nat.le_of_ble_eq_true rfl) ⟨Nat.le_of_ble_eq_true rfl, Nat.le_of_ble_eq_true rfl⟩ ?_
    obtain rfl := Option.some.inj h
    exact z_iret X H.1 H.2.1 H.2.2.1 dd_Finder_load_94
  rw [if_neg q12] at h
  by_cases q24 : a1 = 4
  · rw [if_pos q24] at h
    refine z_tableIn (tgt := 95) (off := 94) X dd_Finder_load_1 (by rw [q24]; decide) (by rw [q24]; decide) (by rw [q24]; rfl) (by decide) ?_
    refine z_iconst (v := 1) X dd_Finder_load_95 (by decide) ?_
    obtain rfl := Option.some.inj h
    exact z_iret X H.1 H.2.1 H.2.2.1 dd_Finder_load_96
  rw [if_neg q24] at h
  refine z_tableOut (tgt := 97) X dd_Finder_load_1 (by have yq1 := lv_neT q1 (a := 1) (by decide); have yq4 := lv_neT q4 (a := 2) (by decide); have yq12 := lv_neT q12 (a := 3) (by decide); have yq24 := lv_neT q24 (a := 4) (by decide); omega) (by decide) ?_
  refine z_iload_n X dd_Finder_load_97 rfl 2 rfl ?_
  obtain rfl := Option.some.inj h
  exact z_iret X H.1 H.2.1 H.2.2.1 dd_Finder_load_98
theorem dd_Finder_bounded_0 : decode bb_Finder_bounded 0 = .ok (.lload_n 0, 1) := by decide +kernel
theorem dd_Finder_bounded_1 : decode bb_Finder_bounded 1 = .ok (.ldc2_w 128, 3) := by decide +kernel
theorem dd_Finder_bounded_4 : decode bb_Finder_bounded 4 = .ok (.lcmp, 1) := by decide +kernel
theorem dd_Finder_bounded_5 : decode bb_Finder_bounded 5 = .ok (.ifCond .le 6, 3) := by decide +kernel
theorem dd_Finder_bounded_8 : decode bb_Finder_bounded 8 = .ok (.ldc 130, 2) := by decide +kernel
theorem dd_Finder_bounded_10 : decode bb_Finder_bounded 10 = .ok (.ireturn, 1) := by decide +kernel
theorem dd_Finder_bounded_11 : decode bb_Finder_bounded 11 = .ok (.lload_n 0, 1) := by decide +kernel
theorem dd_Finder_bounded_12 : decode bb_Finder_bounded 12 = .ok (.ldc2_w 131, 3) := by decide +kernel
theorem dd_Finder_bounded_15 : decode bb_Finder_bounded 15 = .ok (.lcmp, 1) := by decide +kernel
theorem dd_Finder_bounded_16 : decode bb_Finder_bounded 16 = .ok (.ifCond .ge 8, 3) := by decide +kernel
theorem dd_Finder_bounded_19 : decode bb_Finder_bounded 19 = .ok (.ldc 133, 2) := by decide +kernel
theorem dd_Finder_bounded_21 : decode bb_Finder_bounded 21 = .ok (.goto 5, 3) := by decide +kernel
theorem dd_Finder_bounded_24 : decode bb_Finder_bounded 24 = .ok (.lload_n 0, 1) := by decide +kernel
theorem dd_Finder_bounded_25 : decode bb_Finder_bounded 25 = .ok (.l2i, 1) := by decide +kernel
theorem dd_Finder_bounded_26 : decode bb_Finder_bounded 26 = .ok (.ireturn, 1) := by decide +kernel
set_option maxRecDepth 100000 in
set_option maxHeartbeats 4000000 in
theorem t_Finder_bounded_26  (X : zX p s m args cd D cid B bb_Finder_bounded 2 rr_Finder zT) (H : zH s meth B n0 (some (.int)) "bounded") {nf : Nat} {s0 : Int32} {c : Zc} {res : Int32 × Zc} (h : f_Finder_bounded_26 nf s0 c = some res) : Zz p l e (zRm 0 0 0 0) s m args below meth cd (MQ below (zQi D cid B res.1 res.2 n0 0) args s 0 0 (fun q => B ≤ q)) D cid B 2 0 0 c 26 [] [.int s0] := by
  unfold f_Finder_bounded_26 at h
  obtain rfl := Option.some.inj h
  exact z_iret X H.1 H.2.1 H.2.2.1 dd_Finder_bounded_26
set_option maxRecDepth 100000 in
set_option maxHeartbeats 4000000 in
theorem c_Finder_bounded (l : Launch) {nf : Nat} {a0 : Int64} {c : Zc} {res : Int32 × Zc} (h : f_Finder_bounded nf a0 c = some res) : zM l yy_Finder_bounded ww_Finder_bounded 0 0 0 0 [.long a0] c (fun D cid B => zQi D cid B res.1 res.2 c.length 0) := by
  refine z_met (cc := bb_Finder_bounded) (maxL := 2) (ret := (some (.int))) (by decide +kernel) rfl (Nat.le_of_ble_eq_true rfl) ?_
  intro p e s m args below meth cd D cid B X h1 h2 h3 h4
  have X : zX p s m args cd D cid B bb_Finder_bounded 2 rr_Finder zT := X
  have H : zH s meth B c.length (some (.int)) "bounded" := ⟨h1, h2, h4, h3⟩
  unfold f_Finder_bounded at h
  show Zz p l e (zRm 0 0 0 0) s m args below meth cd _ D cid B 2 0 0 c 0 [(0, .long a0)] []
  refine z_lload_n X dd_Finder_bounded_0 rfl 0 rfl ?_
  refine z_ldc2 (v := 1000000000) X dd_Finder_bounded_1 km_1379 ?_
  refine z_lcmp X dd_Finder_bounded_4 ?_
  refine z_if_le (tgt := 11) X dd_Finder_bounded_5 (by decide) (fun q1 => ?_) (fun q1 => ?_)
  · rw [if_pos q1] at h
    refine z_lload_n X dd_Finder_bounded_11 rfl 0 rfl ?_
    refine z_ldc2 (v := (-1000000000)) X dd_Finder_bounded_12 km_1381 ?_
    refine z_lcmp X dd_Finder_bounded_15 ?_
    refine z_if_ge (tgt := 24) X dd_Finder_bounded_16 (by decide) (fun q2 => ?_) (fun q2 => ?_)
    · rw [if_pos q2] at h
      refine z_lload_n X dd_Finder_bounded_24 rfl 0 rfl ?_
      refine z_l2i X dd_Finder_bounded_25 ?_
      refine z_sub [] rfl ?_
      exact t_Finder_bounded_26 X H h
    · rw [if_neg q2] at h
      refine z_ldc (v := (-1000000000)) X dd_Finder_bounded_19 km_1382 ?_
      refine z_goto (tgt := 26) X dd_Finder_bounded_21 (by decide) ?_
      refine z_sub [] rfl ?_
      exact t_Finder_bounded_26 X H h
  · rw [if_neg q1] at h
    refine z_ldc (v := 1000000000) X dd_Finder_bounded_8 km_1380 ?_
    obtain rfl := Option.some.inj h
    exact z_iret X H.1 H.2.1 H.2.2.1 dd_Finder_bounded_10
theorem dd_Finder_operate_0 : decode bb_Finder_operate 0 = .ok (.iload_n 0, 1) := by decide +kernel
theorem dd_Finder_operate_1 : decode bb_Finder_operate 1 = .ok (.tableswitch 129 9 16 #[47, 56, 65, 74, 85, 96, 107, 118], 47) := by decide +kernel
theorem dd_Finder_operate_48 : decode bb_Finder_operate 48 = .ok (.iload_n 1, 1) := by decide +kernel
theorem dd_Finder_operate_49 : decode bb_Finder_operate 49 = .ok (.i2l, 1) := by decide +kernel
theorem dd_Finder_operate_50 : decode bb_Finder_operate 50 = .ok (.iload_n 2, 1) := by decide +kernel
theorem dd_Finder_operate_51 : decode bb_Finder_operate 51 = .ok (.i2l, 1) := by decide +kernel
theorem dd_Finder_operate_52 : decode bb_Finder_operate 52 = .ok (.ladd, 1) := by decide +kernel
theorem dd_Finder_operate_53 : decode bb_Finder_operate 53 = .ok (.invokestatic 124, 3) := by decide +kernel
theorem dd_Finder_operate_56 : decode bb_Finder_operate 56 = .ok (.ireturn, 1) := by decide +kernel
theorem dd_Finder_operate_57 : decode bb_Finder_operate 57 = .ok (.iload_n 1, 1) := by decide +kernel
theorem dd_Finder_operate_58 : decode bb_Finder_operate 58 = .ok (.i2l, 1) := by decide +kernel
theorem dd_Finder_operate_59 : decode bb_Finder_operate 59 = .ok (.iload_n 2, 1) := by decide +kernel
theorem dd_Finder_operate_60 : decode bb_Finder_operate 60 = .ok (.i2l, 1) := by decide +kernel
theorem dd_Finder_operate_61 : decode bb_Finder_operate 61 = .ok (.lsub, 1) := by decide +kernel
theorem dd_Finder_operate_62 : decode bb_Finder_operate 62 = .ok (.invokestatic 124, 3) := by decide +kernel
theorem dd_Finder_operate_65 : decode bb_Finder_operate 65 = .ok (.ireturn, 1) := by decide +kernel
theorem dd_Finder_operate_66 : decode bb_Finder_operate 66 = .ok (.iload_n 1, 1) := by decide +kernel
theorem dd_Finder_operate_67 : decode bb_Finder_operate 67 = .ok (.i2l, 1) := by decide +kernel
theorem dd_Finder_operate_68 : decode bb_Finder_operate 68 = .ok (.iload_n 2, 1) := by decide +kernel
theorem dd_Finder_operate_69 : decode bb_Finder_operate 69 = .ok (.i2l, 1) := by decide +kernel
theorem dd_Finder_operate_70 : decode bb_Finder_operate 70 = .ok (.lmul, 1) := by decide +kernel
theorem dd_Finder_operate_71 : decode bb_Finder_operate 71 = .ok (.invokestatic 124, 3) := by decide +kernel
theorem dd_Finder_operate_74 : decode bb_Finder_operate 74 = .ok (.ireturn, 1) := by decide +kernel
theorem dd_Finder_operate_75 : decode bb_Finder_operate 75 = .ok (.iload_n 1, 1) := by decide +kernel
theorem dd_Finder_operate_76 : decode bb_Finder_operate 76 = .ok (.iload_n 2, 1) := by decide +kernel
theorem dd_Finder_operate_77 : decode bb_Finder_operate 77 = .ok (.if_icmp .ne 7, 3) := by decide +kernel
theorem dd_Finder_operate_80 : decode bb_Finder_operate 80 = .ok (.iconst 1, 1) := by decide +kernel
theorem dd_Finder_operate_81 : decode bb_Finder_operate 81 = .ok (.goto 4, 3) := by decide +kernel
theorem dd_Finder_operate_84 : decode bb_Finder_operate 84 = .ok (.iconst 0, 1) := by decide +kernel
theorem dd_Finder_operate_85 : decode bb_Finder_operate 85 = .ok (.ireturn, 1) := by decide +kernel
theorem dd_Finder_operate_86 : decode bb_Finder_operate 86 = .ok (.iload_n 1, 1) := by decide +kernel
theorem dd_Finder_operate_87 : decode bb_Finder_operate 87 = .ok (.iload_n 2, 1) := by decide +kernel
theorem dd_Finder_operate_88 : decode bb_Finder_operate 88 = .ok (.if_icmp .eq 7, 3) := by decide +kernel
theorem dd_Finder_operate_91 : decode bb_Finder_operate 91 = .ok (.iconst 1, 1) := by decide +kernel
theorem dd_Finder_operate_92 : decode bb_Finder_operate 92 = .ok (.goto 4, 3) := by decide +kernel
theorem dd_Finder_operate_95 : decode bb_Finder_operate 95 = .ok (.iconst 0, 1) := by decide +kernel
theorem dd_Finder_operate_96 : decode bb_Finder_operate 96 = .ok (.ireturn, 1) := by decide +kernel
theorem dd_Finder_operate_97 : decode bb_Finder_operate 97 = .ok (.iload_n 1, 1) := by decide +kernel
theorem dd_Finder_operate_98 : decode bb_Finder_operate 98 = .ok (.iload_n 2, 1) := by decide +kernel
theorem dd_Finder_operate_99 : decode bb_Finder_operate 99 = .ok (.if_icmp .ge 7, 3) := by decide +kernel
theorem dd_Finder_operate_102 : decode bb_Finder_operate 102 = .ok (.iconst 1, 1) := by decide +kernel
theorem dd_Finder_operate_103 : decode bb_Finder_operate 103 = .ok (.goto 4, 3) := by decide +kernel
theorem dd_Finder_operate_106 : decode bb_Finder_operate 106 = .ok (.iconst 0, 1) := by decide +kernel
theorem dd_Finder_operate_107 : decode bb_Finder_operate 107 = .ok (.ireturn, 1) := by decide +kernel
theorem dd_Finder_operate_108 : decode bb_Finder_operate 108 = .ok (.iload_n 1, 1) := by decide +kernel
theorem dd_Finder_operate_109 : decode bb_Finder_operate 109 = .ok (.iload_n 2, 1) := by decide +kernel
theorem dd_Finder_operate_110 : decode bb_Finder_operate 110 = .ok (.if_icmp .gt 7, 3) := by decide +kernel
theorem dd_Finder_operate_113 : decode bb_Finder_operate 113 = .ok (.iconst 1, 1) := by decide +kernel
theorem dd_Finder_operate_114 : decode bb_Finder_operate 114 = .ok (.goto 4, 3) := by decide +kernel
theorem dd_Finder_operate_117 : decode bb_Finder_operate 117 = .ok (.iconst 0, 1) := by decide +kernel
theorem dd_Finder_operate_118 : decode bb_Finder_operate 118 = .ok (.ireturn, 1) := by decide +kernel
theorem dd_Finder_operate_119 : decode bb_Finder_operate 119 = .ok (.iload_n 1, 1) := by decide +kernel
theorem dd_Finder_operate_120 : decode bb_Finder_operate 120 = .ok (.iload_n 2, 1) := by decide +kernel
theorem dd_Finder_operate_121 : decode bb_Finder_operate 121 = .ok (.if_icmp .le 7, 3) := by decide +kernel
theorem dd_Finder_operate_124 : decode bb_Finder_operate 124 = .ok (.iconst 1, 1) := by decide +kernel
theorem dd_Finder_operate_125 : decode bb_Finder_operate 125 = .ok (.goto 4, 3) := by decide +kernel
theorem dd_Finder_operate_128 : decode bb_Finder_operate 128 = .ok (.iconst 0, 1) := by decide +kernel
theorem dd_Finder_operate_129 : decode bb_Finder_operate 129 = .ok (.ireturn, 1) := by decide +kernel
theorem dd_Finder_operate_130 : decode bb_Finder_operate 130 = .ok (.iload_n 1, 1) := by decide +kernel
theorem dd_Finder_operate_131 : decode bb_Finder_operate 131 = .ok (.iload_n 2, 1) := by decide +kernel
theorem dd_Finder_operate_132 : decode bb_Finder_operate 132 = .ok (.if_icmp .lt 7, 3) := by decide +kernel
theorem dd_Finder_operate_135 : decode bb_Finder_operate 135 = .ok (.iconst 1, 1) := by decide +kernel
theorem dd_Finder_operate_136 : decode bb_Finder_operate 136 = .ok (.goto 4, 3) := by decide +kernel
theorem dd_Finder_operate_139 : decode bb_Finder_operate 139 = .ok (.iconst 0, 1) := by decide +kernel
theorem dd_Finder_operate_140 : decode bb_Finder_operate 140 = .ok (.ireturn, 1) := by decide +kernel
set_option maxRecDepth 100000 in
set_option maxHeartbeats 4000000 in
theorem t_Finder_operate_85  (X : zX p s m args cd D cid B bb_Finder_operate 3 rr_Finder zT) (H : zH s meth B n0 (some (.int)) "operate") {nf : Nat} {s0 : Int32} {c : Zc} {res : Int32 × Zc} (h : f_Finder_operate_85 nf s0 c = some res) : Zz p l e (zRm 1 21 0 0) s m args below meth cd (MQ below (zQi D cid B res.1 res.2 n0 0) args s 0 0 (fun q => B ≤ q)) D cid B 3 0 0 c 85 [] [.int s0] := by
  unfold f_Finder_operate_85 at h
  obtain rfl := Option.some.inj h
  exact z_iret X H.1 H.2.1 H.2.2.1 dd_Finder_operate_85
set_option maxRecDepth 100000 in
set_option maxHeartbeats 4000000 in
theorem t_Finder_operate_96  (X : zX p s m args cd D cid B bb_Finder_operate 3 rr_Finder zT) (H : zH s meth B n0 (some (.int)) "operate") {nf : Nat} {s0 : Int32} {c : Zc} {res : Int32 × Zc} (h : f_Finder_operate_96 nf s0 c = some res) : Zz p l e (zRm 1 21 0 0) s m args below meth cd (MQ below (zQi D cid B res.1 res.2 n0 0) args s 0 0 (fun q => B ≤ q)) D cid B 3 0 0 c 96 [] [.int s0] := by
  unfold f_Finder_operate_96 at h
  obtain rfl := Option.some.inj h
  exact z_iret X H.1 H.2.1 H.2.2.1 dd_Finder_operate_96
set_option maxRecDepth 100000 in
set_option maxHeartbeats 4000000 in
theorem t_Finder_operate_107  (X : zX p s m args cd D cid B bb_Finder_operate 3 rr_Finder zT) (H : zH s meth B n0 (some (.int)) "operate") {nf : Nat} {s0 : Int32} {c : Zc} {res : Int32 × Zc} (h : f_Finder_operate_107 nf s0 c = some res) : Zz p l e (zRm 1 21 0 0) s m args below meth cd (MQ below (zQi D cid B res.1 res.2 n0 0) args s 0 0 (fun q => B ≤ q)) D cid B 3 0 0 c 107 [] [.int s0] := by
  unfold f_Finder_operate_107 at h
  obtain rfl := Option.some.inj h
  exact z_iret X H.1 H.2.1 H.2.2.1 dd_Finder_operate_107
set_option maxRecDepth 100000 in
set_option maxHeartbeats 4000000 in
theorem t_Finder_operate_118  (X : zX p s m args cd D cid B bb_Finder_operate 3 rr_Finder zT) (H : zH s meth B n0 (some (.int)) "operate") {nf : Nat} {s0 : Int32} {c : Zc} {res : Int32 × Zc} (h : f_Finder_operate_118 nf s0 c = some res) : Zz p l e (zRm 1 21 0 0) s m args below meth cd (MQ below (zQi D cid B res.1 res.2 n0 0) args s 0 0 (fun q => B ≤ q)) D cid B 3 0 0 c 118 [] [.int s0] := by
  unfold f_Finder_operate_118 at h
  obtain rfl := Option.some.inj h
  exact z_iret X H.1 H.2.1 H.2.2.1 dd_Finder_operate_118
set_option maxRecDepth 100000 in
set_option maxHeartbeats 4000000 in
theorem t_Finder_operate_129  (X : zX p s m args cd D cid B bb_Finder_operate 3 rr_Finder zT) (H : zH s meth B n0 (some (.int)) "operate") {nf : Nat} {s0 : Int32} {c : Zc} {res : Int32 × Zc} (h : f_Finder_operate_129 nf s0 c = some res) : Zz p l e (zRm 1 21 0 0) s m args below meth cd (MQ below (zQi D cid B res.1 res.2 n0 0) args s 0 0 (fun q => B ≤ q)) D cid B 3 0 0 c 129 [] [.int s0] := by
  unfold f_Finder_operate_129 at h
  obtain rfl := Option.some.inj h
  exact z_iret X H.1 H.2.1 H.2.2.1 dd_Finder_operate_129
set_option maxRecDepth 100000 in
set_option maxHeartbeats 4000000 in
theorem t_Finder_operate_140  (X : zX p s m args cd D cid B bb_Finder_operate 3 rr_Finder zT) (H : zH s meth B n0 (some (.int)) "operate") {nf : Nat} {s0 : Int32} {c : Zc} {res : Int32 × Zc} (h : f_Finder_operate_140 nf s0 c = some res) : Zz p l e (zRm 1 21 0 0) s m args below meth cd (MQ below (zQi D cid B res.1 res.2 n0 0) args s 0 0 (fun q => B ≤ q)) D cid B 3 0 0 c 140 [] [.int s0] := by
  unfold f_Finder_operate_140 at h
  obtain rfl := Option.some.inj h
  exact z_iret X H.1 H.2.1 H.2.2.1 dd_Finder_operate_140
set_option maxRecDepth 100000 in
set_option maxHeartbeats 4000000 in
theorem c_Finder_operate (l : Launch) {nf : Nat} {a0 : Int32} {a1 : Int32} {a2 : Int32} {c : Zc} {res : Int32 × Zc} (h : f_Finder_operate nf a0 a1 a2 c = some res) : zM l yy_Finder_operate ww_Finder_operate 1 21 0 0 [.int a0, .int a1, .int a2] c (fun D cid B => zQi D cid B res.1 res.2 c.length 0) := by
  refine z_met (cc := bb_Finder_operate) (maxL := 3) (ret := (some (.int))) (by decide +kernel) rfl (Nat.le_of_ble_eq_true rfl) ?_
  intro p e s m args below meth cd D cid B X h1 h2 h3 h4
  have X : zX p s m args cd D cid B bb_Finder_operate 3 rr_Finder zT := X
  have H : zH s meth B c.length (some (.int)) "operate" := ⟨h1, h2, h4, h3⟩
  unfold f_Finder_operate at h
  show Zz p l e (zRm 1 21 0 0) s m args below meth cd _ D cid B 3 0 0 c 0 [(0, .int a0), (1, .int a1), (2, .int a2)] []
  refine z_iload_n X dd_Finder_operate_0 rfl 0 rfl ?_
  by_cases q1 : a0 = 9
  · rw [if_pos q1] at h
    refine z_tableIn (tgt := 48) (off := 47) X dd_Finder_operate_1 (by rw [q1]; decide) (by rw [q1]; decide) (by rw [q1]; rfl) (by decide) ?_
    refine z_iload_n X dd_Finder_operate_48 rfl 1 rfl ?_
    refine z_i2l X dd_Finder_operate_49 ?_
    refine z_iload_n X dd_Finder_operate_50 rfl 2 rfl ?_
    refine z_i2l X dd_Finder_operate_51 ?_
    refine z_ladd X dd_Finder_operate_52 ?_
    obtain ⟨q2, eq2, h⟩ := zb h
    refine z_callSi X [.long ((Int32.toInt64 a1) + (Int32.toInt64 a2))] rfl dd_Finder_operate_53 (c_Finder_bounded l eq2) (va_cwS 1 X.1.2.2.2.2 (zg_S km_1376 km_1377 km_133 km_1378) rfl rfl rfl (by decide +kernel) ⟨Nat.le_of_ble_eq_true rfl, Nat.le_of_ble_eq_true rfl⟩) rfl (Nat.le_of_ble_eq_true rfl) ⟨Nat.le_of_ble_eq_true rfl, Nat.le_of_ble_eq_true rfl⟩ ?_
    obtain rfl := Option.some.inj h
    exact z_iret X H.1 H.2.1 H.2.2.1 dd_Finder_operate_56
  rw [if_neg q1] at h
  by_cases q3 : a0 = 10
  · rw [if_pos q3] at h
    refine z_tableIn (tgt := 57) (off := 56) X dd_Finder_operate_1 (by rw [q3]; decide) (by rw [q3]; decide) (by rw [q3]; rfl) (by decide) ?_
    refine z_iload_n X dd_Finder_operate_57 rfl 1 rfl ?_
    refine z_i2l X dd_Finder_operate_58 ?_
    refine z_iload_n X dd_Finder_operate_59 rfl 2 rfl ?_
    refine z_i2l X dd_Finder_operate_60 ?_
    refine z_lsub X dd_Finder_operate_61 ?_
    obtain ⟨q4, eq4, h⟩ := zb h
    refine z_callSi X [.long ((Int32.toInt64 a1) - (Int32.toInt64 a2))] rfl dd_Finder_operate_62 (c_Finder_bounded l eq4) (va_cwS 1 X.1.2.2.2.2 (zg_S km_1376 km_1377 km_133 km_1378) rfl rfl rfl (by decide +kernel) ⟨Nat.le_of_ble_eq_true rfl, Nat.le_of_ble_eq_true rfl⟩) rfl (Nat.le_of_ble_eq_true rfl) ⟨Nat.le_of_ble_eq_true rfl, Nat.le_of_ble_eq_true rfl⟩ ?_
    obtain rfl := Option.some.inj h
    exact z_iret X H.1 H.2.1 H.2.2.1 dd_Finder_operate_65
  rw [if_neg q3] at h
  by_cases q5 : a0 = 11
  · rw [if_pos q5] at h
    refine z_tableIn (tgt := 66) (off := 65) X dd_Finder_operate_1 (by rw [q5]; decide) (by rw [q5]; decide) (by rw [q5]; rfl) (by decide) ?_
    refine z_iload_n X dd_Finder_operate_66 rfl 1 rfl ?_
    refine z_i2l X dd_Finder_operate_67 ?_
    refine z_iload_n X dd_Finder_operate_68 rfl 2 rfl ?_
    refine z_i2l X dd_Finder_operate_69 ?_
    refine z_lmul X dd_Finder_operate_70 ?_
    obtain ⟨q6, eq6, h⟩ := zb h
    refine z_callSi X [.long ((Int32.toInt64 a1) * (Int32.toInt64 a2))] rfl dd_Finder_operate_71 (c_Finder_bounded l eq6) (va_cwS 1 X.1.2.2.2.2 (zg_S km_1376 km_1377 km_133 km_1378) rfl rfl rfl (by decide +kernel) ⟨Nat.le_of_ble_eq_true rfl, Nat.le_of_ble_eq_true rfl⟩) rfl (Nat.le_of_ble_eq_true rfl) ⟨Nat.le_of_ble_eq_true rfl, Nat.le_of_ble_eq_true rfl⟩ ?_
    obtain rfl := Option.some.inj h
    exact z_iret X H.1 H.2.1 H.2.2.1 dd_Finder_operate_74
  rw [if_neg q5] at h
  by_cases q7 : a0 = 12
  · rw [if_pos q7] at h
    refine z_tableIn (tgt := 75) (off := 74) X dd_Finder_operate_1 (by rw [q7]; decide) (by rw [q7]; decide) (by rw [q7]; rfl) (by decide) ?_
    refine z_iload_n X dd_Finder_operate_75 rfl 1 rfl ?_
    refine z_iload_n X dd_Finder_operate_76 rfl 2 rfl ?_
    refine z_icmp_ne (tgt := 84) X dd_Finder_operate_77 (by decide) (fun q8 => ?_) (fun q8 => ?_)
    · rw [if_neg q8] at h
      refine z_iconst (v := 0) X dd_Finder_operate_84 (by decide) ?_
      refine z_sub [] rfl ?_
      exact t_Finder_operate_85 X H h
    · rw [if_pos q8] at h
      refine z_iconst (v := 1) X dd_Finder_operate_80 (by decide) ?_
      refine z_goto (tgt := 85) X dd_Finder_operate_81 (by decide) ?_
      refine z_sub [] rfl ?_
      exact t_Finder_operate_85 X H h
  rw [if_neg q7] at h
  by_cases q9 : a0 = 13
  · rw [if_pos q9] at h
    refine z_tableIn (tgt := 86) (off := 85) X dd_Finder_operate_1 (by rw [q9]; decide) (by rw [q9]; decide) (by rw [q9]; rfl) (by decide) ?_
    refine z_iload_n X dd_Finder_operate_86 rfl 1 rfl ?_
    refine z_iload_n X dd_Finder_operate_87 rfl 2 rfl ?_
    refine z_icmp_eq (tgt := 95) X dd_Finder_operate_88 (by decide) (fun q10 => ?_) (fun q10 => ?_)
    · rw [if_pos q10] at h
      refine z_iconst (v := 0) X dd_Finder_operate_95 (by decide) ?_
      refine z_sub [] rfl ?_
      exact t_Finder_operate_96 X H h
    · rw [if_neg q10] at h
      refine z_iconst (v := 1) X dd_Finder_operate_91 (by decide) ?_
      refine z_goto (tgt := 96) X dd_Finder_operate_92 (by decide) ?_
      refine z_sub [] rfl ?_
      exact t_Finder_operate_96 X H h
  rw [if_neg q9] at h
  by_cases q11 : a0 = 14
  · rw [if_pos q11] at h
    refine z_tableIn (tgt := 97) (off := 96) X dd_Finder_operate_1 (by rw [q11]; decide) (by rw [q11]; decide) (by rw [q11]; rfl) (by decide) ?_
    refine z_iload_n X dd_Finder_operate_97 rfl 1 rfl ?_
    refine z_iload_n X dd_Finder_operate_98 rfl 2 rfl ?_
    refine z_icmp_ge (tgt := 106) X dd_Finder_operate_99 (by decide) (fun q12 => ?_) (fun q12 => ?_)
    · rw [if_pos q12] at h
      refine z_iconst (v := 0) X dd_Finder_operate_106 (by decide) ?_
      refine z_sub [] rfl ?_
      exact t_Finder_operate_107 X H h
    · rw [if_neg q12] at h
      refine z_iconst (v := 1) X dd_Finder_operate_102 (by decide) ?_
      refine z_goto (tgt := 107) X dd_Finder_operate_103 (by decide) ?_
      refine z_sub [] rfl ?_
      exact t_Finder_operate_107 X H h
  rw [if_neg q11] at h
  by_cases q13 : a0 = 15
  · rw [if_pos q13] at h
    refine z_tableIn (tgt := 108) (off := 107) X dd_Finder_operate_1 (by rw [q13]; decide) (by rw [q13]; decide) (by rw [q13]; rfl) (by decide) ?_
    refine z_iload_n X dd_Finder_operate_108 rfl 1 rfl ?_
    refine z_iload_n X dd_Finder_operate_109 rfl 2 rfl ?_
    refine z_icmp_gt (tgt := 117) X dd_Finder_operate_110 (by decide) (fun q14 => ?_) (fun q14 => ?_)
    · rw [if_pos q14] at h
      refine z_iconst (v := 0) X dd_Finder_operate_117 (by decide) ?_
      refine z_sub [] rfl ?_
      exact t_Finder_operate_118 X H h
    · rw [if_neg q14] at h
      refine z_iconst (v := 1) X dd_Finder_operate_113 (by decide) ?_
      refine z_goto (tgt := 118) X dd_Finder_operate_114 (by decide) ?_
      refine z_sub [] rfl ?_
      exact t_Finder_operate_118 X H h
  rw [if_neg q13] at h
  by_cases q15 : a0 = 16
  · rw [if_pos q15] at h
    refine z_tableIn (tgt := 119) (off := 118) X dd_Finder_operate_1 (by rw [q15]; decide) (by rw [q15]; decide) (by rw [q15]; rfl) (by decide) ?_
    refine z_iload_n X dd_Finder_operate_119 rfl 1 rfl ?_
    refine z_iload_n X dd_Finder_operate_120 rfl 2 rfl ?_
    refine z_icmp_le (tgt := 128) X dd_Finder_operate_121 (by decide) (fun q16 => ?_) (fun q16 => ?_)
    · rw [if_pos q16] at h
      refine z_iconst (v := 0) X dd_Finder_operate_128 (by decide) ?_
      refine z_sub [] rfl ?_
      exact t_Finder_operate_129 X H h
    · rw [if_neg q16] at h
      refine z_iconst (v := 1) X dd_Finder_operate_124 (by decide) ?_
      refine z_goto (tgt := 129) X dd_Finder_operate_125 (by decide) ?_
      refine z_sub [] rfl ?_
      exact t_Finder_operate_129 X H h
  rw [if_neg q15] at h
  refine z_tableOut (tgt := 130) X dd_Finder_operate_1 (by have yq1 := lv_neT q1 (a := 9) (by decide); have yq3 := lv_neT q3 (a := 10) (by decide); have yq5 := lv_neT q5 (a := 11) (by decide); have yq7 := lv_neT q7 (a := 12) (by decide); have yq9 := lv_neT q9 (a := 13) (by decide); have yq11 := lv_neT q11 (a := 14) (by decide); have yq13 := lv_neT q13 (a := 15) (by decide); have yq15 := lv_neT q15 (a := 16) (by decide); omega) (by decide) ?_
  refine z_iload_n X dd_Finder_operate_130 rfl 1 rfl ?_
  refine z_iload_n X dd_Finder_operate_131 rfl 2 rfl ?_
  refine z_icmp_lt (tgt := 139) X dd_Finder_operate_132 (by decide) (fun q17 => ?_) (fun q17 => ?_)
  · rw [if_pos q17] at h
    refine z_iconst (v := 0) X dd_Finder_operate_139 (by decide) ?_
    refine z_sub [] rfl ?_
    exact t_Finder_operate_140 X H h
  · rw [if_neg q17] at h
    refine z_iconst (v := 1) X dd_Finder_operate_135 (by decide) ?_
    refine z_goto (tgt := 140) X dd_Finder_operate_136 (by decide) ?_
    refine z_sub [] rfl ?_
    exact t_Finder_operate_140 X H h
theorem dd_Finder_evaluate_0 : decode bb_Finder_evaluate 0 = .ok (.iconst 0, 1) := by decide +kernel
theorem dd_Finder_evaluate_1 : decode bb_Finder_evaluate 1 = .ok (.istore_n 3, 1) := by decide +kernel
theorem dd_Finder_evaluate_2 : decode bb_Finder_evaluate 2 = .ok (.iload_n 1, 1) := by decide +kernel
theorem dd_Finder_evaluate_3 : decode bb_Finder_evaluate 3 = .ok (.istore 4, 2) := by decide +kernel
theorem dd_Finder_evaluate_5 : decode bb_Finder_evaluate 5 = .ok (.iload 4, 2) := by decide +kernel
theorem dd_Finder_evaluate_7 : decode bb_Finder_evaluate 7 = .ok (.iload_n 2, 1) := by decide +kernel
theorem dd_Finder_evaluate_8 : decode bb_Finder_evaluate 8 = .ok (.if_icmp .ge 256, 3) := by decide +kernel
theorem dd_Finder_evaluate_11 : decode bb_Finder_evaluate 11 = .ok (.aload_n 0, 1) := by decide +kernel
theorem dd_Finder_evaluate_12 : decode bb_Finder_evaluate 12 = .ok (.getfield 31, 3) := by decide +kernel
theorem dd_Finder_evaluate_15 : decode bb_Finder_evaluate 15 = .ok (.getfield 91, 3) := by decide +kernel
theorem dd_Finder_evaluate_18 : decode bb_Finder_evaluate 18 = .ok (.iload 4, 2) := by decide +kernel
theorem dd_Finder_evaluate_20 : decode bb_Finder_evaluate 20 = .ok (.iaload, 1) := by decide +kernel
theorem dd_Finder_evaluate_21 : decode bb_Finder_evaluate 21 = .ok (.bipush 32, 2) := by decide +kernel
theorem dd_Finder_evaluate_23 : decode bb_Finder_evaluate 23 = .ok (.irem, 1) := by decide +kernel
theorem dd_Finder_evaluate_24 : decode bb_Finder_evaluate 24 = .ok (.istore 5, 2) := by decide +kernel
theorem dd_Finder_evaluate_26 : decode bb_Finder_evaluate 26 = .ok (.aload_n 0, 1) := by decide +kernel
theorem dd_Finder_evaluate_27 : decode bb_Finder_evaluate 27 = .ok (.getfield 31, 3) := by decide +kernel
theorem dd_Finder_evaluate_30 : decode bb_Finder_evaluate 30 = .ok (.getfield 91, 3) := by decide +kernel
theorem dd_Finder_evaluate_33 : decode bb_Finder_evaluate 33 = .ok (.iload 4, 2) := by decide +kernel
theorem dd_Finder_evaluate_35 : decode bb_Finder_evaluate 35 = .ok (.iaload, 1) := by decide +kernel
theorem dd_Finder_evaluate_36 : decode bb_Finder_evaluate 36 = .ok (.bipush 32, 2) := by decide +kernel
theorem dd_Finder_evaluate_38 : decode bb_Finder_evaluate 38 = .ok (.idiv, 1) := by decide +kernel
theorem dd_Finder_evaluate_39 : decode bb_Finder_evaluate 39 = .ok (.istore 6, 2) := by decide +kernel
theorem dd_Finder_evaluate_41 : decode bb_Finder_evaluate 41 = .ok (.iload 5, 2) := by decide +kernel
theorem dd_Finder_evaluate_43 : decode bb_Finder_evaluate 43 = .ok (.iconst 4, 1) := by decide +kernel
theorem dd_Finder_evaluate_44 : decode bb_Finder_evaluate 44 = .ok (.if_icmp .gt 67, 3) := by decide +kernel
theorem dd_Finder_evaluate_47 : decode bb_Finder_evaluate 47 = .ok (.iload_n 3, 1) := by decide +kernel
theorem dd_Finder_evaluate_48 : decode bb_Finder_evaluate 48 = .ok (.bipush 80, 2) := by decide +kernel
theorem dd_Finder_evaluate_50 : decode bb_Finder_evaluate 50 = .ok (.if_icmp .ge 208, 3) := by decide +kernel
theorem dd_Finder_evaluate_53 : decode bb_Finder_evaluate 53 = .ok (.iload 5, 2) := by decide +kernel
theorem dd_Finder_evaluate_55 : decode bb_Finder_evaluate 55 = .ok (.iconst 4, 1) := by decide +kernel
theorem dd_Finder_evaluate_56 : decode bb_Finder_evaluate 56 = .ok (.if_icmp .ne 23, 3) := by decide +kernel
theorem dd_Finder_evaluate_59 : decode bb_Finder_evaluate 59 = .ok (.aload_n 0, 1) := by decide +kernel
theorem dd_Finder_evaluate_60 : decode bb_Finder_evaluate 60 = .ok (.getfield 44, 3) := by decide +kernel
theorem dd_Finder_evaluate_63 : decode bb_Finder_evaluate 63 = .ok (.aload_n 0, 1) := by decide +kernel
theorem dd_Finder_evaluate_64 : decode bb_Finder_evaluate 64 = .ok (.getfield 31, 3) := by decide +kernel
theorem dd_Finder_evaluate_67 : decode bb_Finder_evaluate 67 = .ok (.iload 6, 2) := by decide +kernel
theorem dd_Finder_evaluate_69 : decode bb_Finder_evaluate 69 = .ok (.invokevirtual 94, 3) := by decide +kernel
theorem dd_Finder_evaluate_72 : decode bb_Finder_evaluate 72 = .ok (.ifCond .eq 7, 3) := by decide +kernel
theorem dd_Finder_evaluate_75 : decode bb_Finder_evaluate 75 = .ok (.iconst 1, 1) := by decide +kernel
theorem dd_Finder_evaluate_76 : decode bb_Finder_evaluate 76 = .ok (.goto 4, 3) := by decide +kernel
theorem dd_Finder_evaluate_79 : decode bb_Finder_evaluate 79 = .ok (.iconst 0, 1) := by decide +kernel
theorem dd_Finder_evaluate_80 : decode bb_Finder_evaluate 80 = .ok (.istore 7, 2) := by decide +kernel
theorem dd_Finder_evaluate_82 : decode bb_Finder_evaluate 82 = .ok (.aload_n 0, 1) := by decide +kernel
theorem dd_Finder_evaluate_83 : decode bb_Finder_evaluate 83 = .ok (.getfield 15, 3) := by decide +kernel
theorem dd_Finder_evaluate_86 : decode bb_Finder_evaluate 86 = .ok (.iload_n 3, 1) := by decide +kernel
theorem dd_Finder_evaluate_87 : decode bb_Finder_evaluate 87 = .ok (.iload 7, 2) := by decide +kernel
theorem dd_Finder_evaluate_89 : decode bb_Finder_evaluate 89 = .ok (.ifCond .eq 7, 3) := by decide +kernel
theorem dd_Finder_evaluate_92 : decode bb_Finder_evaluate 92 = .ok (.iconst 0, 1) := by decide +kernel
theorem dd_Finder_evaluate_93 : decode bb_Finder_evaluate 93 = .ok (.goto 11, 3) := by decide +kernel
theorem dd_Finder_evaluate_96 : decode bb_Finder_evaluate 96 = .ok (.aload_n 0, 1) := by decide +kernel
theorem dd_Finder_evaluate_97 : decode bb_Finder_evaluate 97 = .ok (.iload 5, 2) := by decide +kernel
theorem dd_Finder_evaluate_99 : decode bb_Finder_evaluate 99 = .ok (.iload 6, 2) := by decide +kernel
theorem dd_Finder_evaluate_101 : decode bb_Finder_evaluate 101 = .ok (.invokevirtual 98, 3) := by decide +kernel
theorem dd_Finder_evaluate_104 : decode bb_Finder_evaluate 104 = .ok (.iastore, 1) := by decide +kernel
theorem dd_Finder_evaluate_105 : decode bb_Finder_evaluate 105 = .ok (.iinc 3 1, 3) := by decide +kernel
theorem dd_Finder_evaluate_108 : decode bb_Finder_evaluate 108 = .ok (.goto 150, 3) := by decide +kernel
theorem dd_Finder_evaluate_111 : decode bb_Finder_evaluate 111 = .ok (.iload_n 3, 1) := by decide +kernel
theorem dd_Finder_evaluate_112 : decode bb_Finder_evaluate 112 = .ok (.ifCond .le 49, 3) := by decide +kernel
theorem dd_Finder_evaluate_115 : decode bb_Finder_evaluate 115 = .ok (.iload 5, 2) := by decide +kernel
theorem dd_Finder_evaluate_117 : decode bb_Finder_evaluate 117 = .ok (.bipush 6, 2) := by decide +kernel
theorem dd_Finder_evaluate_119 : decode bb_Finder_evaluate 119 = .ok (.if_icmp .gt 42, 3) := by decide +kernel
theorem dd_Finder_evaluate_122 : decode bb_Finder_evaluate 122 = .ok (.aload_n 0, 1) := by decide +kernel
theorem dd_Finder_evaluate_123 : decode bb_Finder_evaluate 123 = .ok (.getfield 15, 3) := by decide +kernel
theorem dd_Finder_evaluate_126 : decode bb_Finder_evaluate 126 = .ok (.iload_n 3, 1) := by decide +kernel
theorem dd_Finder_evaluate_127 : decode bb_Finder_evaluate 127 = .ok (.iconst 1, 1) := by decide +kernel
theorem dd_Finder_evaluate_128 : decode bb_Finder_evaluate 128 = .ok (.isub, 1) := by decide +kernel
theorem dd_Finder_evaluate_129 : decode bb_Finder_evaluate 129 = .ok (.iload 5, 2) := by decide +kernel
theorem dd_Finder_evaluate_131 : decode bb_Finder_evaluate 131 = .ok (.iconst 5, 1) := by decide +kernel
theorem dd_Finder_evaluate_132 : decode bb_Finder_evaluate 132 = .ok (.if_icmp .ne 15, 3) := by decide +kernel
theorem dd_Finder_evaluate_135 : decode bb_Finder_evaluate 135 = .ok (.aload_n 0, 1) := by decide +kernel
theorem dd_Finder_evaluate_136 : decode bb_Finder_evaluate 136 = .ok (.getfield 15, 3) := by decide +kernel
theorem dd_Finder_evaluate_139 : decode bb_Finder_evaluate 139 = .ok (.iload_n 3, 1) := by decide +kernel
theorem dd_Finder_evaluate_140 : decode bb_Finder_evaluate 140 = .ok (.iconst 1, 1) := by decide +kernel
theorem dd_Finder_evaluate_141 : decode bb_Finder_evaluate 141 = .ok (.isub, 1) := by decide +kernel
theorem dd_Finder_evaluate_142 : decode bb_Finder_evaluate 142 = .ok (.iaload, 1) := by decide +kernel
theorem dd_Finder_evaluate_143 : decode bb_Finder_evaluate 143 = .ok (.ineg, 1) := by decide +kernel
theorem dd_Finder_evaluate_144 : decode bb_Finder_evaluate 144 = .ok (.goto 13, 3) := by decide +kernel
theorem dd_Finder_evaluate_147 : decode bb_Finder_evaluate 147 = .ok (.iconst 1, 1) := by decide +kernel
theorem dd_Finder_evaluate_148 : decode bb_Finder_evaluate 148 = .ok (.aload_n 0, 1) := by decide +kernel
theorem dd_Finder_evaluate_149 : decode bb_Finder_evaluate 149 = .ok (.getfield 15, 3) := by decide +kernel
theorem dd_Finder_evaluate_152 : decode bb_Finder_evaluate 152 = .ok (.iload_n 3, 1) := by decide +kernel
theorem dd_Finder_evaluate_153 : decode bb_Finder_evaluate 153 = .ok (.iconst 1, 1) := by decide +kernel
theorem dd_Finder_evaluate_154 : decode bb_Finder_evaluate 154 = .ok (.isub, 1) := by decide +kernel
theorem dd_Finder_evaluate_155 : decode bb_Finder_evaluate 155 = .ok (.iaload, 1) := by decide +kernel
theorem dd_Finder_evaluate_156 : decode bb_Finder_evaluate 156 = .ok (.isub, 1) := by decide +kernel
theorem dd_Finder_evaluate_157 : decode bb_Finder_evaluate 157 = .ok (.iastore, 1) := by decide +kernel
theorem dd_Finder_evaluate_158 : decode bb_Finder_evaluate 158 = .ok (.goto 100, 3) := by decide +kernel
theorem dd_Finder_evaluate_161 : decode bb_Finder_evaluate 161 = .ok (.iload_n 3, 1) := by decide +kernel
theorem dd_Finder_evaluate_162 : decode bb_Finder_evaluate 162 = .ok (.ifCond .le 61, 3) := by decide +kernel
theorem dd_Finder_evaluate_165 : decode bb_Finder_evaluate 165 = .ok (.iload 5, 2) := by decide +kernel
theorem dd_Finder_evaluate_167 : decode bb_Finder_evaluate 167 = .ok (.bipush 8, 2) := by decide +kernel
theorem dd_Finder_evaluate_169 : decode bb_Finder_evaluate 169 = .ok (.if_icmp .gt 54, 3) := by decide +kernel
theorem dd_Finder_evaluate_172 : decode bb_Finder_evaluate 172 = .ok (.aload_n 0, 1) := by decide +kernel
theorem dd_Finder_evaluate_173 : decode bb_Finder_evaluate 173 = .ok (.getfield 15, 3) := by decide +kernel
theorem dd_Finder_evaluate_176 : decode bb_Finder_evaluate 176 = .ok (.iload_n 3, 1) := by decide +kernel
theorem dd_Finder_evaluate_177 : decode bb_Finder_evaluate 177 = .ok (.iconst 1, 1) := by decide +kernel
theorem dd_Finder_evaluate_178 : decode bb_Finder_evaluate 178 = .ok (.isub, 1) := by decide +kernel
theorem dd_Finder_evaluate_179 : decode bb_Finder_evaluate 179 = .ok (.iaload, 1) := by decide +kernel
theorem dd_Finder_evaluate_180 : decode bb_Finder_evaluate 180 = .ok (.ifCond .eq 7, 3) := by decide +kernel
theorem dd_Finder_evaluate_183 : decode bb_Finder_evaluate 183 = .ok (.iconst 1, 1) := by decide +kernel
theorem dd_Finder_evaluate_184 : decode bb_Finder_evaluate 184 = .ok (.goto 4, 3) := by decide +kernel
theorem dd_Finder_evaluate_187 : decode bb_Finder_evaluate 187 = .ok (.iconst 0, 1) := by decide +kernel
theorem dd_Finder_evaluate_188 : decode bb_Finder_evaluate 188 = .ok (.iload 5, 2) := by decide +kernel
theorem dd_Finder_evaluate_190 : decode bb_Finder_evaluate 190 = .ok (.bipush 8, 2) := by decide +kernel
theorem dd_Finder_evaluate_192 : decode bb_Finder_evaluate 192 = .ok (.if_icmp .ne 7, 3) := by decide +kernel
theorem dd_Finder_evaluate_195 : decode bb_Finder_evaluate 195 = .ok (.iconst 1, 1) := by decide +kernel
theorem dd_Finder_evaluate_196 : decode bb_Finder_evaluate 196 = .ok (.goto 4, 3) := by decide +kernel
theorem dd_Finder_evaluate_199 : decode bb_Finder_evaluate 199 = .ok (.iconst 0, 1) := by decide +kernel
theorem dd_Finder_evaluate_200 : decode bb_Finder_evaluate 200 = .ok (.if_icmp .ne 17, 3) := by decide +kernel
theorem dd_Finder_evaluate_203 : decode bb_Finder_evaluate 203 = .ok (.iload 4, 2) := by decide +kernel
theorem dd_Finder_evaluate_205 : decode bb_Finder_evaluate 205 = .ok (.iload 6, 2) := by decide +kernel
theorem dd_Finder_evaluate_207 : decode bb_Finder_evaluate 207 = .ok (.iconst 1, 1) := by decide +kernel
theorem dd_Finder_evaluate_208 : decode bb_Finder_evaluate 208 = .ok (.isub, 1) := by decide +kernel
theorem dd_Finder_evaluate_209 : decode bb_Finder_evaluate 209 = .ok (.invokestatic 101, 3) := by decide +kernel
theorem dd_Finder_evaluate_212 : decode bb_Finder_evaluate 212 = .ok (.istore 4, 2) := by decide +kernel
theorem dd_Finder_evaluate_214 : decode bb_Finder_evaluate 214 = .ok (.goto 44, 3) := by decide +kernel
theorem dd_Finder_evaluate_217 : decode bb_Finder_evaluate 217 = .ok (.iinc 3 (-1), 3) := by decide +kernel
theorem dd_Finder_evaluate_220 : decode bb_Finder_evaluate 220 = .ok (.goto 38, 3) := by decide +kernel
theorem dd_Finder_evaluate_223 : decode bb_Finder_evaluate 223 = .ok (.iload_n 3, 1) := by decide +kernel
theorem dd_Finder_evaluate_224 : decode bb_Finder_evaluate 224 = .ok (.iconst 1, 1) := by decide +kernel
theorem dd_Finder_evaluate_225 : decode bb_Finder_evaluate 225 = .ok (.if_icmp .le 33, 3) := by decide +kernel
theorem dd_Finder_evaluate_228 : decode bb_Finder_evaluate 228 = .ok (.iinc 3 (-1), 3) := by decide +kernel
theorem dd_Finder_evaluate_231 : decode bb_Finder_evaluate 231 = .ok (.aload_n 0, 1) := by decide +kernel
theorem dd_Finder_evaluate_232 : decode bb_Finder_evaluate 232 = .ok (.getfield 15, 3) := by decide +kernel
theorem dd_Finder_evaluate_235 : decode bb_Finder_evaluate 235 = .ok (.iload_n 3, 1) := by decide +kernel
theorem dd_Finder_evaluate_236 : decode bb_Finder_evaluate 236 = .ok (.iconst 1, 1) := by decide +kernel
theorem dd_Finder_evaluate_237 : decode bb_Finder_evaluate 237 = .ok (.isub, 1) := by decide +kernel
theorem dd_Finder_evaluate_238 : decode bb_Finder_evaluate 238 = .ok (.iload 5, 2) := by decide +kernel
theorem dd_Finder_evaluate_240 : decode bb_Finder_evaluate 240 = .ok (.aload_n 0, 1) := by decide +kernel
theorem dd_Finder_evaluate_241 : decode bb_Finder_evaluate 241 = .ok (.getfield 15, 3) := by decide +kernel
theorem dd_Finder_evaluate_244 : decode bb_Finder_evaluate 244 = .ok (.iload_n 3, 1) := by decide +kernel
theorem dd_Finder_evaluate_245 : decode bb_Finder_evaluate 245 = .ok (.iconst 1, 1) := by decide +kernel
theorem dd_Finder_evaluate_246 : decode bb_Finder_evaluate 246 = .ok (.isub, 1) := by decide +kernel
theorem dd_Finder_evaluate_247 : decode bb_Finder_evaluate 247 = .ok (.iaload, 1) := by decide +kernel
theorem dd_Finder_evaluate_248 : decode bb_Finder_evaluate 248 = .ok (.aload_n 0, 1) := by decide +kernel
theorem dd_Finder_evaluate_249 : decode bb_Finder_evaluate 249 = .ok (.getfield 15, 3) := by decide +kernel
theorem dd_Finder_evaluate_252 : decode bb_Finder_evaluate 252 = .ok (.iload_n 3, 1) := by decide +kernel
theorem dd_Finder_evaluate_253 : decode bb_Finder_evaluate 253 = .ok (.iaload, 1) := by decide +kernel
theorem dd_Finder_evaluate_254 : decode bb_Finder_evaluate 254 = .ok (.invokestatic 106, 3) := by decide +kernel
theorem dd_Finder_evaluate_257 : decode bb_Finder_evaluate 257 = .ok (.iastore, 1) := by decide +kernel
theorem dd_Finder_evaluate_258 : decode bb_Finder_evaluate 258 = .ok (.iinc 4 1, 3) := by decide +kernel
theorem dd_Finder_evaluate_261 : decode bb_Finder_evaluate 261 = .ok (.goto (-256), 3) := by decide +kernel
theorem dd_Finder_evaluate_264 : decode bb_Finder_evaluate 264 = .ok (.iload_n 3, 1) := by decide +kernel
theorem dd_Finder_evaluate_265 : decode bb_Finder_evaluate 265 = .ok (.ifCond .le 14, 3) := by decide +kernel
theorem dd_Finder_evaluate_268 : decode bb_Finder_evaluate 268 = .ok (.aload_n 0, 1) := by decide +kernel
theorem dd_Finder_evaluate_269 : decode bb_Finder_evaluate 269 = .ok (.getfield 15, 3) := by decide +kernel
theorem dd_Finder_evaluate_272 : decode bb_Finder_evaluate 272 = .ok (.iload_n 3, 1) := by decide +kernel
theorem dd_Finder_evaluate_273 : decode bb_Finder_evaluate 273 = .ok (.iconst 1, 1) := by decide +kernel
theorem dd_Finder_evaluate_274 : decode bb_Finder_evaluate 274 = .ok (.isub, 1) := by decide +kernel
theorem dd_Finder_evaluate_275 : decode bb_Finder_evaluate 275 = .ok (.iaload, 1) := by decide +kernel
theorem dd_Finder_evaluate_276 : decode bb_Finder_evaluate 276 = .ok (.goto 4, 3) := by decide +kernel
theorem dd_Finder_evaluate_279 : decode bb_Finder_evaluate 279 = .ok (.iconst 0, 1) := by decide +kernel
theorem dd_Finder_evaluate_280 : decode bb_Finder_evaluate 280 = .ok (.ireturn, 1) := by decide +kernel
set_option maxRecDepth 100000 in
set_option maxHeartbeats 4000000 in
theorem t_Finder_evaluate_258  (X : zX p s m args cd D cid B bb_Finder_evaluate 8 rr_Finder zT) (H : zH s meth B n0 (some (.int)) "evaluate") {nf : Nat} {x0 : Nat} {x2 : Int32} {x3 : Int32} {x4 : Int32} {c : Zc} {r : (Nat × Int32 × Int32 × Int32 × Zc) ⊕ (Nat × Int32 × Zc)} (h : f_Finder_evaluate_258 nf x0 x2 x3 x4 c = some r) (k0 : ∀ a, r = .inl a → (fun a : Nat × Int32 × Int32 × Int32 × Zc => Zz p l e (zRm 3 72 0 0) s m args below meth cd Q D cid B 8 0 0 a.2.2.2.2 5 [(0, .ref a.1), (2, .int a.2.1), (3, .int a.2.2.1), (4, .int a.2.2.2.1)] []) a) (k1 : ∀ b, r = .inr b → (fun b : Nat × Int32 × Zc => Zz p l e (zRm 3 72 0 0) s m args below meth cd Q D cid B 8 0 0 b.2.2 264 [(0, .ref b.1), (3, .int b.2.1)] []) b) : Zz p l e (zRm 3 72 0 0) s m args below meth cd Q D cid B 8 0 0 c 258 [(0, .ref x0), (2, .int x2), (3, .int x3), (4, .int x4)] [] := by
  unfold f_Finder_evaluate_258 at h
  refine z_iinc (v := (x4 + 1)) (lv' := [(4, .int (x4 + 1)), (0, .ref x0), (2, .int x2), (3, .int x3)]) X dd_Finder_evaluate_258 3 rfl rfl (by decide) rfl ?_
  refine z_goto (tgt := 5) X dd_Finder_evaluate_261 (by decide) ?_
  refine z_sub [1, 2, 3, 0] rfl ?_
  obtain rfl := Option.some.inj h
  exact k0 _ rfl
set_option maxRecDepth 100000 in
set_option maxHeartbeats 4000000 in
theorem t_Finder_evaluate_223  (X : zX p s m args cd D cid B bb_Finder_evaluate 8 rr_Finder zT) (H : zH s meth B n0 (some (.int)) "evaluate") {nf : Nat} {x0 : Nat} {x2 : Int32} {x3 : Int32} {x4 : Int32} {x5 : Int32} {c : Zc} {r : (Nat × Int32 × Int32 × Int32 × Zc) ⊕ (Nat × Int32 × Zc)} (h : f_Finder_evaluate_223 nf x0 x2 x3 x4 x5 c = some r) (k0 : ∀ a, r = .inl a → (fun a : Nat × Int32 × Int32 × Int32 × Zc => Zz p l e (zRm 3 72 0 0) s m args below meth cd Q D cid B 8 0 0 a.2.2.2.2 5 [(0, .ref a.1), (2, .int a.2.1), (3, .int a.2.2.1), (4, .int a.2.2.2.1)] []) a) (k1 : ∀ b, r = .inr b → (fun b : Nat × Int32 × Zc => Zz p l e (zRm 3 72 0 0) s m args below meth cd Q D cid B 8 0 0 b.2.2 264 [(0, .ref b.1), (3, .int b.2.1)] []) b) : Zz p l e (zRm 3 72 0 0) s m args below meth cd Q D cid B 8 0 0 c 223 [(0, .ref x0), (2, .int x2), (3, .int x3), (4, .int x4), (5, .int x5)] [] := by
  unfold f_Finder_evaluate_223 at h
  refine z_iload_n X dd_Finder_evaluate_223 rfl 2 rfl ?_
  refine z_iconst (v := 1) X dd_Finder_evaluate_224 (by decide) ?_
  refine z_icmp_le (tgt := 258) X dd_Finder_evaluate_225 (by decide) (fun q13 => ?_) (fun q13 => ?_)
  · rw [if_pos q13] at h
    refine z_sub [0, 1, 2, 3] rfl ?_
    exact t_Finder_evaluate_258 X H h k0 k1
  · rw [if_neg q13] at h
    refine z_iinc (v := (x3 + (-1))) (lv' := [(3, .int (x3 + (-1))), (0, .ref x0), (2, .int x2), (4, .int x4), (5, .int x5)]) X dd_Finder_evaluate_228 2 rfl rfl (by decide) rfl ?_
    refine z_aload_n X dd_Finder_evaluate_231 rfl 1 rfl ?_
    obtain ⟨v14, ev14, h⟩ := zb h
    refine z_get (j := 4) X dd_Finder_evaluate_232 kc_7 ki_7 (by decide) km_589 (zgr_v ev14) ?_
    refine z_iload_n X dd_Finder_evaluate_235 rfl 0 rfl ?_
    refine z_iconst (v := 1) X dd_Finder_evaluate_236 (by decide) ?_
    refine z_isub X dd_Finder_evaluate_237 ?_
    refine z_iload X dd_Finder_evaluate_238 4 rfl ?_
    refine z_aload_n X dd_Finder_evaluate_240 rfl 1 rfl ?_
    obtain ⟨v15, ev15, h⟩ := zb h
    refine z_get (j := 4) X dd_Finder_evaluate_241 kc_7 ki_7 (by decide) km_589 (zgr_v ev15) ?_
    refine z_iload_n X dd_Finder_evaluate_244 rfl 0 rfl ?_
    refine z_iconst (v := 1) X dd_Finder_evaluate_245 (by decide) ?_
    refine z_isub X dd_Finder_evaluate_246 ?_
    obtain ⟨v16, ev16, h⟩ := zb h
    refine z_iaload X dd_Finder_evaluate_247 rfl ev16 ?_
    refine z_aload_n X dd_Finder_evaluate_248 rfl 1 rfl ?_
    obtain ⟨v17, ev17, h⟩ := zb h
    refine z_get (j := 4) X dd_Finder_evaluate_249 kc_7 ki_7 (by decide) km_589 (zgr_v ev17) ?_
    refine z_iload_n X dd_Finder_evaluate_252 rfl 0 rfl ?_
    obtain ⟨v18, ev18, h⟩ := zb h
    refine z_iaload X dd_Finder_evaluate_253 rfl ev18 ?_
    obtain ⟨q19, eq19, h⟩ := zb h
    refine z_callSi X [.int x5, .int v16, .int v18] rfl dd_Finder_evaluate_254 (c_Finder_operate l eq19) (va_cwS 3 X.1.2.2.2.2 (zg_S km_1373 km_1374 km_133 km_1375) rfl rfl rfl (by decide +kernel) ⟨Nat.le_of_ble_eq_true rfl, Nat.le_of_ble_eq_true rfl⟩) rfl (Nat.le_of_ble_eq_true rfl) ⟨Nat.le_of_ble_eq_true rfl, Nat.le_of_ble_eq_true rfl⟩ ?_
    obtain ⟨c20, ec20, h⟩ := zb h
    refine z_iastore X dd_Finder_evaluate_257 rfl ec20 ?_
    refine z_sub [1, 2, 0, 3] rfl ?_
    exact t_Finder_evaluate_258 X H h k0 k1
set_option maxRecDepth 100000 in
set_option maxHeartbeats 4000000 in
theorem t_Finder_evaluate_200  (X : zX p s m args cd D cid B bb_Finder_evaluate 8 rr_Finder zT) (H : zH s meth B n0 (some (.int)) "evaluate") {nf : Nat} {x0 : Nat} {x2 : Int32} {x3 : Int32} {x4 : Int32} {x6 : Int32} {s0 : Int32} {s1 : Int32} {c : Zc} {r : (Nat × Int32 × Int32 × Int32 × Zc) ⊕ (Nat × Int32 × Zc)} (h : f_Finder_evaluate_200 nf x0 x2 x3 x4 x6 s0 s1 c = some r) (k0 : ∀ a, r = .inl a → (fun a : Nat × Int32 × Int32 × Int32 × Zc => Zz p l e (zRm 3 72 0 0) s m args below meth cd Q D cid B 8 0 0 a.2.2.2.2 5 [(0, .ref a.1), (2, .int a.2.1), (3, .int a.2.2.1), (4, .int a.2.2.2.1)] []) a) (k1 : ∀ b, r = .inr b → (fun b : Nat × Int32 × Zc => Zz p l e (zRm 3 72 0 0) s m args below meth cd Q D cid B 8 0 0 b.2.2 264 [(0, .ref b.1), (3, .int b.2.1)] []) b) : Zz p l e (zRm 3 72 0 0) s m args below meth cd Q D cid B 8 0 0 c 200 [(0, .ref x0), (2, .int x2), (3, .int x3), (4, .int x4), (6, .int x6)] [.int s1, .int s0] := by
  unfold f_Finder_evaluate_200 at h
  refine z_icmp_ne (tgt := 217) X dd_Finder_evaluate_200 (by decide) (fun q26 => ?_) (fun q26 => ?_)
  · rw [if_neg q26] at h
    refine z_iinc (v := (x3 + (-1))) (lv' := [(3, .int (x3 + (-1))), (0, .ref x0), (2, .int x2), (4, .int x4), (6, .int x6)]) X dd_Finder_evaluate_217 2 rfl rfl (by decide) rfl ?_
    refine z_goto (tgt := 258) X dd_Finder_evaluate_220 (by decide) ?_
    refine z_sub [1, 2, 0, 3] rfl ?_
    exact t_Finder_evaluate_258 X H h k0 k1
  · rw [if_pos q26] at h
    refine z_iload X dd_Finder_evaluate_203 3 rfl ?_
    refine z_iload X dd_Finder_evaluate_205 4 rfl ?_
    refine z_iconst (v := 1) X dd_Finder_evaluate_207 (by decide) ?_
    refine z_isub X dd_Finder_evaluate_208 ?_
    obtain ⟨q27, eq27, h⟩ := zb h
    refine z_callSi X [.int x4, .int (x6 - 1)] rfl dd_Finder_evaluate_209 (c_Math_max_0 l eq27) (va_cwS 2 X.1.2.2.2.2 (zg_S km_1372 km_899 km_139 km_900) rfl rfl rfl (by decide +kernel) ⟨Nat.le_of_ble_eq_true rfl, Nat.le_of_ble_eq_true rfl⟩) rfl (Nat.le_of_ble_eq_true rfl) ⟨Nat.le_of_ble_eq_true rfl, Nat.le_of_ble_eq_true rfl⟩ ?_
    refine z_istore (lv' := [(4, .int q27.1), (0, .ref x0), (2, .int x2), (3, .int x3), (6, .int x6)]) X dd_Finder_evaluate_212 (by decide) rfl ?_
    refine z_goto (tgt := 258) X dd_Finder_evaluate_214 (by decide) ?_
    refine z_sub [1, 2, 3, 0] rfl ?_
    exact t_Finder_evaluate_258 X H h k0 k1
set_option maxRecDepth 100000 in
set_option maxHeartbeats 4000000 in
theorem t_Finder_evaluate_188  (X : zX p s m args cd D cid B bb_Finder_evaluate 8 rr_Finder zT) (H : zH s meth B n0 (some (.int)) "evaluate") {nf : Nat} {x0 : Nat} {x2 : Int32} {x3 : Int32} {x4 : Int32} {x5 : Int32} {x6 : Int32} {s0 : Int32} {c : Zc} {r : (Nat × Int32 × Int32 × Int32 × Zc) ⊕ (Nat × Int32 × Zc)} (h : f_Finder_evaluate_188 nf x0 x2 x3 x4 x5 x6 s0 c = some r) (k0 : ∀ a, r = .inl a → (fun a : Nat × Int32 × Int32 × Int32 × Zc => Zz p l e (zRm 3 72 0 0) s m args below meth cd Q D cid B 8 0 0 a.2.2.2.2 5 [(0, .ref a.1), (2, .int a.2.1), (3, .int a.2.2.1), (4, .int a.2.2.2.1)] []) a) (k1 : ∀ b, r = .inr b → (fun b : Nat × Int32 × Zc => Zz p l e (zRm 3 72 0 0) s m args below meth cd Q D cid B 8 0 0 b.2.2 264 [(0, .ref b.1), (3, .int b.2.1)] []) b) : Zz p l e (zRm 3 72 0 0) s m args below meth cd Q D cid B 8 0 0 c 188 [(0, .ref x0), (2, .int x2), (3, .int x3), (4, .int x4), (5, .int x5), (6, .int x6)] [.int s0] := by
  unfold f_Finder_evaluate_188 at h
  refine z_iload X dd_Finder_evaluate_188 4 rfl ?_
  refine z_bipush (v := 8) X dd_Finder_evaluate_190 (by decide) ?_
  refine z_icmp_ne (tgt := 199) X dd_Finder_evaluate_192 (by decide) (fun q25 => ?_) (fun q25 => ?_)
  · rw [if_neg q25] at h
    refine z_iconst (v := 0) X dd_Finder_evaluate_199 (by decide) ?_
    refine z_sub [0, 1, 2, 3, 5] rfl ?_
    exact t_Finder_evaluate_200 X H h k0 k1
  · rw [if_pos q25] at h
    refine z_iconst (v := 1) X dd_Finder_evaluate_195 (by decide) ?_
    refine z_goto (tgt := 200) X dd_Finder_evaluate_196 (by decide) ?_
    refine z_sub [0, 1, 2, 3, 5] rfl ?_
    exact t_Finder_evaluate_200 X H h k0 k1
set_option maxRecDepth 100000 in
set_option maxHeartbeats 4000000 in
theorem t_Finder_evaluate_161  (X : zX p s m args cd D cid B bb_Finder_evaluate 8 rr_Finder zT) (H : zH s meth B n0 (some (.int)) "evaluate") {nf : Nat} {x0 : Nat} {x2 : Int32} {x3 : Int32} {x4 : Int32} {x5 : Int32} {x6 : Int32} {c : Zc} {r : (Nat × Int32 × Int32 × Int32 × Zc) ⊕ (Nat × Int32 × Zc)} (h : f_Finder_evaluate_161 nf x0 x2 x3 x4 x5 x6 c = some r) (k0 : ∀ a, r = .inl a → (fun a : Nat × Int32 × Int32 × Int32 × Zc => Zz p l e (zRm 3 72 0 0) s m args below meth cd Q D cid B 8 0 0 a.2.2.2.2 5 [(0, .ref a.1), (2, .int a.2.1), (3, .int a.2.2.1), (4, .int a.2.2.2.1)] []) a) (k1 : ∀ b, r = .inr b → (fun b : Nat × Int32 × Zc => Zz p l e (zRm 3 72 0 0) s m args below meth cd Q D cid B 8 0 0 b.2.2 264 [(0, .ref b.1), (3, .int b.2.1)] []) b) : Zz p l e (zRm 3 72 0 0) s m args below meth cd Q D cid B 8 0 0 c 161 [(0, .ref x0), (2, .int x2), (3, .int x3), (4, .int x4), (5, .int x5), (6, .int x6)] [] := by
  unfold f_Finder_evaluate_161 at h
  refine z_iload_n X dd_Finder_evaluate_161 rfl 2 rfl ?_
  refine z_if_le (tgt := 223) X dd_Finder_evaluate_162 (by decide) (fun q12 => ?_) (fun q12 => ?_)
  · rw [if_pos q12] at h
    refine z_sub [0, 1, 2, 3, 4] rfl ?_
    exact t_Finder_evaluate_223 X H h k0 k1
  · rw [if_neg q12] at h
    refine z_iload X dd_Finder_evaluate_165 4 rfl ?_
    refine z_bipush (v := 8) X dd_Finder_evaluate_167 (by decide) ?_
    refine z_icmp_gt (tgt := 223) X dd_Finder_evaluate_169 (by decide) (fun q21 => ?_) (fun q21 => ?_)
    · rw [if_pos q21] at h
      refine z_sub [0, 1, 2, 3, 4] rfl ?_
      exact t_Finder_evaluate_223 X H h k0 k1
    · rw [if_neg q21] at h
      refine z_aload_n X dd_Finder_evaluate_172 rfl 0 rfl ?_
      obtain ⟨v22, ev22, h⟩ := zb h
      refine z_get (j := 4) X dd_Finder_evaluate_173 kc_7 ki_7 (by decide) km_589 (zgr_v ev22) ?_
      refine z_iload_n X dd_Finder_evaluate_176 rfl 2 rfl ?_
      refine z_iconst (v := 1) X dd_Finder_evaluate_177 (by decide) ?_
      refine z_isub X dd_Finder_evaluate_178 ?_
      obtain ⟨v23, ev23, h⟩ := zb h
      refine z_iaload X dd_Finder_evaluate_179 rfl ev23 ?_
      refine z_if_eq (tgt := 187) X dd_Finder_evaluate_180 (by decide) (fun q24 => ?_) (fun q24 => ?_)
      · rw [if_pos q24] at h
        refine z_iconst (v := 0) X dd_Finder_evaluate_187 (by decide) ?_
        exact t_Finder_evaluate_188 X H h k0 k1
      · rw [if_neg q24] at h
        refine z_iconst (v := 1) X dd_Finder_evaluate_183 (by decide) ?_
        refine z_goto (tgt := 188) X dd_Finder_evaluate_184 (by decide) ?_
        exact t_Finder_evaluate_188 X H h k0 k1
set_option maxRecDepth 100000 in
set_option maxHeartbeats 4000000 in
theorem t_Finder_evaluate_157  (X : zX p s m args cd D cid B bb_Finder_evaluate 8 rr_Finder zT) (H : zH s meth B n0 (some (.int)) "evaluate") {nf : Nat} {x0 : Nat} {x2 : Int32} {x3 : Int32} {x4 : Int32} {s0 : Nat} {s1 : Int32} {s2 : Int32} {c : Zc} {r : (Nat × Int32 × Int32 × Int32 × Zc) ⊕ (Nat × Int32 × Zc)} (h : f_Finder_evaluate_157 nf x0 x2 x3 x4 s0 s1 s2 c = some r) (k0 : ∀ a, r = .inl a → (fun a : Nat × Int32 × Int32 × Int32 × Zc => Zz p l e (zRm 3 72 0 0) s m args below meth cd Q D cid B 8 0 0 a.2.2.2.2 5 [(0, .ref a.1), (2, .int a.2.1), (3, .int a.2.2.1), (4, .int a.2.2.2.1)] []) a) (k1 : ∀ b, r = .inr b → (fun b : Nat × Int32 × Zc => Zz p l e (zRm 3 72 0 0) s m args below meth cd Q D cid B 8 0 0 b.2.2 264 [(0, .ref b.1), (3, .int b.2.1)] []) b) : Zz p l e (zRm 3 72 0 0) s m args below meth cd Q D cid B 8 0 0 c 157 [(0, .ref x0), (2, .int x2), (3, .int x3), (4, .int x4)] [.int s2, .int s1, .ref s0] := by
  unfold f_Finder_evaluate_157 at h
  obtain ⟨c33, ec33, h⟩ := zb h
  refine z_iastore X dd_Finder_evaluate_157 rfl ec33 ?_
  refine z_goto (tgt := 258) X dd_Finder_evaluate_158 (by decide) ?_
  exact t_Finder_evaluate_258 X H h k0 k1
set_option maxRecDepth 100000 in
set_option maxHeartbeats 4000000 in
theorem t_Finder_evaluate_104  (X : zX p s m args cd D cid B bb_Finder_evaluate 8 rr_Finder zT) (H : zH s meth B n0 (some (.int)) "evaluate") {nf : Nat} {x0 : Nat} {x2 : Int32} {x3 : Int32} {x4 : Int32} {s0 : Nat} {s1 : Int32} {s2 : Int32} {c : Zc} {r : (Nat × Int32 × Int32 × Int32 × Zc) ⊕ (Nat × Int32 × Zc)} (h : f_Finder_evaluate_104 nf x0 x2 x3 x4 s0 s1 s2 c = some r) (k0 : ∀ a, r = .inl a → (fun a : Nat × Int32 × Int32 × Int32 × Zc => Zz p l e (zRm 3 72 0 0) s m args below meth cd Q D cid B 8 0 0 a.2.2.2.2 5 [(0, .ref a.1), (2, .int a.2.1), (3, .int a.2.2.1), (4, .int a.2.2.2.1)] []) a) (k1 : ∀ b, r = .inr b → (fun b : Nat × Int32 × Zc => Zz p l e (zRm 3 72 0 0) s m args below meth cd Q D cid B 8 0 0 b.2.2 264 [(0, .ref b.1), (3, .int b.2.1)] []) b) : Zz p l e (zRm 3 72 0 0) s m args below meth cd Q D cid B 8 0 0 c 104 [(0, .ref x0), (2, .int x2), (3, .int x3), (4, .int x4)] [.int s2, .int s1, .ref s0] := by
  unfold f_Finder_evaluate_104 at h
  obtain ⟨c42, ec42, h⟩ := zb h
  refine z_iastore X dd_Finder_evaluate_104 rfl ec42 ?_
  refine z_iinc (v := (x3 + 1)) (lv' := [(3, .int (x3 + 1)), (0, .ref x0), (2, .int x2), (4, .int x4)]) X dd_Finder_evaluate_105 2 rfl rfl (by decide) rfl ?_
  refine z_goto (tgt := 258) X dd_Finder_evaluate_108 (by decide) ?_
  refine z_sub [1, 2, 0, 3] rfl ?_
  exact t_Finder_evaluate_258 X H h k0 k1
set_option maxRecDepth 100000 in
set_option maxHeartbeats 4000000 in
theorem t_Finder_evaluate_80  (X : zX p s m args cd D cid B bb_Finder_evaluate 8 rr_Finder zT) (H : zH s meth B n0 (some (.int)) "evaluate") {nf : Nat} {x0 : Nat} {x2 : Int32} {x3 : Int32} {x4 : Int32} {x5 : Int32} {x6 : Int32} {s0 : Int32} {c : Zc} {r : (Nat × Int32 × Int32 × Int32 × Zc) ⊕ (Nat × Int32 × Zc)} (h : f_Finder_evaluate_80 nf x0 x2 x3 x4 x5 x6 s0 c = some r) (k0 : ∀ a, r = .inl a → (fun a : Nat × Int32 × Int32 × Int32 × Zc => Zz p l e (zRm 3 72 0 0) s m args below meth cd Q D cid B 8 0 0 a.2.2.2.2 5 [(0, .ref a.1), (2, .int a.2.1), (3, .int a.2.2.1), (4, .int a.2.2.2.1)] []) a) (k1 : ∀ b, r = .inr b → (fun b : Nat × Int32 × Zc => Zz p l e (zRm 3 72 0 0) s m args below meth cd Q D cid B 8 0 0 b.2.2 264 [(0, .ref b.1), (3, .int b.2.1)] []) b) : Zz p l e (zRm 3 72 0 0) s m args below meth cd Q D cid B 8 0 0 c 80 [(0, .ref x0), (2, .int x2), (3, .int x3), (4, .int x4), (5, .int x5), (6, .int x6)] [.int s0] := by
  unfold f_Finder_evaluate_80 at h
  refine z_istore (lv' := [(7, .int s0), (0, .ref x0), (2, .int x2), (3, .int x3), (4, .int x4), (5, .int x5), (6, .int x6)]) X dd_Finder_evaluate_80 (by decide) rfl ?_
  refine z_aload_n X dd_Finder_evaluate_82 rfl 1 rfl ?_
  obtain ⟨v38, ev38, h⟩ := zb h
  refine z_get (j := 4) X dd_Finder_evaluate_83 kc_7 ki_7 (by decide) km_589 (zgr_v ev38) ?_
  refine z_iload_n X dd_Finder_evaluate_86 rfl 3 rfl ?_
  refine z_iload X dd_Finder_evaluate_87 0 rfl ?_
  refine z_if_eq (tgt := 96) X dd_Finder_evaluate_89 (by decide) (fun q39 => ?_) (fun q39 => ?_)
  · rw [if_pos q39] at h
    refine z_aload_n X dd_Finder_evaluate_96 rfl 1 rfl ?_
    refine z_iload X dd_Finder_evaluate_97 5 rfl ?_
    refine z_iload X dd_Finder_evaluate_99 6 rfl ?_
    obtain ⟨w41, ew41, h⟩ := zb h
    obtain ⟨q40, eq40, h⟩ := zb h
    refine z_callVi X [.int x5, .int x6] rfl dd_Finder_evaluate_101 (c_Finder_load l eq40) (cwV 2 X.1.2.2.2.2 (zg_V km_1364 km_1366 km_53 km_133 km_1367) rfl rfl rfl (by decide +kernel) ⟨Nat.le_of_ble_eq_true rfl, Nat.le_of_ble_eq_true rfl⟩) (zob_s ew41) kc_7 rfl (Nat.le_of_ble_eq_true rfl) ⟨Nat.le_of_ble_eq_true rfl, Nat.le_of_ble_eq_true rfl⟩ ?_
    refine z_sub [1, 2, 3, 4] rfl ?_
    exact t_Finder_evaluate_104 X H h k0 k1
  · rw [if_neg q39] at h
    refine z_iconst (v := 0) X dd_Finder_evaluate_92 (by decide) ?_
    refine z_goto (tgt := 104) X dd_Finder_evaluate_93 (by decide) ?_
    refine z_sub [1, 2, 3, 4] rfl ?_
    exact t_Finder_evaluate_104 X H h k0 k1
set_option maxRecDepth 100000 in
set_option maxHeartbeats 4000000 in
theorem t_Finder_evaluate_79  (X : zX p s m args cd D cid B bb_Finder_evaluate 8 rr_Finder zT) (H : zH s meth B n0 (some (.int)) "evaluate") {nf : Nat} {x0 : Nat} {x2 : Int32} {x3 : Int32} {x4 : Int32} {x5 : Int32} {x6 : Int32} {c : Zc} {r : (Nat × Int32 × Int32 × Int32 × Zc) ⊕ (Nat × Int32 × Zc)} (h : f_Finder_evaluate_79 nf x0 x2 x3 x4 x5 x6 c = some r) (k0 : ∀ a, r = .inl a → (fun a : Nat × Int32 × Int32 × Int32 × Zc => Zz p l e (zRm 3 72 0 0) s m args below meth cd Q D cid B 8 0 0 a.2.2.2.2 5 [(0, .ref a.1), (2, .int a.2.1), (3, .int a.2.2.1), (4, .int a.2.2.2.1)] []) a) (k1 : ∀ b, r = .inr b → (fun b : Nat × Int32 × Zc => Zz p l e (zRm 3 72 0 0) s m args below meth cd Q D cid B 8 0 0 b.2.2 264 [(0, .ref b.1), (3, .int b.2.1)] []) b) : Zz p l e (zRm 3 72 0 0) s m args below meth cd Q D cid B 8 0 0 c 79 [(0, .ref x0), (2, .int x2), (3, .int x3), (4, .int x4), (5, .int x5), (6, .int x6)] [] := by
  unfold f_Finder_evaluate_79 at h
  refine z_iconst (v := 0) X dd_Finder_evaluate_79 (by decide) ?_
  exact t_Finder_evaluate_80 X H h k0 k1
set_option maxRecDepth 100000 in
set_option maxHeartbeats 4000000 in
theorem u_Finder_evaluate_5  (X : zX p s m args cd D cid B bb_Finder_evaluate 8 rr_Finder zT) (H : zH s meth B n0 (some (.int)) "evaluate") {nf : Nat} {x0 : Nat} {x2 : Int32} {x3 : Int32} {x4 : Int32} {c : Zc} {r : (Nat × Int32 × Int32 × Int32 × Zc) ⊕ (Nat × Int32 × Zc)} (h : g_Finder_evaluate_5 nf x0 x2 x3 x4 c = some r) (k0 : ∀ a, r = .inl a → (fun a : Nat × Int32 × Int32 × Int32 × Zc => Zz p l e (zRm 3 72 0 0) s m args below meth cd Q D cid B 8 0 0 a.2.2.2.2 5 [(0, .ref a.1), (2, .int a.2.1), (3, .int a.2.2.1), (4, .int a.2.2.2.1)] []) a) (k1 : ∀ b, r = .inr b → (fun b : Nat × Int32 × Zc => Zz p l e (zRm 3 72 0 0) s m args below meth cd Q D cid B 8 0 0 b.2.2 264 [(0, .ref b.1), (3, .int b.2.1)] []) b) : Zz p l e (zRm 3 72 0 0) s m args below meth cd Q D cid B 8 0 0 c 5 [(0, .ref x0), (2, .int x2), (3, .int x3), (4, .int x4)] [] := by
  unfold g_Finder_evaluate_5 at h
  refine z_iload X dd_Finder_evaluate_5 3 rfl ?_
  refine z_iload_n X dd_Finder_evaluate_7 rfl 1 rfl ?_
  refine z_icmp_ge (tgt := 264) X dd_Finder_evaluate_8 (by decide) (fun q1 => ?_) (fun q1 => ?_)
  · rw [if_pos q1] at h
    refine z_sub [0, 2] rfl ?_
    obtain rfl := Option.some.inj h
    exact k1 _ rfl
  · rw [if_neg q1] at h
    refine z_aload_n X dd_Finder_evaluate_11 rfl 0 rfl ?_
    obtain ⟨v2, ev2, h⟩ := zb h
    refine z_get (j := 8) X dd_Finder_evaluate_12 kc_7 ki_7 (by decide) km_593 (zgr_v ev2) ?_
    obtain ⟨v3, ev3, h⟩ := zb h
    refine z_get (j := 13) X dd_Finder_evaluate_15 kc_2 ki_2 (by decide) km_340 (zgr_v ev3) ?_
    refine z_iload X dd_Finder_evaluate_18 3 rfl ?_
    obtain ⟨v4, ev4, h⟩ := zb h
    refine z_iaload X dd_Finder_evaluate_20 rfl ev4 ?_
    refine z_bipush (v := 32) X dd_Finder_evaluate_21 (by decide) ?_
    refine z_irem X dd_Finder_evaluate_23 (by decide) ?_
    refine z_istore (lv' := [(5, .int (v4 - v4 / 32 * 32)), (0, .ref x0), (2, .int x2), (3, .int x3), (4, .int x4)]) X dd_Finder_evaluate_24 (by decide) rfl ?_
    refine z_aload_n X dd_Finder_evaluate_26 rfl 1 rfl ?_
    obtain ⟨v6, ev6, h⟩ := zb h
    refine z_get (j := 8) X dd_Finder_evaluate_27 kc_7 ki_7 (by decide) km_593 (zgr_v ev6) ?_
    obtain ⟨v7, ev7, h⟩ := zb h
    refine z_get (j := 13) X dd_Finder_evaluate_30 kc_2 ki_2 (by decide) km_340 (zgr_v ev7) ?_
    refine z_iload X dd_Finder_evaluate_33 4 rfl ?_
    obtain ⟨v8, ev8, h⟩ := zb h
    refine z_iaload X dd_Finder_evaluate_35 rfl ev8 ?_
    refine z_bipush (v := 32) X dd_Finder_evaluate_36 (by decide) ?_
    refine z_idiv X dd_Finder_evaluate_38 (by decide) ?_
    refine z_istore (lv' := [(6, .int (v8 / 32)), (5, .int (v4 - v4 / 32 * 32)), (0, .ref x0), (2, .int x2), (3, .int x3), (4, .int x4)]) X dd_Finder_evaluate_39 (by decide) rfl ?_
    refine z_iload X dd_Finder_evaluate_41 1 rfl ?_
    refine z_iconst (v := 4) X dd_Finder_evaluate_43 (by decide) ?_
    refine z_icmp_gt (tgt := 111) X dd_Finder_evaluate_44 (by decide) (fun q10 => ?_) (fun q10 => ?_)
    · rw [if_pos q10] at h
      refine z_iload_n X dd_Finder_evaluate_111 rfl 4 rfl ?_
      refine z_if_le (tgt := 161) X dd_Finder_evaluate_112 (by decide) (fun q11 => ?_) (fun q11 => ?_)
      · rw [if_pos q11] at h
        refine z_sub [2, 3, 4, 5, 1, 0] rfl ?_
        exact t_Finder_evaluate_161 X H h k0 k1
      · rw [if_neg q11] at h
        refine z_iload X dd_Finder_evaluate_115 1 rfl ?_
        refine z_bipush (v := 6) X dd_Finder_evaluate_117 (by decide) ?_
        refine z_icmp_gt (tgt := 161) X dd_Finder_evaluate_119 (by decide) (fun q28 => ?_) (fun q28 => ?_)
        · rw [if_pos q28] at h
          refine z_sub [2, 3, 4, 5, 1, 0] rfl ?_
          exact t_Finder_evaluate_161 X H h k0 k1
        · rw [if_neg q28] at h
          refine z_aload_n X dd_Finder_evaluate_122 rfl 2 rfl ?_
          obtain ⟨v29, ev29, h⟩ := zb h
          refine z_get (j := 4) X dd_Finder_evaluate_123 kc_7 ki_7 (by decide) km_589 (zgr_v ev29) ?_
          refine z_iload_n X dd_Finder_evaluate_126 rfl 4 rfl ?_
          refine z_iconst (v := 1) X dd_Finder_evaluate_127 (by decide) ?_
          refine z_isub X dd_Finder_evaluate_128 ?_
          refine z_iload X dd_Finder_evaluate_129 1 rfl ?_
          refine z_iconst (v := 5) X dd_Finder_evaluate_131 (by decide) ?_
          refine z_icmp_ne (tgt := 147) X dd_Finder_evaluate_132 (by decide) (fun q30 => ?_) (fun q30 => ?_)
          · rw [if_neg q30] at h
            refine z_iconst (v := 1) X dd_Finder_evaluate_147 (by decide) ?_
            refine z_aload_n X dd_Finder_evaluate_148 rfl 2 rfl ?_
            obtain ⟨v31, ev31, h⟩ := zb h
            refine z_get (j := 4) X dd_Finder_evaluate_149 kc_7 ki_7 (by decide) km_589 (zgr_v ev31) ?_
            refine z_iload_n X dd_Finder_evaluate_152 rfl 4 rfl ?_
            refine z_iconst (v := 1) X dd_Finder_evaluate_153 (by decide) ?_
            refine z_isub X dd_Finder_evaluate_154 ?_
            obtain ⟨v32, ev32, h⟩ := zb h
            refine z_iaload X dd_Finder_evaluate_155 rfl ev32 ?_
            refine z_isub X dd_Finder_evaluate_156 ?_
            refine z_sub [2, 3, 4, 5] rfl ?_
            exact t_Finder_evaluate_157 X H h k0 k1
          · rw [if_pos q30] at h
            refine z_aload_n X dd_Finder_evaluate_135 rfl 2 rfl ?_
            obtain ⟨v34, ev34, h⟩ := zb h
            refine z_get (j := 4) X dd_Finder_evaluate_136 kc_7 ki_7 (by decide) km_589 (zgr_v ev34) ?_
            refine z_iload_n X dd_Finder_evaluate_139 rfl 4 rfl ?_
            refine z_iconst (v := 1) X dd_Finder_evaluate_140 (by decide) ?_
            refine z_isub X dd_Finder_evaluate_141 ?_
            obtain ⟨v35, ev35, h⟩ := zb h
            refine z_iaload X dd_Finder_evaluate_142 rfl ev35 ?_
            refine z_ineg X dd_Finder_evaluate_143 ?_
            refine z_goto (tgt := 157) X dd_Finder_evaluate_144 (by decide) ?_
            refine z_sub [2, 3, 4, 5] rfl ?_
            exact t_Finder_evaluate_157 X H h k0 k1
    · rw [if_neg q10] at h
      refine z_iload_n X dd_Finder_evaluate_47 rfl 4 rfl ?_
      refine z_bipush (v := 80) X dd_Finder_evaluate_48 (by decide) ?_
      refine z_icmp_ge (tgt := 258) X dd_Finder_evaluate_50 (by decide) (fun q36 => ?_) (fun q36 => ?_)
      · rw [if_pos q36] at h
        refine z_sub [2, 3, 4, 5] rfl ?_
        exact t_Finder_evaluate_258 X H h k0 k1
      · rw [if_neg q36] at h
        refine z_iload X dd_Finder_evaluate_53 1 rfl ?_
        refine z_iconst (v := 4) X dd_Finder_evaluate_55 (by decide) ?_
        refine z_icmp_ne (tgt := 79) X dd_Finder_evaluate_56 (by decide) (fun q37 => ?_) (fun q37 => ?_)
        · rw [if_neg q37] at h
          refine z_sub [2, 3, 4, 5, 1, 0] rfl ?_
          exact t_Finder_evaluate_79 X H h k0 k1
        · rw [if_pos q37] at h
          refine z_aload_n X dd_Finder_evaluate_59 rfl 2 rfl ?_
          obtain ⟨v43, ev43, h⟩ := zb h
          refine z_get (j := 3) X dd_Finder_evaluate_60 kc_7 ki_7 (by decide) km_588 (zgr_v ev43) ?_
          refine z_aload_n X dd_Finder_evaluate_63 rfl 2 rfl ?_
          obtain ⟨v44, ev44, h⟩ := zb h
          refine z_get (j := 8) X dd_Finder_evaluate_64 kc_7 ki_7 (by decide) km_593 (zgr_v ev44) ?_
          refine z_iload X dd_Finder_evaluate_67 0 rfl ?_
          obtain ⟨w46, ew46, h⟩ := zb h
          obtain ⟨q45, eq45, h⟩ := zb h
          refine z_callVi X [.ref v44, .int (v8 / 32)] rfl dd_Finder_evaluate_69 (c_Search_fits l eq45) (cwV 2 X.1.2.2.2.2 (zg_V km_1354 km_1355 km_1356 km_134 km_1357) rfl rfl rfl (by decide +kernel) ⟨Nat.le_of_ble_eq_true rfl, Nat.le_of_ble_eq_true rfl⟩) (zob_s ew46) kc_6 rfl (Nat.le_of_ble_eq_true rfl) ⟨Nat.le_of_ble_eq_true rfl, Nat.le_of_ble_eq_true rfl⟩ ?_
          refine z_if_eq (tgt := 79) X dd_Finder_evaluate_72 (by decide) (fun q47 => ?_) (fun q47 => ?_)
          · rw [if_pos q47] at h
            refine z_sub [2, 3, 4, 5, 1, 0] rfl ?_
            exact t_Finder_evaluate_79 X H h k0 k1
          · rw [if_neg q47] at h
            refine z_iconst (v := 1) X dd_Finder_evaluate_75 (by decide) ?_
            refine z_goto (tgt := 80) X dd_Finder_evaluate_76 (by decide) ?_
            refine z_sub [2, 3, 4, 5, 1, 0] rfl ?_
            exact t_Finder_evaluate_80 X H h k0 k1
set_option maxRecDepth 100000 in
set_option maxHeartbeats 4000000 in
theorem t_Finder_evaluate_280  (X : zX p s m args cd D cid B bb_Finder_evaluate 8 rr_Finder zT) (H : zH s meth B n0 (some (.int)) "evaluate") {nf : Nat} {s0 : Int32} {c : Zc} {res : Int32 × Zc} (h : f_Finder_evaluate_280 nf s0 c = some res) : Zz p l e (zRm 3 72 0 0) s m args below meth cd (MQ below (zQi D cid B res.1 res.2 n0 0) args s 0 0 (fun q => B ≤ q)) D cid B 8 0 0 c 280 [] [.int s0] := by
  unfold f_Finder_evaluate_280 at h
  obtain rfl := Option.some.inj h
  exact z_iret X H.1 H.2.1 H.2.2.1 dd_Finder_evaluate_280
set_option maxRecDepth 100000 in
set_option maxHeartbeats 4000000 in
theorem t_Finder_evaluate_5  (X : zX p s m args cd D cid B bb_Finder_evaluate 8 rr_Finder zT) (H : zH s meth B n0 (some (.int)) "evaluate") {nf : Nat} {x0 : Nat} {x2 : Int32} {x3 : Int32} {x4 : Int32} {c : Zc} {res : Int32 × Zc} (h : f_Finder_evaluate_5 nf x0 x2 x3 x4 c = some res) : Zz p l e (zRm 3 72 0 0) s m args below meth cd (MQ below (zQi D cid B res.1 res.2 n0 0) args s 0 0 (fun q => B ≤ q)) D cid B 8 0 0 c 5 [(0, .ref x0), (2, .int x2), (3, .int x3), (4, .int x4)] [] := by
  unfold f_Finder_evaluate_5 at h
  obtain ⟨b, eb, h⟩ := zb h
  refine zlp_ok (P := fun a : Nat × Int32 × Int32 × Int32 × Zc => Zz p l e (zRm 3 72 0 0) s m args below meth cd _ D cid B 8 0 0 a.2.2.2.2 5 [(0, .ref a.1), (2, .int a.2.1), (3, .int a.2.2.1), (4, .int a.2.2.2.1)] []) (G := fun b : Nat × Int32 × Zc => Zz p l e (zRm 3 72 0 0) s m args below meth cd _ D cid B 8 0 0 b.2.2 264 [(0, .ref b.1), (3, .int b.2.1)] []) (fun a r ha k0 k1 => u_Finder_evaluate_5 X H ha k0 k1) nf _ b eb ?_
  refine z_iload_n X dd_Finder_evaluate_264 rfl 1 rfl ?_
  refine z_if_le (tgt := 279) X dd_Finder_evaluate_265 (by decide) (fun q48 => ?_) (fun q48 => ?_)
  · rw [if_pos q48] at h
    refine z_iconst (v := 0) X dd_Finder_evaluate_279 (by decide) ?_
    refine z_sub [] rfl ?_
    exact t_Finder_evaluate_280 X H h
  · rw [if_neg q48] at h
    refine z_aload_n X dd_Finder_evaluate_268 rfl 0 rfl ?_
    obtain ⟨v49, ev49, h⟩ := zb h
    refine z_get (j := 4) X dd_Finder_evaluate_269 kc_7 ki_7 (by decide) km_589 (zgr_v ev49) ?_
    refine z_iload_n X dd_Finder_evaluate_272 rfl 1 rfl ?_
    refine z_iconst (v := 1) X dd_Finder_evaluate_273 (by decide) ?_
    refine z_isub X dd_Finder_evaluate_274 ?_
    obtain ⟨v50, ev50, h⟩ := zb h
    refine z_iaload X dd_Finder_evaluate_275 rfl ev50 ?_
    refine z_goto (tgt := 280) X dd_Finder_evaluate_276 (by decide) ?_
    refine z_sub [] rfl ?_
    exact t_Finder_evaluate_280 X H h
set_option maxRecDepth 100000 in
set_option maxHeartbeats 4000000 in
theorem c_Finder_evaluate (l : Launch) {nf : Nat} {a0 : Nat} {a1 : Int32} {a2 : Int32} {c : Zc} {res : Int32 × Zc} (h : f_Finder_evaluate nf a0 a1 a2 c = some res) : zM l yy_Finder_evaluate ww_Finder_evaluate 3 72 0 0 [.ref a0, .int a1, .int a2] c (fun D cid B => zQi D cid B res.1 res.2 c.length 0) := by
  refine z_met (cc := bb_Finder_evaluate) (maxL := 8) (ret := (some (.int))) (by decide +kernel) rfl (Nat.le_of_ble_eq_true rfl) ?_
  intro p e s m args below meth cd D cid B X h1 h2 h3 h4
  have X : zX p s m args cd D cid B bb_Finder_evaluate 8 rr_Finder zT := X
  have H : zH s meth B c.length (some (.int)) "evaluate" := ⟨h1, h2, h4, h3⟩
  unfold f_Finder_evaluate at h
  show Zz p l e (zRm 3 72 0 0) s m args below meth cd _ D cid B 8 0 0 c 0 [(0, .ref a0), (1, .int a1), (2, .int a2)] []
  refine z_iconst (v := 0) X dd_Finder_evaluate_0 (by decide) ?_
  refine z_istore_n (lv' := [(3, .int 0), (0, .ref a0), (1, .int a1), (2, .int a2)]) X dd_Finder_evaluate_1 rfl (by decide) rfl ?_
  refine z_iload_n X dd_Finder_evaluate_2 rfl 2 rfl ?_
  refine z_istore (lv' := [(4, .int a1), (3, .int 0), (0, .ref a0), (1, .int a1), (2, .int a2)]) X dd_Finder_evaluate_3 (by decide) rfl ?_
  refine z_sub [2, 4, 1, 0] rfl ?_
  exact t_Finder_evaluate_5 X H h
end ZzM
