section ZzM
variable {p : Program} {l : Launch} {e : Env} {s : State} {m : MethodId} {args : Array Value} {below : List Frame} {meth : Method} {cd : Code} {Q : State → Prop} {D : va_G} {cid : Nat → ClassId} {B n0 : Nat}
theorem dd_Mo_parse_0 : decode bb_Mo_parse 0 = .ok (.aload_n 0, 1) := by decide +kernel
theorem dd_Mo_parse_1 : decode bb_Mo_parse 1 = .ok (.iconst 0, 1) := by decide +kernel
theorem dd_Mo_parse_2 : decode bb_Mo_parse 2 = .ok (.putfield 389, 3) := by decide +kernel
theorem dd_Mo_parse_5 : decode bb_Mo_parse 5 = .ok (.aload_n 0, 1) := by decide +kernel
theorem dd_Mo_parse_6 : decode bb_Mo_parse 6 = .ok (.iload_n 1, 1) := by decide +kernel
theorem dd_Mo_parse_7 : decode bb_Mo_parse 7 = .ok (.invokevirtual 392, 3) := by decide +kernel
theorem dd_Mo_parse_10 : decode bb_Mo_parse 10 = .ok (.aload_n 0, 1) := by decide +kernel
theorem dd_Mo_parse_11 : decode bb_Mo_parse 11 = .ok (.getfield 389, 3) := by decide +kernel
theorem dd_Mo_parse_14 : decode bb_Mo_parse 14 = .ok (.ifCond .le 108, 3) := by decide +kernel
theorem dd_Mo_parse_17 : decode bb_Mo_parse 17 = .ok (.aload_n 0, 1) := by decide +kernel
theorem dd_Mo_parse_18 : decode bb_Mo_parse 18 = .ok (.getfield 294, 3) := by decide +kernel
theorem dd_Mo_parse_21 : decode bb_Mo_parse 21 = .ok (.ifCond .ne 101, 3) := by decide +kernel
theorem dd_Mo_parse_24 : decode bb_Mo_parse 24 = .ok (.aload_n 0, 1) := by decide +kernel
theorem dd_Mo_parse_25 : decode bb_Mo_parse 25 = .ok (.getfield 389, 3) := by decide +kernel
theorem dd_Mo_parse_28 : decode bb_Mo_parse 28 = .ok (.iconst 1, 1) := by decide +kernel
theorem dd_Mo_parse_29 : decode bb_Mo_parse 29 = .ok (.isub, 1) := by decide +kernel
theorem dd_Mo_parse_30 : decode bb_Mo_parse 30 = .ok (.istore_n 2, 1) := by decide +kernel
theorem dd_Mo_parse_31 : decode bb_Mo_parse 31 = .ok (.aload_n 0, 1) := by decide +kernel
theorem dd_Mo_parse_32 : decode bb_Mo_parse 32 = .ok (.getfield 170, 3) := by decide +kernel
theorem dd_Mo_parse_35 : decode bb_Mo_parse 35 = .ok (.iload_n 2, 1) := by decide +kernel
theorem dd_Mo_parse_36 : decode bb_Mo_parse 36 = .ok (.iaload, 1) := by decide +kernel
theorem dd_Mo_parse_37 : decode bb_Mo_parse 37 = .ok (.tableswitch 77 0 4 #[35, 48, 61, 69, 69], 35) := by decide +kernel
theorem dd_Mo_parse_72 : decode bb_Mo_parse 72 = .ok (.aload_n 0, 1) := by decide +kernel
theorem dd_Mo_parse_73 : decode bb_Mo_parse 73 = .ok (.iload_n 2, 1) := by decide +kernel
theorem dd_Mo_parse_74 : decode bb_Mo_parse 74 = .ok (.iconst 1, 1) := by decide +kernel
theorem dd_Mo_parse_75 : decode bb_Mo_parse 75 = .ok (.bipush 105, 2) := by decide +kernel
theorem dd_Mo_parse_77 : decode bb_Mo_parse 77 = .ok (.bipush 17, 2) := by decide +kernel
theorem dd_Mo_parse_79 : decode bb_Mo_parse 79 = .ok (.invokevirtual 395, 3) := by decide +kernel
theorem dd_Mo_parse_82 : decode bb_Mo_parse 82 = .ok (.goto 37, 3) := by decide +kernel
theorem dd_Mo_parse_85 : decode bb_Mo_parse 85 = .ok (.aload_n 0, 1) := by decide +kernel
theorem dd_Mo_parse_86 : decode bb_Mo_parse 86 = .ok (.iload_n 2, 1) := by decide +kernel
theorem dd_Mo_parse_87 : decode bb_Mo_parse 87 = .ok (.iconst 2, 1) := by decide +kernel
theorem dd_Mo_parse_88 : decode bb_Mo_parse 88 = .ok (.bipush 104, 2) := by decide +kernel
theorem dd_Mo_parse_90 : decode bb_Mo_parse 90 = .ok (.bipush 16, 2) := by decide +kernel
theorem dd_Mo_parse_92 : decode bb_Mo_parse 92 = .ok (.invokevirtual 395, 3) := by decide +kernel
theorem dd_Mo_parse_95 : decode bb_Mo_parse 95 = .ok (.goto 24, 3) := by decide +kernel
theorem dd_Mo_parse_98 : decode bb_Mo_parse 98 = .ok (.aload_n 0, 1) := by decide +kernel
theorem dd_Mo_parse_99 : decode bb_Mo_parse 99 = .ok (.iload_n 2, 1) := by decide +kernel
theorem dd_Mo_parse_100 : decode bb_Mo_parse 100 = .ok (.invokevirtual 399, 3) := by decide +kernel
theorem dd_Mo_parse_103 : decode bb_Mo_parse 103 = .ok (.goto 16, 3) := by decide +kernel
theorem dd_Mo_parse_106 : decode bb_Mo_parse 106 = .ok (.aload_n 0, 1) := by decide +kernel
theorem dd_Mo_parse_107 : decode bb_Mo_parse 107 = .ok (.iload_n 2, 1) := by decide +kernel
theorem dd_Mo_parse_108 : decode bb_Mo_parse 108 = .ok (.invokevirtual 402, 3) := by decide +kernel
theorem dd_Mo_parse_111 : decode bb_Mo_parse 111 = .ok (.goto 8, 3) := by decide +kernel
theorem dd_Mo_parse_114 : decode bb_Mo_parse 114 = .ok (.aload_n 0, 1) := by decide +kernel
theorem dd_Mo_parse_115 : decode bb_Mo_parse 115 = .ok (.iload_n 2, 1) := by decide +kernel
theorem dd_Mo_parse_116 : decode bb_Mo_parse 116 = .ok (.invokevirtual 405, 3) := by decide +kernel
theorem dd_Mo_parse_119 : decode bb_Mo_parse 119 = .ok (.goto (-109), 3) := by decide +kernel
theorem dd_Mo_parse_122 : decode bb_Mo_parse 122 = .ok (.aload_n 0, 1) := by decide +kernel
theorem dd_Mo_parse_123 : decode bb_Mo_parse 123 = .ok (.bipush 99, 2) := by decide +kernel
theorem dd_Mo_parse_125 : decode bb_Mo_parse 125 = .ok (.iconst 0, 1) := by decide +kernel
theorem dd_Mo_parse_126 : decode bb_Mo_parse 126 = .ok (.invokevirtual 408, 3) := by decide +kernel
theorem dd_Mo_parse_129 : decode bb_Mo_parse 129 = .ok (.return_, 1) := by decide +kernel
set_option maxRecDepth 100000 in
set_option maxHeartbeats 4000000 in
theorem t_Mo_parse_119  (X : zX p s m args cd D cid B bb_Mo_parse 3 rr_Mo zT) (H : zH s meth B n0 none "parse") {nf : Nat} {x0 : Nat} {c : Zc} {r : (Nat × Zc) ⊕ (Nat × Zc)} (h : f_Mo_parse_119 nf x0 c = some r) (k0 : ∀ a, r = .inl a → (fun a : Nat × Zc => Zz p l e (zRm 12 266 0 0) s m args below meth cd Q D cid B 3 0 0 a.2 10 [(0, .ref a.1)] []) a) (k1 : ∀ b, r = .inr b → (fun b : Nat × Zc => Zz p l e (zRm 12 266 0 0) s m args below meth cd Q D cid B 3 0 0 b.2 122 [(0, .ref b.1)] []) b) : Zz p l e (zRm 12 266 0 0) s m args below meth cd Q D cid B 3 0 0 c 119 [(0, .ref x0)] [] := by
  unfold f_Mo_parse_119 at h
  refine z_goto (tgt := 10) X dd_Mo_parse_119 (by decide) ?_
  obtain rfl := Option.some.inj h
  exact k0 _ rfl
set_option maxRecDepth 100000 in
set_option maxHeartbeats 4000000 in
theorem u_Mo_parse_10  (X : zX p s m args cd D cid B bb_Mo_parse 3 rr_Mo zT) (H : zH s meth B n0 none "parse") {nf : Nat} {x0 : Nat} {c : Zc} {r : (Nat × Zc) ⊕ (Nat × Zc)} (h : g_Mo_parse_10 nf x0 c = some r) (k0 : ∀ a, r = .inl a → (fun a : Nat × Zc => Zz p l e (zRm 12 266 0 0) s m args below meth cd Q D cid B 3 0 0 a.2 10 [(0, .ref a.1)] []) a) (k1 : ∀ b, r = .inr b → (fun b : Nat × Zc => Zz p l e (zRm 12 266 0 0) s m args below meth cd Q D cid B 3 0 0 b.2 122 [(0, .ref b.1)] []) b) : Zz p l e (zRm 12 266 0 0) s m args below meth cd Q D cid B 3 0 0 c 10 [(0, .ref x0)] [] := by
  unfold g_Mo_parse_10 at h
  refine z_aload_n X dd_Mo_parse_10 rfl 0 rfl ?_
  obtain ⟨v4, ev4, h⟩ := zb h
  refine z_get (j := 69) X dd_Mo_parse_11 kc_12 ki_12 (by decide) km_1590 (zgi_v ev4) ?_
  refine z_if_le (tgt := 122) X dd_Mo_parse_14 (by decide) (fun q5 => ?_) (fun q5 => ?_)
  · rw [if_pos q5] at h
    obtain rfl := Option.some.inj h
    exact k1 _ rfl
  · rw [if_neg q5] at h
    refine z_aload_n X dd_Mo_parse_17 rfl 0 rfl ?_
    obtain ⟨v6, ev6, h⟩ := zb h
    refine z_get (j := 19) X dd_Mo_parse_18 kc_12 ki_12 (by decide) km_1540 (zgi_v ev6) ?_
    refine z_if_ne (tgt := 122) X dd_Mo_parse_21 (by decide) (fun q7 => ?_) (fun q7 => ?_)
    · rw [if_neg q7] at h
      obtain rfl := Option.some.inj h
      exact k1 _ rfl
    · rw [if_pos q7] at h
      refine z_aload_n X dd_Mo_parse_24 rfl 0 rfl ?_
      obtain ⟨v8, ev8, h⟩ := zb h
      refine z_get (j := 69) X dd_Mo_parse_25 kc_12 ki_12 (by decide) km_1590 (zgi_v ev8) ?_
      refine z_iconst (v := 1) X dd_Mo_parse_28 (by decide) ?_
      refine z_isub X dd_Mo_parse_29 ?_
      refine z_istore_n (lv' := [(2, .int (v8 - 1)), (0, .ref x0)]) X dd_Mo_parse_30 rfl (by decide) rfl ?_
      refine z_aload_n X dd_Mo_parse_31 rfl 1 rfl ?_
      obtain ⟨v9, ev9, h⟩ := zb h
      refine z_get (j := 66) X dd_Mo_parse_32 kc_12 ki_12 (by decide) km_1587 (zgr_v ev9) ?_
      refine z_iload_n X dd_Mo_parse_35 rfl 0 rfl ?_
      obtain ⟨v10, ev10, h⟩ := zb h
      refine z_iaload X dd_Mo_parse_36 rfl ev10 ?_
      by_cases q11 : v10 = 0
      · rw [if_pos q11] at h
        refine z_tableIn (tgt := 72) (off := 35) X dd_Mo_parse_37 (by rw [q11]; decide) (by rw [q11]; decide) (by rw [q11]; rfl) (by decide) ?_
        refine z_aload_n X dd_Mo_parse_72 rfl 1 rfl ?_
        refine z_iload_n X dd_Mo_parse_73 rfl 0 rfl ?_
        refine z_iconst (v := 1) X dd_Mo_parse_74 (by decide) ?_
        refine z_bipush (v := 105) X dd_Mo_parse_75 (by decide) ?_
        refine z_bipush (v := 17) X dd_Mo_parse_77 (by decide) ?_
        obtain ⟨w13, ew13, h⟩ := zb h
        obtain ⟨q12, eq12, h⟩ := zb h
        refine z_callVv X [.int (v8 - 1), .int 1, .int 105, .int 17] rfl dd_Mo_parse_79 (c_Mo_joined l eq12) (cwV 4 X.1.2.2.2.2 (zg_V km_2000 km_2002 km_92 km_138 km_2003) rfl rfl rfl (by decide +kernel) ⟨Nat.le_of_ble_eq_true rfl, Nat.le_of_ble_eq_true rfl⟩) (zob_s ew13) kc_12 rfl (Nat.le_of_ble_eq_true rfl) ⟨Nat.le_of_ble_eq_true rfl, Nat.le_of_ble_eq_true rfl⟩ ?_
        refine z_goto (tgt := 119) X dd_Mo_parse_82 (by decide) ?_
        refine z_sub [1] rfl ?_
        exact t_Mo_parse_119 X H h k0 k1
      rw [if_neg q11] at h
      by_cases q14 : v10 = 1
      · rw [if_pos q14] at h
        refine z_tableIn (tgt := 85) (off := 48) X dd_Mo_parse_37 (by rw [q14]; decide) (by rw [q14]; decide) (by rw [q14]; rfl) (by decide) ?_
        refine z_aload_n X dd_Mo_parse_85 rfl 1 rfl ?_
        refine z_iload_n X dd_Mo_parse_86 rfl 0 rfl ?_
        refine z_iconst (v := 2) X dd_Mo_parse_87 (by decide) ?_
        refine z_bipush (v := 104) X dd_Mo_parse_88 (by decide) ?_
        refine z_bipush (v := 16) X dd_Mo_parse_90 (by decide) ?_
        obtain ⟨w16, ew16, h⟩ := zb h
        obtain ⟨q15, eq15, h⟩ := zb h
        refine z_callVv X [.int (v8 - 1), .int 2, .int 104, .int 16] rfl dd_Mo_parse_92 (c_Mo_joined l eq15) (cwV 4 X.1.2.2.2.2 (zg_V km_2000 km_2002 km_92 km_138 km_2003) rfl rfl rfl (by decide +kernel) ⟨Nat.le_of_ble_eq_true rfl, Nat.le_of_ble_eq_true rfl⟩) (zob_s ew16) kc_12 rfl (Nat.le_of_ble_eq_true rfl) ⟨Nat.le_of_ble_eq_true rfl, Nat.le_of_ble_eq_true rfl⟩ ?_
        refine z_goto (tgt := 119) X dd_Mo_parse_95 (by decide) ?_
        refine z_sub [1] rfl ?_
        exact t_Mo_parse_119 X H h k0 k1
      rw [if_neg q14] at h
      by_cases q17 : v10 = 2
      · rw [if_pos q17] at h
        refine z_tableIn (tgt := 98) (off := 61) X dd_Mo_parse_37 (by rw [q17]; decide) (by rw [q17]; decide) (by rw [q17]; rfl) (by decide) ?_
        refine z_aload_n X dd_Mo_parse_98 rfl 1 rfl ?_
        refine z_iload_n X dd_Mo_parse_99 rfl 0 rfl ?_
        obtain ⟨w19, ew19, h⟩ := zb h
        obtain ⟨q18, eq18, h⟩ := zb h
        refine z_callVv X [.int (v8 - 1)] rfl dd_Mo_parse_100 (c_Mo_fact l eq18) (cwV 1 X.1.2.2.2.2 (zg_V km_2008 km_2010 km_94 km_138 km_2011) rfl rfl rfl (by decide +kernel) ⟨Nat.le_of_ble_eq_true rfl, Nat.le_of_ble_eq_true rfl⟩) (zob_s ew19) kc_12 rfl (Nat.le_of_ble_eq_true rfl) ⟨Nat.le_of_ble_eq_true rfl, Nat.le_of_ble_eq_true rfl⟩ ?_
        refine z_goto (tgt := 119) X dd_Mo_parse_103 (by decide) ?_
        refine z_sub [1] rfl ?_
        exact t_Mo_parse_119 X H h k0 k1
      rw [if_neg q17] at h
      by_cases q20 : v10 = 3
      · rw [if_pos q20] at h
        refine z_tableIn (tgt := 106) (off := 69) X dd_Mo_parse_37 (by rw [q20]; decide) (by rw [q20]; decide) (by rw [q20]; rfl) (by decide) ?_
        refine z_aload_n X dd_Mo_parse_106 rfl 1 rfl ?_
        refine z_iload_n X dd_Mo_parse_107 rfl 0 rfl ?_
        obtain ⟨w22, ew22, h⟩ := zb h
        obtain ⟨q21, eq21, h⟩ := zb h
        refine z_callVv X [.int (v8 - 1)] rfl dd_Mo_parse_108 (c_Mo_reckoned l eq21) (cwV 1 X.1.2.2.2.2 (zg_V km_2023 km_2025 km_97 km_138 km_2026) rfl rfl rfl (by decide +kernel) ⟨Nat.le_of_ble_eq_true rfl, Nat.le_of_ble_eq_true rfl⟩) (zob_s ew22) kc_12 rfl (Nat.le_of_ble_eq_true rfl) ⟨Nat.le_of_ble_eq_true rfl, Nat.le_of_ble_eq_true rfl⟩ ?_
        refine z_goto (tgt := 119) X dd_Mo_parse_111 (by decide) ?_
        refine z_sub [1] rfl ?_
        exact t_Mo_parse_119 X H h k0 k1
      rw [if_neg q20] at h
      by_cases q23 : v10 = 4
      · rw [if_pos q23] at h
        refine z_tableIn (tgt := 106) (off := 69) X dd_Mo_parse_37 (by rw [q23]; decide) (by rw [q23]; decide) (by rw [q23]; rfl) (by decide) ?_
        refine z_aload_n X dd_Mo_parse_106 rfl 1 rfl ?_
        refine z_iload_n X dd_Mo_parse_107 rfl 0 rfl ?_
        obtain ⟨w25, ew25, h⟩ := zb h
        obtain ⟨q24, eq24, h⟩ := zb h
        refine z_callVv X [.int (v8 - 1)] rfl dd_Mo_parse_108 (c_Mo_reckoned l eq24) (cwV 1 X.1.2.2.2.2 (zg_V km_2023 km_2025 km_97 km_138 km_2026) rfl rfl rfl (by decide +kernel) ⟨Nat.le_of_ble_eq_true rfl, Nat.le_of_ble_eq_true rfl⟩) (zob_s ew25) kc_12 rfl (Nat.le_of_ble_eq_true rfl) ⟨Nat.le_of_ble_eq_true rfl, Nat.le_of_ble_eq_true rfl⟩ ?_
        refine z_goto (tgt := 119) X dd_Mo_parse_111 (by decide) ?_
        refine z_sub [1] rfl ?_
        exact t_Mo_parse_119 X H h k0 k1
      rw [if_neg q23] at h
      refine z_tableOut (tgt := 114) X dd_Mo_parse_37 (by have yq11 := lv_neT q11 (a := 0) (by decide); have yq14 := lv_neT q14 (a := 1) (by decide); have yq17 := lv_neT q17 (a := 2) (by decide); have yq20 := lv_neT q20 (a := 3) (by decide); have yq23 := lv_neT q23 (a := 4) (by decide); omega) (by decide) ?_
      refine z_aload_n X dd_Mo_parse_114 rfl 1 rfl ?_
      refine z_iload_n X dd_Mo_parse_115 rfl 0 rfl ?_
      obtain ⟨w27, ew27, h⟩ := zb h
      obtain ⟨q26, eq26, h⟩ := zb h
      refine z_callVv X [.int (v8 - 1)] rfl dd_Mo_parse_116 (c_Mo_unit l eq26) (cwV 1 X.1.2.2.2.2 (zg_V km_2027 km_2029 km_98 km_138 km_2030) rfl rfl rfl (by decide +kernel) ⟨Nat.le_of_ble_eq_true rfl, Nat.le_of_ble_eq_true rfl⟩) (zob_s ew27) kc_12 rfl (Nat.le_of_ble_eq_true rfl) ⟨Nat.le_of_ble_eq_true rfl, Nat.le_of_ble_eq_true rfl⟩ ?_
      refine z_sub [1] rfl ?_
      exact t_Mo_parse_119 X H h k0 k1
set_option maxRecDepth 100000 in
set_option maxHeartbeats 4000000 in
theorem t_Mo_parse_122  (X : zX p s m args cd D cid B bb_Mo_parse 3 rr_Mo zT) (H : zH s meth B n0 none "parse") {nf : Nat} {x0 : Nat} {c : Zc} {res : Zc} (h : f_Mo_parse_122 nf x0 c = some res) : Zz p l e (zRm 12 266 0 0) s m args below meth cd (MQ below (zQv D cid B res n0 0) args s 0 0 (fun q => B ≤ q)) D cid B 3 0 0 c 122 [(0, .ref x0)] [] := by
  unfold f_Mo_parse_122 at h
  refine z_aload_n X dd_Mo_parse_122 rfl 0 rfl ?_
  refine z_bipush (v := 99) X dd_Mo_parse_123 (by decide) ?_
  refine z_iconst (v := 0) X dd_Mo_parse_125 (by decide) ?_
  obtain ⟨w29, ew29, h⟩ := zb h
  obtain ⟨q28, eq28, h⟩ := zb h
  refine z_callVv X [.int 99, .int 0] rfl dd_Mo_parse_126 (c_Mo_code l eq28) (cwV 2 X.1.2.2.2.2 (zg_V km_2004 km_2006 km_93 km_138 km_2007) rfl rfl rfl (by decide +kernel) ⟨Nat.le_of_ble_eq_true rfl, Nat.le_of_ble_eq_true rfl⟩) (zob_s ew29) kc_12 rfl (Nat.le_of_ble_eq_true rfl) ⟨Nat.le_of_ble_eq_true rfl, Nat.le_of_ble_eq_true rfl⟩ ?_
  obtain rfl := Option.some.inj h
  exact z_vret X H.1 H.2.1 H.2.2.1 dd_Mo_parse_129
set_option maxRecDepth 100000 in
set_option maxHeartbeats 4000000 in
theorem t_Mo_parse_10  (X : zX p s m args cd D cid B bb_Mo_parse 3 rr_Mo zT) (H : zH s meth B n0 none "parse") {nf : Nat} {x0 : Nat} {c : Zc} {res : Zc} (h : f_Mo_parse_10 nf x0 c = some res) : Zz p l e (zRm 12 266 0 0) s m args below meth cd (MQ below (zQv D cid B res n0 0) args s 0 0 (fun q => B ≤ q)) D cid B 3 0 0 c 10 [(0, .ref x0)] [] := by
  unfold f_Mo_parse_10 at h
  obtain ⟨b, eb, h⟩ := zb h
  refine zlp_ok (P := fun a : Nat × Zc => Zz p l e (zRm 12 266 0 0) s m args below meth cd _ D cid B 3 0 0 a.2 10 [(0, .ref a.1)] []) (G := fun b : Nat × Zc => Zz p l e (zRm 12 266 0 0) s m args below meth cd _ D cid B 3 0 0 b.2 122 [(0, .ref b.1)] []) (fun a r ha k0 k1 => u_Mo_parse_10 X H ha k0 k1) nf _ b eb ?_
  exact t_Mo_parse_122 X H h
set_option maxRecDepth 100000 in
set_option maxHeartbeats 4000000 in
theorem c_Mo_parse (l : Launch) {nf : Nat} {a0 : Nat} {a1 : Int32} {c : Zc} {res : Zc} (h : f_Mo_parse nf a0 a1 c = some res) : zM l yy_Mo_parse ww_Mo_parse 12 266 0 0 [.ref a0, .int a1] c (fun D cid B => zQv D cid B res c.length 0) := by
  refine z_met (cc := bb_Mo_parse) (maxL := 3) (ret := none) (by decide +kernel) rfl (Nat.le_of_ble_eq_true rfl) ?_
  intro p e s m args below meth cd D cid B X h1 h2 h3 h4
  have X : zX p s m args cd D cid B bb_Mo_parse 3 rr_Mo zT := X
  have H : zH s meth B c.length none "parse" := ⟨h1, h2, h4, h3⟩
  unfold f_Mo_parse at h
  show Zz p l e (zRm 12 266 0 0) s m args below meth cd _ D cid B 3 0 0 c 0 [(0, .ref a0), (1, .int a1)] []
  refine z_aload_n X dd_Mo_parse_0 rfl 0 rfl ?_
  refine z_iconst (v := 0) X dd_Mo_parse_1 (by decide) ?_
  obtain ⟨c1, ec1, h⟩ := zb h
  refine z_put (j := 69) X dd_Mo_parse_2 kc_12 ki_12 tt_Mo tk_Mo nn_Mo (by decide) km_1590 rfl (tk_Mo 69 (by decide)) rfl rfl ec1 ?_
  refine z_aload_n X dd_Mo_parse_5 rfl 0 rfl ?_
  refine z_iload_n X dd_Mo_parse_6 rfl 1 rfl ?_
  obtain ⟨w3, ew3, h⟩ := zb h
  obtain ⟨q2, eq2, h⟩ := zb h
  refine z_callVv X [.int a1] rfl dd_Mo_parse_7 (c_Mo_frame l eq2) (cwV 1 X.1.2.2.2.2 (zg_V km_1996 km_1998 km_91 km_138 km_1999) rfl rfl rfl (by decide +kernel) ⟨Nat.le_of_ble_eq_true rfl, Nat.le_of_ble_eq_true rfl⟩) (zob_s ew3) kc_12 rfl (Nat.le_of_ble_eq_true rfl) ⟨Nat.le_of_ble_eq_true rfl, Nat.le_of_ble_eq_true rfl⟩ ?_
  refine z_sub [0] rfl ?_
  exact t_Mo_parse_10 X H h
theorem dd_Mo_begin_0 : decode bb_Mo_begin 0 = .ok (.aload_n 0, 1) := by decide +kernel
theorem dd_Mo_begin_1 : decode bb_Mo_begin 1 = .ok (.aload_n 0, 1) := by decide +kernel
theorem dd_Mo_begin_2 : decode bb_Mo_begin 2 = .ok (.getfield 62, 3) := by decide +kernel
theorem dd_Mo_begin_5 : decode bb_Mo_begin 5 = .ok (.putfield 331, 3) := by decide +kernel
theorem dd_Mo_begin_8 : decode bb_Mo_begin 8 = .ok (.aload_n 0, 1) := by decide +kernel
theorem dd_Mo_begin_9 : decode bb_Mo_begin 9 = .ok (.getfield 65, 3) := by decide +kernel
theorem dd_Mo_begin_12 : decode bb_Mo_begin 12 = .ok (.aload_n 0, 1) := by decide +kernel
theorem dd_Mo_begin_13 : decode bb_Mo_begin 13 = .ok (.getfield 331, 3) := by decide +kernel
theorem dd_Mo_begin_16 : decode bb_Mo_begin 16 = .ok (.iconst 0, 1) := by decide +kernel
theorem dd_Mo_begin_17 : decode bb_Mo_begin 17 = .ok (.iastore, 1) := by decide +kernel
theorem dd_Mo_begin_18 : decode bb_Mo_begin 18 = .ok (.aload_n 0, 1) := by decide +kernel
theorem dd_Mo_begin_19 : decode bb_Mo_begin 19 = .ok (.getfield 68, 3) := by decide +kernel
theorem dd_Mo_begin_22 : decode bb_Mo_begin 22 = .ok (.aload_n 0, 1) := by decide +kernel
theorem dd_Mo_begin_23 : decode bb_Mo_begin 23 = .ok (.getfield 331, 3) := by decide +kernel
theorem dd_Mo_begin_26 : decode bb_Mo_begin 26 = .ok (.iconst 0, 1) := by decide +kernel
theorem dd_Mo_begin_27 : decode bb_Mo_begin 27 = .ok (.iastore, 1) := by decide +kernel
theorem dd_Mo_begin_28 : decode bb_Mo_begin 28 = .ok (.aload_n 0, 1) := by decide +kernel
theorem dd_Mo_begin_29 : decode bb_Mo_begin 29 = .ok (.getfield 71, 3) := by decide +kernel
theorem dd_Mo_begin_32 : decode bb_Mo_begin 32 = .ok (.aload_n 0, 1) := by decide +kernel
theorem dd_Mo_begin_33 : decode bb_Mo_begin 33 = .ok (.getfield 331, 3) := by decide +kernel
theorem dd_Mo_begin_36 : decode bb_Mo_begin 36 = .ok (.iconst 0, 1) := by decide +kernel
theorem dd_Mo_begin_37 : decode bb_Mo_begin 37 = .ok (.iastore, 1) := by decide +kernel
theorem dd_Mo_begin_38 : decode bb_Mo_begin 38 = .ok (.aload_n 0, 1) := by decide +kernel
theorem dd_Mo_begin_39 : decode bb_Mo_begin 39 = .ok (.getfield 80, 3) := by decide +kernel
theorem dd_Mo_begin_42 : decode bb_Mo_begin 42 = .ok (.aload_n 0, 1) := by decide +kernel
theorem dd_Mo_begin_43 : decode bb_Mo_begin 43 = .ok (.getfield 331, 3) := by decide +kernel
theorem dd_Mo_begin_46 : decode bb_Mo_begin 46 = .ok (.iconst 0, 1) := by decide +kernel
theorem dd_Mo_begin_47 : decode bb_Mo_begin 47 = .ok (.iastore, 1) := by decide +kernel
theorem dd_Mo_begin_48 : decode bb_Mo_begin 48 = .ok (.aload_n 0, 1) := by decide +kernel
theorem dd_Mo_begin_49 : decode bb_Mo_begin 49 = .ok (.getfield 116, 3) := by decide +kernel
theorem dd_Mo_begin_52 : decode bb_Mo_begin 52 = .ok (.aload_n 0, 1) := by decide +kernel
theorem dd_Mo_begin_53 : decode bb_Mo_begin 53 = .ok (.getfield 331, 3) := by decide +kernel
theorem dd_Mo_begin_56 : decode bb_Mo_begin 56 = .ok (.iconst 0, 1) := by decide +kernel
theorem dd_Mo_begin_57 : decode bb_Mo_begin 57 = .ok (.iastore, 1) := by decide +kernel
theorem dd_Mo_begin_58 : decode bb_Mo_begin 58 = .ok (.aload_n 0, 1) := by decide +kernel
theorem dd_Mo_begin_59 : decode bb_Mo_begin 59 = .ok (.getfield 128, 3) := by decide +kernel
theorem dd_Mo_begin_62 : decode bb_Mo_begin 62 = .ok (.aload_n 0, 1) := by decide +kernel
theorem dd_Mo_begin_63 : decode bb_Mo_begin 63 = .ok (.getfield 331, 3) := by decide +kernel
theorem dd_Mo_begin_66 : decode bb_Mo_begin 66 = .ok (.iconst 0, 1) := by decide +kernel
theorem dd_Mo_begin_67 : decode bb_Mo_begin 67 = .ok (.iastore, 1) := by decide +kernel
theorem dd_Mo_begin_68 : decode bb_Mo_begin 68 = .ok (.aload_n 0, 1) := by decide +kernel
theorem dd_Mo_begin_69 : decode bb_Mo_begin 69 = .ok (.getfield 125, 3) := by decide +kernel
theorem dd_Mo_begin_72 : decode bb_Mo_begin 72 = .ok (.aload_n 0, 1) := by decide +kernel
theorem dd_Mo_begin_73 : decode bb_Mo_begin 73 = .ok (.getfield 331, 3) := by decide +kernel
theorem dd_Mo_begin_76 : decode bb_Mo_begin 76 = .ok (.iconst (-1), 1) := by decide +kernel
theorem dd_Mo_begin_77 : decode bb_Mo_begin 77 = .ok (.iastore, 1) := by decide +kernel
theorem dd_Mo_begin_78 : decode bb_Mo_begin 78 = .ok (.aload_n 0, 1) := by decide +kernel
theorem dd_Mo_begin_79 : decode bb_Mo_begin 79 = .ok (.iconst 0, 1) := by decide +kernel
theorem dd_Mo_begin_80 : decode bb_Mo_begin 80 = .ok (.putfield 386, 3) := by decide +kernel
theorem dd_Mo_begin_83 : decode bb_Mo_begin 83 = .ok (.aload_n 0, 1) := by decide +kernel
theorem dd_Mo_begin_84 : decode bb_Mo_begin 84 = .ok (.iconst 0, 1) := by decide +kernel
theorem dd_Mo_begin_85 : decode bb_Mo_begin 85 = .ok (.putfield 328, 3) := by decide +kernel
theorem dd_Mo_begin_88 : decode bb_Mo_begin 88 = .ok (.aload_n 0, 1) := by decide +kernel
theorem dd_Mo_begin_89 : decode bb_Mo_begin 89 = .ok (.iconst 0, 1) := by decide +kernel
theorem dd_Mo_begin_90 : decode bb_Mo_begin 90 = .ok (.putfield 325, 3) := by decide +kernel
theorem dd_Mo_begin_93 : decode bb_Mo_begin 93 = .ok (.aload_n 0, 1) := by decide +kernel
theorem dd_Mo_begin_94 : decode bb_Mo_begin 94 = .ok (.iconst 0, 1) := by decide +kernel
theorem dd_Mo_begin_95 : decode bb_Mo_begin 95 = .ok (.putfield 322, 3) := by decide +kernel
theorem dd_Mo_begin_98 : decode bb_Mo_begin 98 = .ok (.aload_n 0, 1) := by decide +kernel
theorem dd_Mo_begin_99 : decode bb_Mo_begin 99 = .ok (.iconst 0, 1) := by decide +kernel
theorem dd_Mo_begin_100 : decode bb_Mo_begin 100 = .ok (.putfield 294, 3) := by decide +kernel
theorem dd_Mo_begin_103 : decode bb_Mo_begin 103 = .ok (.aload_n 0, 1) := by decide +kernel
theorem dd_Mo_begin_104 : decode bb_Mo_begin 104 = .ok (.iconst 0, 1) := by decide +kernel
theorem dd_Mo_begin_105 : decode bb_Mo_begin 105 = .ok (.putfield 300, 3) := by decide +kernel
theorem dd_Mo_begin_108 : decode bb_Mo_begin 108 = .ok (.iconst 0, 1) := by decide +kernel
theorem dd_Mo_begin_109 : decode bb_Mo_begin 109 = .ok (.istore_n 1, 1) := by decide +kernel
theorem dd_Mo_begin_110 : decode bb_Mo_begin 110 = .ok (.iload_n 1, 1) := by decide +kernel
theorem dd_Mo_begin_111 : decode bb_Mo_begin 111 = .ok (.sipush 640, 3) := by decide +kernel
theorem dd_Mo_begin_114 : decode bb_Mo_begin 114 = .ok (.if_icmp .ge 25, 3) := by decide +kernel
theorem dd_Mo_begin_117 : decode bb_Mo_begin 117 = .ok (.aload_n 0, 1) := by decide +kernel
theorem dd_Mo_begin_118 : decode bb_Mo_begin 118 = .ok (.getfield 77, 3) := by decide +kernel
theorem dd_Mo_begin_121 : decode bb_Mo_begin 121 = .ok (.sipush 640, 3) := by decide +kernel
theorem dd_Mo_begin_124 : decode bb_Mo_begin 124 = .ok (.aload_n 0, 1) := by decide +kernel
theorem dd_Mo_begin_125 : decode bb_Mo_begin 125 = .ok (.getfield 331, 3) := by decide +kernel
theorem dd_Mo_begin_128 : decode bb_Mo_begin 128 = .ok (.imul, 1) := by decide +kernel
theorem dd_Mo_begin_129 : decode bb_Mo_begin 129 = .ok (.iload_n 1, 1) := by decide +kernel
theorem dd_Mo_begin_130 : decode bb_Mo_begin 130 = .ok (.iadd, 1) := by decide +kernel
theorem dd_Mo_begin_131 : decode bb_Mo_begin 131 = .ok (.iconst 0, 1) := by decide +kernel
theorem dd_Mo_begin_132 : decode bb_Mo_begin 132 = .ok (.iastore, 1) := by decide +kernel
theorem dd_Mo_begin_133 : decode bb_Mo_begin 133 = .ok (.iinc 1 1, 3) := by decide +kernel
theorem dd_Mo_begin_136 : decode bb_Mo_begin 136 = .ok (.goto (-26), 3) := by decide +kernel
theorem dd_Mo_begin_139 : decode bb_Mo_begin 139 = .ok (.iconst 0, 1) := by decide +kernel
theorem dd_Mo_begin_140 : decode bb_Mo_begin 140 = .ok (.istore_n 1, 1) := by decide +kernel
theorem dd_Mo_begin_141 : decode bb_Mo_begin 141 = .ok (.iload_n 1, 1) := by decide +kernel
theorem dd_Mo_begin_142 : decode bb_Mo_begin 142 = .ok (.bipush 66, 2) := by decide +kernel
theorem dd_Mo_begin_144 : decode bb_Mo_begin 144 = .ok (.if_icmp .ge 23, 3) := by decide +kernel
theorem dd_Mo_begin_147 : decode bb_Mo_begin 147 = .ok (.aload_n 0, 1) := by decide +kernel
theorem dd_Mo_begin_148 : decode bb_Mo_begin 148 = .ok (.getfield 143, 3) := by decide +kernel
theorem dd_Mo_begin_151 : decode bb_Mo_begin 151 = .ok (.iload_n 1, 1) := by decide +kernel
theorem dd_Mo_begin_152 : decode bb_Mo_begin 152 = .ok (.iconst (-1), 1) := by decide +kernel
theorem dd_Mo_begin_153 : decode bb_Mo_begin 153 = .ok (.iastore, 1) := by decide +kernel
theorem dd_Mo_begin_154 : decode bb_Mo_begin 154 = .ok (.aload_n 0, 1) := by decide +kernel
theorem dd_Mo_begin_155 : decode bb_Mo_begin 155 = .ok (.getfield 146, 3) := by decide +kernel
theorem dd_Mo_begin_158 : decode bb_Mo_begin 158 = .ok (.iload_n 1, 1) := by decide +kernel
theorem dd_Mo_begin_159 : decode bb_Mo_begin 159 = .ok (.iconst (-1), 1) := by decide +kernel
theorem dd_Mo_begin_160 : decode bb_Mo_begin 160 = .ok (.iastore, 1) := by decide +kernel
theorem dd_Mo_begin_161 : decode bb_Mo_begin 161 = .ok (.iinc 1 1, 3) := by decide +kernel
theorem dd_Mo_begin_164 : decode bb_Mo_begin 164 = .ok (.goto (-23), 3) := by decide +kernel
theorem dd_Mo_begin_167 : decode bb_Mo_begin 167 = .ok (.aload_n 0, 1) := by decide +kernel
theorem dd_Mo_begin_168 : decode bb_Mo_begin 168 = .ok (.aload_n 0, 1) := by decide +kernel
theorem dd_Mo_begin_169 : decode bb_Mo_begin 169 = .ok (.getfield 426, 3) := by decide +kernel
theorem dd_Mo_begin_172 : decode bb_Mo_begin 172 = .ok (.invokevirtual 429, 3) := by decide +kernel
theorem dd_Mo_begin_175 : decode bb_Mo_begin 175 = .ok (.aload_n 0, 1) := by decide +kernel
theorem dd_Mo_begin_176 : decode bb_Mo_begin 176 = .ok (.iconst 0, 1) := by decide +kernel
theorem dd_Mo_begin_177 : decode bb_Mo_begin 177 = .ok (.putfield 426, 3) := by decide +kernel
theorem dd_Mo_begin_180 : decode bb_Mo_begin 180 = .ok (.aload_n 0, 1) := by decide +kernel
theorem dd_Mo_begin_181 : decode bb_Mo_begin 181 = .ok (.bipush (-2), 2) := by decide +kernel
theorem dd_Mo_begin_183 : decode bb_Mo_begin 183 = .ok (.putfield 52, 3) := by decide +kernel
theorem dd_Mo_begin_186 : decode bb_Mo_begin 186 = .ok (.return_, 1) := by decide +kernel
set_option maxRecDepth 100000 in
set_option maxHeartbeats 4000000 in
theorem u_Mo_begin_110  (X : zX p s m args cd D cid B bb_Mo_begin 2 rr_Mo zT) (H : zH s meth B n0 none "begin") {nf : Nat} {x0 : Nat} {x1 : Int32} {c : Zc} {r : (Nat × Int32 × Zc) ⊕ (Nat × Zc)} (h : g_Mo_begin_110 nf x0 x1 c = some r) (k0 : ∀ a, r = .inl a → (fun a : Nat × Int32 × Zc => Zz p l e (zRm 3 72 0 0) s m args below meth cd Q D cid B 2 0 0 a.2.2 110 [(0, .ref a.1), (1, .int a.2.1)] []) a) (k1 : ∀ b, r = .inr b → (fun b : Nat × Zc => Zz p l e (zRm 3 72 0 0) s m args below meth cd Q D cid B 2 0 0 b.2 139 [(0, .ref b.1)] []) b) : Zz p l e (zRm 3 72 0 0) s m args below meth cd Q D cid B 2 0 0 c 110 [(0, .ref x0), (1, .int x1)] [] := by
  unfold g_Mo_begin_110 at h
  refine z_iload_n X dd_Mo_begin_110 rfl 1 rfl ?_
  refine z_sipush (v := 640) X dd_Mo_begin_111 (by decide) ?_
  refine z_icmp_ge (tgt := 139) X dd_Mo_begin_114 (by decide) (fun q30 => ?_) (fun q30 => ?_)
  · rw [if_pos q30] at h
    refine z_sub [0] rfl ?_
    obtain rfl := Option.some.inj h
    exact k1 _ rfl
  · rw [if_neg q30] at h
    refine z_aload_n X dd_Mo_begin_117 rfl 0 rfl ?_
    obtain ⟨v31, ev31, h⟩ := zb h
    refine z_get (j := 30) X dd_Mo_begin_118 kc_12 ki_12 (by decide) km_1551 (zgr_v ev31) ?_
    refine z_sipush (v := 640) X dd_Mo_begin_121 (by decide) ?_
    refine z_aload_n X dd_Mo_begin_124 rfl 0 rfl ?_
    obtain ⟨v32, ev32, h⟩ := zb h
    refine z_get (j := 25) X dd_Mo_begin_125 kc_12 ki_12 (by decide) km_1546 (zgi_v ev32) ?_
    refine z_imul X dd_Mo_begin_128 ?_
    refine z_iload_n X dd_Mo_begin_129 rfl 1 rfl ?_
    refine z_iadd X dd_Mo_begin_130 ?_
    refine z_iconst (v := 0) X dd_Mo_begin_131 (by decide) ?_
    obtain ⟨c33, ec33, h⟩ := zb h
    refine z_iastore X dd_Mo_begin_132 rfl ec33 ?_
    refine z_iinc (v := (x1 + 1)) (lv' := [(1, .int (x1 + 1)), (0, .ref x0)]) X dd_Mo_begin_133 1 rfl rfl (by decide) rfl ?_
    refine z_goto (tgt := 110) X dd_Mo_begin_136 (by decide) ?_
    refine z_sub [1, 0] rfl ?_
    obtain rfl := Option.some.inj h
    exact k0 _ rfl
set_option maxRecDepth 100000 in
set_option maxHeartbeats 4000000 in
theorem u_Mo_begin_141  (X : zX p s m args cd D cid B bb_Mo_begin 2 rr_Mo zT) (H : zH s meth B n0 none "begin") {nf : Nat} {x0 : Nat} {x1 : Int32} {c : Zc} {r : (Nat × Int32 × Zc) ⊕ (Nat × Zc)} (h : g_Mo_begin_141 nf x0 x1 c = some r) (k0 : ∀ a, r = .inl a → (fun a : Nat × Int32 × Zc => Zz p l e (zRm 3 72 0 0) s m args below meth cd Q D cid B 2 0 0 a.2.2 141 [(0, .ref a.1), (1, .int a.2.1)] []) a) (k1 : ∀ b, r = .inr b → (fun b : Nat × Zc => Zz p l e (zRm 3 72 0 0) s m args below meth cd Q D cid B 2 0 0 b.2 167 [(0, .ref b.1)] []) b) : Zz p l e (zRm 3 72 0 0) s m args below meth cd Q D cid B 2 0 0 c 141 [(0, .ref x0), (1, .int x1)] [] := by
  unfold g_Mo_begin_141 at h
  refine z_iload_n X dd_Mo_begin_141 rfl 1 rfl ?_
  refine z_bipush (v := 66) X dd_Mo_begin_142 (by decide) ?_
  refine z_icmp_ge (tgt := 167) X dd_Mo_begin_144 (by decide) (fun q34 => ?_) (fun q34 => ?_)
  · rw [if_pos q34] at h
    refine z_sub [0] rfl ?_
    obtain rfl := Option.some.inj h
    exact k1 _ rfl
  · rw [if_neg q34] at h
    refine z_aload_n X dd_Mo_begin_147 rfl 0 rfl ?_
    obtain ⟨v35, ev35, h⟩ := zb h
    refine z_get (j := 54) X dd_Mo_begin_148 kc_12 ki_12 (by decide) km_1575 (zgr_v ev35) ?_
    refine z_iload_n X dd_Mo_begin_151 rfl 1 rfl ?_
    refine z_iconst (v := (-1)) X dd_Mo_begin_152 (by decide) ?_
    obtain ⟨c36, ec36, h⟩ := zb h
    refine z_iastore X dd_Mo_begin_153 rfl ec36 ?_
    refine z_aload_n X dd_Mo_begin_154 rfl 0 rfl ?_
    obtain ⟨v37, ev37, h⟩ := zb h
    refine z_get (j := 55) X dd_Mo_begin_155 kc_12 ki_12 (by decide) km_1576 (zgr_v ev37) ?_
    refine z_iload_n X dd_Mo_begin_158 rfl 1 rfl ?_
    refine z_iconst (v := (-1)) X dd_Mo_begin_159 (by decide) ?_
    obtain ⟨c38, ec38, h⟩ := zb h
    refine z_iastore X dd_Mo_begin_160 rfl ec38 ?_
    refine z_iinc (v := (x1 + 1)) (lv' := [(1, .int (x1 + 1)), (0, .ref x0)]) X dd_Mo_begin_161 1 rfl rfl (by decide) rfl ?_
    refine z_goto (tgt := 141) X dd_Mo_begin_164 (by decide) ?_
    refine z_sub [1, 0] rfl ?_
    obtain rfl := Option.some.inj h
    exact k0 _ rfl
set_option maxRecDepth 100000 in
set_option maxHeartbeats 4000000 in
theorem t_Mo_begin_141  (X : zX p s m args cd D cid B bb_Mo_begin 2 rr_Mo zT) (H : zH s meth B n0 none "begin") {nf : Nat} {x0 : Nat} {x1 : Int32} {c : Zc} {res : Zc} (h : f_Mo_begin_141 nf x0 x1 c = some res) : Zz p l e (zRm 3 72 0 0) s m args below meth cd (MQ below (zQv D cid B res n0 0) args s 0 0 (fun q => B ≤ q)) D cid B 2 0 0 c 141 [(0, .ref x0), (1, .int x1)] [] := by
  unfold f_Mo_begin_141 at h
  obtain ⟨b, eb, h⟩ := zb h
  refine zlp_ok (P := fun a : Nat × Int32 × Zc => Zz p l e (zRm 3 72 0 0) s m args below meth cd _ D cid B 2 0 0 a.2.2 141 [(0, .ref a.1), (1, .int a.2.1)] []) (G := fun b : Nat × Zc => Zz p l e (zRm 3 72 0 0) s m args below meth cd _ D cid B 2 0 0 b.2 167 [(0, .ref b.1)] []) (fun a r ha k0 k1 => u_Mo_begin_141 X H ha k0 k1) nf _ b eb ?_
  refine z_aload_n X dd_Mo_begin_167 rfl 0 rfl ?_
  refine z_aload_n X dd_Mo_begin_168 rfl 0 rfl ?_
  obtain ⟨v39, ev39, h⟩ := zb h
  refine z_get (j := 13) X dd_Mo_begin_169 kc_12 ki_12 (by decide) km_1534 (zgi_v ev39) ?_
  obtain ⟨w41, ew41, h⟩ := zb h
  obtain ⟨q40, eq40, h⟩ := zb h
  refine z_callVv X [.int v39] rfl dd_Mo_begin_172 (c_Mo_cutTokens l eq40) (cwV 1 X.1.2.2.2.2 (zg_V km_1856 km_1858 km_64 km_138 km_1859) rfl rfl rfl (by decide +kernel) ⟨Nat.le_of_ble_eq_true rfl, Nat.le_of_ble_eq_true rfl⟩) (zob_s ew41) kc_12 rfl (Nat.le_of_ble_eq_true rfl) ⟨Nat.le_of_ble_eq_true rfl, Nat.le_of_ble_eq_true rfl⟩ ?_
  refine z_aload_n X dd_Mo_begin_175 rfl 0 rfl ?_
  refine z_iconst (v := 0) X dd_Mo_begin_176 (by decide) ?_
  obtain ⟨c42, ec42, h⟩ := zb h
  refine z_put (j := 13) X dd_Mo_begin_177 kc_12 ki_12 tt_Mo tk_Mo nn_Mo (by decide) km_1534 rfl (tk_Mo 13 (by decide)) rfl rfl ec42 ?_
  refine z_aload_n X dd_Mo_begin_180 rfl 0 rfl ?_
  refine z_bipush (v := (-2)) X dd_Mo_begin_181 (by decide) ?_
  obtain ⟨c43, ec43, h⟩ := zb h
  refine z_put (j := 21) X dd_Mo_begin_183 kc_12 ki_12 tt_Mo tk_Mo nn_Mo (by decide) km_1542 rfl (tk_Mo 21 (by decide)) rfl rfl ec43 ?_
  obtain rfl := Option.some.inj h
  exact z_vret X H.1 H.2.1 H.2.2.1 dd_Mo_begin_186
set_option maxRecDepth 100000 in
set_option maxHeartbeats 4000000 in
theorem t_Mo_begin_110  (X : zX p s m args cd D cid B bb_Mo_begin 2 rr_Mo zT) (H : zH s meth B n0 none "begin") {nf : Nat} {x0 : Nat} {x1 : Int32} {c : Zc} {res : Zc} (h : f_Mo_begin_110 nf x0 x1 c = some res) : Zz p l e (zRm 3 72 0 0) s m args below meth cd (MQ below (zQv D cid B res n0 0) args s 0 0 (fun q => B ≤ q)) D cid B 2 0 0 c 110 [(0, .ref x0), (1, .int x1)] [] := by
  unfold f_Mo_begin_110 at h
  obtain ⟨b, eb, h⟩ := zb h
  refine zlp_ok (P := fun a : Nat × Int32 × Zc => Zz p l e (zRm 3 72 0 0) s m args below meth cd _ D cid B 2 0 0 a.2.2 110 [(0, .ref a.1), (1, .int a.2.1)] []) (G := fun b : Nat × Zc => Zz p l e (zRm 3 72 0 0) s m args below meth cd _ D cid B 2 0 0 b.2 139 [(0, .ref b.1)] []) (fun a r ha k0 k1 => u_Mo_begin_110 X H ha k0 k1) nf _ b eb ?_
  refine z_iconst (v := 0) X dd_Mo_begin_139 (by decide) ?_
  refine z_istore_n (lv' := [(1, .int 0), (0, .ref b.1)]) X dd_Mo_begin_140 rfl (by decide) rfl ?_
  refine z_sub [1, 0] rfl ?_
  exact t_Mo_begin_141 X H h
set_option maxRecDepth 100000 in
set_option maxHeartbeats 4000000 in
theorem c_Mo_begin (l : Launch) {nf : Nat} {a0 : Nat} {c : Zc} {res : Zc} (h : f_Mo_begin nf a0 c = some res) : zM l yy_Mo_begin ww_Mo_begin 3 72 0 0 [.ref a0] c (fun D cid B => zQv D cid B res c.length 0) := by
  refine z_met (cc := bb_Mo_begin) (maxL := 2) (ret := none) (by decide +kernel) rfl (Nat.le_of_ble_eq_true rfl) ?_
  intro p e s m args below meth cd D cid B X h1 h2 h3 h4
  have X : zX p s m args cd D cid B bb_Mo_begin 2 rr_Mo zT := X
  have H : zH s meth B c.length none "begin" := ⟨h1, h2, h4, h3⟩
  unfold f_Mo_begin at h
  show Zz p l e (zRm 3 72 0 0) s m args below meth cd _ D cid B 2 0 0 c 0 [(0, .ref a0)] []
  refine z_aload_n X dd_Mo_begin_0 rfl 0 rfl ?_
  refine z_aload_n X dd_Mo_begin_1 rfl 0 rfl ?_
  obtain ⟨v1, ev1, h⟩ := zb h
  refine z_get (j := 24) X dd_Mo_begin_2 kc_12 ki_12 (by decide) km_1545 (zgi_v ev1) ?_
  obtain ⟨c2, ec2, h⟩ := zb h
  refine z_put (j := 25) X dd_Mo_begin_5 kc_12 ki_12 tt_Mo tk_Mo nn_Mo (by decide) km_1546 rfl (tk_Mo 25 (by decide)) rfl rfl ec2 ?_
  refine z_aload_n X dd_Mo_begin_8 rfl 0 rfl ?_
  obtain ⟨v3, ev3, h⟩ := zb h
  refine z_get (j := 26) X dd_Mo_begin_9 kc_12 ki_12 (by decide) km_1547 (zgr_v ev3) ?_
  refine z_aload_n X dd_Mo_begin_12 rfl 0 rfl ?_
  obtain ⟨v4, ev4, h⟩ := zb h
  refine z_get (j := 25) X dd_Mo_begin_13 kc_12 ki_12 (by decide) km_1546 (zgi_v ev4) ?_
  refine z_iconst (v := 0) X dd_Mo_begin_16 (by decide) ?_
  obtain ⟨c5, ec5, h⟩ := zb h
  refine z_iastore X dd_Mo_begin_17 rfl ec5 ?_
  refine z_aload_n X dd_Mo_begin_18 rfl 0 rfl ?_
  obtain ⟨v6, ev6, h⟩ := zb h
  refine z_get (j := 27) X dd_Mo_begin_19 kc_12 ki_12 (by decide) km_1548 (zgr_v ev6) ?_
  refine z_aload_n X dd_Mo_begin_22 rfl 0 rfl ?_
  obtain ⟨v7, ev7, h⟩ := zb h
  refine z_get (j := 25) X dd_Mo_begin_23 kc_12 ki_12 (by decide) km_1546 (zgi_v ev7) ?_
  refine z_iconst (v := 0) X dd_Mo_begin_26 (by decide) ?_
  obtain ⟨c8, ec8, h⟩ := zb h
  refine z_iastore X dd_Mo_begin_27 rfl ec8 ?_
  refine z_aload_n X dd_Mo_begin_28 rfl 0 rfl ?_
  obtain ⟨v9, ev9, h⟩ := zb h
  refine z_get (j := 28) X dd_Mo_begin_29 kc_12 ki_12 (by decide) km_1549 (zgr_v ev9) ?_
  refine z_aload_n X dd_Mo_begin_32 rfl 0 rfl ?_
  obtain ⟨v10, ev10, h⟩ := zb h
  refine z_get (j := 25) X dd_Mo_begin_33 kc_12 ki_12 (by decide) km_1546 (zgi_v ev10) ?_
  refine z_iconst (v := 0) X dd_Mo_begin_36 (by decide) ?_
  obtain ⟨c11, ec11, h⟩ := zb h
  refine z_iastore X dd_Mo_begin_37 rfl ec11 ?_
  refine z_aload_n X dd_Mo_begin_38 rfl 0 rfl ?_
  obtain ⟨v12, ev12, h⟩ := zb h
  refine z_get (j := 31) X dd_Mo_begin_39 kc_12 ki_12 (by decide) km_1552 (zgr_v ev12) ?_
  refine z_aload_n X dd_Mo_begin_42 rfl 0 rfl ?_
  obtain ⟨v13, ev13, h⟩ := zb h
  refine z_get (j := 25) X dd_Mo_begin_43 kc_12 ki_12 (by decide) km_1546 (zgi_v ev13) ?_
  refine z_iconst (v := 0) X dd_Mo_begin_46 (by decide) ?_
  obtain ⟨c14, ec14, h⟩ := zb h
  refine z_iastore X dd_Mo_begin_47 rfl ec14 ?_
  refine z_aload_n X dd_Mo_begin_48 rfl 0 rfl ?_
  obtain ⟨v15, ev15, h⟩ := zb h
  refine z_get (j := 43) X dd_Mo_begin_49 kc_12 ki_12 (by decide) km_1564 (zgr_v ev15) ?_
  refine z_aload_n X dd_Mo_begin_52 rfl 0 rfl ?_
  obtain ⟨v16, ev16, h⟩ := zb h
  refine z_get (j := 25) X dd_Mo_begin_53 kc_12 ki_12 (by decide) km_1546 (zgi_v ev16) ?_
  refine z_iconst (v := 0) X dd_Mo_begin_56 (by decide) ?_
  obtain ⟨c17, ec17, h⟩ := zb h
  refine z_iastore X dd_Mo_begin_57 rfl ec17 ?_
  refine z_aload_n X dd_Mo_begin_58 rfl 0 rfl ?_
  obtain ⟨v18, ev18, h⟩ := zb h
  refine z_get (j := 47) X dd_Mo_begin_59 kc_12 ki_12 (by decide) km_1568 (zgr_v ev18) ?_
  refine z_aload_n X dd_Mo_begin_62 rfl 0 rfl ?_
  obtain ⟨v19, ev19, h⟩ := zb h
  refine z_get (j := 25) X dd_Mo_begin_63 kc_12 ki_12 (by decide) km_1546 (zgi_v ev19) ?_
  refine z_iconst (v := 0) X dd_Mo_begin_66 (by decide) ?_
  obtain ⟨c20, ec20, h⟩ := zb h
  refine z_iastore X dd_Mo_begin_67 rfl ec20 ?_
  refine z_aload_n X dd_Mo_begin_68 rfl 0 rfl ?_
  obtain ⟨v21, ev21, h⟩ := zb h
  refine z_get (j := 46) X dd_Mo_begin_69 kc_12 ki_12 (by decide) km_1567 (zgr_v ev21) ?_
  refine z_aload_n X dd_Mo_begin_72 rfl 0 rfl ?_
  obtain ⟨v22, ev22, h⟩ := zb h
  refine z_get (j := 25) X dd_Mo_begin_73 kc_12 ki_12 (by decide) km_1546 (zgi_v ev22) ?_
  refine z_iconst (v := (-1)) X dd_Mo_begin_76 (by decide) ?_
  obtain ⟨c23, ec23, h⟩ := zb h
  refine z_iastore X dd_Mo_begin_77 rfl ec23 ?_
  refine z_aload_n X dd_Mo_begin_78 rfl 0 rfl ?_
  refine z_iconst (v := 0) X dd_Mo_begin_79 (by decide) ?_
  obtain ⟨c24, ec24, h⟩ := zb h
  refine z_put (j := 52) X dd_Mo_begin_80 kc_12 ki_12 tt_Mo tk_Mo nn_Mo (by decide) km_1573 rfl (tk_Mo 52 (by decide)) rfl rfl ec24 ?_
  refine z_aload_n X dd_Mo_begin_83 rfl 0 rfl ?_
  refine z_iconst (v := 0) X dd_Mo_begin_84 (by decide) ?_
  obtain ⟨c25, ec25, h⟩ := zb h
  refine z_put (j := 57) X dd_Mo_begin_85 kc_12 ki_12 tt_Mo tk_Mo nn_Mo (by decide) km_1578 rfl (tk_Mo 57 (by decide)) rfl rfl ec25 ?_
  refine z_aload_n X dd_Mo_begin_88 rfl 0 rfl ?_
  refine z_iconst (v := 0) X dd_Mo_begin_89 (by decide) ?_
  obtain ⟨c26, ec26, h⟩ := zb h
  refine z_put (j := 56) X dd_Mo_begin_90 kc_12 ki_12 tt_Mo tk_Mo nn_Mo (by decide) km_1577 rfl (tk_Mo 56 (by decide)) rfl rfl ec26 ?_
  refine z_aload_n X dd_Mo_begin_93 rfl 0 rfl ?_
  refine z_iconst (v := 0) X dd_Mo_begin_94 (by decide) ?_
  obtain ⟨c27, ec27, h⟩ := zb h
  refine z_put (j := 53) X dd_Mo_begin_95 kc_12 ki_12 tt_Mo tk_Mo nn_Mo (by decide) km_1574 rfl (tk_Mo 53 (by decide)) rfl rfl ec27 ?_
  refine z_aload_n X dd_Mo_begin_98 rfl 0 rfl ?_
  refine z_iconst (v := 0) X dd_Mo_begin_99 (by decide) ?_
  obtain ⟨c28, ec28, h⟩ := zb h
  refine z_put (j := 19) X dd_Mo_begin_100 kc_12 ki_12 tt_Mo tk_Mo nn_Mo (by decide) km_1540 rfl (tk_Mo 19 (by decide)) rfl rfl ec28 ?_
  refine z_aload_n X dd_Mo_begin_103 rfl 0 rfl ?_
  refine z_iconst (v := 0) X dd_Mo_begin_104 (by decide) ?_
  obtain ⟨c29, ec29, h⟩ := zb h
  refine z_put (j := 18) X dd_Mo_begin_105 kc_12 ki_12 tt_Mo tk_Mo nn_Mo (by decide) km_1539 rfl (tk_Mo 18 (by decide)) rfl rfl ec29 ?_
  refine z_iconst (v := 0) X dd_Mo_begin_108 (by decide) ?_
  refine z_istore_n (lv' := [(1, .int 0), (0, .ref a0)]) X dd_Mo_begin_109 rfl (by decide) rfl ?_
  refine z_sub [1, 0] rfl ?_
  exact t_Mo_begin_110 X H h
theorem dd_Mo_patterns_0 : decode bb_Mo_patterns 0 = .ok (.aload_n 0, 1) := by decide +kernel
theorem dd_Mo_patterns_1 : decode bb_Mo_patterns 1 = .ok (.bipush 100, 2) := by decide +kernel
theorem dd_Mo_patterns_3 : decode bb_Mo_patterns 3 = .ok (.invokevirtual 334, 3) := by decide +kernel
theorem dd_Mo_patterns_6 : decode bb_Mo_patterns 6 = .ok (.aload_n 0, 1) := by decide +kernel
theorem dd_Mo_patterns_7 : decode bb_Mo_patterns 7 = .ok (.getfield 294, 3) := by decide +kernel
theorem dd_Mo_patterns_10 : decode bb_Mo_patterns 10 = .ok (.ifCond .ne 7, 3) := by decide +kernel
theorem dd_Mo_patterns_13 : decode bb_Mo_patterns 13 = .ok (.aload_n 0, 1) := by decide +kernel
theorem dd_Mo_patterns_14 : decode bb_Mo_patterns 14 = .ok (.invokevirtual 420, 3) := by decide +kernel
theorem dd_Mo_patterns_17 : decode bb_Mo_patterns 17 = .ok (.aload_n 0, 1) := by decide +kernel
theorem dd_Mo_patterns_18 : decode bb_Mo_patterns 18 = .ok (.bipush 44, 2) := by decide +kernel
theorem dd_Mo_patterns_20 : decode bb_Mo_patterns 20 = .ok (.invokevirtual 316, 3) := by decide +kernel
theorem dd_Mo_patterns_23 : decode bb_Mo_patterns 23 = .ok (.ifCond .eq 10, 3) := by decide +kernel
theorem dd_Mo_patterns_26 : decode bb_Mo_patterns 26 = .ok (.aload_n 0, 1) := by decide +kernel
theorem dd_Mo_patterns_27 : decode bb_Mo_patterns 27 = .ok (.invokevirtual 420, 3) := by decide +kernel
theorem dd_Mo_patterns_30 : decode bb_Mo_patterns 30 = .ok (.goto (-13), 3) := by decide +kernel
theorem dd_Mo_patterns_33 : decode bb_Mo_patterns 33 = .ok (.aload_n 0, 1) := by decide +kernel
theorem dd_Mo_patterns_34 : decode bb_Mo_patterns 34 = .ok (.bipush 101, 2) := by decide +kernel
theorem dd_Mo_patterns_36 : decode bb_Mo_patterns 36 = .ok (.invokevirtual 316, 3) := by decide +kernel
theorem dd_Mo_patterns_39 : decode bb_Mo_patterns 39 = .ok (.ifCond .eq 21, 3) := by decide +kernel
theorem dd_Mo_patterns_42 : decode bb_Mo_patterns 42 = .ok (.aload_n 0, 1) := by decide +kernel
theorem dd_Mo_patterns_43 : decode bb_Mo_patterns 43 = .ok (.getfield 125, 3) := by decide +kernel
theorem dd_Mo_patterns_46 : decode bb_Mo_patterns 46 = .ok (.aload_n 0, 1) := by decide +kernel
theorem dd_Mo_patterns_47 : decode bb_Mo_patterns 47 = .ok (.getfield 331, 3) := by decide +kernel
theorem dd_Mo_patterns_50 : decode bb_Mo_patterns 50 = .ok (.aload_n 0, 1) := by decide +kernel
theorem dd_Mo_patterns_51 : decode bb_Mo_patterns 51 = .ok (.getfield 386, 3) := by decide +kernel
theorem dd_Mo_patterns_54 : decode bb_Mo_patterns 54 = .ok (.iastore, 1) := by decide +kernel
theorem dd_Mo_patterns_55 : decode bb_Mo_patterns 55 = .ok (.aload_n 0, 1) := by decide +kernel
theorem dd_Mo_patterns_56 : decode bb_Mo_patterns 56 = .ok (.iconst 0, 1) := by decide +kernel
theorem dd_Mo_patterns_57 : decode bb_Mo_patterns 57 = .ok (.invokevirtual 432, 3) := by decide +kernel
theorem dd_Mo_patterns_60 : decode bb_Mo_patterns 60 = .ok (.aload_n 0, 1) := by decide +kernel
theorem dd_Mo_patterns_61 : decode bb_Mo_patterns 61 = .ok (.bipush 102, 2) := by decide +kernel
theorem dd_Mo_patterns_63 : decode bb_Mo_patterns 63 = .ok (.invokevirtual 334, 3) := by decide +kernel
theorem dd_Mo_patterns_66 : decode bb_Mo_patterns 66 = .ok (.return_, 1) := by decide +kernel
set_option maxRecDepth 100000 in
set_option maxHeartbeats 4000000 in
theorem u_Mo_patterns_17  (X : zX p s m args cd D cid B bb_Mo_patterns 1 rr_Mo zT) (H : zH s meth B n0 none "patterns") {nf : Nat} {x0 : Nat} {c : Zc} {r : (Nat × Zc) ⊕ (Nat × Zc)} (h : g_Mo_patterns_17 nf x0 c = some r) (k0 : ∀ a, r = .inl a → (fun a : Nat × Zc => Zz p l e (zRm 13 288 0 0) s m args below meth cd Q D cid B 1 0 0 a.2 17 [(0, .ref a.1)] []) a) (k1 : ∀ b, r = .inr b → (fun b : Nat × Zc => Zz p l e (zRm 13 288 0 0) s m args below meth cd Q D cid B 1 0 0 b.2 33 [(0, .ref b.1)] []) b) : Zz p l e (zRm 13 288 0 0) s m args below meth cd Q D cid B 1 0 0 c 17 [(0, .ref x0)] [] := by
  unfold g_Mo_patterns_17 at h
  refine z_aload_n X dd_Mo_patterns_17 rfl 0 rfl ?_
  refine z_bipush (v := 44) X dd_Mo_patterns_18 (by decide) ?_
  obtain ⟨w6, ew6, h⟩ := zb h
  obtain ⟨q5, eq5, h⟩ := zb h
  refine z_callVi X [.int 44] rfl dd_Mo_patterns_20 (c_Mo_takes l eq5) (cwV 1 X.1.2.2.2.2 (zg_V km_1908 km_1910 km_69 km_138 km_1911) rfl rfl rfl (by decide +kernel) ⟨Nat.le_of_ble_eq_true rfl, Nat.le_of_ble_eq_true rfl⟩) (zob_s ew6) kc_12 rfl (Nat.le_of_ble_eq_true rfl) ⟨Nat.le_of_ble_eq_true rfl, Nat.le_of_ble_eq_true rfl⟩ ?_
  refine z_if_eq (tgt := 33) X dd_Mo_patterns_23 (by decide) (fun q7 => ?_) (fun q7 => ?_)
  · rw [if_pos q7] at h
    obtain rfl := Option.some.inj h
    exact k1 _ rfl
  · rw [if_neg q7] at h
    refine z_aload_n X dd_Mo_patterns_26 rfl 0 rfl ?_
    obtain ⟨w9, ew9, h⟩ := zb h
    obtain ⟨q8, eq8, h⟩ := zb h
    refine z_callVv X [] rfl dd_Mo_patterns_27 (c_Mo_pattern l eq8) (cwV 0 X.1.2.2.2.2 (zg_V km_1932 km_1934 km_75 km_138 km_1935) rfl rfl rfl (by decide +kernel) ⟨Nat.le_of_ble_eq_true rfl, Nat.le_of_ble_eq_true rfl⟩) (zob_s ew9) kc_12 rfl (Nat.le_of_ble_eq_true rfl) ⟨Nat.le_of_ble_eq_true rfl, Nat.le_of_ble_eq_true rfl⟩ ?_
    refine z_goto (tgt := 17) X dd_Mo_patterns_30 (by decide) ?_
    obtain rfl := Option.some.inj h
    exact k0 _ rfl
set_option maxRecDepth 100000 in
set_option maxHeartbeats 4000000 in
theorem t_Mo_patterns_60  (X : zX p s m args cd D cid B bb_Mo_patterns 1 rr_Mo zT) (H : zH s meth B n0 none "patterns") {nf : Nat} {x0 : Nat} {c : Zc} {res : Zc} (h : f_Mo_patterns_60 nf x0 c = some res) : Zz p l e (zRm 13 288 0 0) s m args below meth cd (MQ below (zQv D cid B res n0 0) args s 0 0 (fun q => B ≤ q)) D cid B 1 0 0 c 60 [(0, .ref x0)] [] := by
  unfold f_Mo_patterns_60 at h
  refine z_aload_n X dd_Mo_patterns_60 rfl 0 rfl ?_
  refine z_bipush (v := 102) X dd_Mo_patterns_61 (by decide) ?_
  obtain ⟨w14, ew14, h⟩ := zb h
  obtain ⟨q13, eq13, h⟩ := zb h
  refine z_callVv X [.int 102] rfl dd_Mo_patterns_63 (c_Mo_need l eq13) (cwV 1 X.1.2.2.2.2 (zg_V km_1904 km_1906 km_68 km_138 km_1907) rfl rfl rfl (by decide +kernel) ⟨Nat.le_of_ble_eq_true rfl, Nat.le_of_ble_eq_true rfl⟩) (zob_s ew14) kc_12 rfl (Nat.le_of_ble_eq_true rfl) ⟨Nat.le_of_ble_eq_true rfl, Nat.le_of_ble_eq_true rfl⟩ ?_
  obtain rfl := Option.some.inj h
  exact z_vret X H.1 H.2.1 H.2.2.1 dd_Mo_patterns_66
set_option maxRecDepth 100000 in
set_option maxHeartbeats 4000000 in
theorem t_Mo_patterns_17  (X : zX p s m args cd D cid B bb_Mo_patterns 1 rr_Mo zT) (H : zH s meth B n0 none "patterns") {nf : Nat} {x0 : Nat} {c : Zc} {res : Zc} (h : f_Mo_patterns_17 nf x0 c = some res) : Zz p l e (zRm 13 288 0 0) s m args below meth cd (MQ below (zQv D cid B res n0 0) args s 0 0 (fun q => B ≤ q)) D cid B 1 0 0 c 17 [(0, .ref x0)] [] := by
  unfold f_Mo_patterns_17 at h
  obtain ⟨b, eb, h⟩ := zb h
  refine zlp_ok (P := fun a : Nat × Zc => Zz p l e (zRm 13 288 0 0) s m args below meth cd _ D cid B 1 0 0 a.2 17 [(0, .ref a.1)] []) (G := fun b : Nat × Zc => Zz p l e (zRm 13 288 0 0) s m args below meth cd _ D cid B 1 0 0 b.2 33 [(0, .ref b.1)] []) (fun a r ha k0 k1 => u_Mo_patterns_17 X H ha k0 k1) nf _ b eb ?_
  refine z_aload_n X dd_Mo_patterns_33 rfl 0 rfl ?_
  refine z_bipush (v := 101) X dd_Mo_patterns_34 (by decide) ?_
  obtain ⟨w11, ew11, h⟩ := zb h
  obtain ⟨q10, eq10, h⟩ := zb h
  refine z_callVi X [.int 101] rfl dd_Mo_patterns_36 (c_Mo_takes l eq10) (cwV 1 X.1.2.2.2.2 (zg_V km_1908 km_1910 km_69 km_138 km_1911) rfl rfl rfl (by decide +kernel) ⟨Nat.le_of_ble_eq_true rfl, Nat.le_of_ble_eq_true rfl⟩) (zob_s ew11) kc_12 rfl (Nat.le_of_ble_eq_true rfl) ⟨Nat.le_of_ble_eq_true rfl, Nat.le_of_ble_eq_true rfl⟩ ?_
  refine z_if_eq (tgt := 60) X dd_Mo_patterns_39 (by decide) (fun q12 => ?_) (fun q12 => ?_)
  · rw [if_pos q12] at h
    exact t_Mo_patterns_60 X H h
  · rw [if_neg q12] at h
    refine z_aload_n X dd_Mo_patterns_42 rfl 0 rfl ?_
    obtain ⟨v15, ev15, h⟩ := zb h
    refine z_get (j := 46) X dd_Mo_patterns_43 kc_12 ki_12 (by decide) km_1567 (zgr_v ev15) ?_
    refine z_aload_n X dd_Mo_patterns_46 rfl 0 rfl ?_
    obtain ⟨v16, ev16, h⟩ := zb h
    refine z_get (j := 25) X dd_Mo_patterns_47 kc_12 ki_12 (by decide) km_1546 (zgi_v ev16) ?_
    refine z_aload_n X dd_Mo_patterns_50 rfl 0 rfl ?_
    obtain ⟨v17, ev17, h⟩ := zb h
    refine z_get (j := 52) X dd_Mo_patterns_51 kc_12 ki_12 (by decide) km_1573 (zgi_v ev17) ?_
    obtain ⟨c18, ec18, h⟩ := zb h
    refine z_iastore X dd_Mo_patterns_54 rfl ec18 ?_
    refine z_aload_n X dd_Mo_patterns_55 rfl 0 rfl ?_
    refine z_iconst (v := 0) X dd_Mo_patterns_56 (by decide) ?_
    obtain ⟨w20, ew20, h⟩ := zb h
    obtain ⟨q19, eq19, h⟩ := zb h
    refine z_callVv X [.int 0] rfl dd_Mo_patterns_57 (c_Mo_parse l eq19) (cwV 1 X.1.2.2.2.2 (zg_V km_1992 km_1994 km_90 km_138 km_1995) rfl rfl rfl (by decide +kernel) ⟨Nat.le_of_ble_eq_true rfl, Nat.le_of_ble_eq_true rfl⟩) (zob_s ew20) kc_12 rfl (Nat.le_of_ble_eq_true rfl) ⟨Nat.le_of_ble_eq_true rfl, Nat.le_of_ble_eq_true rfl⟩ ?_
    exact t_Mo_patterns_60 X H h
set_option maxRecDepth 100000 in
set_option maxHeartbeats 4000000 in
theorem c_Mo_patterns (l : Launch) {nf : Nat} {a0 : Nat} {c : Zc} {res : Zc} (h : f_Mo_patterns nf a0 c = some res) : zM l yy_Mo_patterns ww_Mo_patterns 13 288 0 0 [.ref a0] c (fun D cid B => zQv D cid B res c.length 0) := by
  refine z_met (cc := bb_Mo_patterns) (maxL := 1) (ret := none) (by decide +kernel) rfl (Nat.le_of_ble_eq_true rfl) ?_
  intro p e s m args below meth cd D cid B X h1 h2 h3 h4
  have X : zX p s m args cd D cid B bb_Mo_patterns 1 rr_Mo zT := X
  have H : zH s meth B c.length none "patterns" := ⟨h1, h2, h4, h3⟩
  unfold f_Mo_patterns at h
  show Zz p l e (zRm 13 288 0 0) s m args below meth cd _ D cid B 1 0 0 c 0 [(0, .ref a0)] []
  refine z_aload_n X dd_Mo_patterns_0 rfl 0 rfl ?_
  refine z_bipush (v := 100) X dd_Mo_patterns_1 (by decide) ?_
  obtain ⟨w2, ew2, h⟩ := zb h
  obtain ⟨q1, eq1, h⟩ := zb h
  refine z_callVv X [.int 100] rfl dd_Mo_patterns_3 (c_Mo_need l eq1) (cwV 1 X.1.2.2.2.2 (zg_V km_1904 km_1906 km_68 km_138 km_1907) rfl rfl rfl (by decide +kernel) ⟨Nat.le_of_ble_eq_true rfl, Nat.le_of_ble_eq_true rfl⟩) (zob_s ew2) kc_12 rfl (Nat.le_of_ble_eq_true rfl) ⟨Nat.le_of_ble_eq_true rfl, Nat.le_of_ble_eq_true rfl⟩ ?_
  refine z_aload_n X dd_Mo_patterns_6 rfl 0 rfl ?_
  obtain ⟨v3, ev3, h⟩ := zb h
  refine z_get (j := 19) X dd_Mo_patterns_7 kc_12 ki_12 (by decide) km_1540 (zgi_v ev3) ?_
  refine z_if_ne (tgt := 17) X dd_Mo_patterns_10 (by decide) (fun q4 => ?_) (fun q4 => ?_)
  · rw [if_neg q4] at h
    exact t_Mo_patterns_17 X H h
  · rw [if_pos q4] at h
    refine z_aload_n X dd_Mo_patterns_13 rfl 0 rfl ?_
    obtain ⟨w22, ew22, h⟩ := zb h
    obtain ⟨q21, eq21, h⟩ := zb h
    refine z_callVv X [] rfl dd_Mo_patterns_14 (c_Mo_pattern l eq21) (cwV 0 X.1.2.2.2.2 (zg_V km_1932 km_1934 km_75 km_138 km_1935) rfl rfl rfl (by decide +kernel) ⟨Nat.le_of_ble_eq_true rfl, Nat.le_of_ble_eq_true rfl⟩) (zob_s ew22) kc_12 rfl (Nat.le_of_ble_eq_true rfl) ⟨Nat.le_of_ble_eq_true rfl, Nat.le_of_ble_eq_true rfl⟩ ?_
    exact t_Mo_patterns_17 X H h
theorem dd_Mo_item_0 : decode bb_Mo_item 0 = .ok (.aload_n 0, 1) := by decide +kernel
theorem dd_Mo_item_1 : decode bb_Mo_item 1 = .ok (.invokevirtual 306, 3) := by decide +kernel
theorem dd_Mo_item_4 : decode bb_Mo_item 4 = .ok (.istore_n 1, 1) := by decide +kernel
theorem dd_Mo_item_5 : decode bb_Mo_item 5 = .ok (.iload_n 1, 1) := by decide +kernel
theorem dd_Mo_item_6 : decode bb_Mo_item 6 = .ok (.bipush 109, 2) := by decide +kernel
theorem dd_Mo_item_8 : decode bb_Mo_item 8 = .ok (.if_icmp .eq 49, 3) := by decide +kernel
theorem dd_Mo_item_11 : decode bb_Mo_item 11 = .ok (.iload_n 1, 1) := by decide +kernel
theorem dd_Mo_item_12 : decode bb_Mo_item 12 = .ok (.bipush 110, 2) := by decide +kernel
theorem dd_Mo_item_14 : decode bb_Mo_item 14 = .ok (.if_icmp .eq 43, 3) := by decide +kernel
theorem dd_Mo_item_17 : decode bb_Mo_item 17 = .ok (.iload_n 1, 1) := by decide +kernel
theorem dd_Mo_item_18 : decode bb_Mo_item 18 = .ok (.bipush 111, 2) := by decide +kernel
theorem dd_Mo_item_20 : decode bb_Mo_item 20 = .ok (.if_icmp .eq 37, 3) := by decide +kernel
theorem dd_Mo_item_23 : decode bb_Mo_item 23 = .ok (.iload_n 1, 1) := by decide +kernel
theorem dd_Mo_item_24 : decode bb_Mo_item 24 = .ok (.bipush 112, 2) := by decide +kernel
theorem dd_Mo_item_26 : decode bb_Mo_item 26 = .ok (.if_icmp .eq 31, 3) := by decide +kernel
theorem dd_Mo_item_29 : decode bb_Mo_item 29 = .ok (.iload_n 1, 1) := by decide +kernel
theorem dd_Mo_item_30 : decode bb_Mo_item 30 = .ok (.bipush 45, 2) := by decide +kernel
theorem dd_Mo_item_32 : decode bb_Mo_item 32 = .ok (.if_icmp .eq 25, 3) := by decide +kernel
theorem dd_Mo_item_35 : decode bb_Mo_item 35 = .ok (.iload_n 1, 1) := by decide +kernel
theorem dd_Mo_item_36 : decode bb_Mo_item 36 = .ok (.bipush 40, 2) := by decide +kernel
theorem dd_Mo_item_38 : decode bb_Mo_item 38 = .ok (.if_icmp .eq 19, 3) := by decide +kernel
theorem dd_Mo_item_41 : decode bb_Mo_item 41 = .ok (.iload_n 1, 1) := by decide +kernel
theorem dd_Mo_item_42 : decode bb_Mo_item 42 = .ok (.bipush 6, 2) := by decide +kernel
theorem dd_Mo_item_44 : decode bb_Mo_item 44 = .ok (.if_icmp .eq 13, 3) := by decide +kernel
theorem dd_Mo_item_47 : decode bb_Mo_item 47 = .ok (.iload_n 1, 1) := by decide +kernel
theorem dd_Mo_item_48 : decode bb_Mo_item 48 = .ok (.iconst 2, 1) := by decide +kernel
theorem dd_Mo_item_49 : decode bb_Mo_item 49 = .ok (.if_icmp .eq 8, 3) := by decide +kernel
theorem dd_Mo_item_52 : decode bb_Mo_item 52 = .ok (.aload_n 0, 1) := by decide +kernel
theorem dd_Mo_item_53 : decode bb_Mo_item 53 = .ok (.invokevirtual 319, 3) := by decide +kernel
theorem dd_Mo_item_56 : decode bb_Mo_item 56 = .ok (.return_, 1) := by decide +kernel
theorem dd_Mo_item_57 : decode bb_Mo_item 57 = .ok (.aload_n 0, 1) := by decide +kernel
theorem dd_Mo_item_58 : decode bb_Mo_item 58 = .ok (.invokevirtual 310, 3) := by decide +kernel
theorem dd_Mo_item_61 : decode bb_Mo_item 61 = .ok (.aload_n 0, 1) := by decide +kernel
theorem dd_Mo_item_62 : decode bb_Mo_item 62 = .ok (.getfield 116, 3) := by decide +kernel
theorem dd_Mo_item_65 : decode bb_Mo_item 65 = .ok (.aload_n 0, 1) := by decide +kernel
theorem dd_Mo_item_66 : decode bb_Mo_item 66 = .ok (.getfield 331, 3) := by decide +kernel
theorem dd_Mo_item_69 : decode bb_Mo_item 69 = .ok (.iaload, 1) := by decide +kernel
theorem dd_Mo_item_70 : decode bb_Mo_item 70 = .ok (.bipush 8, 2) := by decide +kernel
theorem dd_Mo_item_72 : decode bb_Mo_item 72 = .ok (.if_icmp .ne 18, 3) := by decide +kernel
theorem dd_Mo_item_75 : decode bb_Mo_item 75 = .ok (.aload_n 0, 1) := by decide +kernel
theorem dd_Mo_item_76 : decode bb_Mo_item 76 = .ok (.iconst 3, 1) := by decide +kernel
theorem dd_Mo_item_77 : decode bb_Mo_item 77 = .ok (.aload_n 0, 1) := by decide +kernel
theorem dd_Mo_item_78 : decode bb_Mo_item 78 = .ok (.getfield 49, 3) := by decide +kernel
theorem dd_Mo_item_81 : decode bb_Mo_item 81 = .ok (.aload_n 0, 1) := by decide +kernel
theorem dd_Mo_item_82 : decode bb_Mo_item 82 = .ok (.getfield 300, 3) := by decide +kernel
theorem dd_Mo_item_85 : decode bb_Mo_item 85 = .ok (.iaload, 1) := by decide +kernel
theorem dd_Mo_item_86 : decode bb_Mo_item 86 = .ok (.invokevirtual 303, 3) := by decide +kernel
theorem dd_Mo_item_89 : decode bb_Mo_item 89 = .ok (.return_, 1) := by decide +kernel
theorem dd_Mo_item_90 : decode bb_Mo_item 90 = .ok (.bipush 8, 2) := by decide +kernel
theorem dd_Mo_item_92 : decode bb_Mo_item 92 = .ok (.aload_n 0, 1) := by decide +kernel
theorem dd_Mo_item_93 : decode bb_Mo_item 93 = .ok (.getfield 331, 3) := by decide +kernel
theorem dd_Mo_item_96 : decode bb_Mo_item 96 = .ok (.imul, 1) := by decide +kernel
theorem dd_Mo_item_97 : decode bb_Mo_item 97 = .ok (.aload_n 0, 1) := by decide +kernel
theorem dd_Mo_item_98 : decode bb_Mo_item 98 = .ok (.getfield 116, 3) := by decide +kernel
theorem dd_Mo_item_101 : decode bb_Mo_item 101 = .ok (.aload_n 0, 1) := by decide +kernel
theorem dd_Mo_item_102 : decode bb_Mo_item 102 = .ok (.getfield 331, 3) := by decide +kernel
theorem dd_Mo_item_105 : decode bb_Mo_item 105 = .ok (.iaload, 1) := by decide +kernel
theorem dd_Mo_item_106 : decode bb_Mo_item 106 = .ok (.iadd, 1) := by decide +kernel
theorem dd_Mo_item_107 : decode bb_Mo_item 107 = .ok (.istore_n 2, 1) := by decide +kernel
theorem dd_Mo_item_108 : decode bb_Mo_item 108 = .ok (.aload_n 0, 1) := by decide +kernel
theorem dd_Mo_item_109 : decode bb_Mo_item 109 = .ok (.getfield 116, 3) := by decide +kernel
theorem dd_Mo_item_112 : decode bb_Mo_item 112 = .ok (.aload_n 0, 1) := by decide +kernel
theorem dd_Mo_item_113 : decode bb_Mo_item 113 = .ok (.getfield 331, 3) := by decide +kernel
theorem dd_Mo_item_116 : decode bb_Mo_item 116 = .ok (.dup2, 1) := by decide +kernel
theorem dd_Mo_item_117 : decode bb_Mo_item 117 = .ok (.iaload, 1) := by decide +kernel
theorem dd_Mo_item_118 : decode bb_Mo_item 118 = .ok (.iconst 1, 1) := by decide +kernel
theorem dd_Mo_item_119 : decode bb_Mo_item 119 = .ok (.iadd, 1) := by decide +kernel
theorem dd_Mo_item_120 : decode bb_Mo_item 120 = .ok (.iastore, 1) := by decide +kernel
theorem dd_Mo_item_121 : decode bb_Mo_item 121 = .ok (.aload_n 0, 1) := by decide +kernel
theorem dd_Mo_item_122 : decode bb_Mo_item 122 = .ok (.getfield 119, 3) := by decide +kernel
theorem dd_Mo_item_125 : decode bb_Mo_item 125 = .ok (.iload_n 2, 1) := by decide +kernel
theorem dd_Mo_item_126 : decode bb_Mo_item 126 = .ok (.iload_n 1, 1) := by decide +kernel
theorem dd_Mo_item_127 : decode bb_Mo_item 127 = .ok (.bipush 109, 2) := by decide +kernel
theorem dd_Mo_item_129 : decode bb_Mo_item 129 = .ok (.if_icmp .lt 13, 3) := by decide +kernel
theorem dd_Mo_item_132 : decode bb_Mo_item 132 = .ok (.iload_n 1, 1) := by decide +kernel
theorem dd_Mo_item_133 : decode bb_Mo_item 133 = .ok (.bipush 112, 2) := by decide +kernel
theorem dd_Mo_item_135 : decode bb_Mo_item 135 = .ok (.if_icmp .gt 7, 3) := by decide +kernel
theorem dd_Mo_item_138 : decode bb_Mo_item 138 = .ok (.iload_n 1, 1) := by decide +kernel
theorem dd_Mo_item_139 : decode bb_Mo_item 139 = .ok (.goto 4, 3) := by decide +kernel
theorem dd_Mo_item_142 : decode bb_Mo_item 142 = .ok (.iconst 0, 1) := by decide +kernel
theorem dd_Mo_item_143 : decode bb_Mo_item 143 = .ok (.iastore, 1) := by decide +kernel
theorem dd_Mo_item_144 : decode bb_Mo_item 144 = .ok (.aload_n 0, 1) := by decide +kernel
theorem dd_Mo_item_145 : decode bb_Mo_item 145 = .ok (.getfield 119, 3) := by decide +kernel
theorem dd_Mo_item_148 : decode bb_Mo_item 148 = .ok (.iload_n 2, 1) := by decide +kernel
theorem dd_Mo_item_149 : decode bb_Mo_item 149 = .ok (.iaload, 1) := by decide +kernel
theorem dd_Mo_item_150 : decode bb_Mo_item 150 = .ok (.ifCond .le 7, 3) := by decide +kernel
theorem dd_Mo_item_153 : decode bb_Mo_item 153 = .ok (.aload_n 0, 1) := by decide +kernel
theorem dd_Mo_item_154 : decode bb_Mo_item 154 = .ok (.invokevirtual 313, 3) := by decide +kernel
theorem dd_Mo_item_157 : decode bb_Mo_item 157 = .ok (.aload_n 0, 1) := by decide +kernel
theorem dd_Mo_item_158 : decode bb_Mo_item 158 = .ok (.getfield 122, 3) := by decide +kernel
theorem dd_Mo_item_161 : decode bb_Mo_item 161 = .ok (.iload_n 2, 1) := by decide +kernel
theorem dd_Mo_item_162 : decode bb_Mo_item 162 = .ok (.aload_n 0, 1) := by decide +kernel
theorem dd_Mo_item_163 : decode bb_Mo_item 163 = .ok (.getfield 386, 3) := by decide +kernel
theorem dd_Mo_item_166 : decode bb_Mo_item 166 = .ok (.iastore, 1) := by decide +kernel
theorem dd_Mo_item_167 : decode bb_Mo_item 167 = .ok (.aload_n 0, 1) := by decide +kernel
theorem dd_Mo_item_168 : decode bb_Mo_item 168 = .ok (.getfield 294, 3) := by decide +kernel
theorem dd_Mo_item_171 : decode bb_Mo_item 171 = .ok (.ifCond .ne 14, 3) := by decide +kernel
theorem dd_Mo_item_174 : decode bb_Mo_item 174 = .ok (.iload_n 1, 1) := by decide +kernel
theorem dd_Mo_item_175 : decode bb_Mo_item 175 = .ok (.bipush 109, 2) := by decide +kernel
theorem dd_Mo_item_177 : decode bb_Mo_item 177 = .ok (.if_icmp .eq 8, 3) := by decide +kernel
theorem dd_Mo_item_180 : decode bb_Mo_item 180 = .ok (.aload_n 0, 1) := by decide +kernel
theorem dd_Mo_item_181 : decode bb_Mo_item 181 = .ok (.iconst 3, 1) := by decide +kernel
theorem dd_Mo_item_182 : decode bb_Mo_item 182 = .ok (.invokevirtual 432, 3) := by decide +kernel
theorem dd_Mo_item_185 : decode bb_Mo_item 185 = .ok (.return_, 1) := by decide +kernel
set_option maxRecDepth 100000 in
set_option maxHeartbeats 4000000 in
theorem t_Mo_item_185  (X : zX p s m args cd D cid B bb_Mo_item 3 rr_Mo zT) (H : zH s meth B n0 none "item") {nf : Nat}  {c : Zc} {res : Zc} (h : f_Mo_item_185 nf  c = some res) : Zz p l e (zRm 13 288 0 0) s m args below meth cd (MQ below (zQv D cid B res n0 0) args s 0 0 (fun q => B ≤ q)) D cid B 3 0 0 c 185 [] [] := by
  unfold f_Mo_item_185 at h
  obtain rfl := Option.some.inj h
  exact z_vret X H.1 H.2.1 H.2.2.1 dd_Mo_item_185
set_option maxRecDepth 100000 in
set_option maxHeartbeats 4000000 in
theorem t_Mo_item_157  (X : zX p s m args cd D cid B bb_Mo_item 3 rr_Mo zT) (H : zH s meth B n0 none "item") {nf : Nat} {x0 : Nat} {x1 : Int32} {x2 : Int32} {c : Zc} {res : Zc} (h : f_Mo_item_157 nf x0 x1 x2 c = some res) : Zz p l e (zRm 13 288 0 0) s m args below meth cd (MQ below (zQv D cid B res n0 0) args s 0 0 (fun q => B ≤ q)) D cid B 3 0 0 c 157 [(0, .ref x0), (1, .int x1), (2, .int x2)] [] := by
  unfold f_Mo_item_157 at h
  refine z_aload_n X dd_Mo_item_157 rfl 0 rfl ?_
  obtain ⟨v24, ev24, h⟩ := zb h
  refine z_get (j := 45) X dd_Mo_item_158 kc_12 ki_12 (by decide) km_1566 (zgr_v ev24) ?_
  refine z_iload_n X dd_Mo_item_161 rfl 2 rfl ?_
  refine z_aload_n X dd_Mo_item_162 rfl 0 rfl ?_
  obtain ⟨v25, ev25, h⟩ := zb h
  refine z_get (j := 52) X dd_Mo_item_163 kc_12 ki_12 (by decide) km_1573 (zgi_v ev25) ?_
  obtain ⟨c26, ec26, h⟩ := zb h
  refine z_iastore X dd_Mo_item_166 rfl ec26 ?_
  refine z_aload_n X dd_Mo_item_167 rfl 0 rfl ?_
  obtain ⟨v27, ev27, h⟩ := zb h
  refine z_get (j := 19) X dd_Mo_item_168 kc_12 ki_12 (by decide) km_1540 (zgi_v ev27) ?_
  refine z_if_ne (tgt := 185) X dd_Mo_item_171 (by decide) (fun q28 => ?_) (fun q28 => ?_)
  · rw [if_neg q28] at h
    refine z_sub [] rfl ?_
    exact t_Mo_item_185 X H h
  · rw [if_pos q28] at h
    refine z_iload_n X dd_Mo_item_174 rfl 1 rfl ?_
    refine z_bipush (v := 109) X dd_Mo_item_175 (by decide) ?_
    refine z_icmp_eq (tgt := 185) X dd_Mo_item_177 (by decide) (fun q29 => ?_) (fun q29 => ?_)
    · rw [if_pos q29] at h
      refine z_sub [] rfl ?_
      exact t_Mo_item_185 X H h
    · rw [if_neg q29] at h
      refine z_aload_n X dd_Mo_item_180 rfl 0 rfl ?_
      refine z_iconst (v := 3) X dd_Mo_item_181 (by decide) ?_
      obtain ⟨w31, ew31, h⟩ := zb h
      obtain ⟨q30, eq30, h⟩ := zb h
      refine z_callVv X [.int 3] rfl dd_Mo_item_182 (c_Mo_parse l eq30) (cwV 1 X.1.2.2.2.2 (zg_V km_1992 km_1994 km_90 km_138 km_1995) rfl rfl rfl (by decide +kernel) ⟨Nat.le_of_ble_eq_true rfl, Nat.le_of_ble_eq_true rfl⟩) (zob_s ew31) kc_12 rfl (Nat.le_of_ble_eq_true rfl) ⟨Nat.le_of_ble_eq_true rfl, Nat.le_of_ble_eq_true rfl⟩ ?_
      refine z_sub [] rfl ?_
      exact t_Mo_item_185 X H h
set_option maxRecDepth 100000 in
set_option maxHeartbeats 4000000 in
theorem t_Mo_item_143  (X : zX p s m args cd D cid B bb_Mo_item 3 rr_Mo zT) (H : zH s meth B n0 none "item") {nf : Nat} {x0 : Nat} {x1 : Int32} {x2 : Int32} {s0 : Nat} {s1 : Int32} {s2 : Int32} {c : Zc} {res : Zc} (h : f_Mo_item_143 nf x0 x1 x2 s0 s1 s2 c = some res) : Zz p l e (zRm 13 288 0 0) s m args below meth cd (MQ below (zQv D cid B res n0 0) args s 0 0 (fun q => B ≤ q)) D cid B 3 0 0 c 143 [(0, .ref x0), (1, .int x1), (2, .int x2)] [.int s2, .int s1, .ref s0] := by
  unfold f_Mo_item_143 at h
  obtain ⟨c20, ec20, h⟩ := zb h
  refine z_iastore X dd_Mo_item_143 rfl ec20 ?_
  refine z_aload_n X dd_Mo_item_144 rfl 0 rfl ?_
  obtain ⟨v21, ev21, h⟩ := zb h
  refine z_get (j := 44) X dd_Mo_item_145 kc_12 ki_12 (by decide) km_1565 (zgr_v ev21) ?_
  refine z_iload_n X dd_Mo_item_148 rfl 2 rfl ?_
  obtain ⟨v22, ev22, h⟩ := zb h
  refine z_iaload X dd_Mo_item_149 rfl ev22 ?_
  refine z_if_le (tgt := 157) X dd_Mo_item_150 (by decide) (fun q23 => ?_) (fun q23 => ?_)
  · rw [if_pos q23] at h
    exact t_Mo_item_157 X H h
  · rw [if_neg q23] at h
    refine z_aload_n X dd_Mo_item_153 rfl 0 rfl ?_
    obtain ⟨w33, ew33, h⟩ := zb h
    obtain ⟨q32, eq32, h⟩ := zb h
    refine z_callVv X [] rfl dd_Mo_item_154 (c_Mo_pass l eq32) (cwV 0 X.1.2.2.2.2 (zg_V km_1920 km_1922 km_72 km_138 km_1923) rfl rfl rfl (by decide +kernel) ⟨Nat.le_of_ble_eq_true rfl, Nat.le_of_ble_eq_true rfl⟩) (zob_s ew33) kc_12 rfl (Nat.le_of_ble_eq_true rfl) ⟨Nat.le_of_ble_eq_true rfl, Nat.le_of_ble_eq_true rfl⟩ ?_
    exact t_Mo_item_157 X H h
set_option maxRecDepth 100000 in
set_option maxHeartbeats 4000000 in
theorem t_Mo_item_142  (X : zX p s m args cd D cid B bb_Mo_item 3 rr_Mo zT) (H : zH s meth B n0 none "item") {nf : Nat} {x0 : Nat} {x1 : Int32} {x2 : Int32} {s0 : Nat} {s1 : Int32} {c : Zc} {res : Zc} (h : f_Mo_item_142 nf x0 x1 x2 s0 s1 c = some res) : Zz p l e (zRm 13 288 0 0) s m args below meth cd (MQ below (zQv D cid B res n0 0) args s 0 0 (fun q => B ≤ q)) D cid B 3 0 0 c 142 [(0, .ref x0), (1, .int x1), (2, .int x2)] [.int s1, .ref s0] := by
  unfold f_Mo_item_142 at h
  refine z_iconst (v := 0) X dd_Mo_item_142 (by decide) ?_
  exact t_Mo_item_143 X H h
set_option maxRecDepth 100000 in
set_option maxHeartbeats 4000000 in
theorem t_Mo_item_57  (X : zX p s m args cd D cid B bb_Mo_item 3 rr_Mo zT) (H : zH s meth B n0 none "item") {nf : Nat} {x0 : Nat} {x1 : Int32} {c : Zc} {res : Zc} (h : f_Mo_item_57 nf x0 x1 c = some res) : Zz p l e (zRm 13 288 0 0) s m args below meth cd (MQ below (zQv D cid B res n0 0) args s 0 0 (fun q => B ≤ q)) D cid B 3 0 0 c 57 [(0, .ref x0), (1, .int x1)] [] := by
  unfold f_Mo_item_57 at h
  refine z_aload_n X dd_Mo_item_57 rfl 0 rfl ?_
  obtain ⟨w5, ew5, h⟩ := zb h
  obtain ⟨q4, eq4, h⟩ := zb h
  refine z_callVv X [] rfl dd_Mo_item_58 (c_Mo_stands l eq4) (cwV 0 X.1.2.2.2.2 (zg_V km_1924 km_1926 km_73 km_138 km_1927) rfl rfl rfl (by decide +kernel) ⟨Nat.le_of_ble_eq_true rfl, Nat.le_of_ble_eq_true rfl⟩) (zob_s ew5) kc_12 rfl (Nat.le_of_ble_eq_true rfl) ⟨Nat.le_of_ble_eq_true rfl, Nat.le_of_ble_eq_true rfl⟩ ?_
  refine z_aload_n X dd_Mo_item_61 rfl 0 rfl ?_
  obtain ⟨v6, ev6, h⟩ := zb h
  refine z_get (j := 43) X dd_Mo_item_62 kc_12 ki_12 (by decide) km_1564 (zgr_v ev6) ?_
  refine z_aload_n X dd_Mo_item_65 rfl 0 rfl ?_
  obtain ⟨v7, ev7, h⟩ := zb h
  refine z_get (j := 25) X dd_Mo_item_66 kc_12 ki_12 (by decide) km_1546 (zgi_v ev7) ?_
  obtain ⟨v8, ev8, h⟩ := zb h
  refine z_iaload X dd_Mo_item_69 rfl ev8 ?_
  refine z_bipush (v := 8) X dd_Mo_item_70 (by decide) ?_
  refine z_icmp_ne (tgt := 90) X dd_Mo_item_72 (by decide) (fun q9 => ?_) (fun q9 => ?_)
  · rw [if_neg q9] at h
    refine z_bipush (v := 8) X dd_Mo_item_90 (by decide) ?_
    refine z_aload_n X dd_Mo_item_92 rfl 0 rfl ?_
    obtain ⟨v10, ev10, h⟩ := zb h
    refine z_get (j := 25) X dd_Mo_item_93 kc_12 ki_12 (by decide) km_1546 (zgi_v ev10) ?_
    refine z_imul X dd_Mo_item_96 ?_
    refine z_aload_n X dd_Mo_item_97 rfl 0 rfl ?_
    obtain ⟨v11, ev11, h⟩ := zb h
    refine z_get (j := 43) X dd_Mo_item_98 kc_12 ki_12 (by decide) km_1564 (zgr_v ev11) ?_
    refine z_aload_n X dd_Mo_item_101 rfl 0 rfl ?_
    obtain ⟨v12, ev12, h⟩ := zb h
    refine z_get (j := 25) X dd_Mo_item_102 kc_12 ki_12 (by decide) km_1546 (zgi_v ev12) ?_
    obtain ⟨v13, ev13, h⟩ := zb h
    refine z_iaload X dd_Mo_item_105 rfl ev13 ?_
    refine z_iadd X dd_Mo_item_106 ?_
    refine z_istore_n (lv' := [(2, .int ((8 * v10) + v13)), (0, .ref x0), (1, .int x1)]) X dd_Mo_item_107 rfl (by decide) rfl ?_
    refine z_aload_n X dd_Mo_item_108 rfl 1 rfl ?_
    obtain ⟨v14, ev14, h⟩ := zb h
    refine z_get (j := 43) X dd_Mo_item_109 kc_12 ki_12 (by decide) km_1564 (zgr_v ev14) ?_
    refine z_aload_n X dd_Mo_item_112 rfl 1 rfl ?_
    obtain ⟨v15, ev15, h⟩ := zb h
    refine z_get (j := 25) X dd_Mo_item_113 kc_12 ki_12 (by decide) km_1546 (zgi_v ev15) ?_
    refine z_dup2_11 X dd_Mo_item_116 rfl rfl ?_
    obtain ⟨v16, ev16, h⟩ := zb h
    refine z_iaload X dd_Mo_item_117 rfl ev16 ?_
    refine z_iconst (v := 1) X dd_Mo_item_118 (by decide) ?_
    refine z_iadd X dd_Mo_item_119 ?_
    obtain ⟨c17, ec17, h⟩ := zb h
    refine z_iastore X dd_Mo_item_120 rfl ec17 ?_
    refine z_aload_n X dd_Mo_item_121 rfl 1 rfl ?_
    obtain ⟨v18, ev18, h⟩ := zb h
    refine z_get (j := 44) X dd_Mo_item_122 kc_12 ki_12 (by decide) km_1565 (zgr_v ev18) ?_
    refine z_iload_n X dd_Mo_item_125 rfl 0 rfl ?_
    refine z_iload_n X dd_Mo_item_126 rfl 2 rfl ?_
    refine z_bipush (v := 109) X dd_Mo_item_127 (by decide) ?_
    refine z_icmp_lt (tgt := 142) X dd_Mo_item_129 (by decide) (fun q19 => ?_) (fun q19 => ?_)
    · rw [if_pos q19] at h
      refine z_sub [1, 2, 0] rfl ?_
      exact t_Mo_item_142 X H h
    · rw [if_neg q19] at h
      refine z_iload_n X dd_Mo_item_132 rfl 2 rfl ?_
      refine z_bipush (v := 112) X dd_Mo_item_133 (by decide) ?_
      refine z_icmp_gt (tgt := 142) X dd_Mo_item_135 (by decide) (fun q34 => ?_) (fun q34 => ?_)
      · rw [if_pos q34] at h
        refine z_sub [1, 2, 0] rfl ?_
        exact t_Mo_item_142 X H h
      · rw [if_neg q34] at h
        refine z_iload_n X dd_Mo_item_138 rfl 2 rfl ?_
        refine z_goto (tgt := 143) X dd_Mo_item_139 (by decide) ?_
        refine z_sub [1, 2, 0] rfl ?_
        exact t_Mo_item_143 X H h
  · rw [if_pos q9] at h
    refine z_aload_n X dd_Mo_item_75 rfl 0 rfl ?_
    refine z_iconst (v := 3) X dd_Mo_item_76 (by decide) ?_
    refine z_aload_n X dd_Mo_item_77 rfl 0 rfl ?_
    obtain ⟨v35, ev35, h⟩ := zb h
    refine z_get (j := 16) X dd_Mo_item_78 kc_12 ki_12 (by decide) km_1537 (zgr_v ev35) ?_
    refine z_aload_n X dd_Mo_item_81 rfl 0 rfl ?_
    obtain ⟨v36, ev36, h⟩ := zb h
    refine z_get (j := 18) X dd_Mo_item_82 kc_12 ki_12 (by decide) km_1539 (zgi_v ev36) ?_
    obtain ⟨v37, ev37, h⟩ := zb h
    refine z_iaload X dd_Mo_item_85 rfl ev37 ?_
    obtain ⟨w39, ew39, h⟩ := zb h
    obtain ⟨q38, eq38, h⟩ := zb h
    refine z_callVv X [.int 3, .int v37] rfl dd_Mo_item_86 (c_Mo_refuse l eq38) (cwV 2 X.1.2.2.2.2 (zg_V km_1916 km_1918 km_71 km_138 km_1919) rfl rfl rfl (by decide +kernel) ⟨Nat.le_of_ble_eq_true rfl, Nat.le_of_ble_eq_true rfl⟩) (zob_s ew39) kc_12 rfl (Nat.le_of_ble_eq_true rfl) ⟨Nat.le_of_ble_eq_true rfl, Nat.le_of_ble_eq_true rfl⟩ ?_
    obtain rfl := Option.some.inj h
    exact z_vret X H.1 H.2.1 H.2.2.1 dd_Mo_item_89
set_option maxRecDepth 100000 in
set_option maxHeartbeats 4000000 in
theorem c_Mo_item (l : Launch) {nf : Nat} {a0 : Nat} {c : Zc} {res : Zc} (h : f_Mo_item nf a0 c = some res) : zM l yy_Mo_item ww_Mo_item 13 288 0 0 [.ref a0] c (fun D cid B => zQv D cid B res c.length 0) := by
  refine z_met (cc := bb_Mo_item) (maxL := 3) (ret := none) (by decide +kernel) rfl (Nat.le_of_ble_eq_true rfl) ?_
  intro p e s m args below meth cd D cid B X h1 h2 h3 h4
  have X : zX p s m args cd D cid B bb_Mo_item 3 rr_Mo zT := X
  have H : zH s meth B c.length none "item" := ⟨h1, h2, h4, h3⟩
  unfold f_Mo_item at h
  show Zz p l e (zRm 13 288 0 0) s m args below meth cd _ D cid B 3 0 0 c 0 [(0, .ref a0)] []
  refine z_aload_n X dd_Mo_item_0 rfl 0 rfl ?_
  obtain ⟨w2, ew2, h⟩ := zb h
  obtain ⟨q1, eq1, h⟩ := zb h
  refine z_callVi X [] rfl dd_Mo_item_1 (c_Mo_kind l eq1) (cwV 0 X.1.2.2.2.2 (zg_V km_1912 km_1914 km_70 km_138 km_1915) rfl rfl rfl (by decide +kernel) ⟨Nat.le_of_ble_eq_true rfl, Nat.le_of_ble_eq_true rfl⟩) (zob_s ew2) kc_12 rfl (Nat.le_of_ble_eq_true rfl) ⟨Nat.le_of_ble_eq_true rfl, Nat.le_of_ble_eq_true rfl⟩ ?_
  refine z_istore_n (lv' := [(1, .int q1.1), (0, .ref a0)]) X dd_Mo_item_4 rfl (by decide) rfl ?_
  refine z_iload_n X dd_Mo_item_5 rfl 0 rfl ?_
  refine z_bipush (v := 109) X dd_Mo_item_6 (by decide) ?_
  refine z_icmp_eq (tgt := 57) X dd_Mo_item_8 (by decide) (fun q3 => ?_) (fun q3 => ?_)
  · rw [if_pos q3] at h
    refine z_sub [1, 0] rfl ?_
    exact t_Mo_item_57 X H h
  · rw [if_neg q3] at h
    refine z_iload_n X dd_Mo_item_11 rfl 0 rfl ?_
    refine z_bipush (v := 110) X dd_Mo_item_12 (by decide) ?_
    refine z_icmp_eq (tgt := 57) X dd_Mo_item_14 (by decide) (fun q40 => ?_) (fun q40 => ?_)
    · rw [if_pos q40] at h
      refine z_sub [1, 0] rfl ?_
      exact t_Mo_item_57 X H h
    · rw [if_neg q40] at h
      refine z_iload_n X dd_Mo_item_17 rfl 0 rfl ?_
      refine z_bipush (v := 111) X dd_Mo_item_18 (by decide) ?_
      refine z_icmp_eq (tgt := 57) X dd_Mo_item_20 (by decide) (fun q41 => ?_) (fun q41 => ?_)
      · rw [if_pos q41] at h
        refine z_sub [1, 0] rfl ?_
        exact t_Mo_item_57 X H h
      · rw [if_neg q41] at h
        refine z_iload_n X dd_Mo_item_23 rfl 0 rfl ?_
        refine z_bipush (v := 112) X dd_Mo_item_24 (by decide) ?_
        refine z_icmp_eq (tgt := 57) X dd_Mo_item_26 (by decide) (fun q42 => ?_) (fun q42 => ?_)
        · rw [if_pos q42] at h
          refine z_sub [1, 0] rfl ?_
          exact t_Mo_item_57 X H h
        · rw [if_neg q42] at h
          refine z_iload_n X dd_Mo_item_29 rfl 0 rfl ?_
          refine z_bipush (v := 45) X dd_Mo_item_30 (by decide) ?_
          refine z_icmp_eq (tgt := 57) X dd_Mo_item_32 (by decide) (fun q43 => ?_) (fun q43 => ?_)
          · rw [if_pos q43] at h
            refine z_sub [1, 0] rfl ?_
            exact t_Mo_item_57 X H h
          · rw [if_neg q43] at h
            refine z_iload_n X dd_Mo_item_35 rfl 0 rfl ?_
            refine z_bipush (v := 40) X dd_Mo_item_36 (by decide) ?_
            refine z_icmp_eq (tgt := 57) X dd_Mo_item_38 (by decide) (fun q44 => ?_) (fun q44 => ?_)
            · rw [if_pos q44] at h
              refine z_sub [1, 0] rfl ?_
              exact t_Mo_item_57 X H h
            · rw [if_neg q44] at h
              refine z_iload_n X dd_Mo_item_41 rfl 0 rfl ?_
              refine z_bipush (v := 6) X dd_Mo_item_42 (by decide) ?_
              refine z_icmp_eq (tgt := 57) X dd_Mo_item_44 (by decide) (fun q45 => ?_) (fun q45 => ?_)
              · rw [if_pos q45] at h
                refine z_sub [1, 0] rfl ?_
                exact t_Mo_item_57 X H h
              · rw [if_neg q45] at h
                refine z_iload_n X dd_Mo_item_47 rfl 0 rfl ?_
                refine z_iconst (v := 2) X dd_Mo_item_48 (by decide) ?_
                refine z_icmp_eq (tgt := 57) X dd_Mo_item_49 (by decide) (fun q46 => ?_) (fun q46 => ?_)
                · rw [if_pos q46] at h
                  refine z_sub [1, 0] rfl ?_
                  exact t_Mo_item_57 X H h
                · rw [if_neg q46] at h
                  refine z_aload_n X dd_Mo_item_52 rfl 1 rfl ?_
                  obtain ⟨w48, ew48, h⟩ := zb h
                  obtain ⟨q47, eq47, h⟩ := zb h
                  refine z_callVv X [] rfl dd_Mo_item_53 (c_Mo_wrong l eq47) (cwV 0 X.1.2.2.2.2 (zg_V km_1928 km_1930 km_74 km_138 km_1931) rfl rfl rfl (by decide +kernel) ⟨Nat.le_of_ble_eq_true rfl, Nat.le_of_ble_eq_true rfl⟩) (zob_s ew48) kc_12 rfl (Nat.le_of_ble_eq_true rfl) ⟨Nat.le_of_ble_eq_true rfl, Nat.le_of_ble_eq_true rfl⟩ ?_
                  obtain rfl := Option.some.inj h
                  exact z_vret X H.1 H.2.1 H.2.2.1 dd_Mo_item_56
theorem dd_Mo_ended_0 : decode bb_Mo_ended 0 = .ok (.aload_n 0, 1) := by decide +kernel
theorem dd_Mo_ended_1 : decode bb_Mo_ended 1 = .ok (.getfield 294, 3) := by decide +kernel
theorem dd_Mo_ended_4 : decode bb_Mo_ended 4 = .ok (.ifCond .ne 14, 3) := by decide +kernel
theorem dd_Mo_ended_7 : decode bb_Mo_ended 7 = .ok (.aload_n 0, 1) := by decide +kernel
theorem dd_Mo_ended_8 : decode bb_Mo_ended 8 = .ok (.invokevirtual 306, 3) := by decide +kernel
theorem dd_Mo_ended_11 : decode bb_Mo_ended 11 = .ok (.ifCond .eq 7, 3) := by decide +kernel
theorem dd_Mo_ended_14 : decode bb_Mo_ended 14 = .ok (.aload_n 0, 1) := by decide +kernel
theorem dd_Mo_ended_15 : decode bb_Mo_ended 15 = .ok (.invokevirtual 319, 3) := by decide +kernel
theorem dd_Mo_ended_18 : decode bb_Mo_ended 18 = .ok (.aload_n 0, 1) := by decide +kernel
theorem dd_Mo_ended_19 : decode bb_Mo_ended 19 = .ok (.getfield 294, 3) := by decide +kernel
theorem dd_Mo_ended_22 : decode bb_Mo_ended 22 = .ok (.ifCond .eq 19, 3) := by decide +kernel
theorem dd_Mo_ended_25 : decode bb_Mo_ended 25 = .ok (.aload_n 0, 1) := by decide +kernel
theorem dd_Mo_ended_26 : decode bb_Mo_ended 26 = .ok (.aload_n 0, 1) := by decide +kernel
theorem dd_Mo_ended_27 : decode bb_Mo_ended 27 = .ok (.getfield 297, 3) := by decide +kernel
theorem dd_Mo_ended_30 : decode bb_Mo_ended 30 = .ok (.putfield 52, 3) := by decide +kernel
theorem dd_Mo_ended_33 : decode bb_Mo_ended 33 = .ok (.bipush (-10), 2) := by decide +kernel
theorem dd_Mo_ended_35 : decode bb_Mo_ended 35 = .ok (.aload_n 0, 1) := by decide +kernel
theorem dd_Mo_ended_36 : decode bb_Mo_ended 36 = .ok (.getfield 294, 3) := by decide +kernel
theorem dd_Mo_ended_39 : decode bb_Mo_ended 39 = .ok (.isub, 1) := by decide +kernel
theorem dd_Mo_ended_40 : decode bb_Mo_ended 40 = .ok (.ireturn, 1) := by decide +kernel
theorem dd_Mo_ended_41 : decode bb_Mo_ended 41 = .ok (.iload_n 1, 1) := by decide +kernel
theorem dd_Mo_ended_42 : decode bb_Mo_ended 42 = .ok (.ireturn, 1) := by decide +kernel
set_option maxRecDepth 100000 in
set_option maxHeartbeats 4000000 in
theorem t_Mo_ended_18  (X : zX p s m args cd D cid B bb_Mo_ended 2 rr_Mo zT) (H : zH s meth B n0 (some (.int)) "ended") {nf : Nat} {x0 : Nat} {x1 : Int32} {c : Zc} {res : Int32 × Zc} (h : f_Mo_ended_18 nf x0 x1 c = some res) : Zz p l e (zRm 3 62 0 0) s m args below meth cd (MQ below (zQi D cid B res.1 res.2 n0 0) args s 0 0 (fun q => B ≤ q)) D cid B 2 0 0 c 18 [(0, .ref x0), (1, .int x1)] [] := by
  unfold f_Mo_ended_18 at h
  refine z_aload_n X dd_Mo_ended_18 rfl 0 rfl ?_
  obtain ⟨v3, ev3, h⟩ := zb h
  refine z_get (j := 19) X dd_Mo_ended_19 kc_12 ki_12 (by decide) km_1540 (zgi_v ev3) ?_
  refine z_if_eq (tgt := 41) X dd_Mo_ended_22 (by decide) (fun q4 => ?_) (fun q4 => ?_)
  · rw [if_pos q4] at h
    refine z_iload_n X dd_Mo_ended_41 rfl 1 rfl ?_
    obtain rfl := Option.some.inj h
    exact z_iret X H.1 H.2.1 H.2.2.1 dd_Mo_ended_42
  · rw [if_neg q4] at h
    refine z_aload_n X dd_Mo_ended_25 rfl 0 rfl ?_
    refine z_aload_n X dd_Mo_ended_26 rfl 0 rfl ?_
    obtain ⟨v5, ev5, h⟩ := zb h
    refine z_get (j := 20) X dd_Mo_ended_27 kc_12 ki_12 (by decide) km_1541 (zgi_v ev5) ?_
    obtain ⟨c6, ec6, h⟩ := zb h
    refine z_put (j := 21) X dd_Mo_ended_30 kc_12 ki_12 tt_Mo tk_Mo nn_Mo (by decide) km_1542 rfl (tk_Mo 21 (by decide)) rfl rfl ec6 ?_
    refine z_bipush (v := (-10)) X dd_Mo_ended_33 (by decide) ?_
    refine z_aload_n X dd_Mo_ended_35 rfl 0 rfl ?_
    obtain ⟨v7, ev7, h⟩ := zb h
    refine z_get (j := 19) X dd_Mo_ended_36 kc_12 ki_12 (by decide) km_1540 (zgi_v ev7) ?_
    refine z_isub X dd_Mo_ended_39 ?_
    obtain rfl := Option.some.inj h
    exact z_iret X H.1 H.2.1 H.2.2.1 dd_Mo_ended_40
set_option maxRecDepth 100000 in
set_option maxHeartbeats 4000000 in
theorem c_Mo_ended (l : Launch) {nf : Nat} {a0 : Nat} {a1 : Int32} {c : Zc} {res : Int32 × Zc} (h : f_Mo_ended nf a0 a1 c = some res) : zM l yy_Mo_ended ww_Mo_ended 3 62 0 0 [.ref a0, .int a1] c (fun D cid B => zQi D cid B res.1 res.2 c.length 0) := by
  refine z_met (cc := bb_Mo_ended) (maxL := 2) (ret := (some (.int))) (by decide +kernel) rfl (Nat.le_of_ble_eq_true rfl) ?_
  intro p e s m args below meth cd D cid B X h1 h2 h3 h4
  have X : zX p s m args cd D cid B bb_Mo_ended 2 rr_Mo zT := X
  have H : zH s meth B c.length (some (.int)) "ended" := ⟨h1, h2, h4, h3⟩
  unfold f_Mo_ended at h
  show Zz p l e (zRm 3 62 0 0) s m args below meth cd _ D cid B 2 0 0 c 0 [(0, .ref a0), (1, .int a1)] []
  refine z_aload_n X dd_Mo_ended_0 rfl 0 rfl ?_
  obtain ⟨v1, ev1, h⟩ := zb h
  refine z_get (j := 19) X dd_Mo_ended_1 kc_12 ki_12 (by decide) km_1540 (zgi_v ev1) ?_
  refine z_if_ne (tgt := 18) X dd_Mo_ended_4 (by decide) (fun q2 => ?_) (fun q2 => ?_)
  · rw [if_neg q2] at h
    exact t_Mo_ended_18 X H h
  · rw [if_pos q2] at h
    refine z_aload_n X dd_Mo_ended_7 rfl 0 rfl ?_
    obtain ⟨w9, ew9, h⟩ := zb h
    obtain ⟨q8, eq8, h⟩ := zb h
    refine z_callVi X [] rfl dd_Mo_ended_8 (c_Mo_kind l eq8) (cwV 0 X.1.2.2.2.2 (zg_V km_1912 km_1914 km_70 km_138 km_1915) rfl rfl rfl (by decide +kernel) ⟨Nat.le_of_ble_eq_true rfl, Nat.le_of_ble_eq_true rfl⟩) (zob_s ew9) kc_12 rfl (Nat.le_of_ble_eq_true rfl) ⟨Nat.le_of_ble_eq_true rfl, Nat.le_of_ble_eq_true rfl⟩ ?_
    refine z_if_eq (tgt := 18) X dd_Mo_ended_11 (by decide) (fun q10 => ?_) (fun q10 => ?_)
    · rw [if_pos q10] at h
      exact t_Mo_ended_18 X H h
    · rw [if_neg q10] at h
      refine z_aload_n X dd_Mo_ended_14 rfl 0 rfl ?_
      obtain ⟨w12, ew12, h⟩ := zb h
      obtain ⟨q11, eq11, h⟩ := zb h
      refine z_callVv X [] rfl dd_Mo_ended_15 (c_Mo_wrong l eq11) (cwV 0 X.1.2.2.2.2 (zg_V km_1928 km_1930 km_74 km_138 km_1931) rfl rfl rfl (by decide +kernel) ⟨Nat.le_of_ble_eq_true rfl, Nat.le_of_ble_eq_true rfl⟩) (zob_s ew12) kc_12 rfl (Nat.le_of_ble_eq_true rfl) ⟨Nat.le_of_ble_eq_true rfl, Nat.le_of_ble_eq_true rfl⟩ ?_
      exact t_Mo_ended_18 X H h
theorem dd_Mo_readQuestion_0 : decode bb_Mo_readQuestion 0 = .ok (.aload_n 0, 1) := by decide +kernel
theorem dd_Mo_readQuestion_1 : decode bb_Mo_readQuestion 1 = .ok (.invokevirtual 435, 3) := by decide +kernel
theorem dd_Mo_readQuestion_4 : decode bb_Mo_readQuestion 4 = .ok (.aload_n 0, 1) := by decide +kernel
theorem dd_Mo_readQuestion_5 : decode bb_Mo_readQuestion 5 = .ok (.invokevirtual 438, 3) := by decide +kernel
theorem dd_Mo_readQuestion_8 : decode bb_Mo_readQuestion 8 = .ok (.aload_n 0, 1) := by decide +kernel
theorem dd_Mo_readQuestion_9 : decode bb_Mo_readQuestion 9 = .ok (.getfield 294, 3) := by decide +kernel
theorem dd_Mo_readQuestion_12 : decode bb_Mo_readQuestion 12 = .ok (.ifCond .ne 7, 3) := by decide +kernel
theorem dd_Mo_readQuestion_15 : decode bb_Mo_readQuestion 15 = .ok (.aload_n 0, 1) := by decide +kernel
theorem dd_Mo_readQuestion_16 : decode bb_Mo_readQuestion 16 = .ok (.invokevirtual 441, 3) := by decide +kernel
theorem dd_Mo_readQuestion_19 : decode bb_Mo_readQuestion 19 = .ok (.aload_n 0, 1) := by decide +kernel
theorem dd_Mo_readQuestion_20 : decode bb_Mo_readQuestion 20 = .ok (.bipush 44, 2) := by decide +kernel
theorem dd_Mo_readQuestion_22 : decode bb_Mo_readQuestion 22 = .ok (.invokevirtual 316, 3) := by decide +kernel
theorem dd_Mo_readQuestion_25 : decode bb_Mo_readQuestion 25 = .ok (.ifCond .eq 10, 3) := by decide +kernel
theorem dd_Mo_readQuestion_28 : decode bb_Mo_readQuestion 28 = .ok (.aload_n 0, 1) := by decide +kernel
theorem dd_Mo_readQuestion_29 : decode bb_Mo_readQuestion 29 = .ok (.invokevirtual 441, 3) := by decide +kernel
theorem dd_Mo_readQuestion_32 : decode bb_Mo_readQuestion 32 = .ok (.goto (-13), 3) := by decide +kernel
theorem dd_Mo_readQuestion_35 : decode bb_Mo_readQuestion 35 = .ok (.aload_n 0, 1) := by decide +kernel
theorem dd_Mo_readQuestion_36 : decode bb_Mo_readQuestion 36 = .ok (.bipush 103, 2) := by decide +kernel
theorem dd_Mo_readQuestion_38 : decode bb_Mo_readQuestion 38 = .ok (.invokevirtual 316, 3) := by decide +kernel
theorem dd_Mo_readQuestion_41 : decode bb_Mo_readQuestion 41 = .ok (.ifCond .eq 72, 3) := by decide +kernel
theorem dd_Mo_readQuestion_44 : decode bb_Mo_readQuestion 44 = .ok (.aload_n 0, 1) := by decide +kernel
theorem dd_Mo_readQuestion_45 : decode bb_Mo_readQuestion 45 = .ok (.invokevirtual 306, 3) := by decide +kernel
theorem dd_Mo_readQuestion_48 : decode bb_Mo_readQuestion 48 = .ok (.bipush 6, 2) := by decide +kernel
theorem dd_Mo_readQuestion_50 : decode bb_Mo_readQuestion 50 = .ok (.if_icmp .eq 10, 3) := by decide +kernel
theorem dd_Mo_readQuestion_53 : decode bb_Mo_readQuestion 53 = .ok (.aload_n 0, 1) := by decide +kernel
theorem dd_Mo_readQuestion_54 : decode bb_Mo_readQuestion 54 = .ok (.invokevirtual 319, 3) := by decide +kernel
theorem dd_Mo_readQuestion_57 : decode bb_Mo_readQuestion 57 = .ok (.goto 56, 3) := by decide +kernel
theorem dd_Mo_readQuestion_60 : decode bb_Mo_readQuestion 60 = .ok (.aload_n 0, 1) := by decide +kernel
theorem dd_Mo_readQuestion_61 : decode bb_Mo_readQuestion 61 = .ok (.invokevirtual 310, 3) := by decide +kernel
theorem dd_Mo_readQuestion_64 : decode bb_Mo_readQuestion 64 = .ok (.aload_n 0, 1) := by decide +kernel
theorem dd_Mo_readQuestion_65 : decode bb_Mo_readQuestion 65 = .ok (.getfield 46, 3) := by decide +kernel
theorem dd_Mo_readQuestion_68 : decode bb_Mo_readQuestion 68 = .ok (.aload_n 0, 1) := by decide +kernel
theorem dd_Mo_readQuestion_69 : decode bb_Mo_readQuestion 69 = .ok (.getfield 300, 3) := by decide +kernel
theorem dd_Mo_readQuestion_72 : decode bb_Mo_readQuestion 72 = .ok (.iaload, 1) := by decide +kernel
theorem dd_Mo_readQuestion_73 : decode bb_Mo_readQuestion 73 = .ok (.ifCond .ne 18, 3) := by decide +kernel
theorem dd_Mo_readQuestion_76 : decode bb_Mo_readQuestion 76 = .ok (.aload_n 0, 1) := by decide +kernel
theorem dd_Mo_readQuestion_77 : decode bb_Mo_readQuestion 77 = .ok (.bipush 6, 2) := by decide +kernel
theorem dd_Mo_readQuestion_79 : decode bb_Mo_readQuestion 79 = .ok (.aload_n 0, 1) := by decide +kernel
theorem dd_Mo_readQuestion_80 : decode bb_Mo_readQuestion 80 = .ok (.getfield 49, 3) := by decide +kernel
theorem dd_Mo_readQuestion_83 : decode bb_Mo_readQuestion 83 = .ok (.aload_n 0, 1) := by decide +kernel
theorem dd_Mo_readQuestion_84 : decode bb_Mo_readQuestion 84 = .ok (.getfield 300, 3) := by decide +kernel
theorem dd_Mo_readQuestion_87 : decode bb_Mo_readQuestion 87 = .ok (.iaload, 1) := by decide +kernel
theorem dd_Mo_readQuestion_88 : decode bb_Mo_readQuestion 88 = .ok (.invokevirtual 303, 3) := by decide +kernel
theorem dd_Mo_readQuestion_91 : decode bb_Mo_readQuestion 91 = .ok (.aload_n 0, 1) := by decide +kernel
theorem dd_Mo_readQuestion_92 : decode bb_Mo_readQuestion 92 = .ok (.getfield 128, 3) := by decide +kernel
theorem dd_Mo_readQuestion_95 : decode bb_Mo_readQuestion 95 = .ok (.aload_n 0, 1) := by decide +kernel
theorem dd_Mo_readQuestion_96 : decode bb_Mo_readQuestion 96 = .ok (.getfield 331, 3) := by decide +kernel
theorem dd_Mo_readQuestion_99 : decode bb_Mo_readQuestion 99 = .ok (.aload_n 0, 1) := by decide +kernel
theorem dd_Mo_readQuestion_100 : decode bb_Mo_readQuestion 100 = .ok (.getfield 46, 3) := by decide +kernel
theorem dd_Mo_readQuestion_103 : decode bb_Mo_readQuestion 103 = .ok (.aload_n 0, 1) := by decide +kernel
theorem dd_Mo_readQuestion_104 : decode bb_Mo_readQuestion 104 = .ok (.getfield 300, 3) := by decide +kernel
theorem dd_Mo_readQuestion_107 : decode bb_Mo_readQuestion 107 = .ok (.iaload, 1) := by decide +kernel
theorem dd_Mo_readQuestion_108 : decode bb_Mo_readQuestion 108 = .ok (.iastore, 1) := by decide +kernel
theorem dd_Mo_readQuestion_109 : decode bb_Mo_readQuestion 109 = .ok (.aload_n 0, 1) := by decide +kernel
theorem dd_Mo_readQuestion_110 : decode bb_Mo_readQuestion 110 = .ok (.invokevirtual 313, 3) := by decide +kernel
theorem dd_Mo_readQuestion_113 : decode bb_Mo_readQuestion 113 = .ok (.aload_n 0, 1) := by decide +kernel
theorem dd_Mo_readQuestion_114 : decode bb_Mo_readQuestion 114 = .ok (.aload_n 0, 1) := by decide +kernel
theorem dd_Mo_readQuestion_115 : decode bb_Mo_readQuestion 115 = .ok (.getfield 116, 3) := by decide +kernel
theorem dd_Mo_readQuestion_118 : decode bb_Mo_readQuestion 118 = .ok (.aload_n 0, 1) := by decide +kernel
theorem dd_Mo_readQuestion_119 : decode bb_Mo_readQuestion 119 = .ok (.getfield 331, 3) := by decide +kernel
theorem dd_Mo_readQuestion_122 : decode bb_Mo_readQuestion 122 = .ok (.iaload, 1) := by decide +kernel
theorem dd_Mo_readQuestion_123 : decode bb_Mo_readQuestion 123 = .ok (.invokevirtual 444, 3) := by decide +kernel
theorem dd_Mo_readQuestion_126 : decode bb_Mo_readQuestion 126 = .ok (.ireturn, 1) := by decide +kernel
set_option maxRecDepth 100000 in
set_option maxHeartbeats 4000000 in
theorem u_Mo_readQuestion_19  (X : zX p s m args cd D cid B bb_Mo_readQuestion 1 rr_Mo zT) (H : zH s meth B n0 (some (.int)) "readQuestion") {nf : Nat} {x0 : Nat} {c : Zc} {r : (Nat × Zc) ⊕ (Nat × Zc)} (h : g_Mo_readQuestion_19 nf x0 c = some r) (k0 : ∀ a, r = .inl a → (fun a : Nat × Zc => Zz p l e (zRm 14 310 0 0) s m args below meth cd Q D cid B 1 0 0 a.2 19 [(0, .ref a.1)] []) a) (k1 : ∀ b, r = .inr b → (fun b : Nat × Zc => Zz p l e (zRm 14 310 0 0) s m args below meth cd Q D cid B 1 0 0 b.2 35 [(0, .ref b.1)] []) b) : Zz p l e (zRm 14 310 0 0) s m args below meth cd Q D cid B 1 0 0 c 19 [(0, .ref x0)] [] := by
  unfold g_Mo_readQuestion_19 at h
  refine z_aload_n X dd_Mo_readQuestion_19 rfl 0 rfl ?_
  refine z_bipush (v := 44) X dd_Mo_readQuestion_20 (by decide) ?_
  obtain ⟨w8, ew8, h⟩ := zb h
  obtain ⟨q7, eq7, h⟩ := zb h
  refine z_callVi X [.int 44] rfl dd_Mo_readQuestion_22 (c_Mo_takes l eq7) (cwV 1 X.1.2.2.2.2 (zg_V km_1908 km_1910 km_69 km_138 km_1911) rfl rfl rfl (by decide +kernel) ⟨Nat.le_of_ble_eq_true rfl, Nat.le_of_ble_eq_true rfl⟩) (zob_s ew8) kc_12 rfl (Nat.le_of_ble_eq_true rfl) ⟨Nat.le_of_ble_eq_true rfl, Nat.le_of_ble_eq_true rfl⟩ ?_
  refine z_if_eq (tgt := 35) X dd_Mo_readQuestion_25 (by decide) (fun q9 => ?_) (fun q9 => ?_)
  · rw [if_pos q9] at h
    obtain rfl := Option.some.inj h
    exact k1 _ rfl
  · rw [if_neg q9] at h
    refine z_aload_n X dd_Mo_readQuestion_28 rfl 0 rfl ?_
    obtain ⟨w11, ew11, h⟩ := zb h
    obtain ⟨q10, eq10, h⟩ := zb h
    refine z_callVv X [] rfl dd_Mo_readQuestion_29 (c_Mo_item l eq10) (cwV 0 X.1.2.2.2.2 (zg_V km_2035 km_2037 km_100 km_138 km_2038) rfl rfl rfl (by decide +kernel) ⟨Nat.le_of_ble_eq_true rfl, Nat.le_of_ble_eq_true rfl⟩) (zob_s ew11) kc_12 rfl (Nat.le_of_ble_eq_true rfl) ⟨Nat.le_of_ble_eq_true rfl, Nat.le_of_ble_eq_true rfl⟩ ?_
    refine z_goto (tgt := 19) X dd_Mo_readQuestion_32 (by decide) ?_
    obtain rfl := Option.some.inj h
    exact k0 _ rfl
set_option maxRecDepth 100000 in
set_option maxHeartbeats 4000000 in
theorem t_Mo_readQuestion_113  (X : zX p s m args cd D cid B bb_Mo_readQuestion 1 rr_Mo zT) (H : zH s meth B n0 (some (.int)) "readQuestion") {nf : Nat} {x0 : Nat} {c : Zc} {res : Int32 × Zc} (h : f_Mo_readQuestion_113 nf x0 c = some res) : Zz p l e (zRm 14 310 0 0) s m args below meth cd (MQ below (zQi D cid B res.1 res.2 n0 0) args s 0 0 (fun q => B ≤ q)) D cid B 1 0 0 c 113 [(0, .ref x0)] [] := by
  unfold f_Mo_readQuestion_113 at h
  refine z_aload_n X dd_Mo_readQuestion_113 rfl 0 rfl ?_
  refine z_aload_n X dd_Mo_readQuestion_114 rfl 0 rfl ?_
  obtain ⟨v15, ev15, h⟩ := zb h
  refine z_get (j := 43) X dd_Mo_readQuestion_115 kc_12 ki_12 (by decide) km_1564 (zgr_v ev15) ?_
  refine z_aload_n X dd_Mo_readQuestion_118 rfl 0 rfl ?_
  obtain ⟨v16, ev16, h⟩ := zb h
  refine z_get (j := 25) X dd_Mo_readQuestion_119 kc_12 ki_12 (by decide) km_1546 (zgi_v ev16) ?_
  obtain ⟨v17, ev17, h⟩ := zb h
  refine z_iaload X dd_Mo_readQuestion_122 rfl ev17 ?_
  obtain ⟨w19, ew19, h⟩ := zb h
  obtain ⟨q18, eq18, h⟩ := zb h
  refine z_callVi X [.int v17] rfl dd_Mo_readQuestion_123 (c_Mo_ended l eq18) (cwV 1 X.1.2.2.2.2 (zg_V km_2039 km_2041 km_101 km_138 km_2042) rfl rfl rfl (by decide +kernel) ⟨Nat.le_of_ble_eq_true rfl, Nat.le_of_ble_eq_true rfl⟩) (zob_s ew19) kc_12 rfl (Nat.le_of_ble_eq_true rfl) ⟨Nat.le_of_ble_eq_true rfl, Nat.le_of_ble_eq_true rfl⟩ ?_
  obtain rfl := Option.some.inj h
  exact z_iret X H.1 H.2.1 H.2.2.1 dd_Mo_readQuestion_126
set_option maxRecDepth 100000 in
set_option maxHeartbeats 4000000 in
theorem t_Mo_readQuestion_91  (X : zX p s m args cd D cid B bb_Mo_readQuestion 1 rr_Mo zT) (H : zH s meth B n0 (some (.int)) "readQuestion") {nf : Nat} {x0 : Nat} {c : Zc} {res : Int32 × Zc} (h : f_Mo_readQuestion_91 nf x0 c = some res) : Zz p l e (zRm 14 310 0 0) s m args below meth cd (MQ below (zQi D cid B res.1 res.2 n0 0) args s 0 0 (fun q => B ≤ q)) D cid B 1 0 0 c 91 [(0, .ref x0)] [] := by
  unfold f_Mo_readQuestion_91 at h
  refine z_aload_n X dd_Mo_readQuestion_91 rfl 0 rfl ?_
  obtain ⟨v29, ev29, h⟩ := zb h
  refine z_get (j := 47) X dd_Mo_readQuestion_92 kc_12 ki_12 (by decide) km_1568 (zgr_v ev29) ?_
  refine z_aload_n X dd_Mo_readQuestion_95 rfl 0 rfl ?_
  obtain ⟨v30, ev30, h⟩ := zb h
  refine z_get (j := 25) X dd_Mo_readQuestion_96 kc_12 ki_12 (by decide) km_1546 (zgi_v ev30) ?_
  refine z_aload_n X dd_Mo_readQuestion_99 rfl 0 rfl ?_
  obtain ⟨v31, ev31, h⟩ := zb h
  refine z_get (j := 15) X dd_Mo_readQuestion_100 kc_12 ki_12 (by decide) km_1536 (zgr_v ev31) ?_
  refine z_aload_n X dd_Mo_readQuestion_103 rfl 0 rfl ?_
  obtain ⟨v32, ev32, h⟩ := zb h
  refine z_get (j := 18) X dd_Mo_readQuestion_104 kc_12 ki_12 (by decide) km_1539 (zgi_v ev32) ?_
  obtain ⟨v33, ev33, h⟩ := zb h
  refine z_iaload X dd_Mo_readQuestion_107 rfl ev33 ?_
  obtain ⟨c34, ec34, h⟩ := zb h
  refine z_iastore X dd_Mo_readQuestion_108 rfl ec34 ?_
  refine z_aload_n X dd_Mo_readQuestion_109 rfl 0 rfl ?_
  obtain ⟨w36, ew36, h⟩ := zb h
  obtain ⟨q35, eq35, h⟩ := zb h
  refine z_callVv X [] rfl dd_Mo_readQuestion_110 (c_Mo_pass l eq35) (cwV 0 X.1.2.2.2.2 (zg_V km_1920 km_1922 km_72 km_138 km_1923) rfl rfl rfl (by decide +kernel) ⟨Nat.le_of_ble_eq_true rfl, Nat.le_of_ble_eq_true rfl⟩) (zob_s ew36) kc_12 rfl (Nat.le_of_ble_eq_true rfl) ⟨Nat.le_of_ble_eq_true rfl, Nat.le_of_ble_eq_true rfl⟩ ?_
  exact t_Mo_readQuestion_113 X H h
set_option maxRecDepth 100000 in
set_option maxHeartbeats 4000000 in
theorem t_Mo_readQuestion_19  (X : zX p s m args cd D cid B bb_Mo_readQuestion 1 rr_Mo zT) (H : zH s meth B n0 (some (.int)) "readQuestion") {nf : Nat} {x0 : Nat} {c : Zc} {res : Int32 × Zc} (h : f_Mo_readQuestion_19 nf x0 c = some res) : Zz p l e (zRm 14 310 0 0) s m args below meth cd (MQ below (zQi D cid B res.1 res.2 n0 0) args s 0 0 (fun q => B ≤ q)) D cid B 1 0 0 c 19 [(0, .ref x0)] [] := by
  unfold f_Mo_readQuestion_19 at h
  obtain ⟨b, eb, h⟩ := zb h
  refine zlp_ok (P := fun a : Nat × Zc => Zz p l e (zRm 14 310 0 0) s m args below meth cd _ D cid B 1 0 0 a.2 19 [(0, .ref a.1)] []) (G := fun b : Nat × Zc => Zz p l e (zRm 14 310 0 0) s m args below meth cd _ D cid B 1 0 0 b.2 35 [(0, .ref b.1)] []) (fun a r ha k0 k1 => u_Mo_readQuestion_19 X H ha k0 k1) nf _ b eb ?_
  refine z_aload_n X dd_Mo_readQuestion_35 rfl 0 rfl ?_
  refine z_bipush (v := 103) X dd_Mo_readQuestion_36 (by decide) ?_
  obtain ⟨w13, ew13, h⟩ := zb h
  obtain ⟨q12, eq12, h⟩ := zb h
  refine z_callVi X [.int 103] rfl dd_Mo_readQuestion_38 (c_Mo_takes l eq12) (cwV 1 X.1.2.2.2.2 (zg_V km_1908 km_1910 km_69 km_138 km_1911) rfl rfl rfl (by decide +kernel) ⟨Nat.le_of_ble_eq_true rfl, Nat.le_of_ble_eq_true rfl⟩) (zob_s ew13) kc_12 rfl (Nat.le_of_ble_eq_true rfl) ⟨Nat.le_of_ble_eq_true rfl, Nat.le_of_ble_eq_true rfl⟩ ?_
  refine z_if_eq (tgt := 113) X dd_Mo_readQuestion_41 (by decide) (fun q14 => ?_) (fun q14 => ?_)
  · rw [if_pos q14] at h
    exact t_Mo_readQuestion_113 X H h
  · rw [if_neg q14] at h
    refine z_aload_n X dd_Mo_readQuestion_44 rfl 0 rfl ?_
    obtain ⟨w21, ew21, h⟩ := zb h
    obtain ⟨q20, eq20, h⟩ := zb h
    refine z_callVi X [] rfl dd_Mo_readQuestion_45 (c_Mo_kind l eq20) (cwV 0 X.1.2.2.2.2 (zg_V km_1912 km_1914 km_70 km_138 km_1915) rfl rfl rfl (by decide +kernel) ⟨Nat.le_of_ble_eq_true rfl, Nat.le_of_ble_eq_true rfl⟩) (zob_s ew21) kc_12 rfl (Nat.le_of_ble_eq_true rfl) ⟨Nat.le_of_ble_eq_true rfl, Nat.le_of_ble_eq_true rfl⟩ ?_
    refine z_bipush (v := 6) X dd_Mo_readQuestion_48 (by decide) ?_
    refine z_icmp_eq (tgt := 60) X dd_Mo_readQuestion_50 (by decide) (fun q22 => ?_) (fun q22 => ?_)
    · rw [if_pos q22] at h
      refine z_aload_n X dd_Mo_readQuestion_60 rfl 0 rfl ?_
      obtain ⟨w24, ew24, h⟩ := zb h
      obtain ⟨q23, eq23, h⟩ := zb h
      refine z_callVv X [] rfl dd_Mo_readQuestion_61 (c_Mo_stands l eq23) (cwV 0 X.1.2.2.2.2 (zg_V km_1924 km_1926 km_73 km_138 km_1927) rfl rfl rfl (by decide +kernel) ⟨Nat.le_of_ble_eq_true rfl, Nat.le_of_ble_eq_true rfl⟩) (zob_s ew24) kc_12 rfl (Nat.le_of_ble_eq_true rfl) ⟨Nat.le_of_ble_eq_true rfl, Nat.le_of_ble_eq_true rfl⟩ ?_
      refine z_aload_n X dd_Mo_readQuestion_64 rfl 0 rfl ?_
      obtain ⟨v25, ev25, h⟩ := zb h
      refine z_get (j := 15) X dd_Mo_readQuestion_65 kc_12 ki_12 (by decide) km_1536 (zgr_v ev25) ?_
      refine z_aload_n X dd_Mo_readQuestion_68 rfl 0 rfl ?_
      obtain ⟨v26, ev26, h⟩ := zb h
      refine z_get (j := 18) X dd_Mo_readQuestion_69 kc_12 ki_12 (by decide) km_1539 (zgi_v ev26) ?_
      obtain ⟨v27, ev27, h⟩ := zb h
      refine z_iaload X dd_Mo_readQuestion_72 rfl ev27 ?_
      refine z_if_ne (tgt := 91) X dd_Mo_readQuestion_73 (by decide) (fun q28 => ?_) (fun q28 => ?_)
      · rw [if_neg q28] at h
        exact t_Mo_readQuestion_91 X H h
      · rw [if_pos q28] at h
        refine z_aload_n X dd_Mo_readQuestion_76 rfl 0 rfl ?_
        refine z_bipush (v := 6) X dd_Mo_readQuestion_77 (by decide) ?_
        refine z_aload_n X dd_Mo_readQuestion_79 rfl 0 rfl ?_
        obtain ⟨v37, ev37, h⟩ := zb h
        refine z_get (j := 16) X dd_Mo_readQuestion_80 kc_12 ki_12 (by decide) km_1537 (zgr_v ev37) ?_
        refine z_aload_n X dd_Mo_readQuestion_83 rfl 0 rfl ?_
        obtain ⟨v38, ev38, h⟩ := zb h
        refine z_get (j := 18) X dd_Mo_readQuestion_84 kc_12 ki_12 (by decide) km_1539 (zgi_v ev38) ?_
        obtain ⟨v39, ev39, h⟩ := zb h
        refine z_iaload X dd_Mo_readQuestion_87 rfl ev39 ?_
        obtain ⟨w41, ew41, h⟩ := zb h
        obtain ⟨q40, eq40, h⟩ := zb h
        refine z_callVv X [.int 6, .int v39] rfl dd_Mo_readQuestion_88 (c_Mo_refuse l eq40) (cwV 2 X.1.2.2.2.2 (zg_V km_1916 km_1918 km_71 km_138 km_1919) rfl rfl rfl (by decide +kernel) ⟨Nat.le_of_ble_eq_true rfl, Nat.le_of_ble_eq_true rfl⟩) (zob_s ew41) kc_12 rfl (Nat.le_of_ble_eq_true rfl) ⟨Nat.le_of_ble_eq_true rfl, Nat.le_of_ble_eq_true rfl⟩ ?_
        exact t_Mo_readQuestion_91 X H h
    · rw [if_neg q22] at h
      refine z_aload_n X dd_Mo_readQuestion_53 rfl 0 rfl ?_
      obtain ⟨w43, ew43, h⟩ := zb h
      obtain ⟨q42, eq42, h⟩ := zb h
      refine z_callVv X [] rfl dd_Mo_readQuestion_54 (c_Mo_wrong l eq42) (cwV 0 X.1.2.2.2.2 (zg_V km_1928 km_1930 km_74 km_138 km_1931) rfl rfl rfl (by decide +kernel) ⟨Nat.le_of_ble_eq_true rfl, Nat.le_of_ble_eq_true rfl⟩) (zob_s ew43) kc_12 rfl (Nat.le_of_ble_eq_true rfl) ⟨Nat.le_of_ble_eq_true rfl, Nat.le_of_ble_eq_true rfl⟩ ?_
      refine z_goto (tgt := 113) X dd_Mo_readQuestion_57 (by decide) ?_
      exact t_Mo_readQuestion_113 X H h
set_option maxRecDepth 100000 in
set_option maxHeartbeats 4000000 in
theorem c_Mo_readQuestion (l : Launch) {nf : Nat} {a0 : Nat} {c : Zc} {res : Int32 × Zc} (h : f_Mo_readQuestion nf a0 c = some res) : zM l yy_Mo_readQuestion ww_Mo_readQuestion 14 310 0 0 [.ref a0] c (fun D cid B => zQi D cid B res.1 res.2 c.length 0) := by
  refine z_met (cc := bb_Mo_readQuestion) (maxL := 1) (ret := (some (.int))) (by decide +kernel) rfl (Nat.le_of_ble_eq_true rfl) ?_
  intro p e s m args below meth cd D cid B X h1 h2 h3 h4
  have X : zX p s m args cd D cid B bb_Mo_readQuestion 1 rr_Mo zT := X
  have H : zH s meth B c.length (some (.int)) "readQuestion" := ⟨h1, h2, h4, h3⟩
  unfold f_Mo_readQuestion at h
  show Zz p l e (zRm 14 310 0 0) s m args below meth cd _ D cid B 1 0 0 c 0 [(0, .ref a0)] []
  refine z_aload_n X dd_Mo_readQuestion_0 rfl 0 rfl ?_
  obtain ⟨w2, ew2, h⟩ := zb h
  obtain ⟨q1, eq1, h⟩ := zb h
  refine z_callVv X [] rfl dd_Mo_readQuestion_1 (c_Mo_begin l eq1) (cwV 0 X.1.2.2.2.2 (zg_V km_1852 km_1854 km_63 km_138 km_1855) rfl rfl rfl (by decide +kernel) ⟨Nat.le_of_ble_eq_true rfl, Nat.le_of_ble_eq_true rfl⟩) (zob_s ew2) kc_12 rfl (Nat.le_of_ble_eq_true rfl) ⟨Nat.le_of_ble_eq_true rfl, Nat.le_of_ble_eq_true rfl⟩ ?_
  refine z_aload_n X dd_Mo_readQuestion_4 rfl 0 rfl ?_
  obtain ⟨w4, ew4, h⟩ := zb h
  obtain ⟨q3, eq3, h⟩ := zb h
  refine z_callVv X [] rfl dd_Mo_readQuestion_5 (c_Mo_patterns l eq3) (cwV 0 X.1.2.2.2.2 (zg_V km_1900 km_1902 km_67 km_138 km_1903) rfl rfl rfl (by decide +kernel) ⟨Nat.le_of_ble_eq_true rfl, Nat.le_of_ble_eq_true rfl⟩) (zob_s ew4) kc_12 rfl (Nat.le_of_ble_eq_true rfl) ⟨Nat.le_of_ble_eq_true rfl, Nat.le_of_ble_eq_true rfl⟩ ?_
  refine z_aload_n X dd_Mo_readQuestion_8 rfl 0 rfl ?_
  obtain ⟨v5, ev5, h⟩ := zb h
  refine z_get (j := 19) X dd_Mo_readQuestion_9 kc_12 ki_12 (by decide) km_1540 (zgi_v ev5) ?_
  refine z_if_ne (tgt := 19) X dd_Mo_readQuestion_12 (by decide) (fun q6 => ?_) (fun q6 => ?_)
  · rw [if_neg q6] at h
    exact t_Mo_readQuestion_19 X H h
  · rw [if_pos q6] at h
    refine z_aload_n X dd_Mo_readQuestion_15 rfl 0 rfl ?_
    obtain ⟨w45, ew45, h⟩ := zb h
    obtain ⟨q44, eq44, h⟩ := zb h
    refine z_callVv X [] rfl dd_Mo_readQuestion_16 (c_Mo_item l eq44) (cwV 0 X.1.2.2.2.2 (zg_V km_2035 km_2037 km_100 km_138 km_2038) rfl rfl rfl (by decide +kernel) ⟨Nat.le_of_ble_eq_true rfl, Nat.le_of_ble_eq_true rfl⟩) (zob_s ew45) kc_12 rfl (Nat.le_of_ble_eq_true rfl) ⟨Nat.le_of_ble_eq_true rfl, Nat.le_of_ble_eq_true rfl⟩ ?_
    exact t_Mo_readQuestion_19 X H h
theorem dd_Mo_endOf_0 : decode bb_Mo_endOf 0 = .ok (.aload_n 0, 1) := by decide +kernel
theorem dd_Mo_endOf_1 : decode bb_Mo_endOf 1 = .ok (.getfield 294, 3) := by decide +kernel
theorem dd_Mo_endOf_4 : decode bb_Mo_endOf 4 = .ok (.ifCond .ne 11, 3) := by decide +kernel
theorem dd_Mo_endOf_7 : decode bb_Mo_endOf 7 = .ok (.aload_n 0, 1) := by decide +kernel
theorem dd_Mo_endOf_8 : decode bb_Mo_endOf 8 = .ok (.invokevirtual 306, 3) := by decide +kernel
theorem dd_Mo_endOf_11 : decode bb_Mo_endOf 11 = .ok (.iconst 2, 1) := by decide +kernel
theorem dd_Mo_endOf_12 : decode bb_Mo_endOf 12 = .ok (.if_icmp .eq 16, 3) := by decide +kernel
theorem dd_Mo_endOf_15 : decode bb_Mo_endOf 15 = .ok (.aload_n 0, 1) := by decide +kernel
theorem dd_Mo_endOf_16 : decode bb_Mo_endOf 16 = .ok (.getfield 294, 3) := by decide +kernel
theorem dd_Mo_endOf_19 : decode bb_Mo_endOf 19 = .ok (.ifCond .ne 7, 3) := by decide +kernel
theorem dd_Mo_endOf_22 : decode bb_Mo_endOf 22 = .ok (.aload_n 0, 1) := by decide +kernel
theorem dd_Mo_endOf_23 : decode bb_Mo_endOf 23 = .ok (.invokevirtual 319, 3) := by decide +kernel
theorem dd_Mo_endOf_26 : decode bb_Mo_endOf 26 = .ok (.iconst (-1), 1) := by decide +kernel
theorem dd_Mo_endOf_27 : decode bb_Mo_endOf 27 = .ok (.ireturn, 1) := by decide +kernel
theorem dd_Mo_endOf_28 : decode bb_Mo_endOf 28 = .ok (.aload_n 0, 1) := by decide +kernel
theorem dd_Mo_endOf_29 : decode bb_Mo_endOf 29 = .ok (.invokevirtual 310, 3) := by decide +kernel
theorem dd_Mo_endOf_32 : decode bb_Mo_endOf 32 = .ok (.aload_n 0, 1) := by decide +kernel
theorem dd_Mo_endOf_33 : decode bb_Mo_endOf 33 = .ok (.getfield 143, 3) := by decide +kernel
theorem dd_Mo_endOf_36 : decode bb_Mo_endOf 36 = .ok (.aload_n 0, 1) := by decide +kernel
theorem dd_Mo_endOf_37 : decode bb_Mo_endOf 37 = .ok (.getfield 46, 3) := by decide +kernel
theorem dd_Mo_endOf_40 : decode bb_Mo_endOf 40 = .ok (.aload_n 0, 1) := by decide +kernel
theorem dd_Mo_endOf_41 : decode bb_Mo_endOf 41 = .ok (.getfield 300, 3) := by decide +kernel
theorem dd_Mo_endOf_44 : decode bb_Mo_endOf 44 = .ok (.iaload, 1) := by decide +kernel
theorem dd_Mo_endOf_45 : decode bb_Mo_endOf 45 = .ok (.iaload, 1) := by decide +kernel
theorem dd_Mo_endOf_46 : decode bb_Mo_endOf 46 = .ok (.istore_n 1, 1) := by decide +kernel
theorem dd_Mo_endOf_47 : decode bb_Mo_endOf 47 = .ok (.iload_n 1, 1) := by decide +kernel
theorem dd_Mo_endOf_48 : decode bb_Mo_endOf 48 = .ok (.iconst (-1), 1) := by decide +kernel
theorem dd_Mo_endOf_49 : decode bb_Mo_endOf 49 = .ok (.if_icmp .eq 9, 3) := by decide +kernel
theorem dd_Mo_endOf_52 : decode bb_Mo_endOf 52 = .ok (.iload_n 1, 1) := by decide +kernel
theorem dd_Mo_endOf_53 : decode bb_Mo_endOf 53 = .ok (.bipush 100, 2) := by decide +kernel
theorem dd_Mo_endOf_55 : decode bb_Mo_endOf 55 = .ok (.if_icmp .lt 17, 3) := by decide +kernel
theorem dd_Mo_endOf_58 : decode bb_Mo_endOf 58 = .ok (.aload_n 0, 1) := by decide +kernel
theorem dd_Mo_endOf_59 : decode bb_Mo_endOf 59 = .ok (.iconst 5, 1) := by decide +kernel
theorem dd_Mo_endOf_60 : decode bb_Mo_endOf 60 = .ok (.aload_n 0, 1) := by decide +kernel
theorem dd_Mo_endOf_61 : decode bb_Mo_endOf 61 = .ok (.getfield 49, 3) := by decide +kernel
theorem dd_Mo_endOf_64 : decode bb_Mo_endOf 64 = .ok (.aload_n 0, 1) := by decide +kernel
theorem dd_Mo_endOf_65 : decode bb_Mo_endOf 65 = .ok (.getfield 300, 3) := by decide +kernel
theorem dd_Mo_endOf_68 : decode bb_Mo_endOf 68 = .ok (.iaload, 1) := by decide +kernel
theorem dd_Mo_endOf_69 : decode bb_Mo_endOf 69 = .ok (.invokevirtual 303, 3) := by decide +kernel
theorem dd_Mo_endOf_72 : decode bb_Mo_endOf 72 = .ok (.aload_n 0, 1) := by decide +kernel
theorem dd_Mo_endOf_73 : decode bb_Mo_endOf 73 = .ok (.invokevirtual 313, 3) := by decide +kernel
theorem dd_Mo_endOf_76 : decode bb_Mo_endOf 76 = .ok (.iload_n 1, 1) := by decide +kernel
theorem dd_Mo_endOf_77 : decode bb_Mo_endOf 77 = .ok (.ireturn, 1) := by decide +kernel
set_option maxRecDepth 100000 in
set_option maxHeartbeats 4000000 in
theorem t_Mo_endOf_26  (X : zX p s m args cd D cid B bb_Mo_endOf 2 rr_Mo zT) (H : zH s meth B n0 (some (.int)) "endOf") {nf : Nat}  {c : Zc} {res : Int32 × Zc} (h : f_Mo_endOf_26 nf  c = some res) : Zz p l e (zRm 3 62 0 0) s m args below meth cd (MQ below (zQi D cid B res.1 res.2 n0 0) args s 0 0 (fun q => B ≤ q)) D cid B 2 0 0 c 26 [] [] := by
  unfold f_Mo_endOf_26 at h
  refine z_iconst (v := (-1)) X dd_Mo_endOf_26 (by decide) ?_
  obtain rfl := Option.some.inj h
  exact z_iret X H.1 H.2.1 H.2.2.1 dd_Mo_endOf_27
set_option maxRecDepth 100000 in
set_option maxHeartbeats 4000000 in
theorem t_Mo_endOf_15  (X : zX p s m args cd D cid B bb_Mo_endOf 2 rr_Mo zT) (H : zH s meth B n0 (some (.int)) "endOf") {nf : Nat} {x0 : Nat} {c : Zc} {res : Int32 × Zc} (h : f_Mo_endOf_15 nf x0 c = some res) : Zz p l e (zRm 3 62 0 0) s m args below meth cd (MQ below (zQi D cid B res.1 res.2 n0 0) args s 0 0 (fun q => B ≤ q)) D cid B 2 0 0 c 15 [(0, .ref x0)] [] := by
  unfold f_Mo_endOf_15 at h
  refine z_aload_n X dd_Mo_endOf_15 rfl 0 rfl ?_
  obtain ⟨v3, ev3, h⟩ := zb h
  refine z_get (j := 19) X dd_Mo_endOf_16 kc_12 ki_12 (by decide) km_1540 (zgi_v ev3) ?_
  refine z_if_ne (tgt := 26) X dd_Mo_endOf_19 (by decide) (fun q4 => ?_) (fun q4 => ?_)
  · rw [if_neg q4] at h
    refine z_sub [] rfl ?_
    exact t_Mo_endOf_26 X H h
  · rw [if_pos q4] at h
    refine z_aload_n X dd_Mo_endOf_22 rfl 0 rfl ?_
    obtain ⟨w6, ew6, h⟩ := zb h
    obtain ⟨q5, eq5, h⟩ := zb h
    refine z_callVv X [] rfl dd_Mo_endOf_23 (c_Mo_wrong l eq5) (cwV 0 X.1.2.2.2.2 (zg_V km_1928 km_1930 km_74 km_138 km_1931) rfl rfl rfl (by decide +kernel) ⟨Nat.le_of_ble_eq_true rfl, Nat.le_of_ble_eq_true rfl⟩) (zob_s ew6) kc_12 rfl (Nat.le_of_ble_eq_true rfl) ⟨Nat.le_of_ble_eq_true rfl, Nat.le_of_ble_eq_true rfl⟩ ?_
    refine z_sub [] rfl ?_
    exact t_Mo_endOf_26 X H h
set_option maxRecDepth 100000 in
set_option maxHeartbeats 4000000 in
theorem t_Mo_endOf_72  (X : zX p s m args cd D cid B bb_Mo_endOf 2 rr_Mo zT) (H : zH s meth B n0 (some (.int)) "endOf") {nf : Nat} {x0 : Nat} {x1 : Int32} {c : Zc} {res : Int32 × Zc} (h : f_Mo_endOf_72 nf x0 x1 c = some res) : Zz p l e (zRm 3 62 0 0) s m args below meth cd (MQ below (zQi D cid B res.1 res.2 n0 0) args s 0 0 (fun q => B ≤ q)) D cid B 2 0 0 c 72 [(0, .ref x0), (1, .int x1)] [] := by
  unfold f_Mo_endOf_72 at h
  refine z_aload_n X dd_Mo_endOf_72 rfl 0 rfl ?_
  obtain ⟨w24, ew24, h⟩ := zb h
  obtain ⟨q23, eq23, h⟩ := zb h
  refine z_callVv X [] rfl dd_Mo_endOf_73 (c_Mo_pass l eq23) (cwV 0 X.1.2.2.2.2 (zg_V km_1920 km_1922 km_72 km_138 km_1923) rfl rfl rfl (by decide +kernel) ⟨Nat.le_of_ble_eq_true rfl, Nat.le_of_ble_eq_true rfl⟩) (zob_s ew24) kc_12 rfl (Nat.le_of_ble_eq_true rfl) ⟨Nat.le_of_ble_eq_true rfl, Nat.le_of_ble_eq_true rfl⟩ ?_
  refine z_iload_n X dd_Mo_endOf_76 rfl 1 rfl ?_
  obtain rfl := Option.some.inj h
  exact z_iret X H.1 H.2.1 H.2.2.1 dd_Mo_endOf_77
set_option maxRecDepth 100000 in
set_option maxHeartbeats 4000000 in
theorem t_Mo_endOf_58  (X : zX p s m args cd D cid B bb_Mo_endOf 2 rr_Mo zT) (H : zH s meth B n0 (some (.int)) "endOf") {nf : Nat} {x0 : Nat} {x1 : Int32} {c : Zc} {res : Int32 × Zc} (h : f_Mo_endOf_58 nf x0 x1 c = some res) : Zz p l e (zRm 3 62 0 0) s m args below meth cd (MQ below (zQi D cid B res.1 res.2 n0 0) args s 0 0 (fun q => B ≤ q)) D cid B 2 0 0 c 58 [(0, .ref x0), (1, .int x1)] [] := by
  unfold f_Mo_endOf_58 at h
  refine z_aload_n X dd_Mo_endOf_58 rfl 0 rfl ?_
  refine z_iconst (v := 5) X dd_Mo_endOf_59 (by decide) ?_
  refine z_aload_n X dd_Mo_endOf_60 rfl 0 rfl ?_
  obtain ⟨v18, ev18, h⟩ := zb h
  refine z_get (j := 16) X dd_Mo_endOf_61 kc_12 ki_12 (by decide) km_1537 (zgr_v ev18) ?_
  refine z_aload_n X dd_Mo_endOf_64 rfl 0 rfl ?_
  obtain ⟨v19, ev19, h⟩ := zb h
  refine z_get (j := 18) X dd_Mo_endOf_65 kc_12 ki_12 (by decide) km_1539 (zgi_v ev19) ?_
  obtain ⟨v20, ev20, h⟩ := zb h
  refine z_iaload X dd_Mo_endOf_68 rfl ev20 ?_
  obtain ⟨w22, ew22, h⟩ := zb h
  obtain ⟨q21, eq21, h⟩ := zb h
  refine z_callVv X [.int 5, .int v20] rfl dd_Mo_endOf_69 (c_Mo_refuse l eq21) (cwV 2 X.1.2.2.2.2 (zg_V km_1916 km_1918 km_71 km_138 km_1919) rfl rfl rfl (by decide +kernel) ⟨Nat.le_of_ble_eq_true rfl, Nat.le_of_ble_eq_true rfl⟩) (zob_s ew22) kc_12 rfl (Nat.le_of_ble_eq_true rfl) ⟨Nat.le_of_ble_eq_true rfl, Nat.le_of_ble_eq_true rfl⟩ ?_
  exact t_Mo_endOf_72 X H h
set_option maxRecDepth 100000 in
set_option maxHeartbeats 4000000 in
theorem c_Mo_endOf (l : Launch) {nf : Nat} {a0 : Nat} {c : Zc} {res : Int32 × Zc} (h : f_Mo_endOf nf a0 c = some res) : zM l yy_Mo_endOf ww_Mo_endOf 3 62 0 0 [.ref a0] c (fun D cid B => zQi D cid B res.1 res.2 c.length 0) := by
  refine z_met (cc := bb_Mo_endOf) (maxL := 2) (ret := (some (.int))) (by decide +kernel) rfl (Nat.le_of_ble_eq_true rfl) ?_
  intro p e s m args below meth cd D cid B X h1 h2 h3 h4
  have X : zX p s m args cd D cid B bb_Mo_endOf 2 rr_Mo zT := X
  have H : zH s meth B c.length (some (.int)) "endOf" := ⟨h1, h2, h4, h3⟩
  unfold f_Mo_endOf at h
  show Zz p l e (zRm 3 62 0 0) s m args below meth cd _ D cid B 2 0 0 c 0 [(0, .ref a0)] []
  refine z_aload_n X dd_Mo_endOf_0 rfl 0 rfl ?_
  obtain ⟨v1, ev1, h⟩ := zb h
  refine z_get (j := 19) X dd_Mo_endOf_1 kc_12 ki_12 (by decide) km_1540 (zgi_v ev1) ?_
  refine z_if_ne (tgt := 15) X dd_Mo_endOf_4 (by decide) (fun q2 => ?_) (fun q2 => ?_)
  · rw [if_neg q2] at h
    exact t_Mo_endOf_15 X H h
  · rw [if_pos q2] at h
    refine z_aload_n X dd_Mo_endOf_7 rfl 0 rfl ?_
    obtain ⟨w8, ew8, h⟩ := zb h
    obtain ⟨q7, eq7, h⟩ := zb h
    refine z_callVi X [] rfl dd_Mo_endOf_8 (c_Mo_kind l eq7) (cwV 0 X.1.2.2.2.2 (zg_V km_1912 km_1914 km_70 km_138 km_1915) rfl rfl rfl (by decide +kernel) ⟨Nat.le_of_ble_eq_true rfl, Nat.le_of_ble_eq_true rfl⟩) (zob_s ew8) kc_12 rfl (Nat.le_of_ble_eq_true rfl) ⟨Nat.le_of_ble_eq_true rfl, Nat.le_of_ble_eq_true rfl⟩ ?_
    refine z_iconst (v := 2) X dd_Mo_endOf_11 (by decide) ?_
    refine z_icmp_eq (tgt := 28) X dd_Mo_endOf_12 (by decide) (fun q9 => ?_) (fun q9 => ?_)
    · rw [if_pos q9] at h
      refine z_aload_n X dd_Mo_endOf_28 rfl 0 rfl ?_
      obtain ⟨w11, ew11, h⟩ := zb h
      obtain ⟨q10, eq10, h⟩ := zb h
      refine z_callVv X [] rfl dd_Mo_endOf_29 (c_Mo_stands l eq10) (cwV 0 X.1.2.2.2.2 (zg_V km_1924 km_1926 km_73 km_138 km_1927) rfl rfl rfl (by decide +kernel) ⟨Nat.le_of_ble_eq_true rfl, Nat.le_of_ble_eq_true rfl⟩) (zob_s ew11) kc_12 rfl (Nat.le_of_ble_eq_true rfl) ⟨Nat.le_of_ble_eq_true rfl, Nat.le_of_ble_eq_true rfl⟩ ?_
      refine z_aload_n X dd_Mo_endOf_32 rfl 0 rfl ?_
      obtain ⟨v12, ev12, h⟩ := zb h
      refine z_get (j := 54) X dd_Mo_endOf_33 kc_12 ki_12 (by decide) km_1575 (zgr_v ev12) ?_
      refine z_aload_n X dd_Mo_endOf_36 rfl 0 rfl ?_
      obtain ⟨v13, ev13, h⟩ := zb h
      refine z_get (j := 15) X dd_Mo_endOf_37 kc_12 ki_12 (by decide) km_1536 (zgr_v ev13) ?_
      refine z_aload_n X dd_Mo_endOf_40 rfl 0 rfl ?_
      obtain ⟨v14, ev14, h⟩ := zb h
      refine z_get (j := 18) X dd_Mo_endOf_41 kc_12 ki_12 (by decide) km_1539 (zgi_v ev14) ?_
      obtain ⟨v15, ev15, h⟩ := zb h
      refine z_iaload X dd_Mo_endOf_44 rfl ev15 ?_
      obtain ⟨v16, ev16, h⟩ := zb h
      refine z_iaload X dd_Mo_endOf_45 rfl ev16 ?_
      refine z_istore_n (lv' := [(1, .int v16), (0, .ref a0)]) X dd_Mo_endOf_46 rfl (by decide) rfl ?_
      refine z_iload_n X dd_Mo_endOf_47 rfl 0 rfl ?_
      refine z_iconst (v := (-1)) X dd_Mo_endOf_48 (by decide) ?_
      refine z_icmp_eq (tgt := 58) X dd_Mo_endOf_49 (by decide) (fun q17 => ?_) (fun q17 => ?_)
      · rw [if_pos q17] at h
        refine z_sub [1, 0] rfl ?_
        exact t_Mo_endOf_58 X H h
      · rw [if_neg q17] at h
        refine z_iload_n X dd_Mo_endOf_52 rfl 0 rfl ?_
        refine z_bipush (v := 100) X dd_Mo_endOf_53 (by decide) ?_
        refine z_icmp_lt (tgt := 72) X dd_Mo_endOf_55 (by decide) (fun q25 => ?_) (fun q25 => ?_)
        · rw [if_pos q25] at h
          refine z_sub [1, 0] rfl ?_
          exact t_Mo_endOf_72 X H h
        · rw [if_neg q25] at h
          refine z_sub [1, 0] rfl ?_
          exact t_Mo_endOf_58 X H h
    · rw [if_neg q9] at h
      exact t_Mo_endOf_15 X H h
theorem dd_Mo_readRule_0 : decode bb_Mo_readRule 0 = .ok (.aload_n 0, 1) := by decide +kernel
theorem dd_Mo_readRule_1 : decode bb_Mo_readRule 1 = .ok (.invokevirtual 435, 3) := by decide +kernel
theorem dd_Mo_readRule_4 : decode bb_Mo_readRule 4 = .ok (.aload_n 0, 1) := by decide +kernel
theorem dd_Mo_readRule_5 : decode bb_Mo_readRule 5 = .ok (.bipush 113, 2) := by decide +kernel
theorem dd_Mo_readRule_7 : decode bb_Mo_readRule 7 = .ok (.invokevirtual 334, 3) := by decide +kernel
theorem dd_Mo_readRule_10 : decode bb_Mo_readRule 10 = .ok (.iconst (-1), 1) := by decide +kernel
theorem dd_Mo_readRule_11 : decode bb_Mo_readRule 11 = .ok (.istore_n 1, 1) := by decide +kernel
theorem dd_Mo_readRule_12 : decode bb_Mo_readRule 12 = .ok (.aload_n 0, 1) := by decide +kernel
theorem dd_Mo_readRule_13 : decode bb_Mo_readRule 13 = .ok (.getfield 294, 3) := by decide +kernel
theorem dd_Mo_readRule_16 : decode bb_Mo_readRule 16 = .ok (.ifCond .ne 49, 3) := by decide +kernel
theorem dd_Mo_readRule_19 : decode bb_Mo_readRule 19 = .ok (.aload_n 0, 1) := by decide +kernel
theorem dd_Mo_readRule_20 : decode bb_Mo_readRule 20 = .ok (.invokevirtual 306, 3) := by decide +kernel
theorem dd_Mo_readRule_23 : decode bb_Mo_readRule 23 = .ok (.iconst 5, 1) := by decide +kernel
theorem dd_Mo_readRule_24 : decode bb_Mo_readRule 24 = .ok (.if_icmp .ne 17, 3) := by decide +kernel
theorem dd_Mo_readRule_27 : decode bb_Mo_readRule 27 = .ok (.aload_n 0, 1) := by decide +kernel
theorem dd_Mo_readRule_28 : decode bb_Mo_readRule 28 = .ok (.getfield 46, 3) := by decide +kernel
theorem dd_Mo_readRule_31 : decode bb_Mo_readRule 31 = .ok (.aload_n 0, 1) := by decide +kernel
theorem dd_Mo_readRule_32 : decode bb_Mo_readRule 32 = .ok (.getfield 300, 3) := by decide +kernel
theorem dd_Mo_readRule_35 : decode bb_Mo_readRule 35 = .ok (.iaload, 1) := by decide +kernel
theorem dd_Mo_readRule_36 : decode bb_Mo_readRule 36 = .ok (.bipush 8, 2) := by decide +kernel
theorem dd_Mo_readRule_38 : decode bb_Mo_readRule 38 = .ok (.if_icmp .ge 10, 3) := by decide +kernel
theorem dd_Mo_readRule_41 : decode bb_Mo_readRule 41 = .ok (.aload_n 0, 1) := by decide +kernel
theorem dd_Mo_readRule_42 : decode bb_Mo_readRule 42 = .ok (.invokevirtual 319, 3) := by decide +kernel
theorem dd_Mo_readRule_45 : decode bb_Mo_readRule 45 = .ok (.goto 20, 3) := by decide +kernel
theorem dd_Mo_readRule_48 : decode bb_Mo_readRule 48 = .ok (.aload_n 0, 1) := by decide +kernel
theorem dd_Mo_readRule_49 : decode bb_Mo_readRule 49 = .ok (.getfield 46, 3) := by decide +kernel
theorem dd_Mo_readRule_52 : decode bb_Mo_readRule 52 = .ok (.aload_n 0, 1) := by decide +kernel
theorem dd_Mo_readRule_53 : decode bb_Mo_readRule 53 = .ok (.getfield 300, 3) := by decide +kernel
theorem dd_Mo_readRule_56 : decode bb_Mo_readRule 56 = .ok (.iaload, 1) := by decide +kernel
theorem dd_Mo_readRule_57 : decode bb_Mo_readRule 57 = .ok (.bipush 8, 2) := by decide +kernel
theorem dd_Mo_readRule_59 : decode bb_Mo_readRule 59 = .ok (.isub, 1) := by decide +kernel
theorem dd_Mo_readRule_60 : decode bb_Mo_readRule 60 = .ok (.istore_n 1, 1) := by decide +kernel
theorem dd_Mo_readRule_61 : decode bb_Mo_readRule 61 = .ok (.aload_n 0, 1) := by decide +kernel
theorem dd_Mo_readRule_62 : decode bb_Mo_readRule 62 = .ok (.invokevirtual 313, 3) := by decide +kernel
theorem dd_Mo_readRule_65 : decode bb_Mo_readRule 65 = .ok (.aload_n 0, 1) := by decide +kernel
theorem dd_Mo_readRule_66 : decode bb_Mo_readRule 66 = .ok (.invokevirtual 438, 3) := by decide +kernel
theorem dd_Mo_readRule_69 : decode bb_Mo_readRule 69 = .ok (.aload_n 0, 1) := by decide +kernel
theorem dd_Mo_readRule_70 : decode bb_Mo_readRule 70 = .ok (.getfield 131, 3) := by decide +kernel
theorem dd_Mo_readRule_73 : decode bb_Mo_readRule 73 = .ok (.aload_n 0, 1) := by decide +kernel
theorem dd_Mo_readRule_74 : decode bb_Mo_readRule 74 = .ok (.getfield 331, 3) := by decide +kernel
theorem dd_Mo_readRule_77 : decode bb_Mo_readRule 77 = .ok (.aload_n 0, 1) := by decide +kernel
theorem dd_Mo_readRule_78 : decode bb_Mo_readRule 78 = .ok (.invokevirtual 447, 3) := by decide +kernel
theorem dd_Mo_readRule_81 : decode bb_Mo_readRule 81 = .ok (.iastore, 1) := by decide +kernel
theorem dd_Mo_readRule_82 : decode bb_Mo_readRule 82 = .ok (.aload_n 0, 1) := by decide +kernel
theorem dd_Mo_readRule_83 : decode bb_Mo_readRule 83 = .ok (.bipush 44, 2) := by decide +kernel
theorem dd_Mo_readRule_85 : decode bb_Mo_readRule 85 = .ok (.invokevirtual 334, 3) := by decide +kernel
theorem dd_Mo_readRule_88 : decode bb_Mo_readRule 88 = .ok (.aload_n 0, 1) := by decide +kernel
theorem dd_Mo_readRule_89 : decode bb_Mo_readRule 89 = .ok (.getfield 134, 3) := by decide +kernel
theorem dd_Mo_readRule_92 : decode bb_Mo_readRule 92 = .ok (.aload_n 0, 1) := by decide +kernel
theorem dd_Mo_readRule_93 : decode bb_Mo_readRule 93 = .ok (.getfield 331, 3) := by decide +kernel
theorem dd_Mo_readRule_96 : decode bb_Mo_readRule 96 = .ok (.aload_n 0, 1) := by decide +kernel
theorem dd_Mo_readRule_97 : decode bb_Mo_readRule 97 = .ok (.invokevirtual 447, 3) := by decide +kernel
theorem dd_Mo_readRule_100 : decode bb_Mo_readRule 100 = .ok (.iastore, 1) := by decide +kernel
theorem dd_Mo_readRule_101 : decode bb_Mo_readRule 101 = .ok (.aload_n 0, 1) := by decide +kernel
theorem dd_Mo_readRule_102 : decode bb_Mo_readRule 102 = .ok (.iload_n 1, 1) := by decide +kernel
theorem dd_Mo_readRule_103 : decode bb_Mo_readRule 103 = .ok (.invokevirtual 444, 3) := by decide +kernel
theorem dd_Mo_readRule_106 : decode bb_Mo_readRule 106 = .ok (.ireturn, 1) := by decide +kernel
set_option maxRecDepth 100000 in
set_option maxHeartbeats 4000000 in
theorem t_Mo_readRule_65  (X : zX p s m args cd D cid B bb_Mo_readRule 2 rr_Mo zT) (H : zH s meth B n0 (some (.int)) "readRule") {nf : Nat} {x0 : Nat} {x1 : Int32} {c : Zc} {res : Int32 × Zc} (h : f_Mo_readRule_65 nf x0 x1 c = some res) : Zz p l e (zRm 14 308 0 0) s m args below meth cd (MQ below (zQi D cid B res.1 res.2 n0 0) args s 0 0 (fun q => B ≤ q)) D cid B 2 0 0 c 65 [(0, .ref x0), (1, .int x1)] [] := by
  unfold f_Mo_readRule_65 at h
  refine z_aload_n X dd_Mo_readRule_65 rfl 0 rfl ?_
  obtain ⟨w8, ew8, h⟩ := zb h
  obtain ⟨q7, eq7, h⟩ := zb h
  refine z_callVv X [] rfl dd_Mo_readRule_66 (c_Mo_patterns l eq7) (cwV 0 X.1.2.2.2.2 (zg_V km_1900 km_1902 km_67 km_138 km_1903) rfl rfl rfl (by decide +kernel) ⟨Nat.le_of_ble_eq_true rfl, Nat.le_of_ble_eq_true rfl⟩) (zob_s ew8) kc_12 rfl (Nat.le_of_ble_eq_true rfl) ⟨Nat.le_of_ble_eq_true rfl, Nat.le_of_ble_eq_true rfl⟩ ?_
  refine z_aload_n X dd_Mo_readRule_69 rfl 0 rfl ?_
  obtain ⟨v9, ev9, h⟩ := zb h
  refine z_get (j := 48) X dd_Mo_readRule_70 kc_12 ki_12 (by decide) km_1569 (zgr_v ev9) ?_
  refine z_aload_n X dd_Mo_readRule_73 rfl 0 rfl ?_
  obtain ⟨v10, ev10, h⟩ := zb h
  refine z_get (j := 25) X dd_Mo_readRule_74 kc_12 ki_12 (by decide) km_1546 (zgi_v ev10) ?_
  refine z_aload_n X dd_Mo_readRule_77 rfl 0 rfl ?_
  obtain ⟨w12, ew12, h⟩ := zb h
  obtain ⟨q11, eq11, h⟩ := zb h
  refine z_callVi X [] rfl dd_Mo_readRule_78 (c_Mo_endOf l eq11) (cwV 0 X.1.2.2.2.2 (zg_V km_2055 km_2057 km_104 km_138 km_2058) rfl rfl rfl (by decide +kernel) ⟨Nat.le_of_ble_eq_true rfl, Nat.le_of_ble_eq_true rfl⟩) (zob_s ew12) kc_12 rfl (Nat.le_of_ble_eq_true rfl) ⟨Nat.le_of_ble_eq_true rfl, Nat.le_of_ble_eq_true rfl⟩ ?_
  obtain ⟨c13, ec13, h⟩ := zb h
  refine z_iastore X dd_Mo_readRule_81 rfl ec13 ?_
  refine z_aload_n X dd_Mo_readRule_82 rfl 0 rfl ?_
  refine z_bipush (v := 44) X dd_Mo_readRule_83 (by decide) ?_
  obtain ⟨w15, ew15, h⟩ := zb h
  obtain ⟨q14, eq14, h⟩ := zb h
  refine z_callVv X [.int 44] rfl dd_Mo_readRule_85 (c_Mo_need l eq14) (cwV 1 X.1.2.2.2.2 (zg_V km_1904 km_1906 km_68 km_138 km_1907) rfl rfl rfl (by decide +kernel) ⟨Nat.le_of_ble_eq_true rfl, Nat.le_of_ble_eq_true rfl⟩) (zob_s ew15) kc_12 rfl (Nat.le_of_ble_eq_true rfl) ⟨Nat.le_of_ble_eq_true rfl, Nat.le_of_ble_eq_true rfl⟩ ?_
  refine z_aload_n X dd_Mo_readRule_88 rfl 0 rfl ?_
  obtain ⟨v16, ev16, h⟩ := zb h
  refine z_get (j := 49) X dd_Mo_readRule_89 kc_12 ki_12 (by decide) km_1570 (zgr_v ev16) ?_
  refine z_aload_n X dd_Mo_readRule_92 rfl 0 rfl ?_
  obtain ⟨v17, ev17, h⟩ := zb h
  refine z_get (j := 25) X dd_Mo_readRule_93 kc_12 ki_12 (by decide) km_1546 (zgi_v ev17) ?_
  refine z_aload_n X dd_Mo_readRule_96 rfl 0 rfl ?_
  obtain ⟨w19, ew19, h⟩ := zb h
  obtain ⟨q18, eq18, h⟩ := zb h
  refine z_callVi X [] rfl dd_Mo_readRule_97 (c_Mo_endOf l eq18) (cwV 0 X.1.2.2.2.2 (zg_V km_2055 km_2057 km_104 km_138 km_2058) rfl rfl rfl (by decide +kernel) ⟨Nat.le_of_ble_eq_true rfl, Nat.le_of_ble_eq_true rfl⟩) (zob_s ew19) kc_12 rfl (Nat.le_of_ble_eq_true rfl) ⟨Nat.le_of_ble_eq_true rfl, Nat.le_of_ble_eq_true rfl⟩ ?_
  obtain ⟨c20, ec20, h⟩ := zb h
  refine z_iastore X dd_Mo_readRule_100 rfl ec20 ?_
  refine z_aload_n X dd_Mo_readRule_101 rfl 0 rfl ?_
  refine z_iload_n X dd_Mo_readRule_102 rfl 1 rfl ?_
  obtain ⟨w22, ew22, h⟩ := zb h
  obtain ⟨q21, eq21, h⟩ := zb h
  refine z_callVi X [.int x1] rfl dd_Mo_readRule_103 (c_Mo_ended l eq21) (cwV 1 X.1.2.2.2.2 (zg_V km_2039 km_2041 km_101 km_138 km_2042) rfl rfl rfl (by decide +kernel) ⟨Nat.le_of_ble_eq_true rfl, Nat.le_of_ble_eq_true rfl⟩) (zob_s ew22) kc_12 rfl (Nat.le_of_ble_eq_true rfl) ⟨Nat.le_of_ble_eq_true rfl, Nat.le_of_ble_eq_true rfl⟩ ?_
  obtain rfl := Option.some.inj h
  exact z_iret X H.1 H.2.1 H.2.2.1 dd_Mo_readRule_106
set_option maxRecDepth 100000 in
set_option maxHeartbeats 4000000 in
theorem t_Mo_readRule_41  (X : zX p s m args cd D cid B bb_Mo_readRule 2 rr_Mo zT) (H : zH s meth B n0 (some (.int)) "readRule") {nf : Nat} {x0 : Nat} {x1 : Int32} {c : Zc} {res : Int32 × Zc} (h : f_Mo_readRule_41 nf x0 x1 c = some res) : Zz p l e (zRm 14 308 0 0) s m args below meth cd (MQ below (zQi D cid B res.1 res.2 n0 0) args s 0 0 (fun q => B ≤ q)) D cid B 2 0 0 c 41 [(0, .ref x0), (1, .int x1)] [] := by
  unfold f_Mo_readRule_41 at h
  refine z_aload_n X dd_Mo_readRule_41 rfl 0 rfl ?_
  obtain ⟨w27, ew27, h⟩ := zb h
  obtain ⟨q26, eq26, h⟩ := zb h
  refine z_callVv X [] rfl dd_Mo_readRule_42 (c_Mo_wrong l eq26) (cwV 0 X.1.2.2.2.2 (zg_V km_1928 km_1930 km_74 km_138 km_1931) rfl rfl rfl (by decide +kernel) ⟨Nat.le_of_ble_eq_true rfl, Nat.le_of_ble_eq_true rfl⟩) (zob_s ew27) kc_12 rfl (Nat.le_of_ble_eq_true rfl) ⟨Nat.le_of_ble_eq_true rfl, Nat.le_of_ble_eq_true rfl⟩ ?_
  refine z_goto (tgt := 65) X dd_Mo_readRule_45 (by decide) ?_
  exact t_Mo_readRule_65 X H h
set_option maxRecDepth 100000 in
set_option maxHeartbeats 4000000 in
theorem c_Mo_readRule (l : Launch) {nf : Nat} {a0 : Nat} {c : Zc} {res : Int32 × Zc} (h : f_Mo_readRule nf a0 c = some res) : zM l yy_Mo_readRule ww_Mo_readRule 14 308 0 0 [.ref a0] c (fun D cid B => zQi D cid B res.1 res.2 c.length 0) := by
  refine z_met (cc := bb_Mo_readRule) (maxL := 2) (ret := (some (.int))) (by decide +kernel) rfl (Nat.le_of_ble_eq_true rfl) ?_
  intro p e s m args below meth cd D cid B X h1 h2 h3 h4
  have X : zX p s m args cd D cid B bb_Mo_readRule 2 rr_Mo zT := X
  have H : zH s meth B c.length (some (.int)) "readRule" := ⟨h1, h2, h4, h3⟩
  unfold f_Mo_readRule at h
  show Zz p l e (zRm 14 308 0 0) s m args below meth cd _ D cid B 2 0 0 c 0 [(0, .ref a0)] []
  refine z_aload_n X dd_Mo_readRule_0 rfl 0 rfl ?_
  obtain ⟨w2, ew2, h⟩ := zb h
  obtain ⟨q1, eq1, h⟩ := zb h
  refine z_callVv X [] rfl dd_Mo_readRule_1 (c_Mo_begin l eq1) (cwV 0 X.1.2.2.2.2 (zg_V km_1852 km_1854 km_63 km_138 km_1855) rfl rfl rfl (by decide +kernel) ⟨Nat.le_of_ble_eq_true rfl, Nat.le_of_ble_eq_true rfl⟩) (zob_s ew2) kc_12 rfl (Nat.le_of_ble_eq_true rfl) ⟨Nat.le_of_ble_eq_true rfl, Nat.le_of_ble_eq_true rfl⟩ ?_
  refine z_aload_n X dd_Mo_readRule_4 rfl 0 rfl ?_
  refine z_bipush (v := 113) X dd_Mo_readRule_5 (by decide) ?_
  obtain ⟨w4, ew4, h⟩ := zb h
  obtain ⟨q3, eq3, h⟩ := zb h
  refine z_callVv X [.int 113] rfl dd_Mo_readRule_7 (c_Mo_need l eq3) (cwV 1 X.1.2.2.2.2 (zg_V km_1904 km_1906 km_68 km_138 km_1907) rfl rfl rfl (by decide +kernel) ⟨Nat.le_of_ble_eq_true rfl, Nat.le_of_ble_eq_true rfl⟩) (zob_s ew4) kc_12 rfl (Nat.le_of_ble_eq_true rfl) ⟨Nat.le_of_ble_eq_true rfl, Nat.le_of_ble_eq_true rfl⟩ ?_
  refine z_iconst (v := (-1)) X dd_Mo_readRule_10 (by decide) ?_
  refine z_istore_n (lv' := [(1, .int (-1)), (0, .ref a0)]) X dd_Mo_readRule_11 rfl (by decide) rfl ?_
  refine z_aload_n X dd_Mo_readRule_12 rfl 1 rfl ?_
  obtain ⟨v5, ev5, h⟩ := zb h
  refine z_get (j := 19) X dd_Mo_readRule_13 kc_12 ki_12 (by decide) km_1540 (zgi_v ev5) ?_
  refine z_if_ne (tgt := 65) X dd_Mo_readRule_16 (by decide) (fun q6 => ?_) (fun q6 => ?_)
  · rw [if_neg q6] at h
    refine z_sub [1, 0] rfl ?_
    exact t_Mo_readRule_65 X H h
  · rw [if_pos q6] at h
    refine z_aload_n X dd_Mo_readRule_19 rfl 1 rfl ?_
    obtain ⟨w24, ew24, h⟩ := zb h
    obtain ⟨q23, eq23, h⟩ := zb h
    refine z_callVi X [] rfl dd_Mo_readRule_20 (c_Mo_kind l eq23) (cwV 0 X.1.2.2.2.2 (zg_V km_1912 km_1914 km_70 km_138 km_1915) rfl rfl rfl (by decide +kernel) ⟨Nat.le_of_ble_eq_true rfl, Nat.le_of_ble_eq_true rfl⟩) (zob_s ew24) kc_12 rfl (Nat.le_of_ble_eq_true rfl) ⟨Nat.le_of_ble_eq_true rfl, Nat.le_of_ble_eq_true rfl⟩ ?_
    refine z_iconst (v := 5) X dd_Mo_readRule_23 (by decide) ?_
    refine z_icmp_ne (tgt := 41) X dd_Mo_readRule_24 (by decide) (fun q25 => ?_) (fun q25 => ?_)
    · rw [if_neg q25] at h
      refine z_sub [1, 0] rfl ?_
      exact t_Mo_readRule_41 X H h
    · rw [if_pos q25] at h
      refine z_aload_n X dd_Mo_readRule_27 rfl 1 rfl ?_
      obtain ⟨v28, ev28, h⟩ := zb h
      refine z_get (j := 15) X dd_Mo_readRule_28 kc_12 ki_12 (by decide) km_1536 (zgr_v ev28) ?_
      refine z_aload_n X dd_Mo_readRule_31 rfl 1 rfl ?_
      obtain ⟨v29, ev29, h⟩ := zb h
      refine z_get (j := 18) X dd_Mo_readRule_32 kc_12 ki_12 (by decide) km_1539 (zgi_v ev29) ?_
      obtain ⟨v30, ev30, h⟩ := zb h
      refine z_iaload X dd_Mo_readRule_35 rfl ev30 ?_
      refine z_bipush (v := 8) X dd_Mo_readRule_36 (by decide) ?_
      refine z_icmp_ge (tgt := 48) X dd_Mo_readRule_38 (by decide) (fun q31 => ?_) (fun q31 => ?_)
      · rw [if_pos q31] at h
        refine z_aload_n X dd_Mo_readRule_48 rfl 1 rfl ?_
        obtain ⟨v32, ev32, h⟩ := zb h
        refine z_get (j := 15) X dd_Mo_readRule_49 kc_12 ki_12 (by decide) km_1536 (zgr_v ev32) ?_
        refine z_aload_n X dd_Mo_readRule_52 rfl 1 rfl ?_
        obtain ⟨v33, ev33, h⟩ := zb h
        refine z_get (j := 18) X dd_Mo_readRule_53 kc_12 ki_12 (by decide) km_1539 (zgi_v ev33) ?_
        obtain ⟨v34, ev34, h⟩ := zb h
        refine z_iaload X dd_Mo_readRule_56 rfl ev34 ?_
        refine z_bipush (v := 8) X dd_Mo_readRule_57 (by decide) ?_
        refine z_isub X dd_Mo_readRule_59 ?_
        refine z_istore_n (lv' := [(1, .int (v34 - 8)), (0, .ref a0)]) X dd_Mo_readRule_60 rfl (by decide) rfl ?_
        refine z_aload_n X dd_Mo_readRule_61 rfl 1 rfl ?_
        obtain ⟨w36, ew36, h⟩ := zb h
        obtain ⟨q35, eq35, h⟩ := zb h
        refine z_callVv X [] rfl dd_Mo_readRule_62 (c_Mo_pass l eq35) (cwV 0 X.1.2.2.2.2 (zg_V km_1920 km_1922 km_72 km_138 km_1923) rfl rfl rfl (by decide +kernel) ⟨Nat.le_of_ble_eq_true rfl, Nat.le_of_ble_eq_true rfl⟩) (zob_s ew36) kc_12 rfl (Nat.le_of_ble_eq_true rfl) ⟨Nat.le_of_ble_eq_true rfl, Nat.le_of_ble_eq_true rfl⟩ ?_
        refine z_sub [1, 0] rfl ?_
        exact t_Mo_readRule_65 X H h
      · rw [if_neg q31] at h
        refine z_sub [1, 0] rfl ?_
        exact t_Mo_readRule_41 X H h
end ZzM
