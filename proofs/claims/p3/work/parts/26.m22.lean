section ZzM
variable {p : Program} {l : Launch} {e : Env} {s : State} {m : MethodId} {args : Array Value} {below : List Frame} {meth : Method} {cd : Code} {Q : State → Prop} {D : va_G} {cid : Nat → ClassId} {B n0 : Nat}
theorem dd_Mo_readQuestion_0 : decode bb_Mo_readQuestion 0 = .ok (.aload_n 0, 1) := by decide +kernel
theorem dd_Mo_readQuestion_1 : decode bb_Mo_readQuestion 1 = .ok (.invokevirtual 435, 3) := by decide +kernel
theorem dd_Mo_readQuestion_4 : decode bb_Mo_readQuestion 4 = .ok (.aload_n 0, 1) := by decide +kernel
theorem dd_Mo_readQuestion_5 : decode bb_Mo_readQuestion 5 = .ok (.invokevirtual 438, 3) := by decide +kernel
theorem dd_Mo_readQuestion_8 : decode bb_Mo_readQuestion 8 = .ok (.aload_n 0, 1) := by decide +kernel
theorem dd_Mo_readQuestion_9 : decode bb_Mo_readQuestion 9 = .ok (.getfield 294, 3) := by decide +kernel
theorem dd_Mo_readQuestion_12 : decode bb_Mo_readQuestion 12 = .ok (.ifCond .ne 7, 3) := by decide +kernel
theorem dd_Mo_readQuestion_15 : decode bb_Mo_readQuestion 15 = .ok (.aload_n 0, 1) := by decide +kernel
theorem dd_Mo_readQuestion_16 : decode bb_Mo_readQuestion 16 = .ok (.invokevirtual 441, 3) := by decide +kernel
theorem dd_Mo_readQuestion_19 : decode bb_Mo_readQuestion 19 = .ok (.aload_n 0, 1) := by decide +kernel
theorem dd_Mo_readQuestion_20 : decode bb_Mo_readQuestion 20 = .ok (.bipush 44, 2) := by decide +kernel
theorem dd_Mo_readQuestion_22 : decode bb_Mo_readQuestion 22 = .ok (.invokevirtual 316, 3) := by decide +kernel
theorem dd_Mo_readQuestion_25 : decode bb_Mo_readQuestion 25 = .ok (.ifCond .eq 10, 3) := by decide +kernel
theorem dd_Mo_readQuestion_28 : decode bb_Mo_readQuestion 28 = .ok (.aload_n 0, 1) := by decide +kernel
theorem dd_Mo_readQuestion_29 : decode bb_Mo_readQuestion 29 = .ok (.invokevirtual 441, 3) := by decide +kernel
theorem dd_Mo_readQuestion_32 : decode bb_Mo_readQuestion 32 = .ok (.goto (-13), 3) := by decide +kernel
theorem dd_Mo_readQuestion_35 : decode bb_Mo_readQuestion 35 = .ok (.aload_n 0, 1) := by decide +kernel
theorem dd_Mo_readQuestion_36 : decode bb_Mo_readQuestion 36 = .ok (.bipush 103, 2) := by decide +kernel
theorem dd_Mo_readQuestion_38 : decode bb_Mo_readQuestion 38 = .ok (.invokevirtual 316, 3) := by decide +kernel
theorem dd_Mo_readQuestion_41 : decode bb_Mo_readQuestion 41 = .ok (.ifCond .eq 72, 3) := by decide +kernel
theorem dd_Mo_readQuestion_44 : decode bb_Mo_readQuestion 44 = .ok (.aload_n 0, 1) := by decide +kernel
theorem dd_Mo_readQuestion_45 : decode bb_Mo_readQuestion 45 = .ok (.invokevirtual 306, 3) := by decide +kernel
theorem dd_Mo_readQuestion_48 : decode bb_Mo_readQuestion 48 = .ok (.bipush 6, 2) := by decide +kernel
theorem dd_Mo_readQuestion_50 : decode bb_Mo_readQuestion 50 = .ok (.if_icmp .eq 10, 3) := by decide +kernel
theorem dd_Mo_readQuestion_53 : decode bb_Mo_readQuestion 53 = .ok (.aload_n 0, 1) := by decide +kernel
theorem dd_Mo_readQuestion_54 : decode bb_Mo_readQuestion 54 = .ok (.invokevirtual 319, 3) := by decide +kernel
theorem dd_Mo_readQuestion_57 : decode bb_Mo_readQuestion 57 = .ok (.goto 56, 3) := by decide +kernel
theorem dd_Mo_readQuestion_60 : decode bb_Mo_readQuestion 60 = .ok (.aload_n 0, 1) := by decide +kernel
theorem dd_Mo_readQuestion_61 : decode bb_Mo_readQuestion 61 = .ok (.invokevirtual 310, 3) := by decide +kernel
theorem dd_Mo_readQuestion_64 : decode bb_Mo_readQuestion 64 = .ok (.aload_n 0, 1) := by decide +kernel
theorem dd_Mo_readQuestion_65 : decode bb_Mo_readQuestion 65 = .ok (.getfield 46, 3) := by decide +kernel
theorem dd_Mo_readQuestion_68 : decode bb_Mo_readQuestion 68 = .ok (.aload_n 0, 1) := by decide +kernel
theorem dd_Mo_readQuestion_69 : decode bb_Mo_readQuestion 69 = .ok (.getfield 300, 3) := by decide +kernel
theorem dd_Mo_readQuestion_72 : decode bb_Mo_readQuestion 72 = .ok (.iaload, 1) := by decide +kernel
theorem dd_Mo_readQuestion_73 : decode bb_Mo_readQuestion 73 = .ok (.ifCond .ne 18, 3) := by decide +kernel
theorem dd_Mo_readQuestion_76 : decode bb_Mo_readQuestion 76 = .ok (.aload_n 0, 1) := by decide +kernel
theorem dd_Mo_readQuestion_77 : decode bb_Mo_readQuestion 77 = .ok (.bipush 6, 2) := by decide +kernel
theorem dd_Mo_readQuestion_79 : decode bb_Mo_readQuestion 79 = .ok (.aload_n 0, 1) := by decide +kernel
theorem dd_Mo_readQuestion_80 : decode bb_Mo_readQuestion 80 = .ok (.getfield 49, 3) := by decide +kernel
theorem dd_Mo_readQuestion_83 : decode bb_Mo_readQuestion 83 = .ok (.aload_n 0, 1) := by decide +kernel
theorem dd_Mo_readQuestion_84 : decode bb_Mo_readQuestion 84 = .ok (.getfield 300, 3) := by decide +kernel
theorem dd_Mo_readQuestion_87 : decode bb_Mo_readQuestion 87 = .ok (.iaload, 1) := by decide +kernel
theorem dd_Mo_readQuestion_88 : decode bb_Mo_readQuestion 88 = .ok (.invokevirtual 303, 3) := by decide +kernel
theorem dd_Mo_readQuestion_91 : decode bb_Mo_readQuestion 91 = .ok (.aload_n 0, 1) := by decide +kernel
theorem dd_Mo_readQuestion_92 : decode bb_Mo_readQuestion 92 = .ok (.getfield 128, 3) := by decide +kernel
theorem dd_Mo_readQuestion_95 : decode bb_Mo_readQuestion 95 = .ok (.aload_n 0, 1) := by decide +kernel
theorem dd_Mo_readQuestion_96 : decode bb_Mo_readQuestion 96 = .ok (.getfield 331, 3) := by decide +kernel
theorem dd_Mo_readQuestion_99 : decode bb_Mo_readQuestion 99 = .ok (.aload_n 0, 1) := by decide +kernel
theorem dd_Mo_readQuestion_100 : decode bb_Mo_readQuestion 100 = .ok (.getfield 46, 3) := by decide +kernel
theorem dd_Mo_readQuestion_103 : decode bb_Mo_readQuestion 103 = .ok (.aload_n 0, 1) := by decide +kernel
theorem dd_Mo_readQuestion_104 : decode bb_Mo_readQuestion 104 = .ok (.getfield 300, 3) := by decide +kernel
theorem dd_Mo_readQuestion_107 : decode bb_Mo_readQuestion 107 = .ok (.iaload, 1) := by decide +kernel
theorem dd_Mo_readQuestion_108 : decode bb_Mo_readQuestion 108 = .ok (.iastore, 1) := by decide +kernel
theorem dd_Mo_readQuestion_109 : decode bb_Mo_readQuestion 109 = .ok (.aload_n 0, 1) := by decide +kernel
theorem dd_Mo_readQuestion_110 : decode bb_Mo_readQuestion 110 = .ok (.invokevirtual 313, 3) := by decide +kernel
theorem dd_Mo_readQuestion_113 : decode bb_Mo_readQuestion 113 = .ok (.aload_n 0, 1) := by decide +kernel
theorem dd_Mo_readQuestion_114 : decode bb_Mo_readQuestion 114 = .ok (.aload_n 0, 1) := by decide +kernel
theorem dd_Mo_readQuestion_115 : decode bb_Mo_readQuestion 115 = .ok (.getfield 116, 3) := by decide +kernel
theorem dd_Mo_readQuestion_118 : decode bb_Mo_readQuestion 118 = .ok (.aload_n 0, 1) := by decide +kernel
theorem dd_Mo_readQuestion_119 : decode bb_Mo_readQuestion 119 = .ok (.getfield 331, 3) := by decide +kernel
theorem dd_Mo_readQuestion_122 : decode bb_Mo_readQuestion 122 = .ok (.iaload, 1) := by decide +kernel
theorem dd_Mo_readQuestion_123 : decode bb_Mo_readQuestion 123 = .ok (.invokevirtual 444, 3) := by decide +kernel
theorem dd_Mo_readQuestion_126 : decode bb_Mo_readQuestion 126 = .ok (.ireturn, 1) := by decide +kernel
def g_Mo_readQuestion_19 (nf : Nat) (x0 : Nat) (c : Zc) : Option ((Nat × Zc) ⊕ (Nat × Zc)) :=
  (zob c x0 12).bind fun w8 => (f_Mo_takes nf x0 44 c).bind fun q7 => if q7.1 = 0 then (some (.inr (x0, q7.2))) else ((zob q7.2 x0 12).bind fun w11 => (f_Mo_item nf x0 q7.2).bind fun q10 => some (.inl (x0, q10)))
def f_Mo_readQuestion_113 (nf : Nat) (x0 : Nat) (c : Zc) : Option (Int32 × Zc) :=
  (zgr c x0 12 43).bind fun v15 => (zgi c x0 12 25).bind fun v16 => (zai c v15 0 v16).bind fun v17 => (zob c x0 12).bind fun w19 => (f_Mo_ended nf x0 v17 c).bind fun q18 => some (q18.1, q18.2)
def f_Mo_readQuestion_91 (nf : Nat) (x0 : Nat) (c : Zc) : Option (Int32 × Zc) :=
  (zgr c x0 12 47).bind fun v29 => (zgi c x0 12 25).bind fun v30 => (zgr c x0 12 15).bind fun v31 => (zgi c x0 12 18).bind fun v32 => (zai c v31 0 v32).bind fun v33 => (zsi c v29 0 v30 v33).bind fun c34 => (zob c34 x0 12).bind fun w36 => (f_Mo_pass nf x0 c34).bind fun q35 => f_Mo_readQuestion_113 nf x0 q35
def f_Mo_readQuestion_19 (nf : Nat) (x0 : Nat) (c : Zc) : Option (Int32 × Zc) :=
  (zlp (fun a => g_Mo_readQuestion_19 nf a.1 a.2) nf (x0, c)).bind fun b => (zob b.2 b.1 12).bind fun w13 => (f_Mo_takes nf b.1 103 b.2).bind fun q12 => if q12.1 = 0 then (f_Mo_readQuestion_113 nf b.1 q12.2) else ((zob q12.2 b.1 12).bind fun w21 => (f_Mo_kind nf b.1 q12.2).bind fun q20 => if q20.1 = 6 then ((zob q20.2 b.1 12).bind fun w24 => (f_Mo_stands nf b.1 q20.2).bind fun q23 => (zgr q23 b.1 12 15).bind fun v25 => (zgi q23 b.1 12 18).bind fun v26 => (zai q23 v25 0 v26).bind fun v27 => if v27 = 0 then ((zgr q23 b.1 12 16).bind fun v37 => (zgi q23 b.1 12 18).bind fun v38 => (zai q23 v37 0 v38).bind fun v39 => (zob q23 b.1 12).bind fun w41 => (f_Mo_refuse nf b.1 6 v39 q23).bind fun q40 => f_Mo_readQuestion_91 nf b.1 q40) else (f_Mo_readQuestion_91 nf b.1 q23)) else ((zob q20.2 b.1 12).bind fun w43 => (f_Mo_wrong nf b.1 q20.2).bind fun q42 => f_Mo_readQuestion_113 nf b.1 q42))
def f_Mo_readQuestion (nf : Nat) (a0 : Nat) (c : Zc) : Option (Int32 × Zc) :=
  (zob c a0 12).bind fun w2 => (f_Mo_begin nf a0 c).bind fun q1 => (zob q1 a0 12).bind fun w4 => (f_Mo_patterns nf a0 q1).bind fun q3 => (zgi q3 a0 12 19).bind fun v5 => if v5 = 0 then ((zob q3 a0 12).bind fun w45 => (f_Mo_item nf a0 q3).bind fun q44 => f_Mo_readQuestion_19 nf a0 q44) else (f_Mo_readQuestion_19 nf a0 q3)
set_option maxRecDepth 100000 in
set_option maxHeartbeats 4000000 in
theorem u_Mo_readQuestion_19  (X : zX p s m args cd D cid B bb_Mo_readQuestion 1 rr_Mo zT) (H : zH s meth B n0 (some (.int)) "readQuestion") {nf : Nat} {x0 : Nat} {c : Zc} {r : (Nat × Zc) ⊕ (Nat × Zc)} (h : g_Mo_readQuestion_19 nf x0 c = some r) (k0 : ∀ a, r = .inl a → (fun a : Nat × Zc => Zz p l e (zRm 14 310 0 0) s m args below meth cd Q D cid B 1 0 0 a.2 19 [(0, .ref a.1)] []) a) (k1 : ∀ b, r = .inr b → (fun b : Nat × Zc => Zz p l e (zRm 14 310 0 0) s m args below meth cd Q D cid B 1 0 0 b.2 35 [(0, .ref b.1)] []) b) : Zz p l e (zRm 14 310 0 0) s m args below meth cd Q D cid B 1 0 0 c 19 [(0, .ref x0)] [] := by
  unfold g_Mo_readQuestion_19 at h
  refine z_aload_n X dd_Mo_readQuestion_19 rfl 0 rfl ?_
  refine z_bipush (v := 44) X dd_Mo_readQuestion_20 (by decide) ?_
  obtain ⟨w8, ew8, h⟩ := zb h
  obtain ⟨q7, eq7, h⟩ := zb h
  refine z_callVi X [.int 44] rfl dd_Mo_readQuestion_22 (c_Mo_takes l eq7) (cwV 1 X.1.2.2.2.2 (zg_V km_1908 km_1910 km_69 km_138 km_1911) rfl rfl rfl (by decide +kernel) ⟨Nat.le_of_ble_eq_true rfl, Nat.le_of_ble_eq_true rfl⟩) (zob_s ew8) kc_12 rfl (Nat.le_of_ble_eq_true rfl) ⟨Nat.le_of_ble_eq_true rfl, Nat.le_of_ble_eq_true rfl⟩ ?_
  refine z_if_eq (tgt := 35) X dd_Mo_readQuestion_25 (by decide) (fun q9 => ?_) (fun q9 => ?_)
  · rw [if_pos q9] at h
    obtain rfl := Option.some.inj h
    exact k1 _ rfl
  · rw [if_neg q9] at h
    refine z_aload_n X dd_Mo_readQuestion_28 rfl 0 rfl ?_
    obtain ⟨w11, ew11, h⟩ := zb h
    obtain ⟨q10, eq10, h⟩ := zb h
    refine z_callVv X [] rfl dd_Mo_readQuestion_29 (c_Mo_item l eq10) (cwV 0 X.1.2.2.2.2 (zg_V km_2035 km_2037 km_100 km_138 km_2038) rfl rfl rfl (by decide +kernel) ⟨Nat.le_of_ble_eq_true rfl, Nat.le_of_ble_eq_true rfl⟩) (zob_s ew11) kc_12 rfl (Nat.le_of_ble_eq_true rfl) ⟨Nat.le_of_ble_eq_true rfl, Nat.le_of_ble_eq_true rfl⟩ ?_
    refine z_goto (tgt := 19) X dd_Mo_readQuestion_32 (by decide) ?_
    obtain rfl := Option.some.inj h
    exact k0 _ rfl
set_option maxRecDepth 100000 in
set_option maxHeartbeats 4000000 in
theorem t_Mo_readQuestion_113  (X : zX p s m args cd D cid B bb_Mo_readQuestion 1 rr_Mo zT) (H : zH s meth B n0 (some (.int)) "readQuestion") {nf : Nat} {x0 : Nat} {c : Zc} {res : Int32 × Zc} (h : f_Mo_readQuestion_113 nf x0 c = some res) : Zz p l e (zRm 14 310 0 0) s m args below meth cd (MQ below (zQi D cid B res.1 res.2 n0 0) args s 0 0 (fun q => B ≤ q)) D cid B 1 0 0 c 113 [(0, .ref x0)] [] := by
  unfold f_Mo_readQuestion_113 at h
  refine z_aload_n X dd_Mo_readQuestion_113 rfl 0 rfl ?_
  refine z_aload_n X dd_Mo_readQuestion_114 rfl 0 rfl ?_
  obtain ⟨v15, ev15, h⟩ := zb h
  refine z_get (j := 43) X dd_Mo_readQuestion_115 kc_12 ki_12 (by decide) km_1564 (zgr_v ev15) ?_
  refine z_aload_n X dd_Mo_readQuestion_118 rfl 0 rfl ?_
  obtain ⟨v16, ev16, h⟩ := zb h
  refine z_get (j := 25) X dd_Mo_readQuestion_119 kc_12 ki_12 (by decide) km_1546 (zgi_v ev16) ?_
  obtain ⟨v17, ev17, h⟩ := zb h
  refine z_iaload X dd_Mo_readQuestion_122 rfl ev17 ?_
  obtain ⟨w19, ew19, h⟩ := zb h
  obtain ⟨q18, eq18, h⟩ := zb h
  refine z_callVi X [.int v17] rfl dd_Mo_readQuestion_123 (c_Mo_ended l eq18) (cwV 1 X.1.2.2.2.2 (zg_V km_2039 km_2041 km_101 km_138 km_2042) rfl rfl rfl (by decide +kernel) ⟨Nat.le_of_ble_eq_true rfl, Nat.le_of_ble_eq_true rfl⟩) (zob_s ew19) kc_12 rfl (Nat.le_of_ble_eq_true rfl) ⟨Nat.le_of_ble_eq_true rfl, Nat.le_of_ble_eq_true rfl⟩ ?_
  obtain rfl := Option.some.inj h
  exact z_iret X H.1 H.2.1 H.2.2.1 dd_Mo_readQuestion_126
set_option maxRecDepth 100000 in
set_option maxHeartbeats 4000000 in
theorem t_Mo_readQuestion_91  (X : zX p s m args cd D cid B bb_Mo_readQuestion 1 rr_Mo zT) (H : zH s meth B n0 (some (.int)) "readQuestion") {nf : Nat} {x0 : Nat} {c : Zc} {res : Int32 × Zc} (h : f_Mo_readQuestion_91 nf x0 c = some res) : Zz p l e (zRm 14 310 0 0) s m args below meth cd (MQ below (zQi D cid B res.1 res.2 n0 0) args s 0 0 (fun q => B ≤ q)) D cid B 1 0 0 c 91 [(0, .ref x0)] [] := by
  unfold f_Mo_readQuestion_91 at h
  refine z_aload_n X dd_Mo_readQuestion_91 rfl 0 rfl ?_
  obtain ⟨v29, ev29, h⟩ := zb h
  refine z_get (j := 47) X dd_Mo_readQuestion_92 kc_12 ki_12 (by decide) km_1568 (zgr_v ev29) ?_
  refine z_aload_n X dd_Mo_readQuestion_95 rfl 0 rfl ?_
  obtain ⟨v30, ev30, h⟩ := zb h
  refine z_get (j := 25) X dd_Mo_readQuestion_96 kc_12 ki_12 (by decide) km_1546 (zgi_v ev30) ?_
  refine z_aload_n X dd_Mo_readQuestion_99 rfl 0 rfl ?_
  obtain ⟨v31, ev31, h⟩ := zb h
  refine z_get (j := 15) X dd_Mo_readQuestion_100 kc_12 ki_12 (by decide) km_1536 (zgr_v ev31) ?_
  refine z_aload_n X dd_Mo_readQuestion_103 rfl 0 rfl ?_
  obtain ⟨v32, ev32, h⟩ := zb h
  refine z_get (j := 18) X dd_Mo_readQuestion_104 kc_12 ki_12 (by decide) km_1539 (zgi_v ev32) ?_
  obtain ⟨v33, ev33, h⟩ := zb h
  refine z_iaload X dd_Mo_readQuestion_107 rfl ev33 ?_
  obtain ⟨c34, ec34, h⟩ := zb h
  refine z_iastore X dd_Mo_readQuestion_108 rfl ec34 ?_
  refine z_aload_n X dd_Mo_readQuestion_109 rfl 0 rfl ?_
  obtain ⟨w36, ew36, h⟩ := zb h
  obtain ⟨q35, eq35, h⟩ := zb h
  refine z_callVv X [] rfl dd_Mo_readQuestion_110 (c_Mo_pass l eq35) (cwV 0 X.1.2.2.2.2 (zg_V km_1920 km_1922 km_72 km_138 km_1923) rfl rfl rfl (by decide +kernel) ⟨Nat.le_of_ble_eq_true rfl, Nat.le_of_ble_eq_true rfl⟩) (zob_s ew36) kc_12 rfl (Nat.le_of_ble_eq_true rfl) ⟨Nat.le_of_ble_eq_true rfl, Nat.le_of_ble_eq_true rfl⟩ ?_
  exact t_Mo_readQuestion_113 X H h
set_option maxRecDepth 100000 in
set_option maxHeartbeats 4000000 in
theorem t_Mo_readQuestion_19  (X : zX p s m args cd D cid B bb_Mo_readQuestion 1 rr_Mo zT) (H : zH s meth B n0 (some (.int)) "readQuestion") {nf : Nat} {x0 : Nat} {c : Zc} {res : Int32 × Zc} (h : f_Mo_readQuestion_19 nf x0 c = some res) : Zz p l e (zRm 14 310 0 0) s m args below meth cd (MQ below (zQi D cid B res.1 res.2 n0 0) args s 0 0 (fun q => B ≤ q)) D cid B 1 0 0 c 19 [(0, .ref x0)] [] := by
  unfold f_Mo_readQuestion_19 at h
  obtain ⟨b, eb, h⟩ := zb h
  refine zlp_ok (P := fun a : Nat × Zc => Zz p l e (zRm 14 310 0 0) s m args below meth cd _ D cid B 1 0 0 a.2 19 [(0, .ref a.1)] []) (G := fun b : Nat × Zc => Zz p l e (zRm 14 310 0 0) s m args below meth cd _ D cid B 1 0 0 b.2 35 [(0, .ref b.1)] []) (fun a r ha k0 k1 => u_Mo_readQuestion_19 X H ha k0 k1) nf _ b eb ?_
  refine z_aload_n X dd_Mo_readQuestion_35 rfl 0 rfl ?_
  refine z_bipush (v := 103) X dd_Mo_readQuestion_36 (by decide) ?_
  obtain ⟨w13, ew13, h⟩ := zb h
  obtain ⟨q12, eq12, h⟩ := zb h
  refine z_callVi X [.int 103] rfl dd_Mo_readQuestion_38 (c_Mo_takes l eq12) (cwV 1 X.1.2.2.2.2 (zg_V km_1908 km_1910 km_69 km_138 km_1911) rfl rfl rfl (by decide +kernel) ⟨Nat.le_of_ble_eq_true rfl, Nat.le_of_ble_eq_true rfl⟩) (zob_s ew13) kc_12 rfl (Nat.le_of_ble_eq_true rfl) ⟨Nat.le_of_ble_eq_true rfl, Nat.le_of_ble_eq_true rfl⟩ ?_
  refine z_if_eq (tgt := 113) X dd_Mo_readQuestion_41 (by decide) (fun q14 => ?_) (fun q14 => ?_)
  · rw [if_pos q14] at h
    exact t_Mo_readQuestion_113 X H h
  · rw [if_neg q14] at h
    refine z_aload_n X dd_Mo_readQuestion_44 rfl 0 rfl ?_
    obtain ⟨w21, ew21, h⟩ := zb h
    obtain ⟨q20, eq20, h⟩ := zb h
    refine z_callVi X [] rfl dd_Mo_readQuestion_45 (c_Mo_kind l eq20) (cwV 0 X.1.2.2.2.2 (zg_V km_1912 km_1914 km_70 km_138 km_1915) rfl rfl rfl (by decide +kernel) ⟨Nat.le_of_ble_eq_true rfl, Nat.le_of_ble_eq_true rfl⟩) (zob_s ew21) kc_12 rfl (Nat.le_of_ble_eq_true rfl) ⟨Nat.le_of_ble_eq_true rfl, Nat.le_of_ble_eq_true rfl⟩ ?_
    refine z_bipush (v := 6) X dd_Mo_readQuestion_48 (by decide) ?_
    refine z_icmp_eq (tgt := 60) X dd_Mo_readQuestion_50 (by decide) (fun q22 => ?_) (fun q22 => ?_)
    · rw [if_pos q22] at h
      refine z_aload_n X dd_Mo_readQuestion_60 rfl 0 rfl ?_
      obtain ⟨w24, ew24, h⟩ := zb h
      obtain ⟨q23, eq23, h⟩ := zb h
      refine z_callVv X [] rfl dd_Mo_readQuestion_61 (c_Mo_stands l eq23) (cwV 0 X.1.2.2.2.2 (zg_V km_1924 km_1926 km_73 km_138 km_1927) rfl rfl rfl (by decide +kernel) ⟨Nat.le_of_ble_eq_true rfl, Nat.le_of_ble_eq_true rfl⟩) (zob_s ew24) kc_12 rfl (Nat.le_of_ble_eq_true rfl) ⟨Nat.le_of_ble_eq_true rfl, Nat.le_of_ble_eq_true rfl⟩ ?_
      refine z_aload_n X dd_Mo_readQuestion_64 rfl 0 rfl ?_
      obtain ⟨v25, ev25, h⟩ := zb h
      refine z_get (j := 15) X dd_Mo_readQuestion_65 kc_12 ki_12 (by decide) km_1536 (zgr_v ev25) ?_
      refine z_aload_n X dd_Mo_readQuestion_68 rfl 0 rfl ?_
      obtain ⟨v26, ev26, h⟩ := zb h
      refine z_get (j := 18) X dd_Mo_readQuestion_69 kc_12 ki_12 (by decide) km_1539 (zgi_v ev26) ?_
      obtain ⟨v27, ev27, h⟩ := zb h
      refine z_iaload X dd_Mo_readQuestion_72 rfl ev27 ?_
      refine z_if_ne (tgt := 91) X dd_Mo_readQuestion_73 (by decide) (fun q28 => ?_) (fun q28 => ?_)
      · rw [if_neg q28] at h
        exact t_Mo_readQuestion_91 X H h
      · rw [if_pos q28] at h
        refine z_aload_n X dd_Mo_readQuestion_76 rfl 0 rfl ?_
        refine z_bipush (v := 6) X dd_Mo_readQuestion_77 (by decide) ?_
        refine z_aload_n X dd_Mo_readQuestion_79 rfl 0 rfl ?_
        obtain ⟨v37, ev37, h⟩ := zb h
        refine z_get (j := 16) X dd_Mo_readQuestion_80 kc_12 ki_12 (by decide) km_1537 (zgr_v ev37) ?_
        refine z_aload_n X dd_Mo_readQuestion_83 rfl 0 rfl ?_
        obtain ⟨v38, ev38, h⟩ := zb h
        refine z_get (j := 18) X dd_Mo_readQuestion_84 kc_12 ki_12 (by decide) km_1539 (zgi_v ev38) ?_
        obtain ⟨v39, ev39, h⟩ := zb h
        refine z_iaload X dd_Mo_readQuestion_87 rfl ev39 ?_
        obtain ⟨w41, ew41, h⟩ := zb h
        obtain ⟨q40, eq40, h⟩ := zb h
        refine z_callVv X [.int 6, .int v39] rfl dd_Mo_readQuestion_88 (c_Mo_refuse l eq40) (cwV 2 X.1.2.2.2.2 (zg_V km_1916 km_1918 km_71 km_138 km_1919) rfl rfl rfl (by decide +kernel) ⟨Nat.le_of_ble_eq_true rfl, Nat.le_of_ble_eq_true rfl⟩) (zob_s ew41) kc_12 rfl (Nat.le_of_ble_eq_true rfl) ⟨Nat.le_of_ble_eq_true rfl, Nat.le_of_ble_eq_true rfl⟩ ?_
        exact t_Mo_readQuestion_91 X H h
    · rw [if_neg q22] at h
      refine z_aload_n X dd_Mo_readQuestion_53 rfl 0 rfl ?_
      obtain ⟨w43, ew43, h⟩ := zb h
      obtain ⟨q42, eq42, h⟩ := zb h
      refine z_callVv X [] rfl dd_Mo_readQuestion_54 (c_Mo_wrong l eq42) (cwV 0 X.1.2.2.2.2 (zg_V km_1928 km_1930 km_74 km_138 km_1931) rfl rfl rfl (by decide +kernel) ⟨Nat.le_of_ble_eq_true rfl, Nat.le_of_ble_eq_true rfl⟩) (zob_s ew43) kc_12 rfl (Nat.le_of_ble_eq_true rfl) ⟨Nat.le_of_ble_eq_true rfl, Nat.le_of_ble_eq_true rfl⟩ ?_
      refine z_goto (tgt := 113) X dd_Mo_readQuestion_57 (by decide) ?_
      exact t_Mo_readQuestion_113 X H h
set_option maxRecDepth 100000 in
set_option maxHeartbeats 4000000 in
theorem c_Mo_readQuestion (l : Launch) {nf : Nat} {a0 : Nat} {c : Zc} {res : Int32 × Zc} (h : f_Mo_readQuestion nf a0 c = some res) : zM l yy_Mo_readQuestion ww_Mo_readQuestion 14 310 0 0 [.ref a0] c (fun D cid B => zQi D cid B res.1 res.2 c.length 0) := by
  refine z_met (cc := bb_Mo_readQuestion) (maxL := 1) (ret := (some (.int))) (by decide +kernel) rfl (Nat.le_of_ble_eq_true rfl) ?_
  intro p e s m args below meth cd D cid B X h1 h2 h3 h4
  have X : zX p s m args cd D cid B bb_Mo_readQuestion 1 rr_Mo zT := X
  have H : zH s meth B c.length (some (.int)) "readQuestion" := ⟨h1, h2, h4, h3⟩
  unfold f_Mo_readQuestion at h
  show Zz p l e (zRm 14 310 0 0) s m args below meth cd _ D cid B 1 0 0 c 0 [(0, .ref a0)] []
  refine z_aload_n X dd_Mo_readQuestion_0 rfl 0 rfl ?_
  obtain ⟨w2, ew2, h⟩ := zb h
  obtain ⟨q1, eq1, h⟩ := zb h
  refine z_callVv X [] rfl dd_Mo_readQuestion_1 (c_Mo_begin l eq1) (cwV 0 X.1.2.2.2.2 (zg_V km_1852 km_1854 km_63 km_138 km_1855) rfl rfl rfl (by decide +kernel) ⟨Nat.le_of_ble_eq_true rfl, Nat.le_of_ble_eq_true rfl⟩) (zob_s ew2) kc_12 rfl (Nat.le_of_ble_eq_true rfl) ⟨Nat.le_of_ble_eq_true rfl, Nat.le_of_ble_eq_true rfl⟩ ?_
  refine z_aload_n X dd_Mo_readQuestion_4 rfl 0 rfl ?_
  obtain ⟨w4, ew4, h⟩ := zb h
  obtain ⟨q3, eq3, h⟩ := zb h
  refine z_callVv X [] rfl dd_Mo_readQuestion_5 (c_Mo_patterns l eq3) (cwV 0 X.1.2.2.2.2 (zg_V km_1900 km_1902 km_67 km_138 km_1903) rfl rfl rfl (by decide +kernel) ⟨Nat.le_of_ble_eq_true rfl, Nat.le_of_ble_eq_true rfl⟩) (zob_s ew4) kc_12 rfl (Nat.le_of_ble_eq_true rfl) ⟨Nat.le_of_ble_eq_true rfl, Nat.le_of_ble_eq_true rfl⟩ ?_
  refine z_aload_n X dd_Mo_readQuestion_8 rfl 0 rfl ?_
  obtain ⟨v5, ev5, h⟩ := zb h
  refine z_get (j := 19) X dd_Mo_readQuestion_9 kc_12 ki_12 (by decide) km_1540 (zgi_v ev5) ?_
  refine z_if_ne (tgt := 19) X dd_Mo_readQuestion_12 (by decide) (fun q6 => ?_) (fun q6 => ?_)
  · rw [if_neg q6] at h
    exact t_Mo_readQuestion_19 X H h
  · rw [if_pos q6] at h
    refine z_aload_n X dd_Mo_readQuestion_15 rfl 0 rfl ?_
    obtain ⟨w45, ew45, h⟩ := zb h
    obtain ⟨q44, eq44, h⟩ := zb h
    refine z_callVv X [] rfl dd_Mo_readQuestion_16 (c_Mo_item l eq44) (cwV 0 X.1.2.2.2.2 (zg_V km_2035 km_2037 km_100 km_138 km_2038) rfl rfl rfl (by decide +kernel) ⟨Nat.le_of_ble_eq_true rfl, Nat.le_of_ble_eq_true rfl⟩) (zob_s ew45) kc_12 rfl (Nat.le_of_ble_eq_true rfl) ⟨Nat.le_of_ble_eq_true rfl, Nat.le_of_ble_eq_true rfl⟩ ?_
    exact t_Mo_readQuestion_19 X H h
theorem dd_Mo_endOf_0 : decode bb_Mo_endOf 0 = .ok (.aload_n 0, 1) := by decide +kernel
theorem dd_Mo_endOf_1 : decode bb_Mo_endOf 1 = .ok (.getfield 294, 3) := by decide +kernel
theorem dd_Mo_endOf_4 : decode bb_Mo_endOf 4 = .ok (.ifCond .ne 11, 3) := by decide +kernel
theorem dd_Mo_endOf_7 : decode bb_Mo_endOf 7 = .ok (.aload_n 0, 1) := by decide +kernel
theorem dd_Mo_endOf_8 : decode bb_Mo_endOf 8 = .ok (.invokevirtual 306, 3) := by decide +kernel
theorem dd_Mo_endOf_11 : decode bb_Mo_endOf 11 = .ok (.iconst 2, 1) := by decide +kernel
theorem dd_Mo_endOf_12 : decode bb_Mo_endOf 12 = .ok (.if_icmp .eq 16, 3) := by decide +kernel
theorem dd_Mo_endOf_15 : decode bb_Mo_endOf 15 = .ok (.aload_n 0, 1) := by decide +kernel
theorem dd_Mo_endOf_16 : decode bb_Mo_endOf 16 = .ok (.getfield 294, 3) := by decide +kernel
theorem dd_Mo_endOf_19 : decode bb_Mo_endOf 19 = .ok (.ifCond .ne 7, 3) := by decide +kernel
theorem dd_Mo_endOf_22 : decode bb_Mo_endOf 22 = .ok (.aload_n 0, 1) := by decide +kernel
theorem dd_Mo_endOf_23 : decode bb_Mo_endOf 23 = .ok (.invokevirtual 319, 3) := by decide +kernel
theorem dd_Mo_endOf_26 : decode bb_Mo_endOf 26 = .ok (.iconst (-1), 1) := by decide +kernel
theorem dd_Mo_endOf_27 : decode bb_Mo_endOf 27 = .ok (.ireturn, 1) := by decide +kernel
theorem dd_Mo_endOf_28 : decode bb_Mo_endOf 28 = .ok (.aload_n 0, 1) := by decide +kernel
theorem dd_Mo_endOf_29 : decode bb_Mo_endOf 29 = .ok (.invokevirtual 310, 3) := by decide +kernel
theorem dd_Mo_endOf_32 : decode bb_Mo_endOf 32 = .ok (.aload_n 0, 1) := by decide +kernel
theorem dd_Mo_endOf_33 : decode bb_Mo_endOf 33 = .ok (.getfield 143, 3) := by decide +kernel
theorem dd_Mo_endOf_36 : decode bb_Mo_endOf 36 = .ok (.aload_n 0, 1) := by decide +kernel
theorem dd_Mo_endOf_37 : decode bb_Mo_endOf 37 = .ok (.getfield 46, 3) := by decide +kernel
theorem dd_Mo_endOf_40 : decode bb_Mo_endOf 40 = .ok (.aload_n 0, 1) := by decide +kernel
theorem dd_Mo_endOf_41 : decode bb_Mo_endOf 41 = .ok (.getfield 300, 3) := by decide +kernel
theorem dd_Mo_endOf_44 : decode bb_Mo_endOf 44 = .ok (.iaload, 1) := by decide +kernel
theorem dd_Mo_endOf_45 : decode bb_Mo_endOf 45 = .ok (.iaload, 1) := by decide +kernel
theorem dd_Mo_endOf_46 : decode bb_Mo_endOf 46 = .ok (.istore_n 1, 1) := by decide +kernel
theorem dd_Mo_endOf_47 : decode bb_Mo_endOf 47 = .ok (.iload_n 1, 1) := by decide +kernel
theorem dd_Mo_endOf_48 : decode bb_Mo_endOf 48 = .ok (.iconst (-1), 1) := by decide +kernel
theorem dd_Mo_endOf_49 : decode bb_Mo_endOf 49 = .ok (.if_icmp .eq 9, 3) := by decide +kernel
theorem dd_Mo_endOf_52 : decode bb_Mo_endOf 52 = .ok (.iload_n 1, 1) := by decide +kernel
theorem dd_Mo_endOf_53 : decode bb_Mo_endOf 53 = .ok (.bipush 100, 2) := by decide +kernel
theorem dd_Mo_endOf_55 : decode bb_Mo_endOf 55 = .ok (.if_icmp .lt 17, 3) := by decide +kernel
theorem dd_Mo_endOf_58 : decode bb_Mo_endOf 58 = .ok (.aload_n 0, 1) := by decide +kernel
theorem dd_Mo_endOf_59 : decode bb_Mo_endOf 59 = .ok (.iconst 5, 1) := by decide +kernel
theorem dd_Mo_endOf_60 : decode bb_Mo_endOf 60 = .ok (.aload_n 0, 1) := by decide +kernel
theorem dd_Mo_endOf_61 : decode bb_Mo_endOf 61 = .ok (.getfield 49, 3) := by decide +kernel
theorem dd_Mo_endOf_64 : decode bb_Mo_endOf 64 = .ok (.aload_n 0, 1) := by decide +kernel
theorem dd_Mo_endOf_65 : decode bb_Mo_endOf 65 = .ok (.getfield 300, 3) := by decide +kernel
theorem dd_Mo_endOf_68 : decode bb_Mo_endOf 68 = .ok (.iaload, 1) := by decide +kernel
theorem dd_Mo_endOf_69 : decode bb_Mo_endOf 69 = .ok (.invokevirtual 303, 3) := by decide +kernel
theorem dd_Mo_endOf_72 : decode bb_Mo_endOf 72 = .ok (.aload_n 0, 1) := by decide +kernel
theorem dd_Mo_endOf_73 : decode bb_Mo_endOf 73 = .ok (.invokevirtual 313, 3) := by decide +kernel
theorem dd_Mo_endOf_76 : decode bb_Mo_endOf 76 = .ok (.iload_n 1, 1) := by decide +kernel
theorem dd_Mo_endOf_77 : decode bb_Mo_endOf 77 = .ok (.ireturn, 1) := by decide +kernel
def f_Mo_endOf_26 (nf : Nat)  (c : Zc) : Option (Int32 × Zc) :=
  some ((-1), c)
def f_Mo_endOf_15 (nf : Nat) (x0 : Nat) (c : Zc) : Option (Int32 × Zc) :=
  (zgi c x0 12 19).bind fun v3 => if v3 = 0 then ((zob c x0 12).bind fun w6 => (f_Mo_wrong nf x0 c).bind fun q5 => f_Mo_endOf_26 nf  q5) else (f_Mo_endOf_26 nf  c)
def f_Mo_endOf_72 (nf : Nat) (x0 : Nat) (x1 : Int32) (c : Zc) : Option (Int32 × Zc) :=
  (zob c x0 12).bind fun w24 => (f_Mo_pass nf x0 c).bind fun q23 => some (x1, q23)
def f_Mo_endOf_58 (nf : Nat) (x0 : Nat) (x1 : Int32) (c : Zc) : Option (Int32 × Zc) :=
  (zgr c x0 12 16).bind fun v18 => (zgi c x0 12 18).bind fun v19 => (zai c v18 0 v19).bind fun v20 => (zob c x0 12).bind fun w22 => (f_Mo_refuse nf x0 5 v20 c).bind fun q21 => f_Mo_endOf_72 nf x0 x1 q21
def f_Mo_endOf (nf : Nat) (a0 : Nat) (c : Zc) : Option (Int32 × Zc) :=
  (zgi c a0 12 19).bind fun v1 => if v1 = 0 then ((zob c a0 12).bind fun w8 => (f_Mo_kind nf a0 c).bind fun q7 => if q7.1 = 2 then ((zob q7.2 a0 12).bind fun w11 => (f_Mo_stands nf a0 q7.2).bind fun q10 => (zgr q10 a0 12 54).bind fun v12 => (zgr q10 a0 12 15).bind fun v13 => (zgi q10 a0 12 18).bind fun v14 => (zai q10 v13 0 v14).bind fun v15 => (zai q10 v12 0 v15).bind fun v16 => if v16 = (-1) then (f_Mo_endOf_58 nf a0 v16 q10) else (if v16 < 100 then (f_Mo_endOf_72 nf a0 v16 q10) else (f_Mo_endOf_58 nf a0 v16 q10))) else (f_Mo_endOf_15 nf a0 q7.2)) else (f_Mo_endOf_15 nf a0 c)
set_option maxRecDepth 100000 in
set_option maxHeartbeats 4000000 in
theorem t_Mo_endOf_26  (X : zX p s m args cd D cid B bb_Mo_endOf 2 rr_Mo zT) (H : zH s meth B n0 (some (.int)) "endOf") {nf : Nat}  {c : Zc} {res : Int32 × Zc} (h : f_Mo_endOf_26 nf  c = some res) : Zz p l e (zRm 3 62 0 0) s m args below meth cd (MQ below (zQi D cid B res.1 res.2 n0 0) args s 0 0 (fun q => B ≤ q)) D cid B 2 0 0 c 26 [] [] := by
  unfold f_Mo_endOf_26 at h
  refine z_iconst (v := (-1)) X dd_Mo_endOf_26 (by decide) ?_
  obtain rfl := Option.some.inj h
  exact z_iret X H.1 H.2.1 H.2.2.1 dd_Mo_endOf_27
set_option maxRecDepth 100000 in
set_option maxHeartbeats 4000000 in
theorem t_Mo_endOf_15  (X : zX p s m args cd D cid B bb_Mo_endOf 2 rr_Mo zT) (H : zH s meth B n0 (some (.int)) "endOf") {nf : Nat} {x0 : Nat} {c : Zc} {res : Int32 × Zc} (h : f_Mo_endOf_15 nf x0 c = some res) : Zz p l e (zRm 3 62 0 0) s m args below meth cd (MQ below (zQi D cid B res.1 res.2 n0 0) args s 0 0 (fun q => B ≤ q)) D cid B 2 0 0 c 15 [(0, .ref x0)] [] := by
  unfold f_Mo_endOf_15 at h
  refine z_aload_n X dd_Mo_endOf_15 rfl 0 rfl ?_
  obtain ⟨v3, ev3, h⟩ := zb h
  refine z_get (j := 19) X dd_Mo_endOf_16 kc_12 ki_12 (by decide) km_1540 (zgi_v ev3) ?_
  refine z_if_ne (tgt := 26) X dd_Mo_endOf_19 (by decide) (fun q4 => ?_) (fun q4 => ?_)
  · rw [if_neg q4] at h
    refine z_sub [] rfl ?_
    exact t_Mo_endOf_26 X H h
  · rw [if_pos q4] at h
    refine z_aload_n X dd_Mo_endOf_22 rfl 0 rfl ?_
    obtain ⟨w6, ew6, h⟩ := zb h
    obtain ⟨q5, eq5, h⟩ := zb h
    refine z_callVv X [] rfl dd_Mo_endOf_23 (c_Mo_wrong l eq5) (cwV 0 X.1.2.2.2.2 (zg_V km_1928 km_1930 km_74 km_138 km_1931) rfl rfl rfl (by decide +kernel) ⟨Nat.le_of_ble_eq_true rfl, Nat.le_of_ble_eq_true rfl⟩) (zob_s ew6) kc_12 rfl (Nat.le_of_ble_eq_true rfl) ⟨Nat.le_of_ble_eq_true rfl, Nat.le_of_ble_eq_true rfl⟩ ?_
    refine z_sub [] rfl ?_
    exact t_Mo_endOf_26 X H h
set_option maxRecDepth 100000 in
set_option maxHeartbeats 4000000 in
theorem t_Mo_endOf_72  (X : zX p s m args cd D cid B bb_Mo_endOf 2 rr_Mo zT) (H : zH s meth B n0 (some (.int)) "endOf") {nf : Nat} {x0 : Nat} {x1 : Int32} {c : Zc} {res : Int32 × Zc} (h : f_Mo_endOf_72 nf x0 x1 c = some res) : Zz p l e (zRm 3 62 0 0) s m args below meth cd (MQ below (zQi D cid B res.1 res.2 n0 0) args s 0 0 (fun q => B ≤ q)) D cid B 2 0 0 c 72 [(0, .ref x0), (1, .int x1)] [] := by
  unfold f_Mo_endOf_72 at h
  refine z_aload_n X dd_Mo_endOf_72 rfl 0 rfl ?_
  obtain ⟨w24, ew24, h⟩ := zb h
  obtain ⟨q23, eq23, h⟩ := zb h
  refine z_callVv X [] rfl dd_Mo_endOf_73 (c_Mo_pass l eq23) (cwV 0 X.1.2.2.2.2 (zg_V km_1920 km_1922 km_72 km_138 km_1923) rfl rfl rfl (by decide +kernel) ⟨Nat.le_of_ble_eq_true rfl, Nat.le_of_ble_eq_true rfl⟩) (zob_s ew24) kc_12 rfl (Nat.le_of_ble_eq_true rfl) ⟨Nat.le_of_ble_eq_true rfl, Nat.le_of_ble_eq_true rfl⟩ ?_
  refine z_iload_n X dd_Mo_endOf_76 rfl 1 rfl ?_
  obtain rfl := Option.some.inj h
  exact z_iret X H.1 H.2.1 H.2.2.1 dd_Mo_endOf_77
set_option maxRecDepth 100000 in
set_option maxHeartbeats 4000000 in
theorem t_Mo_endOf_58  (X : zX p s m args cd D cid B bb_Mo_endOf 2 rr_Mo zT) (H : zH s meth B n0 (some (.int)) "endOf") {nf : Nat} {x0 : Nat} {x1 : Int32} {c : Zc} {res : Int32 × Zc} (h : f_Mo_endOf_58 nf x0 x1 c = some res) : Zz p l e (zRm 3 62 0 0) s m args below meth cd (MQ below (zQi D cid B res.1 res.2 n0 0) args s 0 0 (fun q => B ≤ q)) D cid B 2 0 0 c 58 [(0, .ref x0), (1, .int x1)] [] := by
  unfold f_Mo_endOf_58 at h
  refine z_aload_n X dd_Mo_endOf_58 rfl 0 rfl ?_
  refine z_iconst (v := 5) X dd_Mo_endOf_59 (by decide) ?_
  refine z_aload_n X dd_Mo_endOf_60 rfl 0 rfl ?_
  obtain ⟨v18, ev18, h⟩ := zb h
  refine z_get (j := 16) X dd_Mo_endOf_61 kc_12 ki_12 (by decide) km_1537 (zgr_v ev18) ?_
  refine z_aload_n X dd_Mo_endOf_64 rfl 0 rfl ?_
  obtain ⟨v19, ev19, h⟩ := zb h
  refine z_get (j := 18) X dd_Mo_endOf_65 kc_12 ki_12 (by decide) km_1539 (zgi_v ev19) ?_
  obtain ⟨v20, ev20, h⟩ := zb h
  refine z_iaload X dd_Mo_endOf_68 rfl ev20 ?_
  obtain ⟨w22, ew22, h⟩ := zb h
  obtain ⟨q21, eq21, h⟩ := zb h
  refine z_callVv X [.int 5, .int v20] rfl dd_Mo_endOf_69 (c_Mo_refuse l eq21) (cwV 2 X.1.2.2.2.2 (zg_V km_1916 km_1918 km_71 km_138 km_1919) rfl rfl rfl (by decide +kernel) ⟨Nat.le_of_ble_eq_true rfl, Nat.le_of_ble_eq_true rfl⟩) (zob_s ew22) kc_12 rfl (Nat.le_of_ble_eq_true rfl) ⟨Nat.le_of_ble_eq_true rfl, Nat.le_of_ble_eq_true rfl⟩ ?_
  exact t_Mo_endOf_72 X H h
set_option maxRecDepth 100000 in
set_option maxHeartbeats 4000000 in
theorem c_Mo_endOf (l : Launch) {nf : Nat} {a0 : Nat} {c : Zc} {res : Int32 × Zc} (h : f_Mo_endOf nf a0 c = some res) : zM l yy_Mo_endOf ww_Mo_endOf 3 62 0 0 [.ref a0] c (fun D cid B => zQi D cid B res.1 res.2 c.length 0) := by
  refine z_met (cc := bb_Mo_endOf) (maxL := 2) (ret := (some (.int))) (by decide +kernel) rfl (Nat.le_of_ble_eq_true rfl) ?_
  intro p e s m args below meth cd D cid B X h1 h2 h3 h4
  have X : zX p s m args cd D cid B bb_Mo_endOf 2 rr_Mo zT := X
  have H : zH s meth B c.length (some (.int)) "endOf" := ⟨h1, h2, h4, h3⟩
  unfold f_Mo_endOf at h
  show Zz p l e (zRm 3 62 0 0) s m args below meth cd _ D cid B 2 0 0 c 0 [(0, .ref a0)] []
  refine z_aload_n X dd_Mo_endOf_0 rfl 0 rfl ?_
  obtain ⟨v1, ev1, h⟩ := zb h
  refine z_get (j := 19) X dd_Mo_endOf_1 kc_12 ki_12 (by decide) km_1540 (zgi_v ev1) ?_
  refine z_if_ne (tgt := 15) X dd_Mo_endOf_4 (by decide) (fun q2 => ?_) (fun q2 => ?_)
  · rw [if_neg q2] at h
    exact t_Mo_endOf_15 X H h
  · rw [if_pos q2] at h
    refine z_aload_n X dd_Mo_endOf_7 rfl 0 rfl ?_
    obtain ⟨w8, ew8, h⟩ := zb h
    obtain ⟨q7, eq7, h⟩ := zb h
    refine z_callVi X [] rfl dd_Mo_endOf_8 (c_Mo_kind l eq7) (cwV 0 X.1.2.2.2.2 (zg_V km_1912 km_1914 km_70 km_138 km_1915) rfl rfl rfl (by decide +kernel) ⟨Nat.le_of_ble_eq_true rfl, Nat.le_of_ble_eq_true rfl⟩) (zob_s ew8) kc_12 rfl (Nat.le_of_ble_eq_true rfl) ⟨Nat.le_of_ble_eq_true rfl, Nat.le_of_ble_eq_true rfl⟩ ?_
    refine z_iconst (v := 2) X dd_Mo_endOf_11 (by decide) ?_
    refine z_icmp_eq (tgt := 28) X dd_Mo_endOf_12 (by decide) (fun q9 => ?_) (fun q9 => ?_)
    · rw [if_pos q9] at h
      refine z_aload_n X dd_Mo_endOf_28 rfl 0 rfl ?_
      obtain ⟨w11, ew11, h⟩ := zb h
      obtain ⟨q10, eq10, h⟩ := zb h
      refine z_callVv X [] rfl dd_Mo_endOf_29 (c_Mo_stands l eq10) (cwV 0 X.1.2.2.2.2 (zg_V km_1924 km_1926 km_73 km_138 km_1927) rfl rfl rfl (by decide +kernel) ⟨Nat.le_of_ble_eq_true rfl, Nat.le_of_ble_eq_true rfl⟩) (zob_s ew11) kc_12 rfl (Nat.le_of_ble_eq_true rfl) ⟨Nat.le_of_ble_eq_true rfl, Nat.le_of_ble_eq_true rfl⟩ ?_
      refine z_aload_n X dd_Mo_endOf_32 rfl 0 rfl ?_
      obtain ⟨v12, ev12, h⟩ := zb h
      refine z_get (j := 54) X dd_Mo_endOf_33 kc_12 ki_12 (by decide) km_1575 (zgr_v ev12) ?_
      refine z_aload_n X dd_Mo_endOf_36 rfl 0 rfl ?_
      obtain ⟨v13, ev13, h⟩ := zb h
      refine z_get (j := 15) X dd_Mo_endOf_37 kc_12 ki_12 (by decide) km_1536 (zgr_v ev13) ?_
      refine z_aload_n X dd_Mo_endOf_40 rfl 0 rfl ?_
      obtain ⟨v14, ev14, h⟩ := zb h
      refine z_get (j := 18) X dd_Mo_endOf_41 kc_12 ki_12 (by decide) km_1539 (zgi_v ev14) ?_
      obtain ⟨v15, ev15, h⟩ := zb h
      refine z_iaload X dd_Mo_endOf_44 rfl ev15 ?_
      obtain ⟨v16, ev16, h⟩ := zb h
      refine z_iaload X dd_Mo_endOf_45 rfl ev16 ?_
      refine z_istore_n (lv' := [(1, .int v16), (0, .ref a0)]) X dd_Mo_endOf_46 rfl (by decide) rfl ?_
      refine z_iload_n X dd_Mo_endOf_47 rfl 0 rfl ?_
      refine z_iconst (v := (-1)) X dd_Mo_endOf_48 (by decide) ?_
      refine z_icmp_eq (tgt := 58) X dd_Mo_endOf_49 (by decide) (fun q17 => ?_) (fun q17 => ?_)
      · rw [if_pos q17] at h
        refine z_sub [1, 0] rfl ?_
        exact t_Mo_endOf_58 X H h
      · rw [if_neg q17] at h
        refine z_iload_n X dd_Mo_endOf_52 rfl 0 rfl ?_
        refine z_bipush (v := 100) X dd_Mo_endOf_53 (by decide) ?_
        refine z_icmp_lt (tgt := 72) X dd_Mo_endOf_55 (by decide) (fun q25 => ?_) (fun q25 => ?_)
        · rw [if_pos q25] at h
          refine z_sub [1, 0] rfl ?_
          exact t_Mo_endOf_72 X H h
        · rw [if_neg q25] at h
          refine z_sub [1, 0] rfl ?_
          exact t_Mo_endOf_58 X H h
    · rw [if_neg q9] at h
      exact t_Mo_endOf_15 X H h
theorem dd_Mo_readRule_0 : decode bb_Mo_readRule 0 = .ok (.aload_n 0, 1) := by decide +kernel
theorem dd_Mo_readRule_1 : decode bb_Mo_readRule 1 = .ok (.invokevirtual 435, 3) := by decide +kernel
theorem dd_Mo_readRule_4 : decode bb_Mo_readRule 4 = .ok (.aload_n 0, 1) := by decide +kernel
theorem dd_Mo_readRule_5 : decode bb_Mo_readRule 5 = .ok (.bipush 113, 2) := by decide +kernel
theorem dd_Mo_readRule_7 : decode bb_Mo_readRule 7 = .ok (.invokevirtual 334, 3) := by decide +kernel
theorem dd_Mo_readRule_10 : decode bb_Mo_readRule 10 = .ok (.iconst (-1), 1) := by decide +kernel
theorem dd_Mo_readRule_11 : decode bb_Mo_readRule 11 = .ok (.istore_n 1, 1) := by decide +kernel
theorem dd_Mo_readRule_12 : decode bb_Mo_readRule 12 = .ok (.aload_n 0, 1) := by decide +kernel
theorem dd_Mo_readRule_13 : decode bb_Mo_readRule 13 = .ok (.getfield 294, 3) := by decide +kernel
theorem dd_Mo_readRule_16 : decode bb_Mo_readRule 16 = .ok (.ifCond .ne 49, 3) := by decide +kernel
theorem dd_Mo_readRule_19 : decode bb_Mo_readRule 19 = .ok (.aload_n 0, 1) := by decide +kernel
theorem dd_Mo_readRule_20 : decode bb_Mo_readRule 20 = .ok (.invokevirtual 306, 3) := by decide +kernel
theorem dd_Mo_readRule_23 : decode bb_Mo_readRule 23 = .ok (.iconst 5, 1) := by decide +kernel
theorem dd_Mo_readRule_24 : decode bb_Mo_readRule 24 = .ok (.if_icmp .ne 17, 3) := by decide +kernel
theorem dd_Mo_readRule_27 : decode bb_Mo_readRule 27 = .ok (.aload_n 0, 1) := by decide +kernel
theorem dd_Mo_readRule_28 : decode bb_Mo_readRule 28 = .ok (.getfield 46, 3) := by decide +kernel
theorem dd_Mo_readRule_31 : decode bb_Mo_readRule 31 = .ok (.aload_n 0, 1) := by decide +kernel
theorem dd_Mo_readRule_32 : decode bb_Mo_readRule 32 = .ok (.getfield 300, 3) := by decide +kernel
theorem dd_Mo_readRule_35 : decode bb_Mo_readRule 35 = .ok (.iaload, 1) := by decide +kernel
theorem dd_Mo_readRule_36 : decode bb_Mo_readRule 36 = .ok (.bipush 8, 2) := by decide +kernel
theorem dd_Mo_readRule_38 : decode bb_Mo_readRule 38 = .ok (.if_icmp .ge 10, 3) := by decide +kernel
theorem dd_Mo_readRule_41 : decode bb_Mo_readRule 41 = .ok (.aload_n 0, 1) := by decide +kernel
theorem dd_Mo_readRule_42 : decode bb_Mo_readRule 42 = .ok (.invokevirtual 319, 3) := by decide +kernel
theorem dd_Mo_readRule_45 : decode bb_Mo_readRule 45 = .ok (.goto 20, 3) := by decide +kernel
theorem dd_Mo_readRule_48 : decode bb_Mo_readRule 48 = .ok (.aload_n 0, 1) := by decide +kernel
theorem dd_Mo_readRule_49 : decode bb_Mo_readRule 49 = .ok (.getfield 46, 3) := by decide +kernel
theorem dd_Mo_readRule_52 : decode bb_Mo_readRule 52 = .ok (.aload_n 0, 1) := by decide +kernel
theorem dd_Mo_readRule_53 : decode bb_Mo_readRule 53 = .ok (.getfield 300, 3) := by decide +kernel
theorem dd_Mo_readRule_56 : decode bb_Mo_readRule 56 = .ok (.iaload, 1) := by decide +kernel
theorem dd_Mo_readRule_57 : decode bb_Mo_readRule 57 = .ok (.bipush 8, 2) := by decide +kernel
theorem dd_Mo_readRule_59 : decode bb_Mo_readRule 59 = .ok (.isub, 1) := by decide +kernel
theorem dd_Mo_readRule_60 : decode bb_Mo_readRule 60 = .ok (.istore_n 1, 1) := by decide +kernel
theorem dd_Mo_readRule_61 : decode bb_Mo_readRule 61 = .ok (.aload_n 0, 1) := by decide +kernel
theorem dd_Mo_readRule_62 : decode bb_Mo_readRule 62 = .ok (.invokevirtual 313, 3) := by decide +kernel
theorem dd_Mo_readRule_65 : decode bb_Mo_readRule 65 = .ok (.aload_n 0, 1) := by decide +kernel
theorem dd_Mo_readRule_66 : decode bb_Mo_readRule 66 = .ok (.invokevirtual 438, 3) := by decide +kernel
theorem dd_Mo_readRule_69 : decode bb_Mo_readRule 69 = .ok (.aload_n 0, 1) := by decide +kernel
theorem dd_Mo_readRule_70 : decode bb_Mo_readRule 70 = .ok (.getfield 131, 3) := by decide +kernel
theorem dd_Mo_readRule_73 : decode bb_Mo_readRule 73 = .ok (.aload_n 0, 1) := by decide +kernel
theorem dd_Mo_readRule_74 : decode bb_Mo_readRule 74 = .ok (.getfield 331, 3) := by decide +kernel
theorem dd_Mo_readRule_77 : decode bb_Mo_readRule 77 = .ok (.aload_n 0, 1) := by decide +kernel
theorem dd_Mo_readRule_78 : decode bb_Mo_readRule 78 = .ok (.invokevirtual 447, 3) := by decide +kernel
theorem dd_Mo_readRule_81 : decode bb_Mo_readRule 81 = .ok (.iastore, 1) := by decide +kernel
theorem dd_Mo_readRule_82 : decode bb_Mo_readRule 82 = .ok (.aload_n 0, 1) := by decide +kernel
theorem dd_Mo_readRule_83 : decode bb_Mo_readRule 83 = .ok (.bipush 44, 2) := by decide +kernel
theorem dd_Mo_readRule_85 : decode bb_Mo_readRule 85 = .ok (.invokevirtual 334, 3) := by decide +kernel
theorem dd_Mo_readRule_88 : decode bb_Mo_readRule 88 = .ok (.aload_n 0, 1) := by decide +kernel
theorem dd_Mo_readRule_89 : decode bb_Mo_readRule 89 = .ok (.getfield 134, 3) := by decide +kernel
theorem dd_Mo_readRule_92 : decode bb_Mo_readRule 92 = .ok (.aload_n 0, 1) := by decide +kernel
theorem dd_Mo_readRule_93 : decode bb_Mo_readRule 93 = .ok (.getfield 331, 3) := by decide +kernel
theorem dd_Mo_readRule_96 : decode bb_Mo_readRule 96 = .ok (.aload_n 0, 1) := by decide +kernel
theorem dd_Mo_readRule_97 : decode bb_Mo_readRule 97 = .ok (.invokevirtual 447, 3) := by decide +kernel
theorem dd_Mo_readRule_100 : decode bb_Mo_readRule 100 = .ok (.iastore, 1) := by decide +kernel
theorem dd_Mo_readRule_101 : decode bb_Mo_readRule 101 = .ok (.aload_n 0, 1) := by decide +kernel
theorem dd_Mo_readRule_102 : decode bb_Mo_readRule 102 = .ok (.iload_n 1, 1) := by decide +kernel
theorem dd_Mo_readRule_103 : decode bb_Mo_readRule 103 = .ok (.invokevirtual 444, 3) := by decide +kernel
theorem dd_Mo_readRule_106 : decode bb_Mo_readRule 106 = .ok (.ireturn, 1) := by decide +kernel
def f_Mo_readRule_65 (nf : Nat) (x0 : Nat) (x1 : Int32) (c : Zc) : Option (Int32 × Zc) :=
  (zob c x0 12).bind fun w8 => (f_Mo_patterns nf x0 c).bind fun q7 => (zgr q7 x0 12 48).bind fun v9 => (zgi q7 x0 12 25).bind fun v10 => (zob q7 x0 12).bind fun w12 => (f_Mo_endOf nf x0 q7).bind fun q11 => (zsi q11.2 v9 0 v10 q11.1).bind fun c13 => (zob c13 x0 12).bind fun w15 => (f_Mo_need nf x0 44 c13).bind fun q14 => (zgr q14 x0 12 49).bind fun v16 => (zgi q14 x0 12 25).bind fun v17 => (zob q14 x0 12).bind fun w19 => (f_Mo_endOf nf x0 q14).bind fun q18 => (zsi q18.2 v16 0 v17 q18.1).bind fun c20 => (zob c20 x0 12).bind fun w22 => (f_Mo_ended nf x0 x1 c20).bind fun q21 => some (q21.1, q21.2)
def f_Mo_readRule_41 (nf : Nat) (x0 : Nat) (x1 : Int32) (c : Zc) : Option (Int32 × Zc) :=
  (zob c x0 12).bind fun w27 => (f_Mo_wrong nf x0 c).bind fun q26 => f_Mo_readRule_65 nf x0 x1 q26
def f_Mo_readRule (nf : Nat) (a0 : Nat) (c : Zc) : Option (Int32 × Zc) :=
  (zob c a0 12).bind fun w2 => (f_Mo_begin nf a0 c).bind fun q1 => (zob q1 a0 12).bind fun w4 => (f_Mo_need nf a0 113 q1).bind fun q3 => (zgi q3 a0 12 19).bind fun v5 => if v5 = 0 then ((zob q3 a0 12).bind fun w24 => (f_Mo_kind nf a0 q3).bind fun q23 => if q23.1 = 5 then ((zgr q23.2 a0 12 15).bind fun v28 => (zgi q23.2 a0 12 18).bind fun v29 => (zai q23.2 v28 0 v29).bind fun v30 => if 8 ≤ v30 then ((zgr q23.2 a0 12 15).bind fun v32 => (zgi q23.2 a0 12 18).bind fun v33 => (zai q23.2 v32 0 v33).bind fun v34 => (zob q23.2 a0 12).bind fun w36 => (f_Mo_pass nf a0 q23.2).bind fun q35 => f_Mo_readRule_65 nf a0 (v34 - 8) q35) else (f_Mo_readRule_41 nf a0 (-1) q23.2)) else (f_Mo_readRule_41 nf a0 (-1) q23.2)) else (f_Mo_readRule_65 nf a0 (-1) q3)
set_option maxRecDepth 100000 in
set_option maxHeartbeats 4000000 in
theorem t_Mo_readRule_65  (X : zX p s m args cd D cid B bb_Mo_readRule 2 rr_Mo zT) (H : zH s meth B n0 (some (.int)) "readRule") {nf : Nat} {x0 : Nat} {x1 : Int32} {c : Zc} {res : Int32 × Zc} (h : f_Mo_readRule_65 nf x0 x1 c = some res) : Zz p l e (zRm 14 308 0 0) s m args below meth cd (MQ below (zQi D cid B res.1 res.2 n0 0) args s 0 0 (fun q => B ≤ q)) D cid B 2 0 0 c 65 [(0, .ref x0), (1, .int x1)] [] := by
  unfold f_Mo_readRule_65 at h
  refine z_aload_n X dd_Mo_readRule_65 rfl 0 rfl ?_
  obtain ⟨w8, ew8, h⟩ := zb h
  obtain ⟨q7, eq7, h⟩ := zb h
  refine z_callVv X [] rfl dd_Mo_readRule_66 (c_Mo_patterns l eq7) (cwV 0 X.1.2.2.2.2 (zg_V km_1900 km_1902 km_67 km_138 km_1903) rfl rfl rfl (by decide +kernel) ⟨Nat.le_of_ble_eq_true rfl, Nat.le_of_ble_eq_true rfl⟩) (zob_s ew8) kc_12 rfl (Nat.le_of_ble_eq_true rfl) ⟨Nat.le_of_ble_eq_true rfl, Nat.le_of_ble_eq_true rfl⟩ ?_
  refine z_aload_n X dd_Mo_readRule_69 rfl 0 rfl ?_
  obtain ⟨v9, ev9, h⟩ := zb h
  refine z_get (j := 48) X dd_Mo_readRule_70 kc_12 ki_12 (by decide) km_1569 (zgr_v ev9) ?_
  refine z_aload_n X dd_Mo_readRule_73 rfl 0 rfl ?_
  obtain ⟨v10, ev10, h⟩ := zb h
  refine z_get (j := 25) X dd_Mo_readRule_74 kc_12 ki_12 (by decide) km_1546 (zgi_v ev10) ?_
  refine z_aload_n X dd_Mo_readRule_77 rfl 0 rfl ?_
  obtain ⟨w12, ew12, h⟩ := zb h
  obtain ⟨q11, eq11, h⟩ := zb h
  refine z_callVi X [] rfl dd_Mo_readRule_78 (c_Mo_endOf l eq11) (cwV 0 X.1.2.2.2.2 (zg_V km_2055 km_2057 km_104 km_138 km_2058) rfl rfl rfl (by decide +kernel) ⟨Nat.le_of_ble_eq_true rfl, Nat.le_of_ble_eq_true rfl⟩) (zob_s ew12) kc_12 rfl (Nat.le_of_ble_eq_true rfl) ⟨Nat.le_of_ble_eq_true rfl, Nat.le_of_ble_eq_true rfl⟩ ?_
  obtain ⟨c13, ec13, h⟩ := zb h
  refine z_iastore X dd_Mo_readRule_81 rfl ec13 ?_
  refine z_aload_n X dd_Mo_readRule_82 rfl 0 rfl ?_
  refine z_bipush (v := 44) X dd_Mo_readRule_83 (by decide) ?_
  obtain ⟨w15, ew15, h⟩ := zb h
  obtain ⟨q14, eq14, h⟩ := zb h
  refine z_callVv X [.int 44] rfl dd_Mo_readRule_85 (c_Mo_need l eq14) (cwV 1 X.1.2.2.2.2 (zg_V km_1904 km_1906 km_68 km_138 km_1907) rfl rfl rfl (by decide +kernel) ⟨Nat.le_of_ble_eq_true rfl, Nat.le_of_ble_eq_true rfl⟩) (zob_s ew15) kc_12 rfl (Nat.le_of_ble_eq_true rfl) ⟨Nat.le_of_ble_eq_true rfl, Nat.le_of_ble_eq_true rfl⟩ ?_
  refine z_aload_n X dd_Mo_readRule_88 rfl 0 rfl ?_
  obtain ⟨v16, ev16, h⟩ := zb h
  refine z_get (j := 49) X dd_Mo_readRule_89 kc_12 ki_12 (by decide) km_1570 (zgr_v ev16) ?_
  refine z_aload_n X dd_Mo_readRule_92 rfl 0 rfl ?_
  obtain ⟨v17, ev17, h⟩ := zb h
  refine z_get (j := 25) X dd_Mo_readRule_93 kc_12 ki_12 (by decide) km_1546 (zgi_v ev17) ?_
  refine z_aload_n X dd_Mo_readRule_96 rfl 0 rfl ?_
  obtain ⟨w19, ew19, h⟩ := zb h
  obtain ⟨q18, eq18, h⟩ := zb h
  refine z_callVi X [] rfl dd_Mo_readRule_97 (c_Mo_endOf l eq18) (cwV 0 X.1.2.2.2.2 (zg_V km_2055 km_2057 km_104 km_138 km_2058) rfl rfl rfl (by decide +kernel) ⟨Nat.le_of_ble_eq_true rfl, Nat.le_of_ble_eq_true rfl⟩) (zob_s ew19) kc_12 rfl (Nat.le_of_ble_eq_true rfl) ⟨Nat.le_of_ble_eq_true rfl, Nat.le_of_ble_eq_true rfl⟩ ?_
  obtain ⟨c20, ec20, h⟩ := zb h
  refine z_iastore X dd_Mo_readRule_100 rfl ec20 ?_
  refine z_aload_n X dd_Mo_readRule_101 rfl 0 rfl ?_
  refine z_iload_n X dd_Mo_readRule_102 rfl 1 rfl ?_
  obtain ⟨w22, ew22, h⟩ := zb h
  obtain ⟨q21, eq21, h⟩ := zb h
  refine z_callVi X [.int x1] rfl dd_Mo_readRule_103 (c_Mo_ended l eq21) (cwV 1 X.1.2.2.2.2 (zg_V km_2039 km_2041 km_101 km_138 km_2042) rfl rfl rfl (by decide +kernel) ⟨Nat.le_of_ble_eq_true rfl, Nat.le_of_ble_eq_true rfl⟩) (zob_s ew22) kc_12 rfl (Nat.le_of_ble_eq_true rfl) ⟨Nat.le_of_ble_eq_true rfl, Nat.le_of_ble_eq_true rfl⟩ ?_
  obtain rfl := Option.some.inj h
  exact z_iret X H.1 H.2.1 H.2.2.1 dd_Mo_readRule_106
set_option maxRecDepth 100000 in
set_option maxHeartbeats 4000000 in
theorem t_Mo_readRule_41  (X : zX p s m args cd D cid B bb_Mo_readRule 2 rr_Mo zT) (H : zH s meth B n0 (some (.int)) "readRule") {nf : Nat} {x0 : Nat} {x1 : Int32} {c : Zc} {res : Int32 × Zc} (h : f_Mo_readRule_41 nf x0 x1 c = some res) : Zz p l e (zRm 14 308 0 0) s m args below meth cd (MQ below (zQi D cid B res.1 res.2 n0 0) args s 0 0 (fun q => B ≤ q)) D cid B 2 0 0 c 41 [(0, .ref x0), (1, .int x1)] [] := by
  unfold f_Mo_readRule_41 at h
  refine z_aload_n X dd_Mo_readRule_41 rfl 0 rfl ?_
  obtain ⟨w27, ew27, h⟩ := zb h
  obtain ⟨q26, eq26, h⟩ := zb h
  refine z_callVv X [] rfl dd_Mo_readRule_42 (c_Mo_wrong l eq26) (cwV 0 X.1.2.2.2.2 (zg_V km_1928 km_1930 km_74 km_138 km_1931) rfl rfl rfl (by decide +kernel) ⟨Nat.le_of_ble_eq_true rfl, Nat.le_of_ble_eq_true rfl⟩) (zob_s ew27) kc_12 rfl (Nat.le_of_ble_eq_true rfl) ⟨Nat.le_of_ble_eq_true rfl, Nat.le_of_ble_eq_true rfl⟩ ?_
  refine z_goto (tgt := 65) X dd_Mo_readRule_45 (by decide) ?_
  exact t_Mo_readRule_65 X H h
set_option maxRecDepth 100000 in
set_option maxHeartbeats 4000000 in
theorem c_Mo_readRule (l : Launch) {nf : Nat} {a0 : Nat} {c : Zc} {res : Int32 × Zc} (h : f_Mo_readRule nf a0 c = some res) : zM l yy_Mo_readRule ww_Mo_readRule 14 308 0 0 [.ref a0] c (fun D cid B => zQi D cid B res.1 res.2 c.length 0) := by
  refine z_met (cc := bb_Mo_readRule) (maxL := 2) (ret := (some (.int))) (by decide +kernel) rfl (Nat.le_of_ble_eq_true rfl) ?_
  intro p e s m args below meth cd D cid B X h1 h2 h3 h4
  have X : zX p s m args cd D cid B bb_Mo_readRule 2 rr_Mo zT := X
  have H : zH s meth B c.length (some (.int)) "readRule" := ⟨h1, h2, h4, h3⟩
  unfold f_Mo_readRule at h
  show Zz p l e (zRm 14 308 0 0) s m args below meth cd _ D cid B 2 0 0 c 0 [(0, .ref a0)] []
  refine z_aload_n X dd_Mo_readRule_0 rfl 0 rfl ?_
  obtain ⟨w2, ew2, h⟩ := zb h
  obtain ⟨q1, eq1, h⟩ := zb h
  refine z_callVv X [] rfl dd_Mo_readRule_1 (c_Mo_begin l eq1) (cwV 0 X.1.2.2.2.2 (zg_V km_1852 km_1854 km_63 km_138 km_1855) rfl rfl rfl (by decide +kernel) ⟨Nat.le_of_ble_eq_true rfl, Nat.le_of_ble_eq_true rfl⟩) (zob_s ew2) kc_12 rfl (Nat.le_of_ble_eq_true rfl) ⟨Nat.le_of_ble_eq_true rfl, Nat.le_of_ble_eq_true rfl⟩ ?_
  refine z_aload_n X dd_Mo_readRule_4 rfl 0 rfl ?_
  refine z_bipush (v := 113) X dd_Mo_readRule_5 (by decide) ?_
  obtain ⟨w4, ew4, h⟩ := zb h
  obtain ⟨q3, eq3, h⟩ := zb h
  refine z_callVv X [.int 113] rfl dd_Mo_readRule_7 (c_Mo_need l eq3) (cwV 1 X.1.2.2.2.2 (zg_V km_1904 km_1906 km_68 km_138 km_1907) rfl rfl rfl (by decide +kernel) ⟨Nat.le_of_ble_eq_true rfl, Nat.le_of_ble_eq_true rfl⟩) (zob_s ew4) kc_12 rfl (Nat.le_of_ble_eq_true rfl) ⟨Nat.le_of_ble_eq_true rfl, Nat.le_of_ble_eq_true rfl⟩ ?_
  refine z_iconst (v := (-1)) X dd_Mo_readRule_10 (by decide) ?_
  refine z_istore_n (lv' := [(1, .int (-1)), (0, .ref a0)]) X dd_Mo_readRule_11 rfl (by decide) rfl ?_
  refine z_aload_n X dd_Mo_readRule_12 rfl 1 rfl ?_
  obtain ⟨v5, ev5, h⟩ := zb h
  refine z_get (j := 19) X dd_Mo_readRule_13 kc_12 ki_12 (by decide) km_1540 (zgi_v ev5) ?_
  refine z_if_ne (tgt := 65) X dd_Mo_readRule_16 (by decide) (fun q6 => ?_) (fun q6 => ?_)
  · rw [if_neg q6] at h
    refine z_sub [1, 0] rfl ?_
    exact t_Mo_readRule_65 X H h
  · rw [if_pos q6] at h
    refine z_aload_n X dd_Mo_readRule_19 rfl 1 rfl ?_
    obtain ⟨w24, ew24, h⟩ := zb h
    obtain ⟨q23, eq23, h⟩ := zb h
    refine z_callVi X [] rfl dd_Mo_readRule_20 (c_Mo_kind l eq23) (cwV 0 X.1.2.2.2.2 (zg_V km_1912 km_1914 km_70 km_138 km_1915) rfl rfl rfl (by decide +kernel) ⟨Nat.le_of_ble_eq_true rfl, Nat.le_of_ble_eq_true rfl⟩) (zob_s ew24) kc_12 rfl (Nat.le_of_ble_eq_true rfl) ⟨Nat.le_of_ble_eq_true rfl, Nat.le_of_ble_eq_true rfl⟩ ?_
    refine z_iconst (v := 5) X dd_Mo_readRule_23 (by decide) ?_
    refine z_icmp_ne (tgt := 41) X dd_Mo_readRule_24 (by decide) (fun q25 => ?_) (fun q25 => ?_)
    · rw [if_neg q25] at h
      refine z_sub [1, 0] rfl ?_
      exact t_Mo_readRule_41 X H h
    · rw [if_pos q25] at h
      refine z_aload_n X dd_Mo_readRule_27 rfl 1 rfl ?_
      obtain ⟨v28, ev28, h⟩ := zb h
      refine z_get (j := 15) X dd_Mo_readRule_28 kc_12 ki_12 (by decide) km_1536 (zgr_v ev28) ?_
      refine z_aload_n X dd_Mo_readRule_31 rfl 1 rfl ?_
      obtain ⟨v29, ev29, h⟩ := zb h
      refine z_get (j := 18) X dd_Mo_readRule_32 kc_12 ki_12 (by decide) km_1539 (zgi_v ev29) ?_
      obtain ⟨v30, ev30, h⟩ := zb h
      refine z_iaload X dd_Mo_readRule_35 rfl ev30 ?_
      refine z_bipush (v := 8) X dd_Mo_readRule_36 (by decide) ?_
      refine z_icmp_ge (tgt := 48) X dd_Mo_readRule_38 (by decide) (fun q31 => ?_) (fun q31 => ?_)
      · rw [if_pos q31] at h
        refine z_aload_n X dd_Mo_readRule_48 rfl 1 rfl ?_
        obtain ⟨v32, ev32, h⟩ := zb h
        refine z_get (j := 15) X dd_Mo_readRule_49 kc_12 ki_12 (by decide) km_1536 (zgr_v ev32) ?_
        refine z_aload_n X dd_Mo_readRule_52 rfl 1 rfl ?_
        obtain ⟨v33, ev33, h⟩ := zb h
        refine z_get (j := 18) X dd_Mo_readRule_53 kc_12 ki_12 (by decide) km_1539 (zgi_v ev33) ?_
        obtain ⟨v34, ev34, h⟩ := zb h
        refine z_iaload X dd_Mo_readRule_56 rfl ev34 ?_
        refine z_bipush (v := 8) X dd_Mo_readRule_57 (by decide) ?_
        refine z_isub X dd_Mo_readRule_59 ?_
        refine z_istore_n (lv' := [(1, .int (v34 - 8)), (0, .ref a0)]) X dd_Mo_readRule_60 rfl (by decide) rfl ?_
        refine z_aload_n X dd_Mo_readRule_61 rfl 1 rfl ?_
        obtain ⟨w36, ew36, h⟩ := zb h
        obtain ⟨q35, eq35, h⟩ := zb h
        refine z_callVv X [] rfl dd_Mo_readRule_62 (c_Mo_pass l eq35) (cwV 0 X.1.2.2.2.2 (zg_V km_1920 km_1922 km_72 km_138 km_1923) rfl rfl rfl (by decide +kernel) ⟨Nat.le_of_ble_eq_true rfl, Nat.le_of_ble_eq_true rfl⟩) (zob_s ew36) kc_12 rfl (Nat.le_of_ble_eq_true rfl) ⟨Nat.le_of_ble_eq_true rfl, Nat.le_of_ble_eq_true rfl⟩ ?_
        refine z_sub [1, 0] rfl ?_
        exact t_Mo_readRule_65 X H h
      · rw [if_neg q31] at h
        refine z_sub [1, 0] rfl ?_
        exact t_Mo_readRule_41 X H h
theorem dd_Mo_leadsBy_0 : decode bb_Mo_leadsBy 0 = .ok (.aload_n 0, 1) := by decide +kernel
theorem dd_Mo_leadsBy_1 : decode bb_Mo_leadsBy 1 = .ok (.getfield 107, 3) := by decide +kernel
theorem dd_Mo_leadsBy_4 : decode bb_Mo_leadsBy 4 = .ok (.iload_n 1, 1) := by decide +kernel
theorem dd_Mo_leadsBy_5 : decode bb_Mo_leadsBy 5 = .ok (.iaload, 1) := by decide +kernel
theorem dd_Mo_leadsBy_6 : decode bb_Mo_leadsBy 6 = .ok (.istore 4, 2) := by decide +kernel
theorem dd_Mo_leadsBy_8 : decode bb_Mo_leadsBy 8 = .ok (.aload_n 0, 1) := by decide +kernel
theorem dd_Mo_leadsBy_9 : decode bb_Mo_leadsBy 9 = .ok (.getfield 32, 3) := by decide +kernel
theorem dd_Mo_leadsBy_12 : decode bb_Mo_leadsBy 12 = .ok (.sipush 256, 3) := by decide +kernel
theorem dd_Mo_leadsBy_15 : decode bb_Mo_leadsBy 15 = .ok (.iload 4, 2) := by decide +kernel
theorem dd_Mo_leadsBy_17 : decode bb_Mo_leadsBy 17 = .ok (.imul, 1) := by decide +kernel
theorem dd_Mo_leadsBy_18 : decode bb_Mo_leadsBy 18 = .ok (.aload_n 0, 1) := by decide +kernel
theorem dd_Mo_leadsBy_19 : decode bb_Mo_leadsBy 19 = .ok (.getfield 110, 3) := by decide +kernel
theorem dd_Mo_leadsBy_22 : decode bb_Mo_leadsBy 22 = .ok (.iload_n 1, 1) := by decide +kernel
theorem dd_Mo_leadsBy_23 : decode bb_Mo_leadsBy 23 = .ok (.baload, 1) := by decide +kernel
theorem dd_Mo_leadsBy_24 : decode bb_Mo_leadsBy 24 = .ok (.ifCond .eq 12, 3) := by decide +kernel
theorem dd_Mo_leadsBy_27 : decode bb_Mo_leadsBy 27 = .ok (.bipush 16, 2) := by decide +kernel
theorem dd_Mo_leadsBy_29 : decode bb_Mo_leadsBy 29 = .ok (.iload_n 3, 1) := by decide +kernel
theorem dd_Mo_leadsBy_30 : decode bb_Mo_leadsBy 30 = .ok (.imul, 1) := by decide +kernel
theorem dd_Mo_leadsBy_31 : decode bb_Mo_leadsBy 31 = .ok (.iload_n 2, 1) := by decide +kernel
theorem dd_Mo_leadsBy_32 : decode bb_Mo_leadsBy 32 = .ok (.iadd, 1) := by decide +kernel
theorem dd_Mo_leadsBy_33 : decode bb_Mo_leadsBy 33 = .ok (.goto 9, 3) := by decide +kernel
theorem dd_Mo_leadsBy_36 : decode bb_Mo_leadsBy 36 = .ok (.bipush 16, 2) := by decide +kernel
theorem dd_Mo_leadsBy_38 : decode bb_Mo_leadsBy 38 = .ok (.iload_n 2, 1) := by decide +kernel
theorem dd_Mo_leadsBy_39 : decode bb_Mo_leadsBy 39 = .ok (.imul, 1) := by decide +kernel
theorem dd_Mo_leadsBy_40 : decode bb_Mo_leadsBy 40 = .ok (.iload_n 3, 1) := by decide +kernel
theorem dd_Mo_leadsBy_41 : decode bb_Mo_leadsBy 41 = .ok (.iadd, 1) := by decide +kernel
theorem dd_Mo_leadsBy_42 : decode bb_Mo_leadsBy 42 = .ok (.iadd, 1) := by decide +kernel
theorem dd_Mo_leadsBy_43 : decode bb_Mo_leadsBy 43 = .ok (.iaload, 1) := by decide +kernel
theorem dd_Mo_leadsBy_44 : decode bb_Mo_leadsBy 44 = .ok (.ifCond .le 7, 3) := by decide +kernel
theorem dd_Mo_leadsBy_47 : decode bb_Mo_leadsBy 47 = .ok (.iconst 1, 1) := by decide +kernel
theorem dd_Mo_leadsBy_48 : decode bb_Mo_leadsBy 48 = .ok (.goto 4, 3) := by decide +kernel
theorem dd_Mo_leadsBy_51 : decode bb_Mo_leadsBy 51 = .ok (.iconst 0, 1) := by decide +kernel
theorem dd_Mo_leadsBy_52 : decode bb_Mo_leadsBy 52 = .ok (.ireturn, 1) := by decide +kernel
def f_Mo_leadsBy_52 (nf : Nat) (s0 : Int32) (c : Zc) : Option (Int32 × Zc) :=
  zrz s0 c
def f_Mo_leadsBy_42 (nf : Nat) (s0 : Nat) (s1 : Int32) (s2 : Int32) (c : Zc) : Option (Int32 × Zc) :=
  (zai c s0 0 (s1 + s2)).bind fun v7 => if v7 ≤ 0 then (f_Mo_leadsBy_52 nf 0 c) else (f_Mo_leadsBy_52 nf 1 c)
def f_Mo_leadsBy (nf : Nat) (a0 : Nat) (a1 : Int32) (a2 : Int32) (a3 : Int32) (c : Zc) : Option (Int32 × Zc) :=
  (zgr c a0 12 40).bind fun v1 => (zai c v1 0 a1).bind fun v2 => (zgr c a0 12 9).bind fun v3 => (zgr c a0 12 41).bind fun v4 => (zai c v4 6 a1).bind fun v5 => if v5 = 0 then (f_Mo_leadsBy_42 nf v3 (256 * v2) ((16 * a2) + a3) c) else (f_Mo_leadsBy_42 nf v3 (256 * v2) ((16 * a3) + a2) c)
set_option maxRecDepth 100000 in
set_option maxHeartbeats 4000000 in
theorem t_Mo_leadsBy_52  (X : zX p s m args cd D cid B bb_Mo_leadsBy 5 rr_Mo zT) (H : zH s meth B n0 (some (.boolean)) "leadsBy") {nf : Nat} {s0 : Int32} {c : Zc} {res : Int32 × Zc} (h : f_Mo_leadsBy_52 nf s0 c = some res) : Zz p l e (zRm 0 0 0 0) s m args below meth cd (MQ below (zQi D cid B res.1 res.2 n0 0) args s 0 0 (fun q => B ≤ q)) D cid B 5 0 0 c 52 [] [.int s0] := by
  unfold f_Mo_leadsBy_52 at h
  obtain ⟨hz, h⟩ := zrz_s h
  obtain rfl := h
  exact z_zret X H.1 (zn_z hz) H.2.1 H.2.2.1 dd_Mo_leadsBy_52
set_option maxRecDepth 100000 in
set_option maxHeartbeats 4000000 in
theorem t_Mo_leadsBy_42  (X : zX p s m args cd D cid B bb_Mo_leadsBy 5 rr_Mo zT) (H : zH s meth B n0 (some (.boolean)) "leadsBy") {nf : Nat} {s0 : Nat} {s1 : Int32} {s2 : Int32} {c : Zc} {res : Int32 × Zc} (h : f_Mo_leadsBy_42 nf s0 s1 s2 c = some res) : Zz p l e (zRm 0 0 0 0) s m args below meth cd (MQ below (zQi D cid B res.1 res.2 n0 0) args s 0 0 (fun q => B ≤ q)) D cid B 5 0 0 c 42 [] [.int s2, .int s1, .ref s0] := by
  unfold f_Mo_leadsBy_42 at h
  refine z_iadd X dd_Mo_leadsBy_42 ?_
  obtain ⟨v7, ev7, h⟩ := zb h
  refine z_iaload X dd_Mo_leadsBy_43 rfl ev7 ?_
  refine z_if_le (tgt := 51) X dd_Mo_leadsBy_44 (by decide) (fun q8 => ?_) (fun q8 => ?_)
  · rw [if_pos q8] at h
    refine z_iconst (v := 0) X dd_Mo_leadsBy_51 (by decide) ?_
    exact t_Mo_leadsBy_52 X H h
  · rw [if_neg q8] at h
    refine z_iconst (v := 1) X dd_Mo_leadsBy_47 (by decide) ?_
    refine z_goto (tgt := 52) X dd_Mo_leadsBy_48 (by decide) ?_
    exact t_Mo_leadsBy_52 X H h
set_option maxRecDepth 100000 in
set_option maxHeartbeats 4000000 in
theorem c_Mo_leadsBy (l : Launch) {nf : Nat} {a0 : Nat} {a1 : Int32} {a2 : Int32} {a3 : Int32} {c : Zc} {res : Int32 × Zc} (h : f_Mo_leadsBy nf a0 a1 a2 a3 c = some res) : zM l yy_Mo_leadsBy ww_Mo_leadsBy 0 0 0 0 [.ref a0, .int a1, .int a2, .int a3] c (fun D cid B => zQi D cid B res.1 res.2 c.length 0) := by
  refine z_met (cc := bb_Mo_leadsBy) (maxL := 5) (ret := (some (.boolean))) (by decide +kernel) rfl (Nat.le_of_ble_eq_true rfl) ?_
  intro p e s m args below meth cd D cid B X h1 h2 h3 h4
  have X : zX p s m args cd D cid B bb_Mo_leadsBy 5 rr_Mo zT := X
  have H : zH s meth B c.length (some (.boolean)) "leadsBy" := ⟨h1, h2, h4, h3⟩
  unfold f_Mo_leadsBy at h
  show Zz p l e (zRm 0 0 0 0) s m args below meth cd _ D cid B 5 0 0 c 0 [(0, .ref a0), (1, .int a1), (2, .int a2), (3, .int a3)] []
  refine z_aload_n X dd_Mo_leadsBy_0 rfl 0 rfl ?_
  obtain ⟨v1, ev1, h⟩ := zb h
  refine z_get (j := 40) X dd_Mo_leadsBy_1 kc_12 ki_12 (by decide) km_1561 (zgr_v ev1) ?_
  refine z_iload_n X dd_Mo_leadsBy_4 rfl 1 rfl ?_
  obtain ⟨v2, ev2, h⟩ := zb h
  refine z_iaload X dd_Mo_leadsBy_5 rfl ev2 ?_
  refine z_istore (lv' := [(4, .int v2), (0, .ref a0), (1, .int a1), (2, .int a2), (3, .int a3)]) X dd_Mo_leadsBy_6 (by decide) rfl ?_
  refine z_aload_n X dd_Mo_leadsBy_8 rfl 1 rfl ?_
  obtain ⟨v3, ev3, h⟩ := zb h
  refine z_get (j := 9) X dd_Mo_leadsBy_9 kc_12 ki_12 (by decide) km_1530 (zgr_v ev3) ?_
  refine z_sipush (v := 256) X dd_Mo_leadsBy_12 (by decide) ?_
  refine z_iload X dd_Mo_leadsBy_15 0 rfl ?_
  refine z_imul X dd_Mo_leadsBy_17 ?_
  refine z_aload_n X dd_Mo_leadsBy_18 rfl 1 rfl ?_
  obtain ⟨v4, ev4, h⟩ := zb h
  refine z_get (j := 41) X dd_Mo_leadsBy_19 kc_12 ki_12 (by decide) km_1562 (zgr_v ev4) ?_
  refine z_iload_n X dd_Mo_leadsBy_22 rfl 2 rfl ?_
  obtain ⟨v5, ev5, h⟩ := zb h
  refine z_zaload X dd_Mo_leadsBy_23 rfl ev5 ?_
  refine z_if_eq (tgt := 36) X dd_Mo_leadsBy_24 (by decide) (fun q6 => ?_) (fun q6 => ?_)
  · rw [if_pos q6] at h
    refine z_bipush (v := 16) X dd_Mo_leadsBy_36 (by decide) ?_
    refine z_iload_n X dd_Mo_leadsBy_38 rfl 3 rfl ?_
    refine z_imul X dd_Mo_leadsBy_39 ?_
    refine z_iload_n X dd_Mo_leadsBy_40 rfl 4 rfl ?_
    refine z_iadd X dd_Mo_leadsBy_41 ?_
    refine z_sub [] rfl ?_
    exact t_Mo_leadsBy_42 X H h
  · rw [if_neg q6] at h
    refine z_bipush (v := 16) X dd_Mo_leadsBy_27 (by decide) ?_
    refine z_iload_n X dd_Mo_leadsBy_29 rfl 4 rfl ?_
    refine z_imul X dd_Mo_leadsBy_30 ?_
    refine z_iload_n X dd_Mo_leadsBy_31 rfl 3 rfl ?_
    refine z_iadd X dd_Mo_leadsBy_32 ?_
    refine z_goto (tgt := 42) X dd_Mo_leadsBy_33 (by decide) ?_
    refine z_sub [] rfl ?_
    exact t_Mo_leadsBy_42 X H h
theorem dd_Mo_measure_0 : decode bb_Mo_measure 0 = .ok (.sipush 256, 3) := by decide +kernel
theorem dd_Mo_measure_3 : decode bb_Mo_measure 3 = .ok (.iload_n 1, 1) := by decide +kernel
theorem dd_Mo_measure_4 : decode bb_Mo_measure 4 = .ok (.bipush 11, 2) := by decide +kernel
theorem dd_Mo_measure_6 : decode bb_Mo_measure 6 = .ok (.irem, 1) := by decide +kernel
theorem dd_Mo_measure_7 : decode bb_Mo_measure 7 = .ok (.imul, 1) := by decide +kernel
theorem dd_Mo_measure_8 : decode bb_Mo_measure 8 = .ok (.bipush 16, 2) := by decide +kernel
theorem dd_Mo_measure_10 : decode bb_Mo_measure 10 = .ok (.iload_n 2, 1) := by decide +kernel
theorem dd_Mo_measure_11 : decode bb_Mo_measure 11 = .ok (.imul, 1) := by decide +kernel
theorem dd_Mo_measure_12 : decode bb_Mo_measure 12 = .ok (.iadd, 1) := by decide +kernel
theorem dd_Mo_measure_13 : decode bb_Mo_measure 13 = .ok (.istore_n 3, 1) := by decide +kernel
theorem dd_Mo_measure_14 : decode bb_Mo_measure 14 = .ok (.iconst 0, 1) := by decide +kernel
theorem dd_Mo_measure_15 : decode bb_Mo_measure 15 = .ok (.istore 4, 2) := by decide +kernel
theorem dd_Mo_measure_17 : decode bb_Mo_measure 17 = .ok (.iload 4, 2) := by decide +kernel
theorem dd_Mo_measure_19 : decode bb_Mo_measure 19 = .ok (.bipush 16, 2) := by decide +kernel
theorem dd_Mo_measure_21 : decode bb_Mo_measure 21 = .ok (.if_icmp .ge 19, 3) := by decide +kernel
theorem dd_Mo_measure_24 : decode bb_Mo_measure 24 = .ok (.aload_n 0, 1) := by decide +kernel
theorem dd_Mo_measure_25 : decode bb_Mo_measure 25 = .ok (.getfield 179, 3) := by decide +kernel
theorem dd_Mo_measure_28 : decode bb_Mo_measure 28 = .ok (.iload_n 3, 1) := by decide +kernel
theorem dd_Mo_measure_29 : decode bb_Mo_measure 29 = .ok (.iload 4, 2) := by decide +kernel
theorem dd_Mo_measure_31 : decode bb_Mo_measure 31 = .ok (.iadd, 1) := by decide +kernel
theorem dd_Mo_measure_32 : decode bb_Mo_measure 32 = .ok (.iconst (-1), 1) := by decide +kernel
theorem dd_Mo_measure_33 : decode bb_Mo_measure 33 = .ok (.iastore, 1) := by decide +kernel
theorem dd_Mo_measure_34 : decode bb_Mo_measure 34 = .ok (.iinc 4 1, 3) := by decide +kernel
theorem dd_Mo_measure_37 : decode bb_Mo_measure 37 = .ok (.goto (-20), 3) := by decide +kernel
theorem dd_Mo_measure_40 : decode bb_Mo_measure 40 = .ok (.iconst 0, 1) := by decide +kernel
theorem dd_Mo_measure_41 : decode bb_Mo_measure 41 = .ok (.istore 4, 2) := by decide +kernel
theorem dd_Mo_measure_43 : decode bb_Mo_measure 43 = .ok (.iload 4, 2) := by decide +kernel
theorem dd_Mo_measure_45 : decode bb_Mo_measure 45 = .ok (.sipush 272, 3) := by decide +kernel
theorem dd_Mo_measure_48 : decode bb_Mo_measure 48 = .ok (.if_icmp .ge 17, 3) := by decide +kernel
theorem dd_Mo_measure_51 : decode bb_Mo_measure 51 = .ok (.aload_n 0, 1) := by decide +kernel
theorem dd_Mo_measure_52 : decode bb_Mo_measure 52 = .ok (.getfield 188, 3) := by decide +kernel
theorem dd_Mo_measure_55 : decode bb_Mo_measure 55 = .ok (.iload 4, 2) := by decide +kernel
theorem dd_Mo_measure_57 : decode bb_Mo_measure 57 = .ok (.iconst (-1), 1) := by decide +kernel
theorem dd_Mo_measure_58 : decode bb_Mo_measure 58 = .ok (.iastore, 1) := by decide +kernel
theorem dd_Mo_measure_59 : decode bb_Mo_measure 59 = .ok (.iinc 4 1, 3) := by decide +kernel
theorem dd_Mo_measure_62 : decode bb_Mo_measure 62 = .ok (.goto (-19), 3) := by decide +kernel
theorem dd_Mo_measure_65 : decode bb_Mo_measure 65 = .ok (.aload_n 0, 1) := by decide +kernel
theorem dd_Mo_measure_66 : decode bb_Mo_measure 66 = .ok (.getfield 95, 3) := by decide +kernel
theorem dd_Mo_measure_69 : decode bb_Mo_measure 69 = .ok (.iload_n 1, 1) := by decide +kernel
theorem dd_Mo_measure_70 : decode bb_Mo_measure 70 = .ok (.baload, 1) := by decide +kernel
theorem dd_Mo_measure_71 : decode bb_Mo_measure 71 = .ok (.ifCond .eq 12, 3) := by decide +kernel
theorem dd_Mo_measure_74 : decode bb_Mo_measure 74 = .ok (.aload_n 0, 1) := by decide +kernel
theorem dd_Mo_measure_75 : decode bb_Mo_measure 75 = .ok (.getfield 179, 3) := by decide +kernel
theorem dd_Mo_measure_78 : decode bb_Mo_measure 78 = .ok (.iload_n 3, 1) := by decide +kernel
theorem dd_Mo_measure_79 : decode bb_Mo_measure 79 = .ok (.iload_n 2, 1) := by decide +kernel
theorem dd_Mo_measure_80 : decode bb_Mo_measure 80 = .ok (.iadd, 1) := by decide +kernel
theorem dd_Mo_measure_81 : decode bb_Mo_measure 81 = .ok (.iconst 0, 1) := by decide +kernel
theorem dd_Mo_measure_82 : decode bb_Mo_measure 82 = .ok (.iastore, 1) := by decide +kernel
theorem dd_Mo_measure_83 : decode bb_Mo_measure 83 = .ok (.iconst 0, 1) := by decide +kernel
theorem dd_Mo_measure_84 : decode bb_Mo_measure 84 = .ok (.istore 4, 2) := by decide +kernel
theorem dd_Mo_measure_86 : decode bb_Mo_measure 86 = .ok (.iconst 1, 1) := by decide +kernel
theorem dd_Mo_measure_87 : decode bb_Mo_measure 87 = .ok (.istore 5, 2) := by decide +kernel
theorem dd_Mo_measure_89 : decode bb_Mo_measure 89 = .ok (.aload_n 0, 1) := by decide +kernel
theorem dd_Mo_measure_90 : decode bb_Mo_measure 90 = .ok (.getfield 182, 3) := by decide +kernel
theorem dd_Mo_measure_93 : decode bb_Mo_measure 93 = .ok (.iconst 0, 1) := by decide +kernel
theorem dd_Mo_measure_94 : decode bb_Mo_measure 94 = .ok (.iload_n 2, 1) := by decide +kernel
theorem dd_Mo_measure_95 : decode bb_Mo_measure 95 = .ok (.iastore, 1) := by decide +kernel
theorem dd_Mo_measure_96 : decode bb_Mo_measure 96 = .ok (.aload_n 0, 1) := by decide +kernel
theorem dd_Mo_measure_97 : decode bb_Mo_measure 97 = .ok (.getfield 185, 3) := by decide +kernel
theorem dd_Mo_measure_100 : decode bb_Mo_measure 100 = .ok (.iconst 0, 1) := by decide +kernel
theorem dd_Mo_measure_101 : decode bb_Mo_measure 101 = .ok (.bipush 16, 2) := by decide +kernel
theorem dd_Mo_measure_103 : decode bb_Mo_measure 103 = .ok (.iastore, 1) := by decide +kernel
theorem dd_Mo_measure_104 : decode bb_Mo_measure 104 = .ok (.aload_n 0, 1) := by decide +kernel
theorem dd_Mo_measure_105 : decode bb_Mo_measure 105 = .ok (.getfield 188, 3) := by decide +kernel
theorem dd_Mo_measure_108 : decode bb_Mo_measure 108 = .ok (.sipush 256, 3) := by decide +kernel
theorem dd_Mo_measure_111 : decode bb_Mo_measure 111 = .ok (.iload_n 2, 1) := by decide +kernel
theorem dd_Mo_measure_112 : decode bb_Mo_measure 112 = .ok (.iadd, 1) := by decide +kernel
theorem dd_Mo_measure_113 : decode bb_Mo_measure 113 = .ok (.iconst 0, 1) := by decide +kernel
theorem dd_Mo_measure_114 : decode bb_Mo_measure 114 = .ok (.iastore, 1) := by decide +kernel
theorem dd_Mo_measure_115 : decode bb_Mo_measure 115 = .ok (.iload 4, 2) := by decide +kernel
theorem dd_Mo_measure_117 : decode bb_Mo_measure 117 = .ok (.iload 5, 2) := by decide +kernel
theorem dd_Mo_measure_119 : decode bb_Mo_measure 119 = .ok (.if_icmp .ge 235, 3) := by decide +kernel
theorem dd_Mo_measure_122 : decode bb_Mo_measure 122 = .ok (.aload_n 0, 1) := by decide +kernel
theorem dd_Mo_measure_123 : decode bb_Mo_measure 123 = .ok (.getfield 182, 3) := by decide +kernel
theorem dd_Mo_measure_126 : decode bb_Mo_measure 126 = .ok (.iload 4, 2) := by decide +kernel
theorem dd_Mo_measure_128 : decode bb_Mo_measure 128 = .ok (.iaload, 1) := by decide +kernel
theorem dd_Mo_measure_129 : decode bb_Mo_measure 129 = .ok (.istore 6, 2) := by decide +kernel
theorem dd_Mo_measure_131 : decode bb_Mo_measure 131 = .ok (.aload_n 0, 1) := by decide +kernel
theorem dd_Mo_measure_132 : decode bb_Mo_measure 132 = .ok (.getfield 185, 3) := by decide +kernel
theorem dd_Mo_measure_135 : decode bb_Mo_measure 135 = .ok (.iload 4, 2) := by decide +kernel
theorem dd_Mo_measure_137 : decode bb_Mo_measure 137 = .ok (.iaload, 1) := by decide +kernel
theorem dd_Mo_measure_138 : decode bb_Mo_measure 138 = .ok (.istore 7, 2) := by decide +kernel
theorem dd_Mo_measure_140 : decode bb_Mo_measure 140 = .ok (.iinc 4 1, 3) := by decide +kernel
theorem dd_Mo_measure_143 : decode bb_Mo_measure 143 = .ok (.aload_n 0, 1) := by decide +kernel
theorem dd_Mo_measure_144 : decode bb_Mo_measure 144 = .ok (.getfield 188, 3) := by decide +kernel
theorem dd_Mo_measure_147 : decode bb_Mo_measure 147 = .ok (.bipush 16, 2) := by decide +kernel
theorem dd_Mo_measure_149 : decode bb_Mo_measure 149 = .ok (.iload 7, 2) := by decide +kernel
theorem dd_Mo_measure_151 : decode bb_Mo_measure 151 = .ok (.imul, 1) := by decide +kernel
theorem dd_Mo_measure_152 : decode bb_Mo_measure 152 = .ok (.iload 6, 2) := by decide +kernel
theorem dd_Mo_measure_154 : decode bb_Mo_measure 154 = .ok (.iadd, 1) := by decide +kernel
theorem dd_Mo_measure_155 : decode bb_Mo_measure 155 = .ok (.iaload, 1) := by decide +kernel
theorem dd_Mo_measure_156 : decode bb_Mo_measure 156 = .ok (.istore 8, 2) := by decide +kernel
theorem dd_Mo_measure_158 : decode bb_Mo_measure 158 = .ok (.iload 7, 2) := by decide +kernel
theorem dd_Mo_measure_160 : decode bb_Mo_measure 160 = .ok (.bipush 16, 2) := by decide +kernel
theorem dd_Mo_measure_162 : decode bb_Mo_measure 162 = .ok (.if_icmp .ne 12, 3) := by decide +kernel
theorem dd_Mo_measure_165 : decode bb_Mo_measure 165 = .ok (.aload_n 0, 1) := by decide +kernel
theorem dd_Mo_measure_166 : decode bb_Mo_measure 166 = .ok (.getfield 98, 3) := by decide +kernel
theorem dd_Mo_measure_169 : decode bb_Mo_measure 169 = .ok (.iload_n 1, 1) := by decide +kernel
theorem dd_Mo_measure_170 : decode bb_Mo_measure 170 = .ok (.iaload, 1) := by decide +kernel
theorem dd_Mo_measure_171 : decode bb_Mo_measure 171 = .ok (.goto 15, 3) := by decide +kernel
theorem dd_Mo_measure_174 : decode bb_Mo_measure 174 = .ok (.aload_n 0, 1) := by decide +kernel
theorem dd_Mo_measure_175 : decode bb_Mo_measure 175 = .ok (.getfield 113, 3) := by decide +kernel
theorem dd_Mo_measure_178 : decode bb_Mo_measure 178 = .ok (.bipush 16, 2) := by decide +kernel
theorem dd_Mo_measure_180 : decode bb_Mo_measure 180 = .ok (.iload_n 1, 1) := by decide +kernel
theorem dd_Mo_measure_181 : decode bb_Mo_measure 181 = .ok (.imul, 1) := by decide +kernel
theorem dd_Mo_measure_182 : decode bb_Mo_measure 182 = .ok (.iload 7, 2) := by decide +kernel
theorem dd_Mo_measure_184 : decode bb_Mo_measure 184 = .ok (.iadd, 1) := by decide +kernel
theorem dd_Mo_measure_185 : decode bb_Mo_measure 185 = .ok (.iaload, 1) := by decide +kernel
theorem dd_Mo_measure_186 : decode bb_Mo_measure 186 = .ok (.istore 9, 2) := by decide +kernel
theorem dd_Mo_measure_188 : decode bb_Mo_measure 188 = .ok (.iconst 0, 1) := by decide +kernel
theorem dd_Mo_measure_189 : decode bb_Mo_measure 189 = .ok (.istore 10, 2) := by decide +kernel
theorem dd_Mo_measure_191 : decode bb_Mo_measure 191 = .ok (.iload 10, 2) := by decide +kernel
theorem dd_Mo_measure_193 : decode bb_Mo_measure 193 = .ok (.aload_n 0, 1) := by decide +kernel
theorem dd_Mo_measure_194 : decode bb_Mo_measure 194 = .ok (.getfield 104, 3) := by decide +kernel
theorem dd_Mo_measure_197 : decode bb_Mo_measure 197 = .ok (.iload_n 1, 1) := by decide +kernel
theorem dd_Mo_measure_198 : decode bb_Mo_measure 198 = .ok (.iaload, 1) := by decide +kernel
theorem dd_Mo_measure_199 : decode bb_Mo_measure 199 = .ok (.if_icmp .ge 152, 3) := by decide +kernel
theorem dd_Mo_measure_202 : decode bb_Mo_measure 202 = .ok (.iconst 0, 1) := by decide +kernel
theorem dd_Mo_measure_203 : decode bb_Mo_measure 203 = .ok (.istore 11, 2) := by decide +kernel
theorem dd_Mo_measure_205 : decode bb_Mo_measure 205 = .ok (.iload 11, 2) := by decide +kernel
theorem dd_Mo_measure_207 : decode bb_Mo_measure 207 = .ok (.aload_n 0, 1) := by decide +kernel
theorem dd_Mo_measure_208 : decode bb_Mo_measure 208 = .ok (.getfield 450, 3) := by decide +kernel
theorem dd_Mo_measure_211 : decode bb_Mo_measure 211 = .ok (.if_icmp .ge 134, 3) := by decide +kernel
theorem dd_Mo_measure_214 : decode bb_Mo_measure 214 = .ok (.iload 9, 2) := by decide +kernel
theorem dd_Mo_measure_216 : decode bb_Mo_measure 216 = .ok (.iload 10, 2) := by decide +kernel
theorem dd_Mo_measure_218 : decode bb_Mo_measure 218 = .ok (.ishr, 1) := by decide +kernel
theorem dd_Mo_measure_219 : decode bb_Mo_measure 219 = .ok (.iconst 1, 1) := by decide +kernel
theorem dd_Mo_measure_220 : decode bb_Mo_measure 220 = .ok (.iand, 1) := by decide +kernel
theorem dd_Mo_measure_221 : decode bb_Mo_measure 221 = .ok (.iconst 1, 1) := by decide +kernel
theorem dd_Mo_measure_222 : decode bb_Mo_measure 222 = .ok (.if_icmp .ne 123, 3) := by decide +kernel
theorem dd_Mo_measure_225 : decode bb_Mo_measure 225 = .ok (.aload_n 0, 1) := by decide +kernel
theorem dd_Mo_measure_226 : decode bb_Mo_measure 226 = .ok (.getfield 188, 3) := by decide +kernel
theorem dd_Mo_measure_229 : decode bb_Mo_measure 229 = .ok (.bipush 16, 2) := by decide +kernel
theorem dd_Mo_measure_231 : decode bb_Mo_measure 231 = .ok (.iload 10, 2) := by decide +kernel
theorem dd_Mo_measure_233 : decode bb_Mo_measure 233 = .ok (.imul, 1) := by decide +kernel
theorem dd_Mo_measure_234 : decode bb_Mo_measure 234 = .ok (.iload 11, 2) := by decide +kernel
theorem dd_Mo_measure_236 : decode bb_Mo_measure 236 = .ok (.iadd, 1) := by decide +kernel
theorem dd_Mo_measure_237 : decode bb_Mo_measure 237 = .ok (.iaload, 1) := by decide +kernel
theorem dd_Mo_measure_238 : decode bb_Mo_measure 238 = .ok (.iconst (-1), 1) := by decide +kernel
theorem dd_Mo_measure_239 : decode bb_Mo_measure 239 = .ok (.if_icmp .ne 100, 3) := by decide +kernel
theorem dd_Mo_measure_242 : decode bb_Mo_measure 242 = .ok (.aload_n 0, 1) := by decide +kernel
theorem dd_Mo_measure_243 : decode bb_Mo_measure 243 = .ok (.bipush 16, 2) := by decide +kernel
theorem dd_Mo_measure_245 : decode bb_Mo_measure 245 = .ok (.iload_n 1, 1) := by decide +kernel
theorem dd_Mo_measure_246 : decode bb_Mo_measure 246 = .ok (.imul, 1) := by decide +kernel
theorem dd_Mo_measure_247 : decode bb_Mo_measure 247 = .ok (.iload 10, 2) := by decide +kernel
theorem dd_Mo_measure_249 : decode bb_Mo_measure 249 = .ok (.iadd, 1) := by decide +kernel
theorem dd_Mo_measure_250 : decode bb_Mo_measure 250 = .ok (.iload 6, 2) := by decide +kernel
theorem dd_Mo_measure_252 : decode bb_Mo_measure 252 = .ok (.iload 11, 2) := by decide +kernel
theorem dd_Mo_measure_254 : decode bb_Mo_measure 254 = .ok (.invokevirtual 453, 3) := by decide +kernel
theorem dd_Mo_measure_257 : decode bb_Mo_measure 257 = .ok (.ifCond .eq 82, 3) := by decide +kernel
theorem dd_Mo_measure_260 : decode bb_Mo_measure 260 = .ok (.aload_n 0, 1) := by decide +kernel
theorem dd_Mo_measure_261 : decode bb_Mo_measure 261 = .ok (.getfield 188, 3) := by decide +kernel
theorem dd_Mo_measure_264 : decode bb_Mo_measure 264 = .ok (.bipush 16, 2) := by decide +kernel
theorem dd_Mo_measure_266 : decode bb_Mo_measure 266 = .ok (.iload 10, 2) := by decide +kernel
theorem dd_Mo_measure_268 : decode bb_Mo_measure 268 = .ok (.imul, 1) := by decide +kernel
theorem dd_Mo_measure_269 : decode bb_Mo_measure 269 = .ok (.iload 11, 2) := by decide +kernel
theorem dd_Mo_measure_271 : decode bb_Mo_measure 271 = .ok (.iadd, 1) := by decide +kernel
theorem dd_Mo_measure_272 : decode bb_Mo_measure 272 = .ok (.iload 8, 2) := by decide +kernel
theorem dd_Mo_measure_274 : decode bb_Mo_measure 274 = .ok (.iconst 1, 1) := by decide +kernel
theorem dd_Mo_measure_275 : decode bb_Mo_measure 275 = .ok (.iadd, 1) := by decide +kernel
theorem dd_Mo_measure_276 : decode bb_Mo_measure 276 = .ok (.iastore, 1) := by decide +kernel
theorem dd_Mo_measure_277 : decode bb_Mo_measure 277 = .ok (.aload_n 0, 1) := by decide +kernel
theorem dd_Mo_measure_278 : decode bb_Mo_measure 278 = .ok (.getfield 182, 3) := by decide +kernel
theorem dd_Mo_measure_281 : decode bb_Mo_measure 281 = .ok (.iload 5, 2) := by decide +kernel
theorem dd_Mo_measure_283 : decode bb_Mo_measure 283 = .ok (.iload 11, 2) := by decide +kernel
theorem dd_Mo_measure_285 : decode bb_Mo_measure 285 = .ok (.iastore, 1) := by decide +kernel
theorem dd_Mo_measure_286 : decode bb_Mo_measure 286 = .ok (.aload_n 0, 1) := by decide +kernel
theorem dd_Mo_measure_287 : decode bb_Mo_measure 287 = .ok (.getfield 185, 3) := by decide +kernel
theorem dd_Mo_measure_290 : decode bb_Mo_measure 290 = .ok (.iload 5, 2) := by decide +kernel
theorem dd_Mo_measure_292 : decode bb_Mo_measure 292 = .ok (.iload 10, 2) := by decide +kernel
theorem dd_Mo_measure_294 : decode bb_Mo_measure 294 = .ok (.iastore, 1) := by decide +kernel
theorem dd_Mo_measure_295 : decode bb_Mo_measure 295 = .ok (.iinc 5 1, 3) := by decide +kernel
theorem dd_Mo_measure_298 : decode bb_Mo_measure 298 = .ok (.aload_n 0, 1) := by decide +kernel
theorem dd_Mo_measure_299 : decode bb_Mo_measure 299 = .ok (.getfield 101, 3) := by decide +kernel
theorem dd_Mo_measure_302 : decode bb_Mo_measure 302 = .ok (.iload_n 1, 1) := by decide +kernel
theorem dd_Mo_measure_303 : decode bb_Mo_measure 303 = .ok (.iaload, 1) := by decide +kernel
theorem dd_Mo_measure_304 : decode bb_Mo_measure 304 = .ok (.iload 10, 2) := by decide +kernel
theorem dd_Mo_measure_306 : decode bb_Mo_measure 306 = .ok (.ishr, 1) := by decide +kernel
theorem dd_Mo_measure_307 : decode bb_Mo_measure 307 = .ok (.iconst 1, 1) := by decide +kernel
theorem dd_Mo_measure_308 : decode bb_Mo_measure 308 = .ok (.iand, 1) := by decide +kernel
theorem dd_Mo_measure_309 : decode bb_Mo_measure 309 = .ok (.iconst 1, 1) := by decide +kernel
theorem dd_Mo_measure_310 : decode bb_Mo_measure 310 = .ok (.if_icmp .ne 29, 3) := by decide +kernel
theorem dd_Mo_measure_313 : decode bb_Mo_measure 313 = .ok (.aload_n 0, 1) := by decide +kernel
theorem dd_Mo_measure_314 : decode bb_Mo_measure 314 = .ok (.getfield 179, 3) := by decide +kernel
theorem dd_Mo_measure_317 : decode bb_Mo_measure 317 = .ok (.iload_n 3, 1) := by decide +kernel
theorem dd_Mo_measure_318 : decode bb_Mo_measure 318 = .ok (.iload 11, 2) := by decide +kernel
theorem dd_Mo_measure_320 : decode bb_Mo_measure 320 = .ok (.iadd, 1) := by decide +kernel
theorem dd_Mo_measure_321 : decode bb_Mo_measure 321 = .ok (.iaload, 1) := by decide +kernel
theorem dd_Mo_measure_322 : decode bb_Mo_measure 322 = .ok (.iconst (-1), 1) := by decide +kernel
theorem dd_Mo_measure_323 : decode bb_Mo_measure 323 = .ok (.if_icmp .ne 16, 3) := by decide +kernel
theorem dd_Mo_measure_326 : decode bb_Mo_measure 326 = .ok (.aload_n 0, 1) := by decide +kernel
theorem dd_Mo_measure_327 : decode bb_Mo_measure 327 = .ok (.getfield 179, 3) := by decide +kernel
theorem dd_Mo_measure_330 : decode bb_Mo_measure 330 = .ok (.iload_n 3, 1) := by decide +kernel
theorem dd_Mo_measure_331 : decode bb_Mo_measure 331 = .ok (.iload 11, 2) := by decide +kernel
theorem dd_Mo_measure_333 : decode bb_Mo_measure 333 = .ok (.iadd, 1) := by decide +kernel
theorem dd_Mo_measure_334 : decode bb_Mo_measure 334 = .ok (.iload 8, 2) := by decide +kernel
theorem dd_Mo_measure_336 : decode bb_Mo_measure 336 = .ok (.iconst 1, 1) := by decide +kernel
theorem dd_Mo_measure_337 : decode bb_Mo_measure 337 = .ok (.iadd, 1) := by decide +kernel
theorem dd_Mo_measure_338 : decode bb_Mo_measure 338 = .ok (.iastore, 1) := by decide +kernel
theorem dd_Mo_measure_339 : decode bb_Mo_measure 339 = .ok (.iinc 11 1, 3) := by decide +kernel
theorem dd_Mo_measure_342 : decode bb_Mo_measure 342 = .ok (.goto (-137), 3) := by decide +kernel
theorem dd_Mo_measure_345 : decode bb_Mo_measure 345 = .ok (.iinc 10 1, 3) := by decide +kernel
theorem dd_Mo_measure_348 : decode bb_Mo_measure 348 = .ok (.goto (-157), 3) := by decide +kernel
theorem dd_Mo_measure_351 : decode bb_Mo_measure 351 = .ok (.goto (-236), 3) := by decide +kernel
theorem dd_Mo_measure_354 : decode bb_Mo_measure 354 = .ok (.return_, 1) := by decide +kernel
def g_Mo_measure_17 (nf : Nat) (x0 : Nat) (x1 : Int32) (x2 : Int32) (x3 : Int32) (x4 : Int32) (c : Zc) : Option ((Nat × Int32 × Int32 × Int32 × Int32 × Zc) ⊕ (Nat × Int32 × Int32 × Int32 × Zc)) :=
  if 16 ≤ x4 then (some (.inr (x0, x1, x2, x3, c))) else ((zgr c x0 12 70).bind fun v3 => (zsi c v3 0 (x3 + x4) (-1)).bind fun c4 => some (.inl (x0, x1, x2, x3, (x4 + 1), c4)))
def g_Mo_measure_43 (nf : Nat) (x0 : Nat) (x1 : Int32) (x2 : Int32) (x3 : Int32) (x4 : Int32) (c : Zc) : Option ((Nat × Int32 × Int32 × Int32 × Int32 × Zc) ⊕ (Nat × Int32 × Int32 × Int32 × Zc)) :=
  if 272 ≤ x4 then (some (.inr (x0, x1, x2, x3, c))) else ((zgr c x0 12 73).bind fun v6 => (zsi c v6 0 x4 (-1)).bind fun c7 => some (.inl (x0, x1, x2, x3, (x4 + 1), c7)))
def f_Mo_measure_339 (nf : Nat) (x0 : Nat) (x1 : Int32) (x3 : Int32) (x4 : Int32) (x5 : Int32) (x6 : Int32) (x8 : Int32) (x9 : Int32) (x10 : Int32) (x11 : Int32) (c : Zc) : Option ((Nat × Int32 × Int32 × Int32 × Int32 × Int32 × Int32 × Int32 × Int32 × Int32 × Zc) ⊕ (Nat × Int32 × Int32 × Int32 × Int32 × Int32 × Int32 × Int32 × Int32 × Zc)) :=
  some (.inl (x0, x1, x3, x4, x5, x6, x8, x9, x10, (x11 + 1), c))
def g_Mo_measure_205 (nf : Nat) (x0 : Nat) (x1 : Int32) (x3 : Int32) (x4 : Int32) (x5 : Int32) (x6 : Int32) (x8 : Int32) (x9 : Int32) (x10 : Int32) (x11 : Int32) (c : Zc) : Option ((Nat × Int32 × Int32 × Int32 × Int32 × Int32 × Int32 × Int32 × Int32 × Int32 × Zc) ⊕ (Nat × Int32 × Int32 × Int32 × Int32 × Int32 × Int32 × Int32 × Int32 × Zc)) :=
  (zgi c x0 12 0).bind fun v30 => if v30 ≤ x11 then (some (.inr (x0, x1, x3, x4, x5, x6, x8, x9, x10, c))) else (if ((x9 >>> (x10 &&& 31)) &&& 1) = 1 then ((zgr c x0 12 73).bind fun v33 => (zai c v33 0 ((16 * x10) + x11)).bind fun v34 => if v34 = (-1) then ((zob c x0 12).bind fun w37 => (f_Mo_leadsBy nf x0 ((16 * x1) + x10) x6 x11 c).bind fun q36 => if q36.1 = 0 then (f_Mo_measure_339 nf x0 x1 x3 x4 x5 x6 x8 x9 x10 x11 q36.2) else ((zgr q36.2 x0 12 73).bind fun v39 => (zsi q36.2 v39 0 ((16 * x10) + x11) (x8 + 1)).bind fun c40 => (zgr c40 x0 12 71).bind fun v41 => (zsi c40 v41 0 x5 x11).bind fun c42 => (zgr c42 x0 12 72).bind fun v43 => (zsi c42 v43 0 x5 x10).bind fun c44 => (zgr c44 x0 12 38).bind fun v45 => (zai c44 v45 0 x1).bind fun v46 => if ((v46 >>> (x10 &&& 31)) &&& 1) = 1 then ((zgr c44 x0 12 70).bind fun v48 => (zai c44 v48 0 (x3 + x11)).bind fun v49 => if v49 = (-1) then ((zgr c44 x0 12 70).bind fun v51 => (zsi c44 v51 0 (x3 + x11) (x8 + 1)).bind fun c52 => f_Mo_measure_339 nf x0 x1 x3 x4 (x5 + 1) x6 x8 x9 x10 x11 c52) else (f_Mo_measure_339 nf x0 x1 x3 x4 (x5 + 1) x6 x8 x9 x10 x11 c44)) else (f_Mo_measure_339 nf x0 x1 x3 x4 (x5 + 1) x6 x8 x9 x10 x11 c44))) else (f_Mo_measure_339 nf x0 x1 x3 x4 x5 x6 x8 x9 x10 x11 c)) else (some (.inr (x0, x1, x3, x4, x5, x6, x8, x9, x10, c))))
def f_Mo_measure_345 (nf : Nat) (x0 : Nat) (x1 : Int32) (x3 : Int32) (x4 : Int32) (x5 : Int32) (x6 : Int32) (x8 : Int32) (x9 : Int32) (x10 : Int32) (c : Zc) : Option ((Nat × Int32 × Int32 × Int32 × Int32 × Int32 × Int32 × Int32 × Int32 × Zc) ⊕ (Nat × Int32 × Int32 × Int32 × Int32 × Zc)) :=
  some (.inl (x0, x1, x3, x4, x5, x6, x8, x9, (x10 + 1), c))
def f_Mo_measure_205 (nf : Nat) (x0 : Nat) (x1 : Int32) (x3 : Int32) (x4 : Int32) (x5 : Int32) (x6 : Int32) (x8 : Int32) (x9 : Int32) (x10 : Int32) (x11 : Int32) (c : Zc) : Option ((Nat × Int32 × Int32 × Int32 × Int32 × Int32 × Int32 × Int32 × Int32 × Zc) ⊕ (Nat × Int32 × Int32 × Int32 × Int32 × Zc)) :=
  (zlp (fun a => g_Mo_measure_205 nf a.1 a.2.1 a.2.2.1 a.2.2.2.1 a.2.2.2.2.1 a.2.2.2.2.2.1 a.2.2.2.2.2.2.1 a.2.2.2.2.2.2.2.1 a.2.2.2.2.2.2.2.2.1 a.2.2.2.2.2.2.2.2.2.1 a.2.2.2.2.2.2.2.2.2.2) nf (x0, x1, x3, x4, x5, x6, x8, x9, x10, x11, c)).bind fun b => f_Mo_measure_345 nf b.1 b.2.1 b.2.2.1 b.2.2.2.1 b.2.2.2.2.1 b.2.2.2.2.2.1 b.2.2.2.2.2.2.1 b.2.2.2.2.2.2.2.1 b.2.2.2.2.2.2.2.2.1 b.2.2.2.2.2.2.2.2.2
def g_Mo_measure_191 (nf : Nat) (x0 : Nat) (x1 : Int32) (x3 : Int32) (x4 : Int32) (x5 : Int32) (x6 : Int32) (x8 : Int32) (x9 : Int32) (x10 : Int32) (c : Zc) : Option ((Nat × Int32 × Int32 × Int32 × Int32 × Int32 × Int32 × Int32 × Int32 × Zc) ⊕ (Nat × Int32 × Int32 × Int32 × Int32 × Zc)) :=
  (zgr c x0 12 39).bind fun v27 => (zai c v27 0 x1).bind fun v28 => if v28 ≤ x10 then (some (.inr (x0, x1, x3, x4, x5, c))) else (f_Mo_measure_205 nf x0 x1 x3 x4 x5 x6 x8 x9 x10 0 c)
def f_Mo_measure_191 (nf : Nat) (x0 : Nat) (x1 : Int32) (x3 : Int32) (x4 : Int32) (x5 : Int32) (x6 : Int32) (x8 : Int32) (x9 : Int32) (x10 : Int32) (c : Zc) : Option ((Nat × Int32 × Int32 × Int32 × Int32 × Zc) ⊕ (Zc)) :=
  (zlp (fun a => g_Mo_measure_191 nf a.1 a.2.1 a.2.2.1 a.2.2.2.1 a.2.2.2.2.1 a.2.2.2.2.2.1 a.2.2.2.2.2.2.1 a.2.2.2.2.2.2.2.1 a.2.2.2.2.2.2.2.2.1 a.2.2.2.2.2.2.2.2.2) nf (x0, x1, x3, x4, x5, x6, x8, x9, x10, c)).bind fun b => some (.inl (b.1, b.2.1, b.2.2.1, b.2.2.2.1, b.2.2.2.2.1, b.2.2.2.2.2))
def f_Mo_measure_186 (nf : Nat) (x0 : Nat) (x1 : Int32) (x3 : Int32) (x4 : Int32) (x5 : Int32) (x6 : Int32) (x8 : Int32) (s0 : Int32) (c : Zc) : Option ((Nat × Int32 × Int32 × Int32 × Int32 × Zc) ⊕ (Zc)) :=
  f_Mo_measure_191 nf x0 x1 x3 x4 x5 x6 x8 s0 0 c
def g_Mo_measure_115 (nf : Nat) (x0 : Nat) (x1 : Int32) (x3 : Int32) (x4 : Int32) (x5 : Int32) (c : Zc) : Option ((Nat × Int32 × Int32 × Int32 × Int32 × Zc) ⊕ (Zc)) :=
  if x5 ≤ x4 then (some (.inr c)) else ((zgr c x0 12 71).bind fun v18 => (zai c v18 0 x4).bind fun v19 => (zgr c x0 12 72).bind fun v20 => (zai c v20 0 x4).bind fun v21 => (zgr c x0 12 73).bind fun v22 => (zai c v22 0 ((16 * v21) + v19)).bind fun v23 => if v21 = 16 then ((zgr c x0 12 37).bind fun v53 => (zai c v53 0 x1).bind fun v54 => f_Mo_measure_186 nf x0 x1 x3 (x4 + 1) x5 v19 v23 v54 c) else ((zgr c x0 12 42).bind fun v25 => (zai c v25 0 ((16 * x1) + v21)).bind fun v26 => f_Mo_measure_186 nf x0 x1 x3 (x4 + 1) x5 v19 v23 v26 c))
def f_Mo_measure_115 (nf : Nat) (x0 : Nat) (x1 : Int32) (x3 : Int32) (x4 : Int32) (x5 : Int32) (c : Zc) : Option (Zc) :=
  (zlp (fun a => g_Mo_measure_115 nf a.1 a.2.1 a.2.2.1 a.2.2.2.1 a.2.2.2.2.1 a.2.2.2.2.2) nf (x0, x1, x3, x4, x5, c)).bind fun b => some b
def f_Mo_measure_83 (nf : Nat) (x0 : Nat) (x1 : Int32) (x2 : Int32) (x3 : Int32) (c : Zc) : Option (Zc) :=
  (zgr c x0 12 71).bind fun v11 => (zsi c v11 0 0 x2).bind fun c12 => (zgr c12 x0 12 72).bind fun v13 => (zsi c12 v13 0 0 16).bind fun c14 => (zgr c14 x0 12 73).bind fun v15 => (zsi c14 v15 0 (256 + x2) 0).bind fun c16 => f_Mo_measure_115 nf x0 x1 x3 0 1 c16
def f_Mo_measure_43 (nf : Nat) (x0 : Nat) (x1 : Int32) (x2 : Int32) (x3 : Int32) (x4 : Int32) (c : Zc) : Option (Zc) :=
  (zlp (fun a => g_Mo_measure_43 nf a.1 a.2.1 a.2.2.1 a.2.2.2.1 a.2.2.2.2.1 a.2.2.2.2.2) nf (x0, x1, x2, x3, x4, c)).bind fun b => (zgr b.2.2.2.2 b.1 12 36).bind fun v8 => (zai b.2.2.2.2 v8 6 b.2.1).bind fun v9 => if v9 = 0 then (f_Mo_measure_83 nf b.1 b.2.1 b.2.2.1 b.2.2.2.1 b.2.2.2.2) else ((zgr b.2.2.2.2 b.1 12 70).bind fun v55 => (zsi b.2.2.2.2 v55 0 (b.2.2.2.1 + b.2.2.1) 0).bind fun c56 => f_Mo_measure_83 nf b.1 b.2.1 b.2.2.1 b.2.2.2.1 c56)
def f_Mo_measure_17 (nf : Nat) (x0 : Nat) (x1 : Int32) (x2 : Int32) (x3 : Int32) (x4 : Int32) (c : Zc) : Option (Zc) :=
  (zlp (fun a => g_Mo_measure_17 nf a.1 a.2.1 a.2.2.1 a.2.2.2.1 a.2.2.2.2.1 a.2.2.2.2.2) nf (x0, x1, x2, x3, x4, c)).bind fun b => f_Mo_measure_43 nf b.1 b.2.1 b.2.2.1 b.2.2.2.1 0 b.2.2.2.2
def f_Mo_measure (nf : Nat) (a0 : Nat) (a1 : Int32) (a2 : Int32) (c : Zc) : Option (Zc) :=
  f_Mo_measure_17 nf a0 a1 a2 ((256 * (a1 - a1 / 11 * 11)) + (16 * a2)) 0 c
set_option maxRecDepth 100000 in
set_option maxHeartbeats 4000000 in
theorem u_Mo_measure_17  (X : zX p s m args cd D cid B bb_Mo_measure 12 rr_Mo zT) (H : zH s meth B n0 none "measure") {nf : Nat} {x0 : Nat} {x1 : Int32} {x2 : Int32} {x3 : Int32} {x4 : Int32} {c : Zc} {r : (Nat × Int32 × Int32 × Int32 × Int32 × Zc) ⊕ (Nat × Int32 × Int32 × Int32 × Zc)} (h : g_Mo_measure_17 nf x0 x1 x2 x3 x4 c = some r) (k0 : ∀ a, r = .inl a → (fun a : Nat × Int32 × Int32 × Int32 × Int32 × Zc => Zz p l e (zRm 1 24 0 0) s m args below meth cd Q D cid B 12 0 0 a.2.2.2.2.2 17 [(0, .ref a.1), (1, .int a.2.1), (2, .int a.2.2.1), (3, .int a.2.2.2.1), (4, .int a.2.2.2.2.1)] []) a) (k1 : ∀ b, r = .inr b → (fun b : Nat × Int32 × Int32 × Int32 × Zc => Zz p l e (zRm 1 24 0 0) s m args below meth cd Q D cid B 12 0 0 b.2.2.2.2 40 [(0, .ref b.1), (1, .int b.2.1), (2, .int b.2.2.1), (3, .int b.2.2.2.1)] []) b) : Zz p l e (zRm 1 24 0 0) s m args below meth cd Q D cid B 12 0 0 c 17 [(0, .ref x0), (1, .int x1), (2, .int x2), (3, .int x3), (4, .int x4)] [] := by
  unfold g_Mo_measure_17 at h
  refine z_iload X dd_Mo_measure_17 4 rfl ?_
  refine z_bipush (v := 16) X dd_Mo_measure_19 (by decide) ?_
  refine z_icmp_ge (tgt := 40) X dd_Mo_measure_21 (by decide) (fun q2 => ?_) (fun q2 => ?_)
  · rw [if_pos q2] at h
    refine z_sub [0, 1, 2, 3] rfl ?_
    obtain rfl := Option.some.inj h
    exact k1 _ rfl
  · rw [if_neg q2] at h
    refine z_aload_n X dd_Mo_measure_24 rfl 0 rfl ?_
    obtain ⟨v3, ev3, h⟩ := zb h
    refine z_get (j := 70) X dd_Mo_measure_25 kc_12 ki_12 (by decide) km_1591 (zgr_v ev3) ?_
    refine z_iload_n X dd_Mo_measure_28 rfl 3 rfl ?_
    refine z_iload X dd_Mo_measure_29 4 rfl ?_
    refine z_iadd X dd_Mo_measure_31 ?_
    refine z_iconst (v := (-1)) X dd_Mo_measure_32 (by decide) ?_
    obtain ⟨c4, ec4, h⟩ := zb h
    refine z_iastore X dd_Mo_measure_33 rfl ec4 ?_
    refine z_iinc (v := (x4 + 1)) (lv' := [(4, .int (x4 + 1)), (0, .ref x0), (1, .int x1), (2, .int x2), (3, .int x3)]) X dd_Mo_measure_34 4 rfl rfl (by decide) rfl ?_
    refine z_goto (tgt := 17) X dd_Mo_measure_37 (by decide) ?_
    refine z_sub [1, 2, 3, 4, 0] rfl ?_
    obtain rfl := Option.some.inj h
    exact k0 _ rfl
set_option maxRecDepth 100000 in
set_option maxHeartbeats 4000000 in
theorem u_Mo_measure_43  (X : zX p s m args cd D cid B bb_Mo_measure 12 rr_Mo zT) (H : zH s meth B n0 none "measure") {nf : Nat} {x0 : Nat} {x1 : Int32} {x2 : Int32} {x3 : Int32} {x4 : Int32} {c : Zc} {r : (Nat × Int32 × Int32 × Int32 × Int32 × Zc) ⊕ (Nat × Int32 × Int32 × Int32 × Zc)} (h : g_Mo_measure_43 nf x0 x1 x2 x3 x4 c = some r) (k0 : ∀ a, r = .inl a → (fun a : Nat × Int32 × Int32 × Int32 × Int32 × Zc => Zz p l e (zRm 1 24 0 0) s m args below meth cd Q D cid B 12 0 0 a.2.2.2.2.2 43 [(0, .ref a.1), (1, .int a.2.1), (2, .int a.2.2.1), (3, .int a.2.2.2.1), (4, .int a.2.2.2.2.1)] []) a) (k1 : ∀ b, r = .inr b → (fun b : Nat × Int32 × Int32 × Int32 × Zc => Zz p l e (zRm 1 24 0 0) s m args below meth cd Q D cid B 12 0 0 b.2.2.2.2 65 [(0, .ref b.1), (1, .int b.2.1), (2, .int b.2.2.1), (3, .int b.2.2.2.1)] []) b) : Zz p l e (zRm 1 24 0 0) s m args below meth cd Q D cid B 12 0 0 c 43 [(0, .ref x0), (1, .int x1), (2, .int x2), (3, .int x3), (4, .int x4)] [] := by
  unfold g_Mo_measure_43 at h
  refine z_iload X dd_Mo_measure_43 4 rfl ?_
  refine z_sipush (v := 272) X dd_Mo_measure_45 (by decide) ?_
  refine z_icmp_ge (tgt := 65) X dd_Mo_measure_48 (by decide) (fun q5 => ?_) (fun q5 => ?_)
  · rw [if_pos q5] at h
    refine z_sub [0, 1, 2, 3] rfl ?_
    obtain rfl := Option.some.inj h
    exact k1 _ rfl
  · rw [if_neg q5] at h
    refine z_aload_n X dd_Mo_measure_51 rfl 0 rfl ?_
    obtain ⟨v6, ev6, h⟩ := zb h
    refine z_get (j := 73) X dd_Mo_measure_52 kc_12 ki_12 (by decide) km_1594 (zgr_v ev6) ?_
    refine z_iload X dd_Mo_measure_55 4 rfl ?_
    refine z_iconst (v := (-1)) X dd_Mo_measure_57 (by decide) ?_
    obtain ⟨c7, ec7, h⟩ := zb h
    refine z_iastore X dd_Mo_measure_58 rfl ec7 ?_
    refine z_iinc (v := (x4 + 1)) (lv' := [(4, .int (x4 + 1)), (0, .ref x0), (1, .int x1), (2, .int x2), (3, .int x3)]) X dd_Mo_measure_59 4 rfl rfl (by decide) rfl ?_
    refine z_goto (tgt := 43) X dd_Mo_measure_62 (by decide) ?_
    refine z_sub [1, 2, 3, 4, 0] rfl ?_
    obtain rfl := Option.some.inj h
    exact k0 _ rfl
set_option maxRecDepth 100000 in
set_option maxHeartbeats 4000000 in
theorem t_Mo_measure_339  (X : zX p s m args cd D cid B bb_Mo_measure 12 rr_Mo zT) (H : zH s meth B n0 none "measure") {nf : Nat} {x0 : Nat} {x1 : Int32} {x3 : Int32} {x4 : Int32} {x5 : Int32} {x6 : Int32} {x8 : Int32} {x9 : Int32} {x10 : Int32} {x11 : Int32} {c : Zc} {r : (Nat × Int32 × Int32 × Int32 × Int32 × Int32 × Int32 × Int32 × Int32 × Int32 × Zc) ⊕ (Nat × Int32 × Int32 × Int32 × Int32 × Int32 × Int32 × Int32 × Int32 × Zc)} (h : f_Mo_measure_339 nf x0 x1 x3 x4 x5 x6 x8 x9 x10 x11 c = some r) (k0 : ∀ a, r = .inl a → (fun a : Nat × Int32 × Int32 × Int32 × Int32 × Int32 × Int32 × Int32 × Int32 × Int32 × Zc => Zz p l e (zRm 1 24 0 0) s m args below meth cd Q D cid B 12 0 0 a.2.2.2.2.2.2.2.2.2.2 205 [(0, .ref a.1), (1, .int a.2.1), (3, .int a.2.2.1), (4, .int a.2.2.2.1), (5, .int a.2.2.2.2.1), (6, .int a.2.2.2.2.2.1), (8, .int a.2.2.2.2.2.2.1), (9, .int a.2.2.2.2.2.2.2.1), (10, .int a.2.2.2.2.2.2.2.2.1), (11, .int a.2.2.2.2.2.2.2.2.2.1)] []) a) (k1 : ∀ b, r = .inr b → (fun b : Nat × Int32 × Int32 × Int32 × Int32 × Int32 × Int32 × Int32 × Int32 × Zc => Zz p l e (zRm 1 24 0 0) s m args below meth cd Q D cid B 12 0 0 b.2.2.2.2.2.2.2.2.2 345 [(0, .ref b.1), (1, .int b.2.1), (3, .int b.2.2.1), (4, .int b.2.2.2.1), (5, .int b.2.2.2.2.1), (6, .int b.2.2.2.2.2.1), (8, .int b.2.2.2.2.2.2.1), (9, .int b.2.2.2.2.2.2.2.1), (10, .int b.2.2.2.2.2.2.2.2.1)] []) b) : Zz p l e (zRm 1 24 0 0) s m args below meth cd Q D cid B 12 0 0 c 339 [(0, .ref x0), (1, .int x1), (3, .int x3), (4, .int x4), (5, .int x5), (6, .int x6), (8, .int x8), (9, .int x9), (10, .int x10), (11, .int x11)] [] := by
  unfold f_Mo_measure_339 at h
  refine z_iinc (v := (x11 + 1)) (lv' := [(11, .int (x11 + 1)), (0, .ref x0), (1, .int x1), (3, .int x3), (4, .int x4), (5, .int x5), (6, .int x6), (8, .int x8), (9, .int x9), (10, .int x10)]) X dd_Mo_measure_339 9 rfl rfl (by decide) rfl ?_
  refine z_goto (tgt := 205) X dd_Mo_measure_342 (by decide) ?_
  refine z_sub [1, 2, 3, 4, 5, 6, 7, 8, 9, 0] rfl ?_
  obtain rfl := Option.some.inj h
  exact k0 _ rfl
set_option maxRecDepth 100000 in
set_option maxHeartbeats 4000000 in
theorem u_Mo_measure_205  (X : zX p s m args cd D cid B bb_Mo_measure 12 rr_Mo zT) (H : zH s meth B n0 none "measure") {nf : Nat} {x0 : Nat} {x1 : Int32} {x3 : Int32} {x4 : Int32} {x5 : Int32} {x6 : Int32} {x8 : Int32} {x9 : Int32} {x10 : Int32} {x11 : Int32} {c : Zc} {r : (Nat × Int32 × Int32 × Int32 × Int32 × Int32 × Int32 × Int32 × Int32 × Int32 × Zc) ⊕ (Nat × Int32 × Int32 × Int32 × Int32 × Int32 × Int32 × Int32 × Int32 × Zc)} (h : g_Mo_measure_205 nf x0 x1 x3 x4 x5 x6 x8 x9 x10 x11 c = some r) (k0 : ∀ a, r = .inl a → (fun a : Nat × Int32 × Int32 × Int32 × Int32 × Int32 × Int32 × Int32 × Int32 × Int32 × Zc => Zz p l e (zRm 1 24 0 0) s m args below meth cd Q D cid B 12 0 0 a.2.2.2.2.2.2.2.2.2.2 205 [(0, .ref a.1), (1, .int a.2.1), (3, .int a.2.2.1), (4, .int a.2.2.2.1), (5, .int a.2.2.2.2.1), (6, .int a.2.2.2.2.2.1), (8, .int a.2.2.2.2.2.2.1), (9, .int a.2.2.2.2.2.2.2.1), (10, .int a.2.2.2.2.2.2.2.2.1), (11, .int a.2.2.2.2.2.2.2.2.2.1)] []) a) (k1 : ∀ b, r = .inr b → (fun b : Nat × Int32 × Int32 × Int32 × Int32 × Int32 × Int32 × Int32 × Int32 × Zc => Zz p l e (zRm 1 24 0 0) s m args below meth cd Q D cid B 12 0 0 b.2.2.2.2.2.2.2.2.2 345 [(0, .ref b.1), (1, .int b.2.1), (3, .int b.2.2.1), (4, .int b.2.2.2.1), (5, .int b.2.2.2.2.1), (6, .int b.2.2.2.2.2.1), (8, .int b.2.2.2.2.2.2.1), (9, .int b.2.2.2.2.2.2.2.1), (10, .int b.2.2.2.2.2.2.2.2.1)] []) b) : Zz p l e (zRm 1 24 0 0) s m args below meth cd Q D cid B 12 0 0 c 205 [(0, .ref x0), (1, .int x1), (3, .int x3), (4, .int x4), (5, .int x5), (6, .int x6), (8, .int x8), (9, .int x9), (10, .int x10), (11, .int x11)] [] := by
  unfold g_Mo_measure_205 at h
  refine z_iload X dd_Mo_measure_205 9 rfl ?_
  refine z_aload_n X dd_Mo_measure_207 rfl 0 rfl ?_
  obtain ⟨v30, ev30, h⟩ := zb h
  refine z_get (j := 0) X dd_Mo_measure_208 kc_12 ki_12 (by decide) km_1521 (zgi_v ev30) ?_
  refine z_icmp_ge (tgt := 345) X dd_Mo_measure_211 (by decide) (fun q31 => ?_) (fun q31 => ?_)
  · rw [if_pos q31] at h
    refine z_sub [0, 1, 2, 3, 4, 5, 6, 7, 8] rfl ?_
    obtain rfl := Option.some.inj h
    exact k1 _ rfl
  · rw [if_neg q31] at h
    refine z_iload X dd_Mo_measure_214 7 rfl ?_
    refine z_iload X dd_Mo_measure_216 8 rfl ?_
    refine z_ishr X dd_Mo_measure_218 ?_
    refine z_iconst (v := 1) X dd_Mo_measure_219 (by decide) ?_
    refine z_iand X dd_Mo_measure_220 ?_
    refine z_iconst (v := 1) X dd_Mo_measure_221 (by decide) ?_
    refine z_icmp_ne (tgt := 345) X dd_Mo_measure_222 (by decide) (fun q32 => ?_) (fun q32 => ?_)
    · rw [if_neg q32] at h
      refine z_sub [0, 1, 2, 3, 4, 5, 6, 7, 8] rfl ?_
      obtain rfl := Option.some.inj h
      exact k1 _ rfl
    · rw [if_pos q32] at h
      refine z_aload_n X dd_Mo_measure_225 rfl 0 rfl ?_
      obtain ⟨v33, ev33, h⟩ := zb h
      refine z_get (j := 73) X dd_Mo_measure_226 kc_12 ki_12 (by decide) km_1594 (zgr_v ev33) ?_
      refine z_bipush (v := 16) X dd_Mo_measure_229 (by decide) ?_
      refine z_iload X dd_Mo_measure_231 8 rfl ?_
      refine z_imul X dd_Mo_measure_233 ?_
      refine z_iload X dd_Mo_measure_234 9 rfl ?_
      refine z_iadd X dd_Mo_measure_236 ?_
      obtain ⟨v34, ev34, h⟩ := zb h
      refine z_iaload X dd_Mo_measure_237 rfl ev34 ?_
      refine z_iconst (v := (-1)) X dd_Mo_measure_238 (by decide) ?_
      refine z_icmp_ne (tgt := 339) X dd_Mo_measure_239 (by decide) (fun q35 => ?_) (fun q35 => ?_)
      · rw [if_neg q35] at h
        exact t_Mo_measure_339 X H h k0 k1
      · rw [if_pos q35] at h
        refine z_aload_n X dd_Mo_measure_242 rfl 0 rfl ?_
        refine z_bipush (v := 16) X dd_Mo_measure_243 (by decide) ?_
        refine z_iload_n X dd_Mo_measure_245 rfl 1 rfl ?_
        refine z_imul X dd_Mo_measure_246 ?_
        refine z_iload X dd_Mo_measure_247 8 rfl ?_
        refine z_iadd X dd_Mo_measure_249 ?_
        refine z_iload X dd_Mo_measure_250 5 rfl ?_
        refine z_iload X dd_Mo_measure_252 9 rfl ?_
        obtain ⟨w37, ew37, h⟩ := zb h
        obtain ⟨q36, eq36, h⟩ := zb h
        refine z_callVi X [.int ((16 * x1) + x10), .int x6, .int x11] rfl dd_Mo_measure_254 (c_Mo_leadsBy l eq36) (cwV 3 X.1.2.2.2.2 (zg_V km_2093 km_2095 km_110 km_138 km_2096) rfl rfl rfl (by decide +kernel) ⟨Nat.le_of_ble_eq_true rfl, Nat.le_of_ble_eq_true rfl⟩) (zob_s ew37) kc_12 rfl (Nat.le_of_ble_eq_true rfl) ⟨Nat.le_of_ble_eq_true rfl, Nat.le_of_ble_eq_true rfl⟩ ?_
        refine z_if_eq (tgt := 339) X dd_Mo_measure_257 (by decide) (fun q38 => ?_) (fun q38 => ?_)
        · rw [if_pos q38] at h
          exact t_Mo_measure_339 X H h k0 k1
        · rw [if_neg q38] at h
          refine z_aload_n X dd_Mo_measure_260 rfl 0 rfl ?_
          obtain ⟨v39, ev39, h⟩ := zb h
          refine z_get (j := 73) X dd_Mo_measure_261 kc_12 ki_12 (by decide) km_1594 (zgr_v ev39) ?_
          refine z_bipush (v := 16) X dd_Mo_measure_264 (by decide) ?_
          refine z_iload X dd_Mo_measure_266 8 rfl ?_
          refine z_imul X dd_Mo_measure_268 ?_
          refine z_iload X dd_Mo_measure_269 9 rfl ?_
          refine z_iadd X dd_Mo_measure_271 ?_
          refine z_iload X dd_Mo_measure_272 6 rfl ?_
          refine z_iconst (v := 1) X dd_Mo_measure_274 (by decide) ?_
          refine z_iadd X dd_Mo_measure_275 ?_
          obtain ⟨c40, ec40, h⟩ := zb h
          refine z_iastore X dd_Mo_measure_276 rfl ec40 ?_
          refine z_aload_n X dd_Mo_measure_277 rfl 0 rfl ?_
          obtain ⟨v41, ev41, h⟩ := zb h
          refine z_get (j := 71) X dd_Mo_measure_278 kc_12 ki_12 (by decide) km_1592 (zgr_v ev41) ?_
          refine z_iload X dd_Mo_measure_281 4 rfl ?_
          refine z_iload X dd_Mo_measure_283 9 rfl ?_
          obtain ⟨c42, ec42, h⟩ := zb h
          refine z_iastore X dd_Mo_measure_285 rfl ec42 ?_
          refine z_aload_n X dd_Mo_measure_286 rfl 0 rfl ?_
          obtain ⟨v43, ev43, h⟩ := zb h
          refine z_get (j := 72) X dd_Mo_measure_287 kc_12 ki_12 (by decide) km_1593 (zgr_v ev43) ?_
          refine z_iload X dd_Mo_measure_290 4 rfl ?_
          refine z_iload X dd_Mo_measure_292 8 rfl ?_
          obtain ⟨c44, ec44, h⟩ := zb h
          refine z_iastore X dd_Mo_measure_294 rfl ec44 ?_
          refine z_iinc (v := (x5 + 1)) (lv' := [(5, .int (x5 + 1)), (0, .ref x0), (1, .int x1), (3, .int x3), (4, .int x4), (6, .int x6), (8, .int x8), (9, .int x9), (10, .int x10), (11, .int x11)]) X dd_Mo_measure_295 4 rfl rfl (by decide) rfl ?_
          refine z_aload_n X dd_Mo_measure_298 rfl 1 rfl ?_
          obtain ⟨v45, ev45, h⟩ := zb h
          refine z_get (j := 38) X dd_Mo_measure_299 kc_12 ki_12 (by decide) km_1559 (zgr_v ev45) ?_
          refine z_iload_n X dd_Mo_measure_302 rfl 2 rfl ?_
          obtain ⟨v46, ev46, h⟩ := zb h
          refine z_iaload X dd_Mo_measure_303 rfl ev46 ?_
          refine z_iload X dd_Mo_measure_304 8 rfl ?_
          refine z_ishr X dd_Mo_measure_306 ?_
          refine z_iconst (v := 1) X dd_Mo_measure_307 (by decide) ?_
          refine z_iand X dd_Mo_measure_308 ?_
          refine z_iconst (v := 1) X dd_Mo_measure_309 (by decide) ?_
          refine z_icmp_ne (tgt := 339) X dd_Mo_measure_310 (by decide) (fun q47 => ?_) (fun q47 => ?_)
          · rw [if_neg q47] at h
            refine z_sub [1, 2, 3, 4, 0, 5, 6, 7, 8, 9] rfl ?_
            exact t_Mo_measure_339 X H h k0 k1
          · rw [if_pos q47] at h
            refine z_aload_n X dd_Mo_measure_313 rfl 1 rfl ?_
            obtain ⟨v48, ev48, h⟩ := zb h
            refine z_get (j := 70) X dd_Mo_measure_314 kc_12 ki_12 (by decide) km_1591 (zgr_v ev48) ?_
            refine z_iload_n X dd_Mo_measure_317 rfl 3 rfl ?_
            refine z_iload X dd_Mo_measure_318 9 rfl ?_
            refine z_iadd X dd_Mo_measure_320 ?_
            obtain ⟨v49, ev49, h⟩ := zb h
            refine z_iaload X dd_Mo_measure_321 rfl ev49 ?_
            refine z_iconst (v := (-1)) X dd_Mo_measure_322 (by decide) ?_
            refine z_icmp_ne (tgt := 339) X dd_Mo_measure_323 (by decide) (fun q50 => ?_) (fun q50 => ?_)
            · rw [if_neg q50] at h
              refine z_sub [1, 2, 3, 4, 0, 5, 6, 7, 8, 9] rfl ?_
              exact t_Mo_measure_339 X H h k0 k1
            · rw [if_pos q50] at h
              refine z_aload_n X dd_Mo_measure_326 rfl 1 rfl ?_
              obtain ⟨v51, ev51, h⟩ := zb h
              refine z_get (j := 70) X dd_Mo_measure_327 kc_12 ki_12 (by decide) km_1591 (zgr_v ev51) ?_
              refine z_iload_n X dd_Mo_measure_330 rfl 3 rfl ?_
              refine z_iload X dd_Mo_measure_331 9 rfl ?_
              refine z_iadd X dd_Mo_measure_333 ?_
              refine z_iload X dd_Mo_measure_334 6 rfl ?_
              refine z_iconst (v := 1) X dd_Mo_measure_336 (by decide) ?_
              refine z_iadd X dd_Mo_measure_337 ?_
              obtain ⟨c52, ec52, h⟩ := zb h
              refine z_iastore X dd_Mo_measure_338 rfl ec52 ?_
              refine z_sub [1, 2, 3, 4, 0, 5, 6, 7, 8, 9] rfl ?_
              exact t_Mo_measure_339 X H h k0 k1
set_option maxRecDepth 100000 in
set_option maxHeartbeats 4000000 in
theorem t_Mo_measure_345  (X : zX p s m args cd D cid B bb_Mo_measure 12 rr_Mo zT) (H : zH s meth B n0 none "measure") {nf : Nat} {x0 : Nat} {x1 : Int32} {x3 : Int32} {x4 : Int32} {x5 : Int32} {x6 : Int32} {x8 : Int32} {x9 : Int32} {x10 : Int32} {c : Zc} {r : (Nat × Int32 × Int32 × Int32 × Int32 × Int32 × Int32 × Int32 × Int32 × Zc) ⊕ (Nat × Int32 × Int32 × Int32 × Int32 × Zc)} (h : f_Mo_measure_345 nf x0 x1 x3 x4 x5 x6 x8 x9 x10 c = some r) (k0 : ∀ a, r = .inl a → (fun a : Nat × Int32 × Int32 × Int32 × Int32 × Int32 × Int32 × Int32 × Int32 × Zc => Zz p l e (zRm 1 24 0 0) s m args below meth cd Q D cid B 12 0 0 a.2.2.2.2.2.2.2.2.2 191 [(0, .ref a.1), (1, .int a.2.1), (3, .int a.2.2.1), (4, .int a.2.2.2.1), (5, .int a.2.2.2.2.1), (6, .int a.2.2.2.2.2.1), (8, .int a.2.2.2.2.2.2.1), (9, .int a.2.2.2.2.2.2.2.1), (10, .int a.2.2.2.2.2.2.2.2.1)] []) a) (k1 : ∀ b, r = .inr b → (fun b : Nat × Int32 × Int32 × Int32 × Int32 × Zc => Zz p l e (zRm 1 24 0 0) s m args below meth cd Q D cid B 12 0 0 b.2.2.2.2.2 351 [(0, .ref b.1), (1, .int b.2.1), (3, .int b.2.2.1), (4, .int b.2.2.2.1), (5, .int b.2.2.2.2.1)] []) b) : Zz p l e (zRm 1 24 0 0) s m args below meth cd Q D cid B 12 0 0 c 345 [(0, .ref x0), (1, .int x1), (3, .int x3), (4, .int x4), (5, .int x5), (6, .int x6), (8, .int x8), (9, .int x9), (10, .int x10)] [] := by
  unfold f_Mo_measure_345 at h
  refine z_iinc (v := (x10 + 1)) (lv' := [(10, .int (x10 + 1)), (0, .ref x0), (1, .int x1), (3, .int x3), (4, .int x4), (5, .int x5), (6, .int x6), (8, .int x8), (9, .int x9)]) X dd_Mo_measure_345 8 rfl rfl (by decide) rfl ?_
  refine z_goto (tgt := 191) X dd_Mo_measure_348 (by decide) ?_
  refine z_sub [1, 2, 3, 4, 5, 6, 7, 8, 0] rfl ?_
  obtain rfl := Option.some.inj h
  exact k0 _ rfl
set_option maxRecDepth 100000 in
set_option maxHeartbeats 4000000 in
theorem t_Mo_measure_205  (X : zX p s m args cd D cid B bb_Mo_measure 12 rr_Mo zT) (H : zH s meth B n0 none "measure") {nf : Nat} {x0 : Nat} {x1 : Int32} {x3 : Int32} {x4 : Int32} {x5 : Int32} {x6 : Int32} {x8 : Int32} {x9 : Int32} {x10 : Int32} {x11 : Int32} {c : Zc} {r : (Nat × Int32 × Int32 × Int32 × Int32 × Int32 × Int32 × Int32 × Int32 × Zc) ⊕ (Nat × Int32 × Int32 × Int32 × Int32 × Zc)} (h : f_Mo_measure_205 nf x0 x1 x3 x4 x5 x6 x8 x9 x10 x11 c = some r) (k0 : ∀ a, r = .inl a → (fun a : Nat × Int32 × Int32 × Int32 × Int32 × Int32 × Int32 × Int32 × Int32 × Zc => Zz p l e (zRm 1 24 0 0) s m args below meth cd Q D cid B 12 0 0 a.2.2.2.2.2.2.2.2.2 191 [(0, .ref a.1), (1, .int a.2.1), (3, .int a.2.2.1), (4, .int a.2.2.2.1), (5, .int a.2.2.2.2.1), (6, .int a.2.2.2.2.2.1), (8, .int a.2.2.2.2.2.2.1), (9, .int a.2.2.2.2.2.2.2.1), (10, .int a.2.2.2.2.2.2.2.2.1)] []) a) (k1 : ∀ b, r = .inr b → (fun b : Nat × Int32 × Int32 × Int32 × Int32 × Zc => Zz p l e (zRm 1 24 0 0) s m args below meth cd Q D cid B 12 0 0 b.2.2.2.2.2 351 [(0, .ref b.1), (1, .int b.2.1), (3, .int b.2.2.1), (4, .int b.2.2.2.1), (5, .int b.2.2.2.2.1)] []) b) : Zz p l e (zRm 1 24 0 0) s m args below meth cd Q D cid B 12 0 0 c 205 [(0, .ref x0), (1, .int x1), (3, .int x3), (4, .int x4), (5, .int x5), (6, .int x6), (8, .int x8), (9, .int x9), (10, .int x10), (11, .int x11)] [] := by
  unfold f_Mo_measure_205 at h
  obtain ⟨b, eb, h⟩ := zb h
  refine zlp_ok (P := fun a : Nat × Int32 × Int32 × Int32 × Int32 × Int32 × Int32 × Int32 × Int32 × Int32 × Zc => Zz p l e (zRm 1 24 0 0) s m args below meth cd _ D cid B 12 0 0 a.2.2.2.2.2.2.2.2.2.2 205 [(0, .ref a.1), (1, .int a.2.1), (3, .int a.2.2.1), (4, .int a.2.2.2.1), (5, .int a.2.2.2.2.1), (6, .int a.2.2.2.2.2.1), (8, .int a.2.2.2.2.2.2.1), (9, .int a.2.2.2.2.2.2.2.1), (10, .int a.2.2.2.2.2.2.2.2.1), (11, .int a.2.2.2.2.2.2.2.2.2.1)] []) (G := fun b : Nat × Int32 × Int32 × Int32 × Int32 × Int32 × Int32 × Int32 × Int32 × Zc => Zz p l e (zRm 1 24 0 0) s m args below meth cd _ D cid B 12 0 0 b.2.2.2.2.2.2.2.2.2 345 [(0, .ref b.1), (1, .int b.2.1), (3, .int b.2.2.1), (4, .int b.2.2.2.1), (5, .int b.2.2.2.2.1), (6, .int b.2.2.2.2.2.1), (8, .int b.2.2.2.2.2.2.1), (9, .int b.2.2.2.2.2.2.2.1), (10, .int b.2.2.2.2.2.2.2.2.1)] []) (fun a r ha k0 k1 => u_Mo_measure_205 X H ha k0 k1) nf _ b eb ?_
  exact t_Mo_measure_345 X H h k0 k1
set_option maxRecDepth 100000 in
set_option maxHeartbeats 4000000 in
theorem u_Mo_measure_191  (X : zX p s m args cd D cid B bb_Mo_measure 12 rr_Mo zT) (H : zH s meth B n0 none "measure") {nf : Nat} {x0 : Nat} {x1 : Int32} {x3 : Int32} {x4 : Int32} {x5 : Int32} {x6 : Int32} {x8 : Int32} {x9 : Int32} {x10 : Int32} {c : Zc} {r : (Nat × Int32 × Int32 × Int32 × Int32 × Int32 × Int32 × Int32 × Int32 × Zc) ⊕ (Nat × Int32 × Int32 × Int32 × Int32 × Zc)} (h : g_Mo_measure_191 nf x0 x1 x3 x4 x5 x6 x8 x9 x10 c = some r) (k0 : ∀ a, r = .inl a → (fun a : Nat × Int32 × Int32 × Int32 × Int32 × Int32 × Int32 × Int32 × Int32 × Zc => Zz p l e (zRm 1 24 0 0) s m args below meth cd Q D cid B 12 0 0 a.2.2.2.2.2.2.2.2.2 191 [(0, .ref a.1), (1, .int a.2.1), (3, .int a.2.2.1), (4, .int a.2.2.2.1), (5, .int a.2.2.2.2.1), (6, .int a.2.2.2.2.2.1), (8, .int a.2.2.2.2.2.2.1), (9, .int a.2.2.2.2.2.2.2.1), (10, .int a.2.2.2.2.2.2.2.2.1)] []) a) (k1 : ∀ b, r = .inr b → (fun b : Nat × Int32 × Int32 × Int32 × Int32 × Zc => Zz p l e (zRm 1 24 0 0) s m args below meth cd Q D cid B 12 0 0 b.2.2.2.2.2 351 [(0, .ref b.1), (1, .int b.2.1), (3, .int b.2.2.1), (4, .int b.2.2.2.1), (5, .int b.2.2.2.2.1)] []) b) : Zz p l e (zRm 1 24 0 0) s m args below meth cd Q D cid B 12 0 0 c 191 [(0, .ref x0), (1, .int x1), (3, .int x3), (4, .int x4), (5, .int x5), (6, .int x6), (8, .int x8), (9, .int x9), (10, .int x10)] [] := by
  unfold g_Mo_measure_191 at h
  refine z_iload X dd_Mo_measure_191 8 rfl ?_
  refine z_aload_n X dd_Mo_measure_193 rfl 0 rfl ?_
  obtain ⟨v27, ev27, h⟩ := zb h
  refine z_get (j := 39) X dd_Mo_measure_194 kc_12 ki_12 (by decide) km_1560 (zgr_v ev27) ?_
  refine z_iload_n X dd_Mo_measure_197 rfl 1 rfl ?_
  obtain ⟨v28, ev28, h⟩ := zb h
  refine z_iaload X dd_Mo_measure_198 rfl ev28 ?_
  refine z_icmp_ge (tgt := 351) X dd_Mo_measure_199 (by decide) (fun q29 => ?_) (fun q29 => ?_)
  · rw [if_pos q29] at h
    refine z_sub [0, 1, 2, 3, 4] rfl ?_
    obtain rfl := Option.some.inj h
    exact k1 _ rfl
  · rw [if_neg q29] at h
    refine z_iconst (v := 0) X dd_Mo_measure_202 (by decide) ?_
    refine z_istore (lv' := [(11, .int 0), (0, .ref x0), (1, .int x1), (3, .int x3), (4, .int x4), (5, .int x5), (6, .int x6), (8, .int x8), (9, .int x9), (10, .int x10)]) X dd_Mo_measure_203 (by decide) rfl ?_
    refine z_sub [1, 2, 3, 4, 5, 6, 7, 8, 9, 0] rfl ?_
    exact t_Mo_measure_205 X H h k0 k1
set_option maxRecDepth 100000 in
set_option maxHeartbeats 4000000 in
theorem t_Mo_measure_191  (X : zX p s m args cd D cid B bb_Mo_measure 12 rr_Mo zT) (H : zH s meth B n0 none "measure") {nf : Nat} {x0 : Nat} {x1 : Int32} {x3 : Int32} {x4 : Int32} {x5 : Int32} {x6 : Int32} {x8 : Int32} {x9 : Int32} {x10 : Int32} {c : Zc} {r : (Nat × Int32 × Int32 × Int32 × Int32 × Zc) ⊕ (Zc)} (h : f_Mo_measure_191 nf x0 x1 x3 x4 x5 x6 x8 x9 x10 c = some r) (k0 : ∀ a, r = .inl a → (fun a : Nat × Int32 × Int32 × Int32 × Int32 × Zc => Zz p l e (zRm 1 24 0 0) s m args below meth cd Q D cid B 12 0 0 a.2.2.2.2.2 115 [(0, .ref a.1), (1, .int a.2.1), (3, .int a.2.2.1), (4, .int a.2.2.2.1), (5, .int a.2.2.2.2.1)] []) a) (k1 : ∀ b, r = .inr b → (fun b : Zc => Zz p l e (zRm 1 24 0 0) s m args below meth cd Q D cid B 12 0 0 b 354 [] []) b) : Zz p l e (zRm 1 24 0 0) s m args below meth cd Q D cid B 12 0 0 c 191 [(0, .ref x0), (1, .int x1), (3, .int x3), (4, .int x4), (5, .int x5), (6, .int x6), (8, .int x8), (9, .int x9), (10, .int x10)] [] := by
  unfold f_Mo_measure_191 at h
  obtain ⟨b, eb, h⟩ := zb h
  refine zlp_ok (P := fun a : Nat × Int32 × Int32 × Int32 × Int32 × Int32 × Int32 × Int32 × Int32 × Zc => Zz p l e (zRm 1 24 0 0) s m args below meth cd _ D cid B 12 0 0 a.2.2.2.2.2.2.2.2.2 191 [(0, .ref a.1), (1, .int a.2.1), (3, .int a.2.2.1), (4, .int a.2.2.2.1), (5, .int a.2.2.2.2.1), (6, .int a.2.2.2.2.2.1), (8, .int a.2.2.2.2.2.2.1), (9, .int a.2.2.2.2.2.2.2.1), (10, .int a.2.2.2.2.2.2.2.2.1)] []) (G := fun b : Nat × Int32 × Int32 × Int32 × Int32 × Zc => Zz p l e (zRm 1 24 0 0) s m args below meth cd _ D cid B 12 0 0 b.2.2.2.2.2 351 [(0, .ref b.1), (1, .int b.2.1), (3, .int b.2.2.1), (4, .int b.2.2.2.1), (5, .int b.2.2.2.2.1)] []) (fun a r ha k0 k1 => u_Mo_measure_191 X H ha k0 k1) nf _ b eb ?_
  refine z_goto (tgt := 115) X dd_Mo_measure_351 (by decide) ?_
  obtain rfl := Option.some.inj h
  exact k0 _ rfl
set_option maxRecDepth 100000 in
set_option maxHeartbeats 4000000 in
theorem t_Mo_measure_186  (X : zX p s m args cd D cid B bb_Mo_measure 12 rr_Mo zT) (H : zH s meth B n0 none "measure") {nf : Nat} {x0 : Nat} {x1 : Int32} {x3 : Int32} {x4 : Int32} {x5 : Int32} {x6 : Int32} {x8 : Int32} {s0 : Int32} {c : Zc} {r : (Nat × Int32 × Int32 × Int32 × Int32 × Zc) ⊕ (Zc)} (h : f_Mo_measure_186 nf x0 x1 x3 x4 x5 x6 x8 s0 c = some r) (k0 : ∀ a, r = .inl a → (fun a : Nat × Int32 × Int32 × Int32 × Int32 × Zc => Zz p l e (zRm 1 24 0 0) s m args below meth cd Q D cid B 12 0 0 a.2.2.2.2.2 115 [(0, .ref a.1), (1, .int a.2.1), (3, .int a.2.2.1), (4, .int a.2.2.2.1), (5, .int a.2.2.2.2.1)] []) a) (k1 : ∀ b, r = .inr b → (fun b : Zc => Zz p l e (zRm 1 24 0 0) s m args below meth cd Q D cid B 12 0 0 b 354 [] []) b) : Zz p l e (zRm 1 24 0 0) s m args below meth cd Q D cid B 12 0 0 c 186 [(0, .ref x0), (1, .int x1), (3, .int x3), (4, .int x4), (5, .int x5), (6, .int x6), (8, .int x8)] [.int s0] := by
  unfold f_Mo_measure_186 at h
  refine z_istore (lv' := [(9, .int s0), (0, .ref x0), (1, .int x1), (3, .int x3), (4, .int x4), (5, .int x5), (6, .int x6), (8, .int x8)]) X dd_Mo_measure_186 (by decide) rfl ?_
  refine z_iconst (v := 0) X dd_Mo_measure_188 (by decide) ?_
  refine z_istore (lv' := [(10, .int 0), (9, .int s0), (0, .ref x0), (1, .int x1), (3, .int x3), (4, .int x4), (5, .int x5), (6, .int x6), (8, .int x8)]) X dd_Mo_measure_189 (by decide) rfl ?_
  refine z_sub [2, 3, 4, 5, 6, 7, 8, 1, 0] rfl ?_
  exact t_Mo_measure_191 X H h k0 k1
set_option maxRecDepth 100000 in
set_option maxHeartbeats 4000000 in
theorem u_Mo_measure_115  (X : zX p s m args cd D cid B bb_Mo_measure 12 rr_Mo zT) (H : zH s meth B n0 none "measure") {nf : Nat} {x0 : Nat} {x1 : Int32} {x3 : Int32} {x4 : Int32} {x5 : Int32} {c : Zc} {r : (Nat × Int32 × Int32 × Int32 × Int32 × Zc) ⊕ (Zc)} (h : g_Mo_measure_115 nf x0 x1 x3 x4 x5 c = some r) (k0 : ∀ a, r = .inl a → (fun a : Nat × Int32 × Int32 × Int32 × Int32 × Zc => Zz p l e (zRm 1 24 0 0) s m args below meth cd Q D cid B 12 0 0 a.2.2.2.2.2 115 [(0, .ref a.1), (1, .int a.2.1), (3, .int a.2.2.1), (4, .int a.2.2.2.1), (5, .int a.2.2.2.2.1)] []) a) (k1 : ∀ b, r = .inr b → (fun b : Zc => Zz p l e (zRm 1 24 0 0) s m args below meth cd Q D cid B 12 0 0 b 354 [] []) b) : Zz p l e (zRm 1 24 0 0) s m args below meth cd Q D cid B 12 0 0 c 115 [(0, .ref x0), (1, .int x1), (3, .int x3), (4, .int x4), (5, .int x5)] [] := by
  unfold g_Mo_measure_115 at h
  refine z_iload X dd_Mo_measure_115 3 rfl ?_
  refine z_iload X dd_Mo_measure_117 4 rfl ?_
  refine z_icmp_ge (tgt := 354) X dd_Mo_measure_119 (by decide) (fun q17 => ?_) (fun q17 => ?_)
  · rw [if_pos q17] at h
    refine z_sub [] rfl ?_
    obtain rfl := Option.some.inj h
    exact k1 _ rfl
  · rw [if_neg q17] at h
    refine z_aload_n X dd_Mo_measure_122 rfl 0 rfl ?_
    obtain ⟨v18, ev18, h⟩ := zb h
    refine z_get (j := 71) X dd_Mo_measure_123 kc_12 ki_12 (by decide) km_1592 (zgr_v ev18) ?_
    refine z_iload X dd_Mo_measure_126 3 rfl ?_
    obtain ⟨v19, ev19, h⟩ := zb h
    refine z_iaload X dd_Mo_measure_128 rfl ev19 ?_
    refine z_istore (lv' := [(6, .int v19), (0, .ref x0), (1, .int x1), (3, .int x3), (4, .int x4), (5, .int x5)]) X dd_Mo_measure_129 (by decide) rfl ?_
    refine z_aload_n X dd_Mo_measure_131 rfl 1 rfl ?_
    obtain ⟨v20, ev20, h⟩ := zb h
    refine z_get (j := 72) X dd_Mo_measure_132 kc_12 ki_12 (by decide) km_1593 (zgr_v ev20) ?_
    refine z_iload X dd_Mo_measure_135 4 rfl ?_
    obtain ⟨v21, ev21, h⟩ := zb h
    refine z_iaload X dd_Mo_measure_137 rfl ev21 ?_
    refine z_istore (lv' := [(7, .int v21), (6, .int v19), (0, .ref x0), (1, .int x1), (3, .int x3), (4, .int x4), (5, .int x5)]) X dd_Mo_measure_138 (by decide) rfl ?_
    refine z_iinc (v := (x4 + 1)) (lv' := [(4, .int (x4 + 1)), (7, .int v21), (6, .int v19), (0, .ref x0), (1, .int x1), (3, .int x3), (5, .int x5)]) X dd_Mo_measure_140 5 rfl rfl (by decide) rfl ?_
    refine z_aload_n X dd_Mo_measure_143 rfl 3 rfl ?_
    obtain ⟨v22, ev22, h⟩ := zb h
    refine z_get (j := 73) X dd_Mo_measure_144 kc_12 ki_12 (by decide) km_1594 (zgr_v ev22) ?_
    refine z_bipush (v := 16) X dd_Mo_measure_147 (by decide) ?_
    refine z_iload X dd_Mo_measure_149 1 rfl ?_
    refine z_imul X dd_Mo_measure_151 ?_
    refine z_iload X dd_Mo_measure_152 2 rfl ?_
    refine z_iadd X dd_Mo_measure_154 ?_
    obtain ⟨v23, ev23, h⟩ := zb h
    refine z_iaload X dd_Mo_measure_155 rfl ev23 ?_
    refine z_istore (lv' := [(8, .int v23), (4, .int (x4 + 1)), (7, .int v21), (6, .int v19), (0, .ref x0), (1, .int x1), (3, .int x3), (5, .int x5)]) X dd_Mo_measure_156 (by decide) rfl ?_
    refine z_iload X dd_Mo_measure_158 2 rfl ?_
    refine z_bipush (v := 16) X dd_Mo_measure_160 (by decide) ?_
    refine z_icmp_ne (tgt := 174) X dd_Mo_measure_162 (by decide) (fun q24 => ?_) (fun q24 => ?_)
    · rw [if_neg q24] at h
      refine z_aload_n X dd_Mo_measure_174 rfl 4 rfl ?_
      obtain ⟨v25, ev25, h⟩ := zb h
      refine z_get (j := 42) X dd_Mo_measure_175 kc_12 ki_12 (by decide) km_1563 (zgr_v ev25) ?_
      refine z_bipush (v := 16) X dd_Mo_measure_178 (by decide) ?_
      refine z_iload_n X dd_Mo_measure_180 rfl 5 rfl ?_
      refine z_imul X dd_Mo_measure_181 ?_
      refine z_iload X dd_Mo_measure_182 2 rfl ?_
      refine z_iadd X dd_Mo_measure_184 ?_
      obtain ⟨v26, ev26, h⟩ := zb h
      refine z_iaload X dd_Mo_measure_185 rfl ev26 ?_
      refine z_sub [4, 5, 6, 1, 7, 3, 0] rfl ?_
      exact t_Mo_measure_186 X H h k0 k1
    · rw [if_pos q24] at h
      refine z_aload_n X dd_Mo_measure_165 rfl 4 rfl ?_
      obtain ⟨v53, ev53, h⟩ := zb h
      refine z_get (j := 37) X dd_Mo_measure_166 kc_12 ki_12 (by decide) km_1558 (zgr_v ev53) ?_
      refine z_iload_n X dd_Mo_measure_169 rfl 5 rfl ?_
      obtain ⟨v54, ev54, h⟩ := zb h
      refine z_iaload X dd_Mo_measure_170 rfl ev54 ?_
      refine z_goto (tgt := 186) X dd_Mo_measure_171 (by decide) ?_
      refine z_sub [4, 5, 6, 1, 7, 3, 0] rfl ?_
      exact t_Mo_measure_186 X H h k0 k1
set_option maxRecDepth 100000 in
set_option maxHeartbeats 4000000 in
theorem t_Mo_measure_115  (X : zX p s m args cd D cid B bb_Mo_measure 12 rr_Mo zT) (H : zH s meth B n0 none "measure") {nf : Nat} {x0 : Nat} {x1 : Int32} {x3 : Int32} {x4 : Int32} {x5 : Int32} {c : Zc} {res : Zc} (h : f_Mo_measure_115 nf x0 x1 x3 x4 x5 c = some res) : Zz p l e (zRm 1 24 0 0) s m args below meth cd (MQ below (zQv D cid B res n0 0) args s 0 0 (fun q => B ≤ q)) D cid B 12 0 0 c 115 [(0, .ref x0), (1, .int x1), (3, .int x3), (4, .int x4), (5, .int x5)] [] := by
  unfold f_Mo_measure_115 at h
  obtain ⟨b, eb, h⟩ := zb h
  refine zlp_ok (P := fun a : Nat × Int32 × Int32 × Int32 × Int32 × Zc => Zz p l e (zRm 1 24 0 0) s m args below meth cd _ D cid B 12 0 0 a.2.2.2.2.2 115 [(0, .ref a.1), (1, .int a.2.1), (3, .int a.2.2.1), (4, .int a.2.2.2.1), (5, .int a.2.2.2.2.1)] []) (G := fun b : Zc => Zz p l e (zRm 1 24 0 0) s m args below meth cd _ D cid B 12 0 0 b 354 [] []) (fun a r ha k0 k1 => u_Mo_measure_115 X H ha k0 k1) nf _ b eb ?_
  obtain rfl := Option.some.inj h
  exact z_vret X H.1 H.2.1 H.2.2.1 dd_Mo_measure_354
set_option maxRecDepth 100000 in
set_option maxHeartbeats 4000000 in
theorem t_Mo_measure_83  (X : zX p s m args cd D cid B bb_Mo_measure 12 rr_Mo zT) (H : zH s meth B n0 none "measure") {nf : Nat} {x0 : Nat} {x1 : Int32} {x2 : Int32} {x3 : Int32} {c : Zc} {res : Zc} (h : f_Mo_measure_83 nf x0 x1 x2 x3 c = some res) : Zz p l e (zRm 1 24 0 0) s m args below meth cd (MQ below (zQv D cid B res n0 0) args s 0 0 (fun q => B ≤ q)) D cid B 12 0 0 c 83 [(0, .ref x0), (1, .int x1), (2, .int x2), (3, .int x3)] [] := by
  unfold f_Mo_measure_83 at h
  refine z_iconst (v := 0) X dd_Mo_measure_83 (by decide) ?_
  refine z_istore (lv' := [(4, .int 0), (0, .ref x0), (1, .int x1), (2, .int x2), (3, .int x3)]) X dd_Mo_measure_84 (by decide) rfl ?_
  refine z_iconst (v := 1) X dd_Mo_measure_86 (by decide) ?_
  refine z_istore (lv' := [(5, .int 1), (4, .int 0), (0, .ref x0), (1, .int x1), (2, .int x2), (3, .int x3)]) X dd_Mo_measure_87 (by decide) rfl ?_
  refine z_aload_n X dd_Mo_measure_89 rfl 2 rfl ?_
  obtain ⟨v11, ev11, h⟩ := zb h
  refine z_get (j := 71) X dd_Mo_measure_90 kc_12 ki_12 (by decide) km_1592 (zgr_v ev11) ?_
  refine z_iconst (v := 0) X dd_Mo_measure_93 (by decide) ?_
  refine z_iload_n X dd_Mo_measure_94 rfl 4 rfl ?_
  obtain ⟨c12, ec12, h⟩ := zb h
  refine z_iastore X dd_Mo_measure_95 rfl ec12 ?_
  refine z_aload_n X dd_Mo_measure_96 rfl 2 rfl ?_
  obtain ⟨v13, ev13, h⟩ := zb h
  refine z_get (j := 72) X dd_Mo_measure_97 kc_12 ki_12 (by decide) km_1593 (zgr_v ev13) ?_
  refine z_iconst (v := 0) X dd_Mo_measure_100 (by decide) ?_
  refine z_bipush (v := 16) X dd_Mo_measure_101 (by decide) ?_
  obtain ⟨c14, ec14, h⟩ := zb h
  refine z_iastore X dd_Mo_measure_103 rfl ec14 ?_
  refine z_aload_n X dd_Mo_measure_104 rfl 2 rfl ?_
  obtain ⟨v15, ev15, h⟩ := zb h
  refine z_get (j := 73) X dd_Mo_measure_105 kc_12 ki_12 (by decide) km_1594 (zgr_v ev15) ?_
  refine z_sipush (v := 256) X dd_Mo_measure_108 (by decide) ?_
  refine z_iload_n X dd_Mo_measure_111 rfl 4 rfl ?_
  refine z_iadd X dd_Mo_measure_112 ?_
  refine z_iconst (v := 0) X dd_Mo_measure_113 (by decide) ?_
  obtain ⟨c16, ec16, h⟩ := zb h
  refine z_iastore X dd_Mo_measure_114 rfl ec16 ?_
  refine z_sub [2, 3, 5, 1, 0] rfl ?_
  exact t_Mo_measure_115 X H h
set_option maxRecDepth 100000 in
set_option maxHeartbeats 4000000 in
theorem t_Mo_measure_43  (X : zX p s m args cd D cid B bb_Mo_measure 12 rr_Mo zT) (H : zH s meth B n0 none "measure") {nf : Nat} {x0 : Nat} {x1 : Int32} {x2 : Int32} {x3 : Int32} {x4 : Int32} {c : Zc} {res : Zc} (h : f_Mo_measure_43 nf x0 x1 x2 x3 x4 c = some res) : Zz p l e (zRm 1 24 0 0) s m args below meth cd (MQ below (zQv D cid B res n0 0) args s 0 0 (fun q => B ≤ q)) D cid B 12 0 0 c 43 [(0, .ref x0), (1, .int x1), (2, .int x2), (3, .int x3), (4, .int x4)] [] := by
  unfold f_Mo_measure_43 at h
  obtain ⟨b, eb, h⟩ := zb h
  refine zlp_ok (P := fun a : Nat × Int32 × Int32 × Int32 × Int32 × Zc => Zz p l e (zRm 1 24 0 0) s m args below meth cd _ D cid B 12 0 0 a.2.2.2.2.2 43 [(0, .ref a.1), (1, .int a.2.1), (2, .int a.2.2.1), (3, .int a.2.2.2.1), (4, .int a.2.2.2.2.1)] []) (G := fun b : Nat × Int32 × Int32 × Int32 × Zc => Zz p l e (zRm 1 24 0 0) s m args below meth cd _ D cid B 12 0 0 b.2.2.2.2 65 [(0, .ref b.1), (1, .int b.2.1), (2, .int b.2.2.1), (3, .int b.2.2.2.1)] []) (fun a r ha k0 k1 => u_Mo_measure_43 X H ha k0 k1) nf _ b eb ?_
  refine z_aload_n X dd_Mo_measure_65 rfl 0 rfl ?_
  obtain ⟨v8, ev8, h⟩ := zb h
  refine z_get (j := 36) X dd_Mo_measure_66 kc_12 ki_12 (by decide) km_1557 (zgr_v ev8) ?_
  refine z_iload_n X dd_Mo_measure_69 rfl 1 rfl ?_
  obtain ⟨v9, ev9, h⟩ := zb h
  refine z_zaload X dd_Mo_measure_70 rfl ev9 ?_
  refine z_if_eq (tgt := 83) X dd_Mo_measure_71 (by decide) (fun q10 => ?_) (fun q10 => ?_)
  · rw [if_pos q10] at h
    exact t_Mo_measure_83 X H h
  · rw [if_neg q10] at h
    refine z_aload_n X dd_Mo_measure_74 rfl 0 rfl ?_
    obtain ⟨v55, ev55, h⟩ := zb h
    refine z_get (j := 70) X dd_Mo_measure_75 kc_12 ki_12 (by decide) km_1591 (zgr_v ev55) ?_
    refine z_iload_n X dd_Mo_measure_78 rfl 3 rfl ?_
    refine z_iload_n X dd_Mo_measure_79 rfl 2 rfl ?_
    refine z_iadd X dd_Mo_measure_80 ?_
    refine z_iconst (v := 0) X dd_Mo_measure_81 (by decide) ?_
    obtain ⟨c56, ec56, h⟩ := zb h
    refine z_iastore X dd_Mo_measure_82 rfl ec56 ?_
    exact t_Mo_measure_83 X H h
set_option maxRecDepth 100000 in
set_option maxHeartbeats 4000000 in
theorem t_Mo_measure_17  (X : zX p s m args cd D cid B bb_Mo_measure 12 rr_Mo zT) (H : zH s meth B n0 none "measure") {nf : Nat} {x0 : Nat} {x1 : Int32} {x2 : Int32} {x3 : Int32} {x4 : Int32} {c : Zc} {res : Zc} (h : f_Mo_measure_17 nf x0 x1 x2 x3 x4 c = some res) : Zz p l e (zRm 1 24 0 0) s m args below meth cd (MQ below (zQv D cid B res n0 0) args s 0 0 (fun q => B ≤ q)) D cid B 12 0 0 c 17 [(0, .ref x0), (1, .int x1), (2, .int x2), (3, .int x3), (4, .int x4)] [] := by
  unfold f_Mo_measure_17 at h
  obtain ⟨b, eb, h⟩ := zb h
  refine zlp_ok (P := fun a : Nat × Int32 × Int32 × Int32 × Int32 × Zc => Zz p l e (zRm 1 24 0 0) s m args below meth cd _ D cid B 12 0 0 a.2.2.2.2.2 17 [(0, .ref a.1), (1, .int a.2.1), (2, .int a.2.2.1), (3, .int a.2.2.2.1), (4, .int a.2.2.2.2.1)] []) (G := fun b : Nat × Int32 × Int32 × Int32 × Zc => Zz p l e (zRm 1 24 0 0) s m args below meth cd _ D cid B 12 0 0 b.2.2.2.2 40 [(0, .ref b.1), (1, .int b.2.1), (2, .int b.2.2.1), (3, .int b.2.2.2.1)] []) (fun a r ha k0 k1 => u_Mo_measure_17 X H ha k0 k1) nf _ b eb ?_
  refine z_iconst (v := 0) X dd_Mo_measure_40 (by decide) ?_
  refine z_istore (lv' := [(4, .int 0), (0, .ref b.1), (1, .int b.2.1), (2, .int b.2.2.1), (3, .int b.2.2.2.1)]) X dd_Mo_measure_41 (by decide) rfl ?_
  refine z_sub [1, 2, 3, 4, 0] rfl ?_
  exact t_Mo_measure_43 X H h
set_option maxRecDepth 100000 in
set_option maxHeartbeats 4000000 in
theorem c_Mo_measure (l : Launch) {nf : Nat} {a0 : Nat} {a1 : Int32} {a2 : Int32} {c : Zc} {res : Zc} (h : f_Mo_measure nf a0 a1 a2 c = some res) : zM l yy_Mo_measure ww_Mo_measure 1 24 0 0 [.ref a0, .int a1, .int a2] c (fun D cid B => zQv D cid B res c.length 0) := by
  refine z_met (cc := bb_Mo_measure) (maxL := 12) (ret := none) (by decide +kernel) rfl (Nat.le_of_ble_eq_true rfl) ?_
  intro p e s m args below meth cd D cid B X h1 h2 h3 h4
  have X : zX p s m args cd D cid B bb_Mo_measure 12 rr_Mo zT := X
  have H : zH s meth B c.length none "measure" := ⟨h1, h2, h4, h3⟩
  unfold f_Mo_measure at h
  show Zz p l e (zRm 1 24 0 0) s m args below meth cd _ D cid B 12 0 0 c 0 [(0, .ref a0), (1, .int a1), (2, .int a2)] []
  refine z_sipush (v := 256) X dd_Mo_measure_0 (by decide) ?_
  refine z_iload_n X dd_Mo_measure_3 rfl 1 rfl ?_
  refine z_bipush (v := 11) X dd_Mo_measure_4 (by decide) ?_
  refine z_irem X dd_Mo_measure_6 (by decide) ?_
  refine z_imul X dd_Mo_measure_7 ?_
  refine z_bipush (v := 16) X dd_Mo_measure_8 (by decide) ?_
  refine z_iload_n X dd_Mo_measure_10 rfl 2 rfl ?_
  refine z_imul X dd_Mo_measure_11 ?_
  refine z_iadd X dd_Mo_measure_12 ?_
  refine z_istore_n (lv' := [(3, .int ((256 * (a1 - a1 / 11 * 11)) + (16 * a2))), (0, .ref a0), (1, .int a1), (2, .int a2)]) X dd_Mo_measure_13 rfl (by decide) rfl ?_
  refine z_iconst (v := 0) X dd_Mo_measure_14 (by decide) ?_
  refine z_istore (lv' := [(4, .int 0), (3, .int ((256 * (a1 - a1 / 11 * 11)) + (16 * a2))), (0, .ref a0), (1, .int a1), (2, .int a2)]) X dd_Mo_measure_15 (by decide) rfl ?_
  refine z_sub [2, 3, 4, 1, 0] rfl ?_
  exact t_Mo_measure_17 X H h
end ZzM
