section ZzM
variable {p : Program} {l : Launch} {e : Env} {s : State} {m : MethodId} {args : Array Value} {below : List Frame} {meth : Method} {cd : Code} {Q : State → Prop} {D : va_G} {cid : Nat → ClassId} {B n0 : Nat}
theorem dd_Reader_closeNode_0 : decode bb_Reader_closeNode 0 = .ok (.aload_n 0, 1) := by decide +kernel
theorem dd_Reader_closeNode_1 : decode bb_Reader_closeNode 1 = .ok (.getfield 36, 3) := by decide +kernel
theorem dd_Reader_closeNode_4 : decode bb_Reader_closeNode 4 = .ok (.ifCond .eq 4, 3) := by decide +kernel
theorem dd_Reader_closeNode_7 : decode bb_Reader_closeNode 7 = .ok (.return_, 1) := by decide +kernel
theorem dd_Reader_closeNode_8 : decode bb_Reader_closeNode 8 = .ok (.aload_n 0, 1) := by decide +kernel
theorem dd_Reader_closeNode_9 : decode bb_Reader_closeNode 9 = .ok (.getfield 60, 3) := by decide +kernel
theorem dd_Reader_closeNode_12 : decode bb_Reader_closeNode 12 = .ok (.ifCond .eq 18, 3) := by decide +kernel
theorem dd_Reader_closeNode_15 : decode bb_Reader_closeNode 15 = .ok (.aload_n 0, 1) := by decide +kernel
theorem dd_Reader_closeNode_16 : decode bb_Reader_closeNode 16 = .ok (.getfield 69, 3) := by decide +kernel
theorem dd_Reader_closeNode_19 : decode bb_Reader_closeNode 19 = .ok (.aload_n 0, 1) := by decide +kernel
theorem dd_Reader_closeNode_20 : decode bb_Reader_closeNode 20 = .ok (.getfield 57, 3) := by decide +kernel
theorem dd_Reader_closeNode_23 : decode bb_Reader_closeNode 23 = .ok (.aload_n 0, 1) := by decide +kernel
theorem dd_Reader_closeNode_24 : decode bb_Reader_closeNode 24 = .ok (.getfield 60, 3) := by decide +kernel
theorem dd_Reader_closeNode_27 : decode bb_Reader_closeNode 27 = .ok (.invokevirtual 208, 3) := by decide +kernel
theorem dd_Reader_closeNode_30 : decode bb_Reader_closeNode 30 = .ok (.aload_n 0, 1) := by decide +kernel
theorem dd_Reader_closeNode_31 : decode bb_Reader_closeNode 31 = .ok (.getfield 54, 3) := by decide +kernel
theorem dd_Reader_closeNode_34 : decode bb_Reader_closeNode 34 = .ok (.iconst (-1), 1) := by decide +kernel
theorem dd_Reader_closeNode_35 : decode bb_Reader_closeNode 35 = .ok (.if_icmp .eq 18, 3) := by decide +kernel
theorem dd_Reader_closeNode_38 : decode bb_Reader_closeNode 38 = .ok (.aload_n 0, 1) := by decide +kernel
theorem dd_Reader_closeNode_39 : decode bb_Reader_closeNode 39 = .ok (.getfield 79, 3) := by decide +kernel
theorem dd_Reader_closeNode_42 : decode bb_Reader_closeNode 42 = .ok (.aload_n 0, 1) := by decide +kernel
theorem dd_Reader_closeNode_43 : decode bb_Reader_closeNode 43 = .ok (.getfield 54, 3) := by decide +kernel
theorem dd_Reader_closeNode_46 : decode bb_Reader_closeNode 46 = .ok (.aload_n 0, 1) := by decide +kernel
theorem dd_Reader_closeNode_47 : decode bb_Reader_closeNode 47 = .ok (.getfield 57, 3) := by decide +kernel
theorem dd_Reader_closeNode_50 : decode bb_Reader_closeNode 50 = .ok (.invokevirtual 211, 3) := by decide +kernel
theorem dd_Reader_closeNode_53 : decode bb_Reader_closeNode 53 = .ok (.aload_n 0, 1) := by decide +kernel
theorem dd_Reader_closeNode_54 : decode bb_Reader_closeNode 54 = .ok (.getfield 69, 3) := by decide +kernel
theorem dd_Reader_closeNode_57 : decode bb_Reader_closeNode 57 = .ok (.invokevirtual 216, 3) := by decide +kernel
theorem dd_Reader_closeNode_60 : decode bb_Reader_closeNode 60 = .ok (.aload_n 0, 1) := by decide +kernel
theorem dd_Reader_closeNode_61 : decode bb_Reader_closeNode 61 = .ok (.bipush 7, 2) := by decide +kernel
theorem dd_Reader_closeNode_63 : decode bb_Reader_closeNode 63 = .ok (.putfield 33, 3) := by decide +kernel
theorem dd_Reader_closeNode_66 : decode bb_Reader_closeNode 66 = .ok (.return_, 1) := by decide +kernel
def f_Reader_closeNode_53 (nf : Nat) (x0 : Nat) (c : Zc) : Option (Zc) :=
  (zgr c x0 5 4).bind fun v7 => (zob c v7 2).bind fun w9 => (f_Text_endGroup nf v7 c).bind fun q8 => (zpv q8 x0 5 8 (.int 7)).bind fun c10 => some c10
def f_Reader_closeNode_30 (nf : Nat) (x0 : Nat) (c : Zc) : Option (Zc) :=
  (zgi c x0 5 15).bind fun v5 => if v5 = (-1) then (f_Reader_closeNode_53 nf x0 c) else ((zgr c x0 5 5).bind fun v11 => (zgi c x0 5 15).bind fun v12 => (zgi c x0 5 16).bind fun v13 => (zob c v11 1).bind fun w15 => (f_Way_join nf v11 v12 v13 c).bind fun q14 => f_Reader_closeNode_53 nf x0 q14)
def f_Reader_closeNode (nf : Nat) (a0 : Nat) (c : Zc) : Option (Zc) :=
  (zgi c a0 5 9).bind fun v1 => if v1 = 0 then ((zgi c a0 5 17).bind fun v3 => if v3 = 0 then (f_Reader_closeNode_30 nf a0 c) else ((zgr c a0 5 4).bind fun v16 => (zgi c a0 5 16).bind fun v17 => (zgi c a0 5 17).bind fun v18 => (zob c v16 2).bind fun w20 => (f_Text_addDemand nf v16 v17 v18 c).bind fun q19 => f_Reader_closeNode_30 nf a0 q19)) else (some c)
set_option maxRecDepth 100000 in
set_option maxHeartbeats 4000000 in
theorem t_Reader_closeNode_53  (X : zX p s m args cd D cid B bb_Reader_closeNode 1 rr_Reader zT) (H : zH s meth B n0 none "closeNode") {nf : Nat} {x0 : Nat} {c : Zc} {res : Zc} (h : f_Reader_closeNode_53 nf x0 c = some res) : Zz p l e (zRm 1 22 0 0) s m args below meth cd (MQ below (zQv D cid B res n0 0) args s 0 0 (fun q => B ≤ q)) D cid B 1 0 0 c 53 [(0, .ref x0)] [] := by
  unfold f_Reader_closeNode_53 at h
  refine z_aload_n X dd_Reader_closeNode_53 rfl 0 rfl ?_
  obtain ⟨v7, ev7, h⟩ := zb h
  refine z_get (j := 4) X dd_Reader_closeNode_54 kc_5 ki_5 (by decide) km_478 (zgr_v ev7) ?_
  obtain ⟨w9, ew9, h⟩ := zb h
  obtain ⟨q8, eq8, h⟩ := zb h
  refine z_callVv X [] rfl dd_Reader_closeNode_57 (c_Text_endGroup l eq8) (cwV 0 X.1.2.2.2.2 (zg_V km_1042 km_829 km_830 km_128 km_831) rfl rfl rfl (by decide +kernel) ⟨Nat.le_of_ble_eq_true rfl, Nat.le_of_ble_eq_true rfl⟩) (zob_s ew9) kc_2 rfl (Nat.le_of_ble_eq_true rfl) ⟨Nat.le_of_ble_eq_true rfl, Nat.le_of_ble_eq_true rfl⟩ ?_
  refine z_aload_n X dd_Reader_closeNode_60 rfl 0 rfl ?_
  refine z_bipush (v := 7) X dd_Reader_closeNode_61 (by decide) ?_
  obtain ⟨c10, ec10, h⟩ := zb h
  refine z_put (j := 8) X dd_Reader_closeNode_63 kc_5 ki_5 tt_Reader tk_Reader nn_Reader (by decide) km_482 rfl (tk_Reader 8 (by decide)) rfl rfl ec10 ?_
  obtain rfl := Option.some.inj h
  exact z_vret X H.1 H.2.1 H.2.2.1 dd_Reader_closeNode_66
set_option maxRecDepth 100000 in
set_option maxHeartbeats 4000000 in
theorem t_Reader_closeNode_30  (X : zX p s m args cd D cid B bb_Reader_closeNode 1 rr_Reader zT) (H : zH s meth B n0 none "closeNode") {nf : Nat} {x0 : Nat} {c : Zc} {res : Zc} (h : f_Reader_closeNode_30 nf x0 c = some res) : Zz p l e (zRm 1 22 0 0) s m args below meth cd (MQ below (zQv D cid B res n0 0) args s 0 0 (fun q => B ≤ q)) D cid B 1 0 0 c 30 [(0, .ref x0)] [] := by
  unfold f_Reader_closeNode_30 at h
  refine z_aload_n X dd_Reader_closeNode_30 rfl 0 rfl ?_
  obtain ⟨v5, ev5, h⟩ := zb h
  refine z_get (j := 15) X dd_Reader_closeNode_31 kc_5 ki_5 (by decide) km_489 (zgi_v ev5) ?_
  refine z_iconst (v := (-1)) X dd_Reader_closeNode_34 (by decide) ?_
  refine z_icmp_eq (tgt := 53) X dd_Reader_closeNode_35 (by decide) (fun q6 => ?_) (fun q6 => ?_)
  · rw [if_pos q6] at h
    exact t_Reader_closeNode_53 X H h
  · rw [if_neg q6] at h
    refine z_aload_n X dd_Reader_closeNode_38 rfl 0 rfl ?_
    obtain ⟨v11, ev11, h⟩ := zb h
    refine z_get (j := 5) X dd_Reader_closeNode_39 kc_5 ki_5 (by decide) km_479 (zgr_v ev11) ?_
    refine z_aload_n X dd_Reader_closeNode_42 rfl 0 rfl ?_
    obtain ⟨v12, ev12, h⟩ := zb h
    refine z_get (j := 15) X dd_Reader_closeNode_43 kc_5 ki_5 (by decide) km_489 (zgi_v ev12) ?_
    refine z_aload_n X dd_Reader_closeNode_46 rfl 0 rfl ?_
    obtain ⟨v13, ev13, h⟩ := zb h
    refine z_get (j := 16) X dd_Reader_closeNode_47 kc_5 ki_5 (by decide) km_490 (zgi_v ev13) ?_
    obtain ⟨w15, ew15, h⟩ := zb h
    obtain ⟨q14, eq14, h⟩ := zb h
    refine z_callVv X [.int v12, .int v13] rfl dd_Reader_closeNode_50 (c_Way_join l eq14) (cwV 2 X.1.2.2.2.2 (zg_V km_1038 km_1039 km_1040 km_129 km_1041) rfl rfl rfl (by decide +kernel) ⟨Nat.le_of_ble_eq_true rfl, Nat.le_of_ble_eq_true rfl⟩) (zob_s ew15) kc_1 rfl (Nat.le_of_ble_eq_true rfl) ⟨Nat.le_of_ble_eq_true rfl, Nat.le_of_ble_eq_true rfl⟩ ?_
    exact t_Reader_closeNode_53 X H h
set_option maxRecDepth 100000 in
set_option maxHeartbeats 4000000 in
theorem c_Reader_closeNode (l : Launch) {nf : Nat} {a0 : Nat} {c : Zc} {res : Zc} (h : f_Reader_closeNode nf a0 c = some res) : zM l yy_Reader_closeNode ww_Reader_closeNode 1 22 0 0 [.ref a0] c (fun D cid B => zQv D cid B res c.length 0) := by
  refine z_met (cc := bb_Reader_closeNode) (maxL := 1) (ret := none) (by decide +kernel) rfl (Nat.le_of_ble_eq_true rfl) ?_
  intro p e s m args below meth cd D cid B X h1 h2 h3 h4
  have X : zX p s m args cd D cid B bb_Reader_closeNode 1 rr_Reader zT := X
  have H : zH s meth B c.length none "closeNode" := ⟨h1, h2, h4, h3⟩
  unfold f_Reader_closeNode at h
  show Zz p l e (zRm 1 22 0 0) s m args below meth cd _ D cid B 1 0 0 c 0 [(0, .ref a0)] []
  refine z_aload_n X dd_Reader_closeNode_0 rfl 0 rfl ?_
  obtain ⟨v1, ev1, h⟩ := zb h
  refine z_get (j := 9) X dd_Reader_closeNode_1 kc_5 ki_5 (by decide) km_483 (zgi_v ev1) ?_
  refine z_if_eq (tgt := 8) X dd_Reader_closeNode_4 (by decide) (fun q2 => ?_) (fun q2 => ?_)
  · rw [if_pos q2] at h
    refine z_aload_n X dd_Reader_closeNode_8 rfl 0 rfl ?_
    obtain ⟨v3, ev3, h⟩ := zb h
    refine z_get (j := 17) X dd_Reader_closeNode_9 kc_5 ki_5 (by decide) km_491 (zgi_v ev3) ?_
    refine z_if_eq (tgt := 30) X dd_Reader_closeNode_12 (by decide) (fun q4 => ?_) (fun q4 => ?_)
    · rw [if_pos q4] at h
      exact t_Reader_closeNode_30 X H h
    · rw [if_neg q4] at h
      refine z_aload_n X dd_Reader_closeNode_15 rfl 0 rfl ?_
      obtain ⟨v16, ev16, h⟩ := zb h
      refine z_get (j := 4) X dd_Reader_closeNode_16 kc_5 ki_5 (by decide) km_478 (zgr_v ev16) ?_
      refine z_aload_n X dd_Reader_closeNode_19 rfl 0 rfl ?_
      obtain ⟨v17, ev17, h⟩ := zb h
      refine z_get (j := 16) X dd_Reader_closeNode_20 kc_5 ki_5 (by decide) km_490 (zgi_v ev17) ?_
      refine z_aload_n X dd_Reader_closeNode_23 rfl 0 rfl ?_
      obtain ⟨v18, ev18, h⟩ := zb h
      refine z_get (j := 17) X dd_Reader_closeNode_24 kc_5 ki_5 (by decide) km_491 (zgi_v ev18) ?_
      obtain ⟨w20, ew20, h⟩ := zb h
      obtain ⟨q19, eq19, h⟩ := zb h
      refine z_callVv X [.int v17, .int v18] rfl dd_Reader_closeNode_27 (c_Text_addDemand l eq19) (cwV 2 X.1.2.2.2.2 (zg_V km_1034 km_1035 km_1036 km_128 km_1037) rfl rfl rfl (by decide +kernel) ⟨Nat.le_of_ble_eq_true rfl, Nat.le_of_ble_eq_true rfl⟩) (zob_s ew20) kc_2 rfl (Nat.le_of_ble_eq_true rfl) ⟨Nat.le_of_ble_eq_true rfl, Nat.le_of_ble_eq_true rfl⟩ ?_
      exact t_Reader_closeNode_30 X H h
  · rw [if_neg q2] at h
    obtain rfl := Option.some.inj h
    exact z_vret X H.1 H.2.1 H.2.2.1 dd_Reader_closeNode_7
theorem dd_Reader_takeInNode_0 : decode bb_Reader_takeInNode 0 = .ok (.aload_n 0, 1) := by decide +kernel
theorem dd_Reader_takeInNode_1 : decode bb_Reader_takeInNode 1 = .ok (.getfield 33, 3) := by decide +kernel
theorem dd_Reader_takeInNode_4 : decode bb_Reader_takeInNode 4 = .ok (.iconst 3, 1) := by decide +kernel
theorem dd_Reader_takeInNode_5 : decode bb_Reader_takeInNode 5 = .ok (.if_icmp .ne 30, 3) := by decide +kernel
theorem dd_Reader_takeInNode_8 : decode bb_Reader_takeInNode 8 = .ok (.iload_n 1, 1) := by decide +kernel
theorem dd_Reader_takeInNode_9 : decode bb_Reader_takeInNode 9 = .ok (.bipush 40, 2) := by decide +kernel
theorem dd_Reader_takeInNode_11 : decode bb_Reader_takeInNode 11 = .ok (.if_icmp .ne 24, 3) := by decide +kernel
theorem dd_Reader_takeInNode_14 : decode bb_Reader_takeInNode 14 = .ok (.aload_n 0, 1) := by decide +kernel
theorem dd_Reader_takeInNode_15 : decode bb_Reader_takeInNode 15 = .ok (.aload_n 0, 1) := by decide +kernel
theorem dd_Reader_takeInNode_16 : decode bb_Reader_takeInNode 16 = .ok (.getfield 30, 3) := by decide +kernel
theorem dd_Reader_takeInNode_19 : decode bb_Reader_takeInNode 19 = .ok (.putfield 51, 3) := by decide +kernel
theorem dd_Reader_takeInNode_22 : decode bb_Reader_takeInNode 22 = .ok (.aload_n 0, 1) := by decide +kernel
theorem dd_Reader_takeInNode_23 : decode bb_Reader_takeInNode 23 = .ok (.iconst 0, 1) := by decide +kernel
theorem dd_Reader_takeInNode_24 : decode bb_Reader_takeInNode 24 = .ok (.putfield 60, 3) := by decide +kernel
theorem dd_Reader_takeInNode_27 : decode bb_Reader_takeInNode 27 = .ok (.aload_n 0, 1) := by decide +kernel
theorem dd_Reader_takeInNode_28 : decode bb_Reader_takeInNode 28 = .ok (.iconst 4, 1) := by decide +kernel
theorem dd_Reader_takeInNode_29 : decode bb_Reader_takeInNode 29 = .ok (.putfield 33, 3) := by decide +kernel
theorem dd_Reader_takeInNode_32 : decode bb_Reader_takeInNode 32 = .ok (.goto 153, 3) := by decide +kernel
theorem dd_Reader_takeInNode_35 : decode bb_Reader_takeInNode 35 = .ok (.aload_n 0, 1) := by decide +kernel
theorem dd_Reader_takeInNode_36 : decode bb_Reader_takeInNode 36 = .ok (.getfield 33, 3) := by decide +kernel
theorem dd_Reader_takeInNode_39 : decode bb_Reader_takeInNode 39 = .ok (.iconst 4, 1) := by decide +kernel
theorem dd_Reader_takeInNode_40 : decode bb_Reader_takeInNode 40 = .ok (.if_icmp .ne 32, 3) := by decide +kernel
theorem dd_Reader_takeInNode_43 : decode bb_Reader_takeInNode 43 = .ok (.iload_n 1, 1) := by decide +kernel
theorem dd_Reader_takeInNode_44 : decode bb_Reader_takeInNode 44 = .ok (.iconst 2, 1) := by decide +kernel
theorem dd_Reader_takeInNode_45 : decode bb_Reader_takeInNode 45 = .ok (.if_icmp .ne 27, 3) := by decide +kernel
theorem dd_Reader_takeInNode_48 : decode bb_Reader_takeInNode 48 = .ok (.aload_n 0, 1) := by decide +kernel
theorem dd_Reader_takeInNode_49 : decode bb_Reader_takeInNode 49 = .ok (.aload_n 0, 1) := by decide +kernel
theorem dd_Reader_takeInNode_50 : decode bb_Reader_takeInNode 50 = .ok (.getfield 18, 3) := by decide +kernel
theorem dd_Reader_takeInNode_53 : decode bb_Reader_takeInNode 53 = .ok (.getfield 178, 3) := by decide +kernel
theorem dd_Reader_takeInNode_56 : decode bb_Reader_takeInNode 56 = .ok (.aload_n 0, 1) := by decide +kernel
theorem dd_Reader_takeInNode_57 : decode bb_Reader_takeInNode 57 = .ok (.getfield 30, 3) := by decide +kernel
theorem dd_Reader_takeInNode_60 : decode bb_Reader_takeInNode 60 = .ok (.iaload, 1) := by decide +kernel
theorem dd_Reader_takeInNode_61 : decode bb_Reader_takeInNode 61 = .ok (.invokevirtual 184, 3) := by decide +kernel
theorem dd_Reader_takeInNode_64 : decode bb_Reader_takeInNode 64 = .ok (.aload_n 0, 1) := by decide +kernel
theorem dd_Reader_takeInNode_65 : decode bb_Reader_takeInNode 65 = .ok (.iconst 5, 1) := by decide +kernel
theorem dd_Reader_takeInNode_66 : decode bb_Reader_takeInNode 66 = .ok (.putfield 33, 3) := by decide +kernel
theorem dd_Reader_takeInNode_69 : decode bb_Reader_takeInNode 69 = .ok (.goto 116, 3) := by decide +kernel
theorem dd_Reader_takeInNode_72 : decode bb_Reader_takeInNode 72 = .ok (.aload_n 0, 1) := by decide +kernel
theorem dd_Reader_takeInNode_73 : decode bb_Reader_takeInNode 73 = .ok (.getfield 33, 3) := by decide +kernel
theorem dd_Reader_takeInNode_76 : decode bb_Reader_takeInNode 76 = .ok (.bipush 6, 2) := by decide +kernel
theorem dd_Reader_takeInNode_78 : decode bb_Reader_takeInNode 78 = .ok (.if_icmp .ne 39, 3) := by decide +kernel
theorem dd_Reader_takeInNode_81 : decode bb_Reader_takeInNode 81 = .ok (.iload_n 1, 1) := by decide +kernel
theorem dd_Reader_takeInNode_82 : decode bb_Reader_takeInNode 82 = .ok (.iconst 3, 1) := by decide +kernel
theorem dd_Reader_takeInNode_83 : decode bb_Reader_takeInNode 83 = .ok (.if_icmp .ne 34, 3) := by decide +kernel
theorem dd_Reader_takeInNode_86 : decode bb_Reader_takeInNode 86 = .ok (.aload_n 0, 1) := by decide +kernel
theorem dd_Reader_takeInNode_87 : decode bb_Reader_takeInNode 87 = .ok (.dup, 1) := by decide +kernel
theorem dd_Reader_takeInNode_88 : decode bb_Reader_takeInNode 88 = .ok (.getfield 60, 3) := by decide +kernel
theorem dd_Reader_takeInNode_91 : decode bb_Reader_takeInNode 91 = .ok (.iconst 1, 1) := by decide +kernel
theorem dd_Reader_takeInNode_92 : decode bb_Reader_takeInNode 92 = .ok (.aload_n 0, 1) := by decide +kernel
theorem dd_Reader_takeInNode_93 : decode bb_Reader_takeInNode 93 = .ok (.getfield 18, 3) := by decide +kernel
theorem dd_Reader_takeInNode_96 : decode bb_Reader_takeInNode 96 = .ok (.getfield 178, 3) := by decide +kernel
theorem dd_Reader_takeInNode_99 : decode bb_Reader_takeInNode 99 = .ok (.aload_n 0, 1) := by decide +kernel
theorem dd_Reader_takeInNode_100 : decode bb_Reader_takeInNode 100 = .ok (.getfield 30, 3) := by decide +kernel
theorem dd_Reader_takeInNode_103 : decode bb_Reader_takeInNode 103 = .ok (.iaload, 1) := by decide +kernel
theorem dd_Reader_takeInNode_104 : decode bb_Reader_takeInNode 104 = .ok (.ishl, 1) := by decide +kernel
theorem dd_Reader_takeInNode_105 : decode bb_Reader_takeInNode 105 = .ok (.ior, 1) := by decide +kernel
theorem dd_Reader_takeInNode_106 : decode bb_Reader_takeInNode 106 = .ok (.putfield 60, 3) := by decide +kernel
theorem dd_Reader_takeInNode_109 : decode bb_Reader_takeInNode 109 = .ok (.aload_n 0, 1) := by decide +kernel
theorem dd_Reader_takeInNode_110 : decode bb_Reader_takeInNode 110 = .ok (.iconst 5, 1) := by decide +kernel
theorem dd_Reader_takeInNode_111 : decode bb_Reader_takeInNode 111 = .ok (.putfield 33, 3) := by decide +kernel
theorem dd_Reader_takeInNode_114 : decode bb_Reader_takeInNode 114 = .ok (.goto 71, 3) := by decide +kernel
theorem dd_Reader_takeInNode_117 : decode bb_Reader_takeInNode 117 = .ok (.aload_n 0, 1) := by decide +kernel
theorem dd_Reader_takeInNode_118 : decode bb_Reader_takeInNode 118 = .ok (.getfield 33, 3) := by decide +kernel
theorem dd_Reader_takeInNode_121 : decode bb_Reader_takeInNode 121 = .ok (.iconst 4, 1) := by decide +kernel
theorem dd_Reader_takeInNode_122 : decode bb_Reader_takeInNode 122 = .ok (.if_icmp .eq 11, 3) := by decide +kernel
theorem dd_Reader_takeInNode_125 : decode bb_Reader_takeInNode 125 = .ok (.aload_n 0, 1) := by decide +kernel
theorem dd_Reader_takeInNode_126 : decode bb_Reader_takeInNode 126 = .ok (.getfield 33, 3) := by decide +kernel
theorem dd_Reader_takeInNode_129 : decode bb_Reader_takeInNode 129 = .ok (.iconst 5, 1) := by decide +kernel
theorem dd_Reader_takeInNode_130 : decode bb_Reader_takeInNode 130 = .ok (.if_icmp .ne 50, 3) := by decide +kernel
theorem dd_Reader_takeInNode_133 : decode bb_Reader_takeInNode 133 = .ok (.iload_n 1, 1) := by decide +kernel
theorem dd_Reader_takeInNode_134 : decode bb_Reader_takeInNode 134 = .ok (.bipush 58, 2) := by decide +kernel
theorem dd_Reader_takeInNode_136 : decode bb_Reader_takeInNode 136 = .ok (.if_icmp .eq 9, 3) := by decide +kernel
theorem dd_Reader_takeInNode_139 : decode bb_Reader_takeInNode 139 = .ok (.iload_n 1, 1) := by decide +kernel
theorem dd_Reader_takeInNode_140 : decode bb_Reader_takeInNode 140 = .ok (.bipush 41, 2) := by decide +kernel
theorem dd_Reader_takeInNode_142 : decode bb_Reader_takeInNode 142 = .ok (.if_icmp .ne 38, 3) := by decide +kernel
theorem dd_Reader_takeInNode_145 : decode bb_Reader_takeInNode 145 = .ok (.aload_n 0, 1) := by decide +kernel
theorem dd_Reader_takeInNode_146 : decode bb_Reader_takeInNode 146 = .ok (.getfield 33, 3) := by decide +kernel
theorem dd_Reader_takeInNode_149 : decode bb_Reader_takeInNode 149 = .ok (.iconst 4, 1) := by decide +kernel
theorem dd_Reader_takeInNode_150 : decode bb_Reader_takeInNode 150 = .ok (.if_icmp .ne 11, 3) := by decide +kernel
theorem dd_Reader_takeInNode_153 : decode bb_Reader_takeInNode 153 = .ok (.aload_n 0, 1) := by decide +kernel
theorem dd_Reader_takeInNode_154 : decode bb_Reader_takeInNode 154 = .ok (.aload_n 0, 1) := by decide +kernel
theorem dd_Reader_takeInNode_155 : decode bb_Reader_takeInNode 155 = .ok (.getfield 51, 3) := by decide +kernel
theorem dd_Reader_takeInNode_158 : decode bb_Reader_takeInNode 158 = .ok (.invokevirtual 187, 3) := by decide +kernel
theorem dd_Reader_takeInNode_161 : decode bb_Reader_takeInNode 161 = .ok (.aload_n 0, 1) := by decide +kernel
theorem dd_Reader_takeInNode_162 : decode bb_Reader_takeInNode 162 = .ok (.bipush 6, 2) := by decide +kernel
theorem dd_Reader_takeInNode_164 : decode bb_Reader_takeInNode 164 = .ok (.putfield 33, 3) := by decide +kernel
theorem dd_Reader_takeInNode_167 : decode bb_Reader_takeInNode 167 = .ok (.iload_n 1, 1) := by decide +kernel
theorem dd_Reader_takeInNode_168 : decode bb_Reader_takeInNode 168 = .ok (.bipush 41, 2) := by decide +kernel
theorem dd_Reader_takeInNode_170 : decode bb_Reader_takeInNode 170 = .ok (.if_icmp .ne 15, 3) := by decide +kernel
theorem dd_Reader_takeInNode_173 : decode bb_Reader_takeInNode 173 = .ok (.aload_n 0, 1) := by decide +kernel
theorem dd_Reader_takeInNode_174 : decode bb_Reader_takeInNode 174 = .ok (.invokevirtual 190, 3) := by decide +kernel
theorem dd_Reader_takeInNode_177 : decode bb_Reader_takeInNode 177 = .ok (.goto 8, 3) := by decide +kernel
theorem dd_Reader_takeInNode_180 : decode bb_Reader_takeInNode 180 = .ok (.aload_n 0, 1) := by decide +kernel
theorem dd_Reader_takeInNode_181 : decode bb_Reader_takeInNode 181 = .ok (.iconst 2, 1) := by decide +kernel
theorem dd_Reader_takeInNode_182 : decode bb_Reader_takeInNode 182 = .ok (.invokevirtual 133, 3) := by decide +kernel
theorem dd_Reader_takeInNode_185 : decode bb_Reader_takeInNode 185 = .ok (.return_, 1) := by decide +kernel
def f_Reader_takeInNode_185 (nf : Nat)  (c : Zc) : Option (Zc) :=
  some c
def f_Reader_takeInNode_161 (nf : Nat) (x0 : Nat) (x1 : Int32) (c : Zc) : Option (Zc) :=
  (zpv c x0 5 8 (.int 6)).bind fun c12 => if x1 = 41 then ((zob c12 x0 5).bind fun w15 => (f_Reader_closeNode nf x0 c12).bind fun q14 => f_Reader_takeInNode_185 nf  q14) else (f_Reader_takeInNode_185 nf  c12)
def f_Reader_takeInNode_145 (nf : Nat) (x0 : Nat) (x1 : Int32) (c : Zc) : Option (Zc) :=
  (zgi c x0 5 8).bind fun v10 => if v10 = 4 then ((zgi c x0 5 14).bind fun v16 => (zob c x0 5).bind fun w18 => (f_Reader_tellNode nf x0 v16 c).bind fun q17 => f_Reader_takeInNode_161 nf x0 x1 q17) else (f_Reader_takeInNode_161 nf x0 x1 c)
def f_Reader_takeInNode_180 (nf : Nat) (x0 : Nat) (c : Zc) : Option (Zc) :=
  (zob c x0 5).bind fun w21 => (f_Reader_fail nf x0 2 c).bind fun q20 => f_Reader_takeInNode_185 nf  q20
def f_Reader_takeInNode_133 (nf : Nat) (x0 : Nat) (x1 : Int32) (c : Zc) : Option (Zc) :=
  if x1 = 58 then (f_Reader_takeInNode_145 nf x0 x1 c) else (if x1 = 41 then (f_Reader_takeInNode_145 nf x0 x1 c) else (f_Reader_takeInNode_180 nf x0 c))
def f_Reader_takeInNode_117 (nf : Nat) (x0 : Nat) (x1 : Int32) (c : Zc) : Option (Zc) :=
  (zgi c x0 5 8).bind fun v7 => if v7 = 4 then (f_Reader_takeInNode_133 nf x0 x1 c) else ((zgi c x0 5 8).bind fun v22 => if v22 = 5 then (f_Reader_takeInNode_133 nf x0 x1 c) else (f_Reader_takeInNode_180 nf x0 c))
def f_Reader_takeInNode_72 (nf : Nat) (x0 : Nat) (x1 : Int32) (c : Zc) : Option (Zc) :=
  (zgi c x0 5 8).bind fun v5 => if v5 = 6 then (if x1 = 3 then ((zgi c x0 5 17).bind fun v25 => (zgr c x0 5 1).bind fun v26 => (zgr c v26 3 1).bind fun v27 => (zgi c x0 5 7).bind fun v28 => (zai c v27 0 v28).bind fun v29 => (zpv c x0 5 17 (.int (v25 ||| (1 <<< (v29 &&& 31))))).bind fun c30 => (zpv c30 x0 5 8 (.int 5)).bind fun c31 => f_Reader_takeInNode_185 nf  c31) else (f_Reader_takeInNode_117 nf x0 x1 c)) else (f_Reader_takeInNode_117 nf x0 x1 c)
def f_Reader_takeInNode_35 (nf : Nat) (x0 : Nat) (x1 : Int32) (c : Zc) : Option (Zc) :=
  (zgi c x0 5 8).bind fun v3 => if v3 = 4 then (if x1 = 2 then ((zgr c x0 5 1).bind fun v33 => (zgr c v33 3 1).bind fun v34 => (zgi c x0 5 7).bind fun v35 => (zai c v34 0 v35).bind fun v36 => (zob c x0 5).bind fun w38 => (f_Reader_nameNode nf x0 v36 c).bind fun q37 => (zpv q37 x0 5 8 (.int 5)).bind fun c39 => f_Reader_takeInNode_185 nf  c39) else (f_Reader_takeInNode_72 nf x0 x1 c)) else (f_Reader_takeInNode_72 nf x0 x1 c)
def f_Reader_takeInNode (nf : Nat) (a0 : Nat) (a1 : Int32) (c : Zc) : Option (Zc) :=
  (zgi c a0 5 8).bind fun v1 => if v1 = 3 then (if a1 = 40 then ((zgi c a0 5 7).bind fun v41 => (zpv c a0 5 14 (.int v41)).bind fun c42 => (zpv c42 a0 5 17 (.int 0)).bind fun c43 => (zpv c43 a0 5 8 (.int 4)).bind fun c44 => f_Reader_takeInNode_185 nf  c44) else (f_Reader_takeInNode_35 nf a0 a1 c)) else (f_Reader_takeInNode_35 nf a0 a1 c)
set_option maxRecDepth 100000 in
set_option maxHeartbeats 4000000 in
theorem t_Reader_takeInNode_185  (X : zX p s m args cd D cid B bb_Reader_takeInNode 2 rr_Reader zT) (H : zH s meth B n0 none "takeInNode") {nf : Nat}  {c : Zc} {res : Zc} (h : f_Reader_takeInNode_185 nf  c = some res) : Zz p l e (zRm 4 85 0 0) s m args below meth cd (MQ below (zQv D cid B res n0 0) args s 0 0 (fun q => B ≤ q)) D cid B 2 0 0 c 185 [] [] := by
  unfold f_Reader_takeInNode_185 at h
  obtain rfl := Option.some.inj h
  exact z_vret X H.1 H.2.1 H.2.2.1 dd_Reader_takeInNode_185
set_option maxRecDepth 100000 in
set_option maxHeartbeats 4000000 in
theorem t_Reader_takeInNode_161  (X : zX p s m args cd D cid B bb_Reader_takeInNode 2 rr_Reader zT) (H : zH s meth B n0 none "takeInNode") {nf : Nat} {x0 : Nat} {x1 : Int32} {c : Zc} {res : Zc} (h : f_Reader_takeInNode_161 nf x0 x1 c = some res) : Zz p l e (zRm 4 85 0 0) s m args below meth cd (MQ below (zQv D cid B res n0 0) args s 0 0 (fun q => B ≤ q)) D cid B 2 0 0 c 161 [(0, .ref x0), (1, .int x1)] [] := by
  unfold f_Reader_takeInNode_161 at h
  refine z_aload_n X dd_Reader_takeInNode_161 rfl 0 rfl ?_
  refine z_bipush (v := 6) X dd_Reader_takeInNode_162 (by decide) ?_
  obtain ⟨c12, ec12, h⟩ := zb h
  refine z_put (j := 8) X dd_Reader_takeInNode_164 kc_5 ki_5 tt_Reader tk_Reader nn_Reader (by decide) km_482 rfl (tk_Reader 8 (by decide)) rfl rfl ec12 ?_
  refine z_iload_n X dd_Reader_takeInNode_167 rfl 1 rfl ?_
  refine z_bipush (v := 41) X dd_Reader_takeInNode_168 (by decide) ?_
  refine z_icmp_ne (tgt := 185) X dd_Reader_takeInNode_170 (by decide) (fun q13 => ?_) (fun q13 => ?_)
  · rw [if_neg q13] at h
    refine z_sub [] rfl ?_
    exact t_Reader_takeInNode_185 X H h
  · rw [if_pos q13] at h
    refine z_aload_n X dd_Reader_takeInNode_173 rfl 0 rfl ?_
    obtain ⟨w15, ew15, h⟩ := zb h
    obtain ⟨q14, eq14, h⟩ := zb h
    refine z_callVv X [] rfl dd_Reader_takeInNode_174 (c_Reader_closeNode l eq14) (cwV 0 X.1.2.2.2.2 (zg_V km_1030 km_1032 km_19 km_130 km_1033) rfl rfl rfl (by decide +kernel) ⟨Nat.le_of_ble_eq_true rfl, Nat.le_of_ble_eq_true rfl⟩) (zob_s ew15) kc_5 rfl (Nat.le_of_ble_eq_true rfl) ⟨Nat.le_of_ble_eq_true rfl, Nat.le_of_ble_eq_true rfl⟩ ?_
    refine z_goto (tgt := 185) X dd_Reader_takeInNode_177 (by decide) ?_
    refine z_sub [] rfl ?_
    exact t_Reader_takeInNode_185 X H h
set_option maxRecDepth 100000 in
set_option maxHeartbeats 4000000 in
theorem t_Reader_takeInNode_145  (X : zX p s m args cd D cid B bb_Reader_takeInNode 2 rr_Reader zT) (H : zH s meth B n0 none "takeInNode") {nf : Nat} {x0 : Nat} {x1 : Int32} {c : Zc} {res : Zc} (h : f_Reader_takeInNode_145 nf x0 x1 c = some res) : Zz p l e (zRm 4 85 0 0) s m args below meth cd (MQ below (zQv D cid B res n0 0) args s 0 0 (fun q => B ≤ q)) D cid B 2 0 0 c 145 [(0, .ref x0), (1, .int x1)] [] := by
  unfold f_Reader_takeInNode_145 at h
  refine z_aload_n X dd_Reader_takeInNode_145 rfl 0 rfl ?_
  obtain ⟨v10, ev10, h⟩ := zb h
  refine z_get (j := 8) X dd_Reader_takeInNode_146 kc_5 ki_5 (by decide) km_482 (zgi_v ev10) ?_
  refine z_iconst (v := 4) X dd_Reader_takeInNode_149 (by decide) ?_
  refine z_icmp_ne (tgt := 161) X dd_Reader_takeInNode_150 (by decide) (fun q11 => ?_) (fun q11 => ?_)
  · rw [if_neg q11] at h
    exact t_Reader_takeInNode_161 X H h
  · rw [if_pos q11] at h
    refine z_aload_n X dd_Reader_takeInNode_153 rfl 0 rfl ?_
    refine z_aload_n X dd_Reader_takeInNode_154 rfl 0 rfl ?_
    obtain ⟨v16, ev16, h⟩ := zb h
    refine z_get (j := 14) X dd_Reader_takeInNode_155 kc_5 ki_5 (by decide) km_488 (zgi_v ev16) ?_
    obtain ⟨w18, ew18, h⟩ := zb h
    obtain ⟨q17, eq17, h⟩ := zb h
    refine z_callVv X [.int v16] rfl dd_Reader_takeInNode_158 (c_Reader_tellNode l eq17) (cwV 1 X.1.2.2.2.2 (zg_V km_1018 km_1020 km_16 km_130 km_1021) rfl rfl rfl (by decide +kernel) ⟨Nat.le_of_ble_eq_true rfl, Nat.le_of_ble_eq_true rfl⟩) (zob_s ew18) kc_5 rfl (Nat.le_of_ble_eq_true rfl) ⟨Nat.le_of_ble_eq_true rfl, Nat.le_of_ble_eq_true rfl⟩ ?_
    exact t_Reader_takeInNode_161 X H h
set_option maxRecDepth 100000 in
set_option maxHeartbeats 4000000 in
theorem t_Reader_takeInNode_180  (X : zX p s m args cd D cid B bb_Reader_takeInNode 2 rr_Reader zT) (H : zH s meth B n0 none "takeInNode") {nf : Nat} {x0 : Nat} {c : Zc} {res : Zc} (h : f_Reader_takeInNode_180 nf x0 c = some res) : Zz p l e (zRm 4 85 0 0) s m args below meth cd (MQ below (zQv D cid B res n0 0) args s 0 0 (fun q => B ≤ q)) D cid B 2 0 0 c 180 [(0, .ref x0)] [] := by
  unfold f_Reader_takeInNode_180 at h
  refine z_aload_n X dd_Reader_takeInNode_180 rfl 0 rfl ?_
  refine z_iconst (v := 2) X dd_Reader_takeInNode_181 (by decide) ?_
  obtain ⟨w21, ew21, h⟩ := zb h
  obtain ⟨q20, eq20, h⟩ := zb h
  refine z_callVv X [.int 2] rfl dd_Reader_takeInNode_182 (c_Reader_fail l eq20) (cwV 1 X.1.2.2.2.2 (zg_V km_998 km_1000 km_11 km_130 km_1001) rfl rfl rfl (by decide +kernel) ⟨Nat.le_of_ble_eq_true rfl, Nat.le_of_ble_eq_true rfl⟩) (zob_s ew21) kc_5 rfl (Nat.le_of_ble_eq_true rfl) ⟨Nat.le_of_ble_eq_true rfl, Nat.le_of_ble_eq_true rfl⟩ ?_
  refine z_sub [] rfl ?_
  exact t_Reader_takeInNode_185 X H h
set_option maxRecDepth 100000 in
set_option maxHeartbeats 4000000 in
theorem t_Reader_takeInNode_133  (X : zX p s m args cd D cid B bb_Reader_takeInNode 2 rr_Reader zT) (H : zH s meth B n0 none "takeInNode") {nf : Nat} {x0 : Nat} {x1 : Int32} {c : Zc} {res : Zc} (h : f_Reader_takeInNode_133 nf x0 x1 c = some res) : Zz p l e (zRm 4 85 0 0) s m args below meth cd (MQ below (zQv D cid B res n0 0) args s 0 0 (fun q => B ≤ q)) D cid B 2 0 0 c 133 [(0, .ref x0), (1, .int x1)] [] := by
  unfold f_Reader_takeInNode_133 at h
  refine z_iload_n X dd_Reader_takeInNode_133 rfl 1 rfl ?_
  refine z_bipush (v := 58) X dd_Reader_takeInNode_134 (by decide) ?_
  refine z_icmp_eq (tgt := 145) X dd_Reader_takeInNode_136 (by decide) (fun q9 => ?_) (fun q9 => ?_)
  · rw [if_pos q9] at h
    exact t_Reader_takeInNode_145 X H h
  · rw [if_neg q9] at h
    refine z_iload_n X dd_Reader_takeInNode_139 rfl 1 rfl ?_
    refine z_bipush (v := 41) X dd_Reader_takeInNode_140 (by decide) ?_
    refine z_icmp_ne (tgt := 180) X dd_Reader_takeInNode_142 (by decide) (fun q19 => ?_) (fun q19 => ?_)
    · rw [if_neg q19] at h
      refine z_sub [0] rfl ?_
      exact t_Reader_takeInNode_180 X H h
    · rw [if_pos q19] at h
      exact t_Reader_takeInNode_145 X H h
set_option maxRecDepth 100000 in
set_option maxHeartbeats 4000000 in
theorem t_Reader_takeInNode_117  (X : zX p s m args cd D cid B bb_Reader_takeInNode 2 rr_Reader zT) (H : zH s meth B n0 none "takeInNode") {nf : Nat} {x0 : Nat} {x1 : Int32} {c : Zc} {res : Zc} (h : f_Reader_takeInNode_117 nf x0 x1 c = some res) : Zz p l e (zRm 4 85 0 0) s m args below meth cd (MQ below (zQv D cid B res n0 0) args s 0 0 (fun q => B ≤ q)) D cid B 2 0 0 c 117 [(0, .ref x0), (1, .int x1)] [] := by
  unfold f_Reader_takeInNode_117 at h
  refine z_aload_n X dd_Reader_takeInNode_117 rfl 0 rfl ?_
  obtain ⟨v7, ev7, h⟩ := zb h
  refine z_get (j := 8) X dd_Reader_takeInNode_118 kc_5 ki_5 (by decide) km_482 (zgi_v ev7) ?_
  refine z_iconst (v := 4) X dd_Reader_takeInNode_121 (by decide) ?_
  refine z_icmp_eq (tgt := 133) X dd_Reader_takeInNode_122 (by decide) (fun q8 => ?_) (fun q8 => ?_)
  · rw [if_pos q8] at h
    exact t_Reader_takeInNode_133 X H h
  · rw [if_neg q8] at h
    refine z_aload_n X dd_Reader_takeInNode_125 rfl 0 rfl ?_
    obtain ⟨v22, ev22, h⟩ := zb h
    refine z_get (j := 8) X dd_Reader_takeInNode_126 kc_5 ki_5 (by decide) km_482 (zgi_v ev22) ?_
    refine z_iconst (v := 5) X dd_Reader_takeInNode_129 (by decide) ?_
    refine z_icmp_ne (tgt := 180) X dd_Reader_takeInNode_130 (by decide) (fun q23 => ?_) (fun q23 => ?_)
    · rw [if_neg q23] at h
      refine z_sub [0] rfl ?_
      exact t_Reader_takeInNode_180 X H h
    · rw [if_pos q23] at h
      exact t_Reader_takeInNode_133 X H h
set_option maxRecDepth 100000 in
set_option maxHeartbeats 4000000 in
theorem t_Reader_takeInNode_72  (X : zX p s m args cd D cid B bb_Reader_takeInNode 2 rr_Reader zT) (H : zH s meth B n0 none "takeInNode") {nf : Nat} {x0 : Nat} {x1 : Int32} {c : Zc} {res : Zc} (h : f_Reader_takeInNode_72 nf x0 x1 c = some res) : Zz p l e (zRm 4 85 0 0) s m args below meth cd (MQ below (zQv D cid B res n0 0) args s 0 0 (fun q => B ≤ q)) D cid B 2 0 0 c 72 [(0, .ref x0), (1, .int x1)] [] := by
  unfold f_Reader_takeInNode_72 at h
  refine z_aload_n X dd_Reader_takeInNode_72 rfl 0 rfl ?_
  obtain ⟨v5, ev5, h⟩ := zb h
  refine z_get (j := 8) X dd_Reader_takeInNode_73 kc_5 ki_5 (by decide) km_482 (zgi_v ev5) ?_
  refine z_bipush (v := 6) X dd_Reader_takeInNode_76 (by decide) ?_
  refine z_icmp_ne (tgt := 117) X dd_Reader_takeInNode_78 (by decide) (fun q6 => ?_) (fun q6 => ?_)
  · rw [if_neg q6] at h
    exact t_Reader_takeInNode_117 X H h
  · rw [if_pos q6] at h
    refine z_iload_n X dd_Reader_takeInNode_81 rfl 1 rfl ?_
    refine z_iconst (v := 3) X dd_Reader_takeInNode_82 (by decide) ?_
    refine z_icmp_ne (tgt := 117) X dd_Reader_takeInNode_83 (by decide) (fun q24 => ?_) (fun q24 => ?_)
    · rw [if_neg q24] at h
      exact t_Reader_takeInNode_117 X H h
    · rw [if_pos q24] at h
      refine z_aload_n X dd_Reader_takeInNode_86 rfl 0 rfl ?_
      refine z_dup X dd_Reader_takeInNode_87 rfl ?_
      obtain ⟨v25, ev25, h⟩ := zb h
      refine z_get (j := 17) X dd_Reader_takeInNode_88 kc_5 ki_5 (by decide) km_491 (zgi_v ev25) ?_
      refine z_iconst (v := 1) X dd_Reader_takeInNode_91 (by decide) ?_
      refine z_aload_n X dd_Reader_takeInNode_92 rfl 0 rfl ?_
      obtain ⟨v26, ev26, h⟩ := zb h
      refine z_get (j := 1) X dd_Reader_takeInNode_93 kc_5 ki_5 (by decide) km_475 (zgr_v ev26) ?_
      obtain ⟨v27, ev27, h⟩ := zb h
      refine z_get (j := 1) X dd_Reader_takeInNode_96 kc_3 ki_3 (by decide) km_419 (zgr_v ev27) ?_
      refine z_aload_n X dd_Reader_takeInNode_99 rfl 0 rfl ?_
      obtain ⟨v28, ev28, h⟩ := zb h
      refine z_get (j := 7) X dd_Reader_takeInNode_100 kc_5 ki_5 (by decide) km_481 (zgi_v ev28) ?_
      obtain ⟨v29, ev29, h⟩ := zb h
      refine z_iaload X dd_Reader_takeInNode_103 rfl ev29 ?_
      refine z_ishl X dd_Reader_takeInNode_104 ?_
      refine z_ior X dd_Reader_takeInNode_105 ?_
      obtain ⟨c30, ec30, h⟩ := zb h
      refine z_put (j := 17) X dd_Reader_takeInNode_106 kc_5 ki_5 tt_Reader tk_Reader nn_Reader (by decide) km_491 rfl (tk_Reader 17 (by decide)) rfl rfl ec30 ?_
      refine z_aload_n X dd_Reader_takeInNode_109 rfl 0 rfl ?_
      refine z_iconst (v := 5) X dd_Reader_takeInNode_110 (by decide) ?_
      obtain ⟨c31, ec31, h⟩ := zb h
      refine z_put (j := 8) X dd_Reader_takeInNode_111 kc_5 ki_5 tt_Reader tk_Reader nn_Reader (by decide) km_482 rfl (tk_Reader 8 (by decide)) rfl rfl ec31 ?_
      refine z_goto (tgt := 185) X dd_Reader_takeInNode_114 (by decide) ?_
      refine z_sub [] rfl ?_
      exact t_Reader_takeInNode_185 X H h
set_option maxRecDepth 100000 in
set_option maxHeartbeats 4000000 in
theorem t_Reader_takeInNode_35  (X : zX p s m args cd D cid B bb_Reader_takeInNode 2 rr_Reader zT) (H : zH s meth B n0 none "takeInNode") {nf : Nat} {x0 : Nat} {x1 : Int32} {c : Zc} {res : Zc} (h : f_Reader_takeInNode_35 nf x0 x1 c = some res) : Zz p l e (zRm 4 85 0 0) s m args below meth cd (MQ below (zQv D cid B res n0 0) args s 0 0 (fun q => B ≤ q)) D cid B 2 0 0 c 35 [(0, .ref x0), (1, .int x1)] [] := by
  unfold f_Reader_takeInNode_35 at h
  refine z_aload_n X dd_Reader_takeInNode_35 rfl 0 rfl ?_
  obtain ⟨v3, ev3, h⟩ := zb h
  refine z_get (j := 8) X dd_Reader_takeInNode_36 kc_5 ki_5 (by decide) km_482 (zgi_v ev3) ?_
  refine z_iconst (v := 4) X dd_Reader_takeInNode_39 (by decide) ?_
  refine z_icmp_ne (tgt := 72) X dd_Reader_takeInNode_40 (by decide) (fun q4 => ?_) (fun q4 => ?_)
  · rw [if_neg q4] at h
    exact t_Reader_takeInNode_72 X H h
  · rw [if_pos q4] at h
    refine z_iload_n X dd_Reader_takeInNode_43 rfl 1 rfl ?_
    refine z_iconst (v := 2) X dd_Reader_takeInNode_44 (by decide) ?_
    refine z_icmp_ne (tgt := 72) X dd_Reader_takeInNode_45 (by decide) (fun q32 => ?_) (fun q32 => ?_)
    · rw [if_neg q32] at h
      exact t_Reader_takeInNode_72 X H h
    · rw [if_pos q32] at h
      refine z_aload_n X dd_Reader_takeInNode_48 rfl 0 rfl ?_
      refine z_aload_n X dd_Reader_takeInNode_49 rfl 0 rfl ?_
      obtain ⟨v33, ev33, h⟩ := zb h
      refine z_get (j := 1) X dd_Reader_takeInNode_50 kc_5 ki_5 (by decide) km_475 (zgr_v ev33) ?_
      obtain ⟨v34, ev34, h⟩ := zb h
      refine z_get (j := 1) X dd_Reader_takeInNode_53 kc_3 ki_3 (by decide) km_419 (zgr_v ev34) ?_
      refine z_aload_n X dd_Reader_takeInNode_56 rfl 0 rfl ?_
      obtain ⟨v35, ev35, h⟩ := zb h
      refine z_get (j := 7) X dd_Reader_takeInNode_57 kc_5 ki_5 (by decide) km_481 (zgi_v ev35) ?_
      obtain ⟨v36, ev36, h⟩ := zb h
      refine z_iaload X dd_Reader_takeInNode_60 rfl ev36 ?_
      obtain ⟨w38, ew38, h⟩ := zb h
      obtain ⟨q37, eq37, h⟩ := zb h
      refine z_callVv X [.int v36] rfl dd_Reader_takeInNode_61 (c_Reader_nameNode l eq37) (cwV 1 X.1.2.2.2.2 (zg_V km_1014 km_1016 km_15 km_130 km_1017) rfl rfl rfl (by decide +kernel) ⟨Nat.le_of_ble_eq_true rfl, Nat.le_of_ble_eq_true rfl⟩) (zob_s ew38) kc_5 rfl (Nat.le_of_ble_eq_true rfl) ⟨Nat.le_of_ble_eq_true rfl, Nat.le_of_ble_eq_true rfl⟩ ?_
      refine z_aload_n X dd_Reader_takeInNode_64 rfl 0 rfl ?_
      refine z_iconst (v := 5) X dd_Reader_takeInNode_65 (by decide) ?_
      obtain ⟨c39, ec39, h⟩ := zb h
      refine z_put (j := 8) X dd_Reader_takeInNode_66 kc_5 ki_5 tt_Reader tk_Reader nn_Reader (by decide) km_482 rfl (tk_Reader 8 (by decide)) rfl rfl ec39 ?_
      refine z_goto (tgt := 185) X dd_Reader_takeInNode_69 (by decide) ?_
      refine z_sub [] rfl ?_
      exact t_Reader_takeInNode_185 X H h
set_option maxRecDepth 100000 in
set_option maxHeartbeats 4000000 in
theorem c_Reader_takeInNode (l : Launch) {nf : Nat} {a0 : Nat} {a1 : Int32} {c : Zc} {res : Zc} (h : f_Reader_takeInNode nf a0 a1 c = some res) : zM l yy_Reader_takeInNode ww_Reader_takeInNode 4 85 0 0 [.ref a0, .int a1] c (fun D cid B => zQv D cid B res c.length 0) := by
  refine z_met (cc := bb_Reader_takeInNode) (maxL := 2) (ret := none) (by decide +kernel) rfl (Nat.le_of_ble_eq_true rfl) ?_
  intro p e s m args below meth cd D cid B X h1 h2 h3 h4
  have X : zX p s m args cd D cid B bb_Reader_takeInNode 2 rr_Reader zT := X
  have H : zH s meth B c.length none "takeInNode" := ⟨h1, h2, h4, h3⟩
  unfold f_Reader_takeInNode at h
  show Zz p l e (zRm 4 85 0 0) s m args below meth cd _ D cid B 2 0 0 c 0 [(0, .ref a0), (1, .int a1)] []
  refine z_aload_n X dd_Reader_takeInNode_0 rfl 0 rfl ?_
  obtain ⟨v1, ev1, h⟩ := zb h
  refine z_get (j := 8) X dd_Reader_takeInNode_1 kc_5 ki_5 (by decide) km_482 (zgi_v ev1) ?_
  refine z_iconst (v := 3) X dd_Reader_takeInNode_4 (by decide) ?_
  refine z_icmp_ne (tgt := 35) X dd_Reader_takeInNode_5 (by decide) (fun q2 => ?_) (fun q2 => ?_)
  · rw [if_neg q2] at h
    exact t_Reader_takeInNode_35 X H h
  · rw [if_pos q2] at h
    refine z_iload_n X dd_Reader_takeInNode_8 rfl 1 rfl ?_
    refine z_bipush (v := 40) X dd_Reader_takeInNode_9 (by decide) ?_
    refine z_icmp_ne (tgt := 35) X dd_Reader_takeInNode_11 (by decide) (fun q40 => ?_) (fun q40 => ?_)
    · rw [if_neg q40] at h
      exact t_Reader_takeInNode_35 X H h
    · rw [if_pos q40] at h
      refine z_aload_n X dd_Reader_takeInNode_14 rfl 0 rfl ?_
      refine z_aload_n X dd_Reader_takeInNode_15 rfl 0 rfl ?_
      obtain ⟨v41, ev41, h⟩ := zb h
      refine z_get (j := 7) X dd_Reader_takeInNode_16 kc_5 ki_5 (by decide) km_481 (zgi_v ev41) ?_
      obtain ⟨c42, ec42, h⟩ := zb h
      refine z_put (j := 14) X dd_Reader_takeInNode_19 kc_5 ki_5 tt_Reader tk_Reader nn_Reader (by decide) km_488 rfl (tk_Reader 14 (by decide)) rfl rfl ec42 ?_
      refine z_aload_n X dd_Reader_takeInNode_22 rfl 0 rfl ?_
      refine z_iconst (v := 0) X dd_Reader_takeInNode_23 (by decide) ?_
      obtain ⟨c43, ec43, h⟩ := zb h
      refine z_put (j := 17) X dd_Reader_takeInNode_24 kc_5 ki_5 tt_Reader tk_Reader nn_Reader (by decide) km_491 rfl (tk_Reader 17 (by decide)) rfl rfl ec43 ?_
      refine z_aload_n X dd_Reader_takeInNode_27 rfl 0 rfl ?_
      refine z_iconst (v := 4) X dd_Reader_takeInNode_28 (by decide) ?_
      obtain ⟨c44, ec44, h⟩ := zb h
      refine z_put (j := 8) X dd_Reader_takeInNode_29 kc_5 ki_5 tt_Reader tk_Reader nn_Reader (by decide) km_482 rfl (tk_Reader 8 (by decide)) rfl rfl ec44 ?_
      refine z_goto (tgt := 185) X dd_Reader_takeInNode_32 (by decide) ?_
      refine z_sub [] rfl ?_
      exact t_Reader_takeInNode_185 X H h
theorem dd_Reader_openWay_0 : decode bb_Reader_openWay 0 = .ok (.aload_n 0, 1) := by decide +kernel
theorem dd_Reader_openWay_1 : decode bb_Reader_openWay 1 = .ok (.getfield 69, 3) := by decide +kernel
theorem dd_Reader_openWay_4 : decode bb_Reader_openWay 4 = .ok (.getfield 236, 3) := by decide +kernel
theorem dd_Reader_openWay_7 : decode bb_Reader_openWay 7 = .ok (.bipush 10, 2) := by decide +kernel
theorem dd_Reader_openWay_9 : decode bb_Reader_openWay 9 = .ok (.if_icmp .lt 11, 3) := by decide +kernel
theorem dd_Reader_openWay_12 : decode bb_Reader_openWay 12 = .ok (.aload_n 0, 1) := by decide +kernel
theorem dd_Reader_openWay_13 : decode bb_Reader_openWay 13 = .ok (.iconst 3, 1) := by decide +kernel
theorem dd_Reader_openWay_14 : decode bb_Reader_openWay 14 = .ok (.invokevirtual 133, 3) := by decide +kernel
theorem dd_Reader_openWay_17 : decode bb_Reader_openWay 17 = .ok (.goto 57, 3) := by decide +kernel
theorem dd_Reader_openWay_20 : decode bb_Reader_openWay 20 = .ok (.aload_n 0, 1) := by decide +kernel
theorem dd_Reader_openWay_21 : decode bb_Reader_openWay 21 = .ok (.aload_n 0, 1) := by decide +kernel
theorem dd_Reader_openWay_22 : decode bb_Reader_openWay 22 = .ok (.getfield 69, 3) := by decide +kernel
theorem dd_Reader_openWay_25 : decode bb_Reader_openWay 25 = .ok (.getfield 73, 3) := by decide +kernel
theorem dd_Reader_openWay_28 : decode bb_Reader_openWay 28 = .ok (.aload_n 0, 1) := by decide +kernel
theorem dd_Reader_openWay_29 : decode bb_Reader_openWay 29 = .ok (.getfield 69, 3) := by decide +kernel
theorem dd_Reader_openWay_32 : decode bb_Reader_openWay 32 = .ok (.getfield 236, 3) := by decide +kernel
theorem dd_Reader_openWay_35 : decode bb_Reader_openWay 35 = .ok (.aaload, 1) := by decide +kernel
theorem dd_Reader_openWay_36 : decode bb_Reader_openWay 36 = .ok (.putfield 79, 3) := by decide +kernel
theorem dd_Reader_openWay_39 : decode bb_Reader_openWay 39 = .ok (.aload_n 0, 1) := by decide +kernel
theorem dd_Reader_openWay_40 : decode bb_Reader_openWay 40 = .ok (.getfield 79, 3) := by decide +kernel
theorem dd_Reader_openWay_43 : decode bb_Reader_openWay 43 = .ok (.iload_n 1, 1) := by decide +kernel
theorem dd_Reader_openWay_44 : decode bb_Reader_openWay 44 = .ok (.invokevirtual 239, 3) := by decide +kernel
theorem dd_Reader_openWay_47 : decode bb_Reader_openWay 47 = .ok (.aload_n 0, 1) := by decide +kernel
theorem dd_Reader_openWay_48 : decode bb_Reader_openWay 48 = .ok (.getfield 69, 3) := by decide +kernel
theorem dd_Reader_openWay_51 : decode bb_Reader_openWay 51 = .ok (.dup, 1) := by decide +kernel
theorem dd_Reader_openWay_52 : decode bb_Reader_openWay 52 = .ok (.getfield 236, 3) := by decide +kernel
theorem dd_Reader_openWay_55 : decode bb_Reader_openWay 55 = .ok (.iconst 1, 1) := by decide +kernel
theorem dd_Reader_openWay_56 : decode bb_Reader_openWay 56 = .ok (.iadd, 1) := by decide +kernel
theorem dd_Reader_openWay_57 : decode bb_Reader_openWay 57 = .ok (.putfield 236, 3) := by decide +kernel
theorem dd_Reader_openWay_60 : decode bb_Reader_openWay 60 = .ok (.aload_n 0, 1) := by decide +kernel
theorem dd_Reader_openWay_61 : decode bb_Reader_openWay 61 = .ok (.aload_n 0, 1) := by decide +kernel
theorem dd_Reader_openWay_62 : decode bb_Reader_openWay 62 = .ok (.getfield 57, 3) := by decide +kernel
theorem dd_Reader_openWay_65 : decode bb_Reader_openWay 65 = .ok (.putfield 54, 3) := by decide +kernel
theorem dd_Reader_openWay_68 : decode bb_Reader_openWay 68 = .ok (.aload_n 0, 1) := by decide +kernel
theorem dd_Reader_openWay_69 : decode bb_Reader_openWay 69 = .ok (.bipush 8, 2) := by decide +kernel
theorem dd_Reader_openWay_71 : decode bb_Reader_openWay 71 = .ok (.putfield 33, 3) := by decide +kernel
theorem dd_Reader_openWay_74 : decode bb_Reader_openWay 74 = .ok (.return_, 1) := by decide +kernel
def f_Reader_openWay_74 (nf : Nat)  (c : Zc) : Option (Zc) :=
  some c
def f_Reader_openWay (nf : Nat) (a0 : Nat) (a1 : Int32) (c : Zc) : Option (Zc) :=
  (zgr c a0 5 4).bind fun v1 => (zgi c v1 2 3).bind fun v2 => if v2 < 10 then ((zgr c a0 5 4).bind fun v4 => (zgr c v4 2 4).bind fun v5 => (zgr c a0 5 4).bind fun v6 => (zgi c v6 2 3).bind fun v7 => (zar c v5 3 v7).bind fun v8 => (zpv c a0 5 5 (.ref v8)).bind fun c9 => (zgr c9 a0 5 5).bind fun v10 => (zob c9 v10 1).bind fun w12 => (f_Way_open nf v10 a1 c9).bind fun q11 => (zgr q11 a0 5 4).bind fun v13 => (zgi q11 v13 2 3).bind fun v14 => (zpv q11 v13 2 3 (.int (v14 + 1))).bind fun c15 => (zgi c15 a0 5 16).bind fun v16 => (zpv c15 a0 5 15 (.int v16)).bind fun c17 => (zpv c17 a0 5 8 (.int 8)).bind fun c18 => f_Reader_openWay_74 nf  c18) else ((zob c a0 5).bind fun w20 => (f_Reader_fail nf a0 3 c).bind fun q19 => f_Reader_openWay_74 nf  q19)
set_option maxRecDepth 100000 in
set_option maxHeartbeats 4000000 in
theorem t_Reader_openWay_74  (X : zX p s m args cd D cid B bb_Reader_openWay 2 rr_Reader zT) (H : zH s meth B n0 none "openWay") {nf : Nat}  {c : Zc} {res : Zc} (h : f_Reader_openWay_74 nf  c = some res) : Zz p l e (zRm 2 43 0 0) s m args below meth cd (MQ below (zQv D cid B res n0 0) args s 0 0 (fun q => B ≤ q)) D cid B 2 0 0 c 74 [] [] := by
  unfold f_Reader_openWay_74 at h
  obtain rfl := Option.some.inj h
  exact z_vret X H.1 H.2.1 H.2.2.1 dd_Reader_openWay_74
set_option maxRecDepth 100000 in
set_option maxHeartbeats 4000000 in
theorem c_Reader_openWay (l : Launch) {nf : Nat} {a0 : Nat} {a1 : Int32} {c : Zc} {res : Zc} (h : f_Reader_openWay nf a0 a1 c = some res) : zM l yy_Reader_openWay ww_Reader_openWay 2 43 0 0 [.ref a0, .int a1] c (fun D cid B => zQv D cid B res c.length 0) := by
  refine z_met (cc := bb_Reader_openWay) (maxL := 2) (ret := none) (by decide +kernel) rfl (Nat.le_of_ble_eq_true rfl) ?_
  intro p e s m args below meth cd D cid B X h1 h2 h3 h4
  have X : zX p s m args cd D cid B bb_Reader_openWay 2 rr_Reader zT := X
  have H : zH s meth B c.length none "openWay" := ⟨h1, h2, h4, h3⟩
  unfold f_Reader_openWay at h
  show Zz p l e (zRm 2 43 0 0) s m args below meth cd _ D cid B 2 0 0 c 0 [(0, .ref a0), (1, .int a1)] []
  refine z_aload_n X dd_Reader_openWay_0 rfl 0 rfl ?_
  obtain ⟨v1, ev1, h⟩ := zb h
  refine z_get (j := 4) X dd_Reader_openWay_1 kc_5 ki_5 (by decide) km_478 (zgr_v ev1) ?_
  obtain ⟨v2, ev2, h⟩ := zb h
  refine z_get (j := 3) X dd_Reader_openWay_4 kc_2 ki_2 (by decide) km_311 (zgi_v ev2) ?_
  refine z_bipush (v := 10) X dd_Reader_openWay_7 (by decide) ?_
  refine z_icmp_lt (tgt := 20) X dd_Reader_openWay_9 (by decide) (fun q3 => ?_) (fun q3 => ?_)
  · rw [if_pos q3] at h
    refine z_aload_n X dd_Reader_openWay_20 rfl 0 rfl ?_
    refine z_aload_n X dd_Reader_openWay_21 rfl 0 rfl ?_
    obtain ⟨v4, ev4, h⟩ := zb h
    refine z_get (j := 4) X dd_Reader_openWay_22 kc_5 ki_5 (by decide) km_478 (zgr_v ev4) ?_
    obtain ⟨v5, ev5, h⟩ := zb h
    refine z_get (j := 4) X dd_Reader_openWay_25 kc_2 ki_2 (by decide) km_314 (zgr_v ev5) ?_
    refine z_aload_n X dd_Reader_openWay_28 rfl 0 rfl ?_
    obtain ⟨v6, ev6, h⟩ := zb h
    refine z_get (j := 4) X dd_Reader_openWay_29 kc_5 ki_5 (by decide) km_478 (zgr_v ev6) ?_
    obtain ⟨v7, ev7, h⟩ := zb h
    refine z_get (j := 3) X dd_Reader_openWay_32 kc_2 ki_2 (by decide) km_311 (zgi_v ev7) ?_
    obtain ⟨v8, ev8, h⟩ := zb h
    refine z_aaload X dd_Reader_openWay_35 rfl ev8 ?_
    obtain ⟨c9, ec9, h⟩ := zb h
    refine z_put (j := 5) X dd_Reader_openWay_36 kc_5 ki_5 tt_Reader tk_Reader nn_Reader (by decide) km_479 rfl (tk_Reader 5 (by decide)) rfl rfl ec9 ?_
    refine z_aload_n X dd_Reader_openWay_39 rfl 0 rfl ?_
    obtain ⟨v10, ev10, h⟩ := zb h
    refine z_get (j := 5) X dd_Reader_openWay_40 kc_5 ki_5 (by decide) km_479 (zgr_v ev10) ?_
    refine z_iload_n X dd_Reader_openWay_43 rfl 1 rfl ?_
    obtain ⟨w12, ew12, h⟩ := zb h
    obtain ⟨q11, eq11, h⟩ := zb h
    refine z_callVv X [.int a1] rfl dd_Reader_openWay_44 (c_Way_open l eq11) (cwV 1 X.1.2.2.2.2 (zg_V km_1051 km_1052 km_1053 km_129 km_1054) rfl rfl rfl (by decide +kernel) ⟨Nat.le_of_ble_eq_true rfl, Nat.le_of_ble_eq_true rfl⟩) (zob_s ew12) kc_1 rfl (Nat.le_of_ble_eq_true rfl) ⟨Nat.le_of_ble_eq_true rfl, Nat.le_of_ble_eq_true rfl⟩ ?_
    refine z_aload_n X dd_Reader_openWay_47 rfl 0 rfl ?_
    obtain ⟨v13, ev13, h⟩ := zb h
    refine z_get (j := 4) X dd_Reader_openWay_48 kc_5 ki_5 (by decide) km_478 (zgr_v ev13) ?_
    refine z_dup X dd_Reader_openWay_51 rfl ?_
    obtain ⟨v14, ev14, h⟩ := zb h
    refine z_get (j := 3) X dd_Reader_openWay_52 kc_2 ki_2 (by decide) km_311 (zgi_v ev14) ?_
    refine z_iconst (v := 1) X dd_Reader_openWay_55 (by decide) ?_
    refine z_iadd X dd_Reader_openWay_56 ?_
    obtain ⟨c15, ec15, h⟩ := zb h
    refine z_put (j := 3) X dd_Reader_openWay_57 kc_2 ki_2 tt_Text tk_Text nn_Text (by decide) km_311 rfl (tk_Text 3 (by decide)) rfl rfl ec15 ?_
    refine z_aload_n X dd_Reader_openWay_60 rfl 0 rfl ?_
    refine z_aload_n X dd_Reader_openWay_61 rfl 0 rfl ?_
    obtain ⟨v16, ev16, h⟩ := zb h
    refine z_get (j := 16) X dd_Reader_openWay_62 kc_5 ki_5 (by decide) km_490 (zgi_v ev16) ?_
    obtain ⟨c17, ec17, h⟩ := zb h
    refine z_put (j := 15) X dd_Reader_openWay_65 kc_5 ki_5 tt_Reader tk_Reader nn_Reader (by decide) km_489 rfl (tk_Reader 15 (by decide)) rfl rfl ec17 ?_
    refine z_aload_n X dd_Reader_openWay_68 rfl 0 rfl ?_
    refine z_bipush (v := 8) X dd_Reader_openWay_69 (by decide) ?_
    obtain ⟨c18, ec18, h⟩ := zb h
    refine z_put (j := 8) X dd_Reader_openWay_71 kc_5 ki_5 tt_Reader tk_Reader nn_Reader (by decide) km_482 rfl (tk_Reader 8 (by decide)) rfl rfl ec18 ?_
    refine z_sub [] rfl ?_
    exact t_Reader_openWay_74 X H h
  · rw [if_neg q3] at h
    refine z_aload_n X dd_Reader_openWay_12 rfl 0 rfl ?_
    refine z_iconst (v := 3) X dd_Reader_openWay_13 (by decide) ?_
    obtain ⟨w20, ew20, h⟩ := zb h
    obtain ⟨q19, eq19, h⟩ := zb h
    refine z_callVv X [.int 3] rfl dd_Reader_openWay_14 (c_Reader_fail l eq19) (cwV 1 X.1.2.2.2.2 (zg_V km_998 km_1000 km_11 km_130 km_1001) rfl rfl rfl (by decide +kernel) ⟨Nat.le_of_ble_eq_true rfl, Nat.le_of_ble_eq_true rfl⟩) (zob_s ew20) kc_5 rfl (Nat.le_of_ble_eq_true rfl) ⟨Nat.le_of_ble_eq_true rfl, Nat.le_of_ble_eq_true rfl⟩ ?_
    refine z_goto (tgt := 74) X dd_Reader_openWay_17 (by decide) ?_
    refine z_sub [] rfl ?_
    exact t_Reader_openWay_74 X H h
theorem dd_Reader_passOn_0 : decode bb_Reader_passOn 0 = .ok (.aload_n 0, 1) := by decide +kernel
theorem dd_Reader_passOn_1 : decode bb_Reader_passOn 1 = .ok (.iload_n 1, 1) := by decide +kernel
theorem dd_Reader_passOn_2 : decode bb_Reader_passOn 2 = .ok (.putfield 33, 3) := by decide +kernel
theorem dd_Reader_passOn_5 : decode bb_Reader_passOn 5 = .ok (.aload_n 0, 1) := by decide +kernel
theorem dd_Reader_passOn_6 : decode bb_Reader_passOn 6 = .ok (.iconst 0, 1) := by decide +kernel
theorem dd_Reader_passOn_7 : decode bb_Reader_passOn 7 = .ok (.putfield 66, 3) := by decide +kernel
theorem dd_Reader_passOn_10 : decode bb_Reader_passOn 10 = .ok (.return_, 1) := by decide +kernel
def f_Reader_passOn (nf : Nat) (a0 : Nat) (a1 : Int32) (c : Zc) : Option (Zc) :=
  (zpv c a0 5 8 (.int a1)).bind fun c1 => (zpv c1 a0 5 19 (.int 0)).bind fun c2 => some c2
set_option maxRecDepth 100000 in
set_option maxHeartbeats 4000000 in
theorem c_Reader_passOn (l : Launch) {nf : Nat} {a0 : Nat} {a1 : Int32} {c : Zc} {res : Zc} (h : f_Reader_passOn nf a0 a1 c = some res) : zM l yy_Reader_passOn ww_Reader_passOn 0 0 0 0 [.ref a0, .int a1] c (fun D cid B => zQv D cid B res c.length 0) := by
  refine z_met (cc := bb_Reader_passOn) (maxL := 2) (ret := none) (by decide +kernel) rfl (Nat.le_of_ble_eq_true rfl) ?_
  intro p e s m args below meth cd D cid B X h1 h2 h3 h4
  have X : zX p s m args cd D cid B bb_Reader_passOn 2 rr_Reader zT := X
  have H : zH s meth B c.length none "passOn" := ⟨h1, h2, h4, h3⟩
  unfold f_Reader_passOn at h
  show Zz p l e (zRm 0 0 0 0) s m args below meth cd _ D cid B 2 0 0 c 0 [(0, .ref a0), (1, .int a1)] []
  refine z_aload_n X dd_Reader_passOn_0 rfl 0 rfl ?_
  refine z_iload_n X dd_Reader_passOn_1 rfl 1 rfl ?_
  obtain ⟨c1, ec1, h⟩ := zb h
  refine z_put (j := 8) X dd_Reader_passOn_2 kc_5 ki_5 tt_Reader tk_Reader nn_Reader (by decide) km_482 rfl (tk_Reader 8 (by decide)) rfl rfl ec1 ?_
  refine z_aload_n X dd_Reader_passOn_5 rfl 0 rfl ?_
  refine z_iconst (v := 0) X dd_Reader_passOn_6 (by decide) ?_
  obtain ⟨c2, ec2, h⟩ := zb h
  refine z_put (j := 19) X dd_Reader_passOn_7 kc_5 ki_5 tt_Reader tk_Reader nn_Reader (by decide) km_493 rfl (tk_Reader 19 (by decide)) rfl rfl ec2 ?_
  obtain rfl := Option.some.inj h
  exact z_vret X H.1 H.2.1 H.2.2.1 dd_Reader_passOn_10
theorem dd_Reader_openGive_0 : decode bb_Reader_openGive 0 = .ok (.aload_n 0, 1) := by decide +kernel
theorem dd_Reader_openGive_1 : decode bb_Reader_openGive 1 = .ok (.getfield 69, 3) := by decide +kernel
theorem dd_Reader_openGive_4 : decode bb_Reader_openGive 4 = .ok (.aload_n 0, 1) := by decide +kernel
theorem dd_Reader_openGive_5 : decode bb_Reader_openGive 5 = .ok (.getfield 69, 3) := by decide +kernel
theorem dd_Reader_openGive_8 : decode bb_Reader_openGive 8 = .ok (.getfield 295, 3) := by decide +kernel
theorem dd_Reader_openGive_11 : decode bb_Reader_openGive 11 = .ok (.putfield 298, 3) := by decide +kernel
theorem dd_Reader_openGive_14 : decode bb_Reader_openGive 14 = .ok (.aload_n 0, 1) := by decide +kernel
theorem dd_Reader_openGive_15 : decode bb_Reader_openGive 15 = .ok (.aload_n 0, 1) := by decide +kernel
theorem dd_Reader_openGive_16 : decode bb_Reader_openGive 16 = .ok (.getfield 26, 3) := by decide +kernel
theorem dd_Reader_openGive_19 : decode bb_Reader_openGive 19 = .ok (.ifCond .eq 8, 3) := by decide +kernel
theorem dd_Reader_openGive_22 : decode bb_Reader_openGive 22 = .ok (.bipush 25, 2) := by decide +kernel
theorem dd_Reader_openGive_24 : decode bb_Reader_openGive 24 = .ok (.goto 5, 3) := by decide +kernel
theorem dd_Reader_openGive_27 : decode bb_Reader_openGive 27 = .ok (.bipush 22, 2) := by decide +kernel
theorem dd_Reader_openGive_29 : decode bb_Reader_openGive 29 = .ok (.putfield 33, 3) := by decide +kernel
theorem dd_Reader_openGive_32 : decode bb_Reader_openGive 32 = .ok (.return_, 1) := by decide +kernel
def f_Reader_openGive_29 (nf : Nat) (s0 : Nat) (s1 : Int32) (c : Zc) : Option (Zc) :=
  (zpv c s0 5 8 (.int s1)).bind fun c7 => some c7
def f_Reader_openGive (nf : Nat) (a0 : Nat) (c : Zc) : Option (Zc) :=
  (zgr c a0 5 4).bind fun v1 => (zgr c a0 5 4).bind fun v2 => (zgi c v2 2 12).bind fun v3 => (zpv c v1 2 14 (.int v3)).bind fun c4 => (zgi c4 a0 5 6).bind fun v5 => if v5 = 0 then (f_Reader_openGive_29 nf a0 22 c4) else (f_Reader_openGive_29 nf a0 25 c4)
set_option maxRecDepth 100000 in
set_option maxHeartbeats 4000000 in
theorem t_Reader_openGive_29  (X : zX p s m args cd D cid B bb_Reader_openGive 1 rr_Reader zT) (H : zH s meth B n0 none "openGive") {nf : Nat} {s0 : Nat} {s1 : Int32} {c : Zc} {res : Zc} (h : f_Reader_openGive_29 nf s0 s1 c = some res) : Zz p l e (zRm 0 0 0 0) s m args below meth cd (MQ below (zQv D cid B res n0 0) args s 0 0 (fun q => B ≤ q)) D cid B 1 0 0 c 29 [] [.int s1, .ref s0] := by
  unfold f_Reader_openGive_29 at h
  obtain ⟨c7, ec7, h⟩ := zb h
  refine z_put (j := 8) X dd_Reader_openGive_29 kc_5 ki_5 tt_Reader tk_Reader nn_Reader (by decide) km_482 rfl (tk_Reader 8 (by decide)) rfl rfl ec7 ?_
  obtain rfl := Option.some.inj h
  exact z_vret X H.1 H.2.1 H.2.2.1 dd_Reader_openGive_32
set_option maxRecDepth 100000 in
set_option maxHeartbeats 4000000 in
theorem c_Reader_openGive (l : Launch) {nf : Nat} {a0 : Nat} {c : Zc} {res : Zc} (h : f_Reader_openGive nf a0 c = some res) : zM l yy_Reader_openGive ww_Reader_openGive 0 0 0 0 [.ref a0] c (fun D cid B => zQv D cid B res c.length 0) := by
  refine z_met (cc := bb_Reader_openGive) (maxL := 1) (ret := none) (by decide +kernel) rfl (Nat.le_of_ble_eq_true rfl) ?_
  intro p e s m args below meth cd D cid B X h1 h2 h3 h4
  have X : zX p s m args cd D cid B bb_Reader_openGive 1 rr_Reader zT := X
  have H : zH s meth B c.length none "openGive" := ⟨h1, h2, h4, h3⟩
  unfold f_Reader_openGive at h
  show Zz p l e (zRm 0 0 0 0) s m args below meth cd _ D cid B 1 0 0 c 0 [(0, .ref a0)] []
  refine z_aload_n X dd_Reader_openGive_0 rfl 0 rfl ?_
  obtain ⟨v1, ev1, h⟩ := zb h
  refine z_get (j := 4) X dd_Reader_openGive_1 kc_5 ki_5 (by decide) km_478 (zgr_v ev1) ?_
  refine z_aload_n X dd_Reader_openGive_4 rfl 0 rfl ?_
  obtain ⟨v2, ev2, h⟩ := zb h
  refine z_get (j := 4) X dd_Reader_openGive_5 kc_5 ki_5 (by decide) km_478 (zgr_v ev2) ?_
  obtain ⟨v3, ev3, h⟩ := zb h
  refine z_get (j := 12) X dd_Reader_openGive_8 kc_2 ki_2 (by decide) km_338 (zgi_v ev3) ?_
  obtain ⟨c4, ec4, h⟩ := zb h
  refine z_put (j := 14) X dd_Reader_openGive_11 kc_2 ki_2 tt_Text tk_Text nn_Text (by decide) km_343 rfl (tk_Text 14 (by decide)) rfl rfl ec4 ?_
  refine z_aload_n X dd_Reader_openGive_14 rfl 0 rfl ?_
  refine z_aload_n X dd_Reader_openGive_15 rfl 0 rfl ?_
  obtain ⟨v5, ev5, h⟩ := zb h
  refine z_get (j := 6) X dd_Reader_openGive_16 kc_5 ki_5 (by decide) km_480 (zgi_v ev5) ?_
  refine z_if_eq (tgt := 27) X dd_Reader_openGive_19 (by decide) (fun q6 => ?_) (fun q6 => ?_)
  · rw [if_pos q6] at h
    refine z_bipush (v := 22) X dd_Reader_openGive_27 (by decide) ?_
    refine z_sub [] rfl ?_
    exact t_Reader_openGive_29 X H h
  · rw [if_neg q6] at h
    refine z_bipush (v := 25) X dd_Reader_openGive_22 (by decide) ?_
    refine z_goto (tgt := 29) X dd_Reader_openGive_24 (by decide) ?_
    refine z_sub [] rfl ?_
    exact t_Reader_openGive_29 X H h
theorem dd_Reader_takeAfterNode_0 : decode bb_Reader_takeAfterNode 0 = .ok (.iload_n 1, 1) := by decide +kernel
theorem dd_Reader_takeAfterNode_1 : decode bb_Reader_takeAfterNode 1 = .ok (.bipush 45, 2) := by decide +kernel
theorem dd_Reader_takeAfterNode_3 : decode bb_Reader_takeAfterNode 3 = .ok (.if_icmp .eq 10, 3) := by decide +kernel
theorem dd_Reader_takeAfterNode_6 : decode bb_Reader_takeAfterNode 6 = .ok (.iload_n 1, 1) := by decide +kernel
theorem dd_Reader_takeAfterNode_7 : decode bb_Reader_takeAfterNode 7 = .ok (.sipush 257, 3) := by decide +kernel
theorem dd_Reader_takeAfterNode_10 : decode bb_Reader_takeAfterNode 10 = .ok (.if_icmp .ne 20, 3) := by decide +kernel
theorem dd_Reader_takeAfterNode_13 : decode bb_Reader_takeAfterNode 13 = .ok (.aload_n 0, 1) := by decide +kernel
theorem dd_Reader_takeAfterNode_14 : decode bb_Reader_takeAfterNode 14 = .ok (.iload_n 1, 1) := by decide +kernel
theorem dd_Reader_takeAfterNode_15 : decode bb_Reader_takeAfterNode 15 = .ok (.sipush 257, 3) := by decide +kernel
theorem dd_Reader_takeAfterNode_18 : decode bb_Reader_takeAfterNode 18 = .ok (.if_icmp .ne 7, 3) := by decide +kernel
theorem dd_Reader_takeAfterNode_21 : decode bb_Reader_takeAfterNode 21 = .ok (.iconst 1, 1) := by decide +kernel
theorem dd_Reader_takeAfterNode_22 : decode bb_Reader_takeAfterNode 22 = .ok (.goto 4, 3) := by decide +kernel
theorem dd_Reader_takeAfterNode_25 : decode bb_Reader_takeAfterNode 25 = .ok (.iconst 0, 1) := by decide +kernel
theorem dd_Reader_takeAfterNode_26 : decode bb_Reader_takeAfterNode 26 = .ok (.invokevirtual 219, 3) := by decide +kernel
theorem dd_Reader_takeAfterNode_29 : decode bb_Reader_takeAfterNode 29 = .ok (.return_, 1) := by decide +kernel
theorem dd_Reader_takeAfterNode_30 : decode bb_Reader_takeAfterNode 30 = .ok (.aload_n 0, 1) := by decide +kernel
theorem dd_Reader_takeAfterNode_31 : decode bb_Reader_takeAfterNode 31 = .ok (.iconst (-1), 1) := by decide +kernel
theorem dd_Reader_takeAfterNode_32 : decode bb_Reader_takeAfterNode 32 = .ok (.putfield 54, 3) := by decide +kernel
theorem dd_Reader_takeAfterNode_35 : decode bb_Reader_takeAfterNode 35 = .ok (.aload_n 0, 1) := by decide +kernel
theorem dd_Reader_takeAfterNode_36 : decode bb_Reader_takeAfterNode 36 = .ok (.getfield 48, 3) := by decide +kernel
theorem dd_Reader_takeAfterNode_39 : decode bb_Reader_takeAfterNode 39 = .ok (.iconst (-1), 1) := by decide +kernel
theorem dd_Reader_takeAfterNode_40 : decode bb_Reader_takeAfterNode 40 = .ok (.if_icmp .eq 51, 3) := by decide +kernel
theorem dd_Reader_takeAfterNode_43 : decode bb_Reader_takeAfterNode 43 = .ok (.aload_n 0, 1) := by decide +kernel
theorem dd_Reader_takeAfterNode_44 : decode bb_Reader_takeAfterNode 44 = .ok (.getfield 69, 3) := by decide +kernel
theorem dd_Reader_takeAfterNode_47 : decode bb_Reader_takeAfterNode 47 = .ok (.iconst 4, 1) := by decide +kernel
theorem dd_Reader_takeAfterNode_48 : decode bb_Reader_takeAfterNode 48 = .ok (.aload_n 0, 1) := by decide +kernel
theorem dd_Reader_takeAfterNode_49 : decode bb_Reader_takeAfterNode 49 = .ok (.getfield 69, 3) := by decide +kernel
theorem dd_Reader_takeAfterNode_52 : decode bb_Reader_takeAfterNode 52 = .ok (.getfield 205, 3) := by decide +kernel
theorem dd_Reader_takeAfterNode_55 : decode bb_Reader_takeAfterNode 55 = .ok (.iconst 1, 1) := by decide +kernel
theorem dd_Reader_takeAfterNode_56 : decode bb_Reader_takeAfterNode 56 = .ok (.isub, 1) := by decide +kernel
theorem dd_Reader_takeAfterNode_57 : decode bb_Reader_takeAfterNode 57 = .ok (.invokevirtual 223, 3) := by decide +kernel
theorem dd_Reader_takeAfterNode_60 : decode bb_Reader_takeAfterNode 60 = .ok (.pop, 1) := by decide +kernel
theorem dd_Reader_takeAfterNode_61 : decode bb_Reader_takeAfterNode 61 = .ok (.aload_n 0, 1) := by decide +kernel
theorem dd_Reader_takeAfterNode_62 : decode bb_Reader_takeAfterNode 62 = .ok (.aload_n 0, 1) := by decide +kernel
theorem dd_Reader_takeAfterNode_63 : decode bb_Reader_takeAfterNode 63 = .ok (.getfield 48, 3) := by decide +kernel
theorem dd_Reader_takeAfterNode_66 : decode bb_Reader_takeAfterNode 66 = .ok (.putfield 42, 3) := by decide +kernel
theorem dd_Reader_takeAfterNode_69 : decode bb_Reader_takeAfterNode 69 = .ok (.aload_n 0, 1) := by decide +kernel
theorem dd_Reader_takeAfterNode_70 : decode bb_Reader_takeAfterNode 70 = .ok (.iconst (-1), 1) := by decide +kernel
theorem dd_Reader_takeAfterNode_71 : decode bb_Reader_takeAfterNode 71 = .ok (.putfield 48, 3) := by decide +kernel
theorem dd_Reader_takeAfterNode_74 : decode bb_Reader_takeAfterNode 74 = .ok (.aload_n 0, 1) := by decide +kernel
theorem dd_Reader_takeAfterNode_75 : decode bb_Reader_takeAfterNode 75 = .ok (.getfield 87, 3) := by decide +kernel
theorem dd_Reader_takeAfterNode_78 : decode bb_Reader_takeAfterNode 78 = .ok (.iconst 3, 1) := by decide +kernel
theorem dd_Reader_takeAfterNode_79 : decode bb_Reader_takeAfterNode 79 = .ok (.invokevirtual 227, 3) := by decide +kernel
theorem dd_Reader_takeAfterNode_82 : decode bb_Reader_takeAfterNode 82 = .ok (.aload_n 0, 1) := by decide +kernel
theorem dd_Reader_takeAfterNode_83 : decode bb_Reader_takeAfterNode 83 = .ok (.bipush 17, 2) := by decide +kernel
theorem dd_Reader_takeAfterNode_85 : decode bb_Reader_takeAfterNode 85 = .ok (.invokevirtual 230, 3) := by decide +kernel
theorem dd_Reader_takeAfterNode_88 : decode bb_Reader_takeAfterNode 88 = .ok (.goto 50, 3) := by decide +kernel
theorem dd_Reader_takeAfterNode_91 : decode bb_Reader_takeAfterNode 91 = .ok (.iload_n 1, 1) := by decide +kernel
theorem dd_Reader_takeAfterNode_92 : decode bb_Reader_takeAfterNode 92 = .ok (.bipush 44, 2) := by decide +kernel
theorem dd_Reader_takeAfterNode_94 : decode bb_Reader_takeAfterNode 94 = .ok (.if_icmp .ne 11, 3) := by decide +kernel
theorem dd_Reader_takeAfterNode_97 : decode bb_Reader_takeAfterNode 97 = .ok (.aload_n 0, 1) := by decide +kernel
theorem dd_Reader_takeAfterNode_98 : decode bb_Reader_takeAfterNode 98 = .ok (.iconst 3, 1) := by decide +kernel
theorem dd_Reader_takeAfterNode_99 : decode bb_Reader_takeAfterNode 99 = .ok (.putfield 33, 3) := by decide +kernel
theorem dd_Reader_takeAfterNode_102 : decode bb_Reader_takeAfterNode 102 = .ok (.goto 36, 3) := by decide +kernel
theorem dd_Reader_takeAfterNode_105 : decode bb_Reader_takeAfterNode 105 = .ok (.iload_n 1, 1) := by decide +kernel
theorem dd_Reader_takeAfterNode_106 : decode bb_Reader_takeAfterNode 106 = .ok (.bipush 11, 2) := by decide +kernel
theorem dd_Reader_takeAfterNode_108 : decode bb_Reader_takeAfterNode 108 = .ok (.if_icmp .ne 12, 3) := by decide +kernel
theorem dd_Reader_takeAfterNode_111 : decode bb_Reader_takeAfterNode 111 = .ok (.aload_n 0, 1) := by decide +kernel
theorem dd_Reader_takeAfterNode_112 : decode bb_Reader_takeAfterNode 112 = .ok (.bipush 16, 2) := by decide +kernel
theorem dd_Reader_takeAfterNode_114 : decode bb_Reader_takeAfterNode 114 = .ok (.putfield 33, 3) := by decide +kernel
theorem dd_Reader_takeAfterNode_117 : decode bb_Reader_takeAfterNode 117 = .ok (.goto 21, 3) := by decide +kernel
theorem dd_Reader_takeAfterNode_120 : decode bb_Reader_takeAfterNode 120 = .ok (.iload_n 1, 1) := by decide +kernel
theorem dd_Reader_takeAfterNode_121 : decode bb_Reader_takeAfterNode 121 = .ok (.bipush 12, 2) := by decide +kernel
theorem dd_Reader_takeAfterNode_123 : decode bb_Reader_takeAfterNode 123 = .ok (.if_icmp .ne 10, 3) := by decide +kernel
theorem dd_Reader_takeAfterNode_126 : decode bb_Reader_takeAfterNode 126 = .ok (.aload_n 0, 1) := by decide +kernel
theorem dd_Reader_takeAfterNode_127 : decode bb_Reader_takeAfterNode 127 = .ok (.invokevirtual 233, 3) := by decide +kernel
theorem dd_Reader_takeAfterNode_130 : decode bb_Reader_takeAfterNode 130 = .ok (.goto 8, 3) := by decide +kernel
theorem dd_Reader_takeAfterNode_133 : decode bb_Reader_takeAfterNode 133 = .ok (.aload_n 0, 1) := by decide +kernel
theorem dd_Reader_takeAfterNode_134 : decode bb_Reader_takeAfterNode 134 = .ok (.iconst 2, 1) := by decide +kernel
theorem dd_Reader_takeAfterNode_135 : decode bb_Reader_takeAfterNode 135 = .ok (.invokevirtual 133, 3) := by decide +kernel
theorem dd_Reader_takeAfterNode_138 : decode bb_Reader_takeAfterNode 138 = .ok (.return_, 1) := by decide +kernel
def f_Reader_takeAfterNode_26 (nf : Nat) (s0 : Nat) (s1 : Int32) (c : Zc) : Option (Zc) :=
  (zob c s0 5).bind fun w4 => (f_Reader_openWay nf s0 s1 c).bind fun q3 => some q3
def f_Reader_takeAfterNode_13 (nf : Nat) (x0 : Nat) (x1 : Int32) (c : Zc) : Option (Zc) :=
  if x1 = 257 then (f_Reader_takeAfterNode_26 nf x0 1 c) else (f_Reader_takeAfterNode_26 nf x0 0 c)
def f_Reader_takeAfterNode_138 (nf : Nat)  (c : Zc) : Option (Zc) :=
  some c
def f_Reader_takeAfterNode (nf : Nat) (a0 : Nat) (a1 : Int32) (c : Zc) : Option (Zc) :=
  if a1 = 45 then (f_Reader_takeAfterNode_13 nf a0 a1 c) else (if a1 = 257 then (f_Reader_takeAfterNode_13 nf a0 a1 c) else ((zpv c a0 5 15 (.int (-1))).bind fun c6 => (zgi c6 a0 5 13).bind fun v7 => if v7 = (-1) then (if a1 = 44 then ((zpv c6 a0 5 8 (.int 3)).bind fun c17 => f_Reader_takeAfterNode_138 nf  c17) else (if a1 = 11 then ((zpv c6 a0 5 8 (.int 16)).bind fun c16 => f_Reader_takeAfterNode_138 nf  c16) else (if a1 = 12 then ((zob c6 a0 5).bind fun w15 => (f_Reader_openGive nf a0 c6).bind fun q14 => f_Reader_takeAfterNode_138 nf  q14) else ((zob c6 a0 5).bind fun w13 => (f_Reader_fail nf a0 2 c6).bind fun q12 => f_Reader_takeAfterNode_138 nf  q12)))) else ((zgr c6 a0 5 4).bind fun v18 => (zgr c6 a0 5 4).bind fun v19 => (zgi c6 v19 2 8).bind fun v20 => (zob c6 v18 2).bind fun w22 => (f_Text_emit nf v18 4 (v20 - 1) c6).bind fun q21 => (zgi q21.2 a0 5 13).bind fun v23 => (zpv q21.2 a0 5 11 (.int v23)).bind fun c24 => (zpv c24 a0 5 13 (.int (-1))).bind fun c25 => (zgr c25 a0 5 2).bind fun v26 => (zob c25 v26 4).bind fun w28 => (f_Operators_unwind nf v26 3 c25).bind fun q27 => (zob q27 a0 5).bind fun w30 => (f_Reader_passOn nf a0 17 q27).bind fun q29 => f_Reader_takeAfterNode_138 nf  q29)))
set_option maxRecDepth 100000 in
set_option maxHeartbeats 4000000 in
theorem t_Reader_takeAfterNode_26  (X : zX p s m args cd D cid B bb_Reader_takeAfterNode 2 rr_Reader zT) (H : zH s meth B n0 none "takeAfterNode") {nf : Nat} {s0 : Nat} {s1 : Int32} {c : Zc} {res : Zc} (h : f_Reader_takeAfterNode_26 nf s0 s1 c = some res) : Zz p l e (zRm 3 64 0 0) s m args below meth cd (MQ below (zQv D cid B res n0 0) args s 0 0 (fun q => B ≤ q)) D cid B 2 0 0 c 26 [] [.int s1, .ref s0] := by
  unfold f_Reader_takeAfterNode_26 at h
  obtain ⟨w4, ew4, h⟩ := zb h
  obtain ⟨q3, eq3, h⟩ := zb h
  refine z_callVv X [.int s1] rfl dd_Reader_takeAfterNode_26 (c_Reader_openWay l eq3) (cwV 1 X.1.2.2.2.2 (zg_V km_1047 km_1049 km_21 km_130 km_1050) rfl rfl rfl (by decide +kernel) ⟨Nat.le_of_ble_eq_true rfl, Nat.le_of_ble_eq_true rfl⟩) (zob_s ew4) kc_5 rfl (Nat.le_of_ble_eq_true rfl) ⟨Nat.le_of_ble_eq_true rfl, Nat.le_of_ble_eq_true rfl⟩ ?_
  obtain rfl := Option.some.inj h
  exact z_vret X H.1 H.2.1 H.2.2.1 dd_Reader_takeAfterNode_29
set_option maxRecDepth 100000 in
set_option maxHeartbeats 4000000 in
theorem t_Reader_takeAfterNode_13  (X : zX p s m args cd D cid B bb_Reader_takeAfterNode 2 rr_Reader zT) (H : zH s meth B n0 none "takeAfterNode") {nf : Nat} {x0 : Nat} {x1 : Int32} {c : Zc} {res : Zc} (h : f_Reader_takeAfterNode_13 nf x0 x1 c = some res) : Zz p l e (zRm 3 64 0 0) s m args below meth cd (MQ below (zQv D cid B res n0 0) args s 0 0 (fun q => B ≤ q)) D cid B 2 0 0 c 13 [(0, .ref x0), (1, .int x1)] [] := by
  unfold f_Reader_takeAfterNode_13 at h
  refine z_aload_n X dd_Reader_takeAfterNode_13 rfl 0 rfl ?_
  refine z_iload_n X dd_Reader_takeAfterNode_14 rfl 1 rfl ?_
  refine z_sipush (v := 257) X dd_Reader_takeAfterNode_15 (by decide) ?_
  refine z_icmp_ne (tgt := 25) X dd_Reader_takeAfterNode_18 (by decide) (fun q2 => ?_) (fun q2 => ?_)
  · rw [if_neg q2] at h
    refine z_iconst (v := 0) X dd_Reader_takeAfterNode_25 (by decide) ?_
    refine z_sub [] rfl ?_
    exact t_Reader_takeAfterNode_26 X H h
  · rw [if_pos q2] at h
    refine z_iconst (v := 1) X dd_Reader_takeAfterNode_21 (by decide) ?_
    refine z_goto (tgt := 26) X dd_Reader_takeAfterNode_22 (by decide) ?_
    refine z_sub [] rfl ?_
    exact t_Reader_takeAfterNode_26 X H h
set_option maxRecDepth 100000 in
set_option maxHeartbeats 4000000 in
theorem t_Reader_takeAfterNode_138  (X : zX p s m args cd D cid B bb_Reader_takeAfterNode 2 rr_Reader zT) (H : zH s meth B n0 none "takeAfterNode") {nf : Nat}  {c : Zc} {res : Zc} (h : f_Reader_takeAfterNode_138 nf  c = some res) : Zz p l e (zRm 3 64 0 0) s m args below meth cd (MQ below (zQv D cid B res n0 0) args s 0 0 (fun q => B ≤ q)) D cid B 2 0 0 c 138 [] [] := by
  unfold f_Reader_takeAfterNode_138 at h
  obtain rfl := Option.some.inj h
  exact z_vret X H.1 H.2.1 H.2.2.1 dd_Reader_takeAfterNode_138
set_option maxRecDepth 100000 in
set_option maxHeartbeats 4000000 in
theorem c_Reader_takeAfterNode (l : Launch) {nf : Nat} {a0 : Nat} {a1 : Int32} {c : Zc} {res : Zc} (h : f_Reader_takeAfterNode nf a0 a1 c = some res) : zM l yy_Reader_takeAfterNode ww_Reader_takeAfterNode 3 64 0 0 [.ref a0, .int a1] c (fun D cid B => zQv D cid B res c.length 0) := by
  refine z_met (cc := bb_Reader_takeAfterNode) (maxL := 2) (ret := none) (by decide +kernel) rfl (Nat.le_of_ble_eq_true rfl) ?_
  intro p e s m args below meth cd D cid B X h1 h2 h3 h4
  have X : zX p s m args cd D cid B bb_Reader_takeAfterNode 2 rr_Reader zT := X
  have H : zH s meth B c.length none "takeAfterNode" := ⟨h1, h2, h4, h3⟩
  unfold f_Reader_takeAfterNode at h
  show Zz p l e (zRm 3 64 0 0) s m args below meth cd _ D cid B 2 0 0 c 0 [(0, .ref a0), (1, .int a1)] []
  refine z_iload_n X dd_Reader_takeAfterNode_0 rfl 1 rfl ?_
  refine z_bipush (v := 45) X dd_Reader_takeAfterNode_1 (by decide) ?_
  refine z_icmp_eq (tgt := 13) X dd_Reader_takeAfterNode_3 (by decide) (fun q1 => ?_) (fun q1 => ?_)
  · rw [if_pos q1] at h
    exact t_Reader_takeAfterNode_13 X H h
  · rw [if_neg q1] at h
    refine z_iload_n X dd_Reader_takeAfterNode_6 rfl 1 rfl ?_
    refine z_sipush (v := 257) X dd_Reader_takeAfterNode_7 (by decide) ?_
    refine z_icmp_ne (tgt := 30) X dd_Reader_takeAfterNode_10 (by decide) (fun q5 => ?_) (fun q5 => ?_)
    · rw [if_neg q5] at h
      refine z_aload_n X dd_Reader_takeAfterNode_30 rfl 0 rfl ?_
      refine z_iconst (v := (-1)) X dd_Reader_takeAfterNode_31 (by decide) ?_
      obtain ⟨c6, ec6, h⟩ := zb h
      refine z_put (j := 15) X dd_Reader_takeAfterNode_32 kc_5 ki_5 tt_Reader tk_Reader nn_Reader (by decide) km_489 rfl (tk_Reader 15 (by decide)) rfl rfl ec6 ?_
      refine z_aload_n X dd_Reader_takeAfterNode_35 rfl 0 rfl ?_
      obtain ⟨v7, ev7, h⟩ := zb h
      refine z_get (j := 13) X dd_Reader_takeAfterNode_36 kc_5 ki_5 (by decide) km_487 (zgi_v ev7) ?_
      refine z_iconst (v := (-1)) X dd_Reader_takeAfterNode_39 (by decide) ?_
      refine z_icmp_eq (tgt := 91) X dd_Reader_takeAfterNode_40 (by decide) (fun q8 => ?_) (fun q8 => ?_)
      · rw [if_pos q8] at h
        refine z_iload_n X dd_Reader_takeAfterNode_91 rfl 1 rfl ?_
        refine z_bipush (v := 44) X dd_Reader_takeAfterNode_92 (by decide) ?_
        refine z_icmp_ne (tgt := 105) X dd_Reader_takeAfterNode_94 (by decide) (fun q9 => ?_) (fun q9 => ?_)
        · rw [if_neg q9] at h
          refine z_iload_n X dd_Reader_takeAfterNode_105 rfl 1 rfl ?_
          refine z_bipush (v := 11) X dd_Reader_takeAfterNode_106 (by decide) ?_
          refine z_icmp_ne (tgt := 120) X dd_Reader_takeAfterNode_108 (by decide) (fun q10 => ?_) (fun q10 => ?_)
          · rw [if_neg q10] at h
            refine z_iload_n X dd_Reader_takeAfterNode_120 rfl 1 rfl ?_
            refine z_bipush (v := 12) X dd_Reader_takeAfterNode_121 (by decide) ?_
            refine z_icmp_ne (tgt := 133) X dd_Reader_takeAfterNode_123 (by decide) (fun q11 => ?_) (fun q11 => ?_)
            · rw [if_neg q11] at h
              refine z_aload_n X dd_Reader_takeAfterNode_133 rfl 0 rfl ?_
              refine z_iconst (v := 2) X dd_Reader_takeAfterNode_134 (by decide) ?_
              obtain ⟨w13, ew13, h⟩ := zb h
              obtain ⟨q12, eq12, h⟩ := zb h
              refine z_callVv X [.int 2] rfl dd_Reader_takeAfterNode_135 (c_Reader_fail l eq12) (cwV 1 X.1.2.2.2.2 (zg_V km_998 km_1000 km_11 km_130 km_1001) rfl rfl rfl (by decide +kernel) ⟨Nat.le_of_ble_eq_true rfl, Nat.le_of_ble_eq_true rfl⟩) (zob_s ew13) kc_5 rfl (Nat.le_of_ble_eq_true rfl) ⟨Nat.le_of_ble_eq_true rfl, Nat.le_of_ble_eq_true rfl⟩ ?_
              refine z_sub [] rfl ?_
              exact t_Reader_takeAfterNode_138 X H h
            · rw [if_pos q11] at h
              refine z_aload_n X dd_Reader_takeAfterNode_126 rfl 0 rfl ?_
              obtain ⟨w15, ew15, h⟩ := zb h
              obtain ⟨q14, eq14, h⟩ := zb h
              refine z_callVv X [] rfl dd_Reader_takeAfterNode_127 (c_Reader_openGive l eq14) (cwV 0 X.1.2.2.2.2 (zg_V km_1072 km_1074 km_23 km_130 km_1075) rfl rfl rfl (by decide +kernel) ⟨Nat.le_of_ble_eq_true rfl, Nat.le_of_ble_eq_true rfl⟩) (zob_s ew15) kc_5 rfl (Nat.le_of_ble_eq_true rfl) ⟨Nat.le_of_ble_eq_true rfl, Nat.le_of_ble_eq_true rfl⟩ ?_
              refine z_goto (tgt := 138) X dd_Reader_takeAfterNode_130 (by decide) ?_
              refine z_sub [] rfl ?_
              exact t_Reader_takeAfterNode_138 X H h
          · rw [if_pos q10] at h
            refine z_aload_n X dd_Reader_takeAfterNode_111 rfl 0 rfl ?_
            refine z_bipush (v := 16) X dd_Reader_takeAfterNode_112 (by decide) ?_
            obtain ⟨c16, ec16, h⟩ := zb h
            refine z_put (j := 8) X dd_Reader_takeAfterNode_114 kc_5 ki_5 tt_Reader tk_Reader nn_Reader (by decide) km_482 rfl (tk_Reader 8 (by decide)) rfl rfl ec16 ?_
            refine z_goto (tgt := 138) X dd_Reader_takeAfterNode_117 (by decide) ?_
            refine z_sub [] rfl ?_
            exact t_Reader_takeAfterNode_138 X H h
        · rw [if_pos q9] at h
          refine z_aload_n X dd_Reader_takeAfterNode_97 rfl 0 rfl ?_
          refine z_iconst (v := 3) X dd_Reader_takeAfterNode_98 (by decide) ?_
          obtain ⟨c17, ec17, h⟩ := zb h
          refine z_put (j := 8) X dd_Reader_takeAfterNode_99 kc_5 ki_5 tt_Reader tk_Reader nn_Reader (by decide) km_482 rfl (tk_Reader 8 (by decide)) rfl rfl ec17 ?_
          refine z_goto (tgt := 138) X dd_Reader_takeAfterNode_102 (by decide) ?_
          refine z_sub [] rfl ?_
          exact t_Reader_takeAfterNode_138 X H h
      · rw [if_neg q8] at h
        refine z_aload_n X dd_Reader_takeAfterNode_43 rfl 0 rfl ?_
        obtain ⟨v18, ev18, h⟩ := zb h
        refine z_get (j := 4) X dd_Reader_takeAfterNode_44 kc_5 ki_5 (by decide) km_478 (zgr_v ev18) ?_
        refine z_iconst (v := 4) X dd_Reader_takeAfterNode_47 (by decide) ?_
        refine z_aload_n X dd_Reader_takeAfterNode_48 rfl 0 rfl ?_
        obtain ⟨v19, ev19, h⟩ := zb h
        refine z_get (j := 4) X dd_Reader_takeAfterNode_49 kc_5 ki_5 (by decide) km_478 (zgr_v ev19) ?_
        obtain ⟨v20, ev20, h⟩ := zb h
        refine z_get (j := 8) X dd_Reader_takeAfterNode_52 kc_2 ki_2 (by decide) km_328 (zgi_v ev20) ?_
        refine z_iconst (v := 1) X dd_Reader_takeAfterNode_55 (by decide) ?_
        refine z_isub X dd_Reader_takeAfterNode_56 ?_
        obtain ⟨w22, ew22, h⟩ := zb h
        obtain ⟨q21, eq21, h⟩ := zb h
        refine z_callVi X [.int 4, .int (v20 - 1)] rfl dd_Reader_takeAfterNode_57 (c_Text_emit l eq21) (cwV 2 X.1.2.2.2.2 (zg_V km_1055 km_1056 km_1057 km_128 km_1058) rfl rfl rfl (by decide +kernel) ⟨Nat.le_of_ble_eq_true rfl, Nat.le_of_ble_eq_true rfl⟩) (zob_s ew22) kc_2 rfl (Nat.le_of_ble_eq_true rfl) ⟨Nat.le_of_ble_eq_true rfl, Nat.le_of_ble_eq_true rfl⟩ ?_
        refine z_pop X dd_Reader_takeAfterNode_60 rfl ?_
        refine z_aload_n X dd_Reader_takeAfterNode_61 rfl 0 rfl ?_
        refine z_aload_n X dd_Reader_takeAfterNode_62 rfl 0 rfl ?_
        obtain ⟨v23, ev23, h⟩ := zb h
        refine z_get (j := 13) X dd_Reader_takeAfterNode_63 kc_5 ki_5 (by decide) km_487 (zgi_v ev23) ?_
        obtain ⟨c24, ec24, h⟩ := zb h
        refine z_put (j := 11) X dd_Reader_takeAfterNode_66 kc_5 ki_5 tt_Reader tk_Reader nn_Reader (by decide) km_485 rfl (tk_Reader 11 (by decide)) rfl rfl ec24 ?_
        refine z_aload_n X dd_Reader_takeAfterNode_69 rfl 0 rfl ?_
        refine z_iconst (v := (-1)) X dd_Reader_takeAfterNode_70 (by decide) ?_
        obtain ⟨c25, ec25, h⟩ := zb h
        refine z_put (j := 13) X dd_Reader_takeAfterNode_71 kc_5 ki_5 tt_Reader tk_Reader nn_Reader (by decide) km_487 rfl (tk_Reader 13 (by decide)) rfl rfl ec25 ?_
        refine z_aload_n X dd_Reader_takeAfterNode_74 rfl 0 rfl ?_
        obtain ⟨v26, ev26, h⟩ := zb h
        refine z_get (j := 2) X dd_Reader_takeAfterNode_75 kc_5 ki_5 (by decide) km_476 (zgr_v ev26) ?_
        refine z_iconst (v := 3) X dd_Reader_takeAfterNode_78 (by decide) ?_
        obtain ⟨w28, ew28, h⟩ := zb h
        obtain ⟨q27, eq27, h⟩ := zb h
        refine z_callVv X [.int 3] rfl dd_Reader_takeAfterNode_79 (c_Operators_unwind l eq27) (cwV 1 X.1.2.2.2.2 (zg_V km_1059 km_1060 km_1061 km_132 km_1062) rfl rfl rfl (by decide +kernel) ⟨Nat.le_of_ble_eq_true rfl, Nat.le_of_ble_eq_true rfl⟩) (zob_s ew28) kc_4 rfl (Nat.le_of_ble_eq_true rfl) ⟨Nat.le_of_ble_eq_true rfl, Nat.le_of_ble_eq_true rfl⟩ ?_
        refine z_aload_n X dd_Reader_takeAfterNode_82 rfl 0 rfl ?_
        refine z_bipush (v := 17) X dd_Reader_takeAfterNode_83 (by decide) ?_
        obtain ⟨w30, ew30, h⟩ := zb h
        obtain ⟨q29, eq29, h⟩ := zb h
        refine z_callVv X [.int 17] rfl dd_Reader_takeAfterNode_85 (c_Reader_passOn l eq29) (cwV 1 X.1.2.2.2.2 (zg_V km_1068 km_1070 km_22 km_130 km_1071) rfl rfl rfl (by decide +kernel) ⟨Nat.le_of_ble_eq_true rfl, Nat.le_of_ble_eq_true rfl⟩) (zob_s ew30) kc_5 rfl (Nat.le_of_ble_eq_true rfl) ⟨Nat.le_of_ble_eq_true rfl, Nat.le_of_ble_eq_true rfl⟩ ?_
        refine z_goto (tgt := 138) X dd_Reader_takeAfterNode_88 (by decide) ?_
        refine z_sub [] rfl ?_
        exact t_Reader_takeAfterNode_138 X H h
    · rw [if_pos q5] at h
      exact t_Reader_takeAfterNode_13 X H h
theorem dd_Reader_nameLeast_0 : decode bb_Reader_nameLeast 0 = .ok (.aload_n 0, 1) := by decide +kernel
theorem dd_Reader_nameLeast_1 : decode bb_Reader_nameLeast 1 = .ok (.getfield 22, 3) := by decide +kernel
theorem dd_Reader_nameLeast_4 : decode bb_Reader_nameLeast 4 = .ok (.iload_n 1, 1) := by decide +kernel
theorem dd_Reader_nameLeast_5 : decode bb_Reader_nameLeast 5 = .ok (.iaload, 1) := by decide +kernel
theorem dd_Reader_nameLeast_6 : decode bb_Reader_nameLeast 6 = .ok (.iconst (-1), 1) := by decide +kernel
theorem dd_Reader_nameLeast_7 : decode bb_Reader_nameLeast 7 = .ok (.if_icmp .eq 9, 3) := by decide +kernel
theorem dd_Reader_nameLeast_10 : decode bb_Reader_nameLeast 10 = .ok (.aload_n 0, 1) := by decide +kernel
theorem dd_Reader_nameLeast_11 : decode bb_Reader_nameLeast 11 = .ok (.iconst 4, 1) := by decide +kernel
theorem dd_Reader_nameLeast_12 : decode bb_Reader_nameLeast 12 = .ok (.invokevirtual 133, 3) := by decide +kernel
theorem dd_Reader_nameLeast_15 : decode bb_Reader_nameLeast 15 = .ok (.return_, 1) := by decide +kernel
theorem dd_Reader_nameLeast_16 : decode bb_Reader_nameLeast 16 = .ok (.aload_n 0, 1) := by decide +kernel
theorem dd_Reader_nameLeast_17 : decode bb_Reader_nameLeast 17 = .ok (.aload_n 0, 1) := by decide +kernel
theorem dd_Reader_nameLeast_18 : decode bb_Reader_nameLeast 18 = .ok (.getfield 30, 3) := by decide +kernel
theorem dd_Reader_nameLeast_21 : decode bb_Reader_nameLeast 21 = .ok (.invokevirtual 196, 3) := by decide +kernel
theorem dd_Reader_nameLeast_24 : decode bb_Reader_nameLeast 24 = .ok (.aload_n 0, 1) := by decide +kernel
theorem dd_Reader_nameLeast_25 : decode bb_Reader_nameLeast 25 = .ok (.getfield 36, 3) := by decide +kernel
theorem dd_Reader_nameLeast_28 : decode bb_Reader_nameLeast 28 = .ok (.ifCond .ne 54, 3) := by decide +kernel
theorem dd_Reader_nameLeast_31 : decode bb_Reader_nameLeast 31 = .ok (.aload_n 0, 1) := by decide +kernel
theorem dd_Reader_nameLeast_32 : decode bb_Reader_nameLeast 32 = .ok (.getfield 22, 3) := by decide +kernel
theorem dd_Reader_nameLeast_35 : decode bb_Reader_nameLeast 35 = .ok (.iload_n 1, 1) := by decide +kernel
theorem dd_Reader_nameLeast_36 : decode bb_Reader_nameLeast 36 = .ok (.aload_n 0, 1) := by decide +kernel
theorem dd_Reader_nameLeast_37 : decode bb_Reader_nameLeast 37 = .ok (.getfield 57, 3) := by decide +kernel
theorem dd_Reader_nameLeast_40 : decode bb_Reader_nameLeast 40 = .ok (.iastore, 1) := by decide +kernel
theorem dd_Reader_nameLeast_41 : decode bb_Reader_nameLeast 41 = .ok (.aload_n 0, 1) := by decide +kernel
theorem dd_Reader_nameLeast_42 : decode bb_Reader_nameLeast 42 = .ok (.getfield 79, 3) := by decide +kernel
theorem dd_Reader_nameLeast_45 : decode bb_Reader_nameLeast 45 = .ok (.aload_n 0, 1) := by decide +kernel
theorem dd_Reader_nameLeast_46 : decode bb_Reader_nameLeast 46 = .ok (.getfield 57, 3) := by decide +kernel
theorem dd_Reader_nameLeast_49 : decode bb_Reader_nameLeast 49 = .ok (.putfield 247, 3) := by decide +kernel
theorem dd_Reader_nameLeast_52 : decode bb_Reader_nameLeast 52 = .ok (.aload_n 0, 1) := by decide +kernel
theorem dd_Reader_nameLeast_53 : decode bb_Reader_nameLeast 53 = .ok (.dup, 1) := by decide +kernel
theorem dd_Reader_nameLeast_54 : decode bb_Reader_nameLeast 54 = .ok (.getfield 45, 3) := by decide +kernel
theorem dd_Reader_nameLeast_57 : decode bb_Reader_nameLeast 57 = .ok (.iconst 1, 1) := by decide +kernel
theorem dd_Reader_nameLeast_58 : decode bb_Reader_nameLeast 58 = .ok (.aload_n 0, 1) := by decide +kernel
theorem dd_Reader_nameLeast_59 : decode bb_Reader_nameLeast 59 = .ok (.getfield 57, 3) := by decide +kernel
theorem dd_Reader_nameLeast_62 : decode bb_Reader_nameLeast 62 = .ok (.ishl, 1) := by decide +kernel
theorem dd_Reader_nameLeast_63 : decode bb_Reader_nameLeast 63 = .ok (.ior, 1) := by decide +kernel
theorem dd_Reader_nameLeast_64 : decode bb_Reader_nameLeast 64 = .ok (.putfield 45, 3) := by decide +kernel
theorem dd_Reader_nameLeast_67 : decode bb_Reader_nameLeast 67 = .ok (.aload_n 0, 1) := by decide +kernel
theorem dd_Reader_nameLeast_68 : decode bb_Reader_nameLeast 68 = .ok (.dup, 1) := by decide +kernel
theorem dd_Reader_nameLeast_69 : decode bb_Reader_nameLeast 69 = .ok (.getfield 42, 3) := by decide +kernel
theorem dd_Reader_nameLeast_72 : decode bb_Reader_nameLeast 72 = .ok (.iconst 1, 1) := by decide +kernel
theorem dd_Reader_nameLeast_73 : decode bb_Reader_nameLeast 73 = .ok (.aload_n 0, 1) := by decide +kernel
theorem dd_Reader_nameLeast_74 : decode bb_Reader_nameLeast 74 = .ok (.getfield 57, 3) := by decide +kernel
theorem dd_Reader_nameLeast_77 : decode bb_Reader_nameLeast 77 = .ok (.ishl, 1) := by decide +kernel
theorem dd_Reader_nameLeast_78 : decode bb_Reader_nameLeast 78 = .ok (.ior, 1) := by decide +kernel
theorem dd_Reader_nameLeast_79 : decode bb_Reader_nameLeast 79 = .ok (.putfield 42, 3) := by decide +kernel
theorem dd_Reader_nameLeast_82 : decode bb_Reader_nameLeast 82 = .ok (.return_, 1) := by decide +kernel
def f_Reader_nameLeast_82 (nf : Nat)  (c : Zc) : Option (Zc) :=
  some c
def f_Reader_nameLeast (nf : Nat) (a0 : Nat) (a1 : Int32) (c : Zc) : Option (Zc) :=
  (zgr c a0 5 3).bind fun v1 => (zai c v1 0 a1).bind fun v2 => if v2 = (-1) then ((zgi c a0 5 7).bind fun v4 => (zob c a0 5).bind fun w6 => (f_Reader_takeSlot nf a0 v4 c).bind fun q5 => (zgi q5 a0 5 9).bind fun v7 => if v7 = 0 then ((zgr q5 a0 5 3).bind fun v9 => (zgi q5 a0 5 16).bind fun v10 => (zsi q5 v9 0 a1 v10).bind fun c11 => (zgr c11 a0 5 5).bind fun v12 => (zgi c11 a0 5 16).bind fun v13 => (zpv c11 v12 1 2 (.int v13)).bind fun c14 => (zgi c14 a0 5 12).bind fun v15 => (zgi c14 a0 5 16).bind fun v16 => (zpv c14 a0 5 12 (.int (v15 ||| (1 <<< (v16 &&& 31))))).bind fun c17 => (zgi c17 a0 5 11).bind fun v18 => (zgi c17 a0 5 16).bind fun v19 => (zpv c17 a0 5 11 (.int (v18 ||| (1 <<< (v19 &&& 31))))).bind fun c20 => f_Reader_nameLeast_82 nf  c20) else (f_Reader_nameLeast_82 nf  q5)) else ((zob c a0 5).bind fun w22 => (f_Reader_fail nf a0 4 c).bind fun q21 => some q21)
set_option maxRecDepth 100000 in
set_option maxHeartbeats 4000000 in
theorem t_Reader_nameLeast_82  (X : zX p s m args cd D cid B bb_Reader_nameLeast 2 rr_Reader zT) (H : zH s meth B n0 none "nameLeast") {nf : Nat}  {c : Zc} {res : Zc} (h : f_Reader_nameLeast_82 nf  c = some res) : Zz p l e (zRm 2 43 0 0) s m args below meth cd (MQ below (zQv D cid B res n0 0) args s 0 0 (fun q => B ≤ q)) D cid B 2 0 0 c 82 [] [] := by
  unfold f_Reader_nameLeast_82 at h
  obtain rfl := Option.some.inj h
  exact z_vret X H.1 H.2.1 H.2.2.1 dd_Reader_nameLeast_82
set_option maxRecDepth 100000 in
set_option maxHeartbeats 4000000 in
theorem c_Reader_nameLeast (l : Launch) {nf : Nat} {a0 : Nat} {a1 : Int32} {c : Zc} {res : Zc} (h : f_Reader_nameLeast nf a0 a1 c = some res) : zM l yy_Reader_nameLeast ww_Reader_nameLeast 2 43 0 0 [.ref a0, .int a1] c (fun D cid B => zQv D cid B res c.length 0) := by
  refine z_met (cc := bb_Reader_nameLeast) (maxL := 2) (ret := none) (by decide +kernel) rfl (Nat.le_of_ble_eq_true rfl) ?_
  intro p e s m args below meth cd D cid B X h1 h2 h3 h4
  have X : zX p s m args cd D cid B bb_Reader_nameLeast 2 rr_Reader zT := X
  have H : zH s meth B c.length none "nameLeast" := ⟨h1, h2, h4, h3⟩
  unfold f_Reader_nameLeast at h
  show Zz p l e (zRm 2 43 0 0) s m args below meth cd _ D cid B 2 0 0 c 0 [(0, .ref a0), (1, .int a1)] []
  refine z_aload_n X dd_Reader_nameLeast_0 rfl 0 rfl ?_
  obtain ⟨v1, ev1, h⟩ := zb h
  refine z_get (j := 3) X dd_Reader_nameLeast_1 kc_5 ki_5 (by decide) km_477 (zgr_v ev1) ?_
  refine z_iload_n X dd_Reader_nameLeast_4 rfl 1 rfl ?_
  obtain ⟨v2, ev2, h⟩ := zb h
  refine z_iaload X dd_Reader_nameLeast_5 rfl ev2 ?_
  refine z_iconst (v := (-1)) X dd_Reader_nameLeast_6 (by decide) ?_
  refine z_icmp_eq (tgt := 16) X dd_Reader_nameLeast_7 (by decide) (fun q3 => ?_) (fun q3 => ?_)
  · rw [if_pos q3] at h
    refine z_aload_n X dd_Reader_nameLeast_16 rfl 0 rfl ?_
    refine z_aload_n X dd_Reader_nameLeast_17 rfl 0 rfl ?_
    obtain ⟨v4, ev4, h⟩ := zb h
    refine z_get (j := 7) X dd_Reader_nameLeast_18 kc_5 ki_5 (by decide) km_481 (zgi_v ev4) ?_
    obtain ⟨w6, ew6, h⟩ := zb h
    obtain ⟨q5, eq5, h⟩ := zb h
    refine z_callVv X [.int v4] rfl dd_Reader_nameLeast_21 (c_Reader_takeSlot l eq5) (cwV 1 X.1.2.2.2.2 (zg_V km_1022 km_1024 km_17 km_130 km_1025) rfl rfl rfl (by decide +kernel) ⟨Nat.le_of_ble_eq_true rfl, Nat.le_of_ble_eq_true rfl⟩) (zob_s ew6) kc_5 rfl (Nat.le_of_ble_eq_true rfl) ⟨Nat.le_of_ble_eq_true rfl, Nat.le_of_ble_eq_true rfl⟩ ?_
    refine z_aload_n X dd_Reader_nameLeast_24 rfl 0 rfl ?_
    obtain ⟨v7, ev7, h⟩ := zb h
    refine z_get (j := 9) X dd_Reader_nameLeast_25 kc_5 ki_5 (by decide) km_483 (zgi_v ev7) ?_
    refine z_if_ne (tgt := 82) X dd_Reader_nameLeast_28 (by decide) (fun q8 => ?_) (fun q8 => ?_)
    · rw [if_neg q8] at h
      refine z_sub [] rfl ?_
      exact t_Reader_nameLeast_82 X H h
    · rw [if_pos q8] at h
      refine z_aload_n X dd_Reader_nameLeast_31 rfl 0 rfl ?_
      obtain ⟨v9, ev9, h⟩ := zb h
      refine z_get (j := 3) X dd_Reader_nameLeast_32 kc_5 ki_5 (by decide) km_477 (zgr_v ev9) ?_
      refine z_iload_n X dd_Reader_nameLeast_35 rfl 1 rfl ?_
      refine z_aload_n X dd_Reader_nameLeast_36 rfl 0 rfl ?_
      obtain ⟨v10, ev10, h⟩ := zb h
      refine z_get (j := 16) X dd_Reader_nameLeast_37 kc_5 ki_5 (by decide) km_490 (zgi_v ev10) ?_
      obtain ⟨c11, ec11, h⟩ := zb h
      refine z_iastore X dd_Reader_nameLeast_40 rfl ec11 ?_
      refine z_aload_n X dd_Reader_nameLeast_41 rfl 0 rfl ?_
      obtain ⟨v12, ev12, h⟩ := zb h
      refine z_get (j := 5) X dd_Reader_nameLeast_42 kc_5 ki_5 (by decide) km_479 (zgr_v ev12) ?_
      refine z_aload_n X dd_Reader_nameLeast_45 rfl 0 rfl ?_
      obtain ⟨v13, ev13, h⟩ := zb h
      refine z_get (j := 16) X dd_Reader_nameLeast_46 kc_5 ki_5 (by decide) km_490 (zgi_v ev13) ?_
      obtain ⟨c14, ec14, h⟩ := zb h
      refine z_put (j := 2) X dd_Reader_nameLeast_49 kc_1 ki_1 tt_Way tk_Way nn_Way (by decide) km_229 rfl (tk_Way 2 (by decide)) rfl rfl ec14 ?_
      refine z_aload_n X dd_Reader_nameLeast_52 rfl 0 rfl ?_
      refine z_dup X dd_Reader_nameLeast_53 rfl ?_
      obtain ⟨v15, ev15, h⟩ := zb h
      refine z_get (j := 12) X dd_Reader_nameLeast_54 kc_5 ki_5 (by decide) km_486 (zgi_v ev15) ?_
      refine z_iconst (v := 1) X dd_Reader_nameLeast_57 (by decide) ?_
      refine z_aload_n X dd_Reader_nameLeast_58 rfl 0 rfl ?_
      obtain ⟨v16, ev16, h⟩ := zb h
      refine z_get (j := 16) X dd_Reader_nameLeast_59 kc_5 ki_5 (by decide) km_490 (zgi_v ev16) ?_
      refine z_ishl X dd_Reader_nameLeast_62 ?_
      refine z_ior X dd_Reader_nameLeast_63 ?_
      obtain ⟨c17, ec17, h⟩ := zb h
      refine z_put (j := 12) X dd_Reader_nameLeast_64 kc_5 ki_5 tt_Reader tk_Reader nn_Reader (by decide) km_486 rfl (tk_Reader 12 (by decide)) rfl rfl ec17 ?_
      refine z_aload_n X dd_Reader_nameLeast_67 rfl 0 rfl ?_
      refine z_dup X dd_Reader_nameLeast_68 rfl ?_
      obtain ⟨v18, ev18, h⟩ := zb h
      refine z_get (j := 11) X dd_Reader_nameLeast_69 kc_5 ki_5 (by decide) km_485 (zgi_v ev18) ?_
      refine z_iconst (v := 1) X dd_Reader_nameLeast_72 (by decide) ?_
      refine z_aload_n X dd_Reader_nameLeast_73 rfl 0 rfl ?_
      obtain ⟨v19, ev19, h⟩ := zb h
      refine z_get (j := 16) X dd_Reader_nameLeast_74 kc_5 ki_5 (by decide) km_490 (zgi_v ev19) ?_
      refine z_ishl X dd_Reader_nameLeast_77 ?_
      refine z_ior X dd_Reader_nameLeast_78 ?_
      obtain ⟨c20, ec20, h⟩ := zb h
      refine z_put (j := 11) X dd_Reader_nameLeast_79 kc_5 ki_5 tt_Reader tk_Reader nn_Reader (by decide) km_485 rfl (tk_Reader 11 (by decide)) rfl rfl ec20 ?_
      refine z_sub [] rfl ?_
      exact t_Reader_nameLeast_82 X H h
  · rw [if_neg q3] at h
    refine z_aload_n X dd_Reader_nameLeast_10 rfl 0 rfl ?_
    refine z_iconst (v := 4) X dd_Reader_nameLeast_11 (by decide) ?_
    obtain ⟨w22, ew22, h⟩ := zb h
    obtain ⟨q21, eq21, h⟩ := zb h
    refine z_callVv X [.int 4] rfl dd_Reader_nameLeast_12 (c_Reader_fail l eq21) (cwV 1 X.1.2.2.2.2 (zg_V km_998 km_1000 km_11 km_130 km_1001) rfl rfl rfl (by decide +kernel) ⟨Nat.le_of_ble_eq_true rfl, Nat.le_of_ble_eq_true rfl⟩) (zob_s ew22) kc_5 rfl (Nat.le_of_ble_eq_true rfl) ⟨Nat.le_of_ble_eq_true rfl, Nat.le_of_ble_eq_true rfl⟩ ?_
    obtain rfl := Option.some.inj h
    exact z_vret X H.1 H.2.1 H.2.2.1 dd_Reader_nameLeast_15
theorem dd_Reader_takeInWay_0 : decode bb_Reader_takeInWay 0 = .ok (.aload_n 0, 1) := by decide +kernel
theorem dd_Reader_takeInWay_1 : decode bb_Reader_takeInWay 1 = .ok (.getfield 33, 3) := by decide +kernel
theorem dd_Reader_takeInWay_4 : decode bb_Reader_takeInWay 4 = .ok (.bipush 8, 2) := by decide +kernel
theorem dd_Reader_takeInWay_6 : decode bb_Reader_takeInWay 6 = .ok (.if_icmp .ne 18, 3) := by decide +kernel
theorem dd_Reader_takeInWay_9 : decode bb_Reader_takeInWay 9 = .ok (.iload_n 1, 1) := by decide +kernel
theorem dd_Reader_takeInWay_10 : decode bb_Reader_takeInWay 10 = .ok (.bipush 18, 2) := by decide +kernel
theorem dd_Reader_takeInWay_12 : decode bb_Reader_takeInWay 12 = .ok (.if_icmp .ne 12, 3) := by decide +kernel
theorem dd_Reader_takeInWay_15 : decode bb_Reader_takeInWay 15 = .ok (.aload_n 0, 1) := by decide +kernel
theorem dd_Reader_takeInWay_16 : decode bb_Reader_takeInWay 16 = .ok (.bipush 9, 2) := by decide +kernel
theorem dd_Reader_takeInWay_18 : decode bb_Reader_takeInWay 18 = .ok (.putfield 33, 3) := by decide +kernel
theorem dd_Reader_takeInWay_21 : decode bb_Reader_takeInWay 21 = .ok (.goto 119, 3) := by decide +kernel
theorem dd_Reader_takeInWay_24 : decode bb_Reader_takeInWay 24 = .ok (.aload_n 0, 1) := by decide +kernel
theorem dd_Reader_takeInWay_25 : decode bb_Reader_takeInWay 25 = .ok (.getfield 33, 3) := by decide +kernel
theorem dd_Reader_takeInWay_28 : decode bb_Reader_takeInWay 28 = .ok (.bipush 9, 2) := by decide +kernel
theorem dd_Reader_takeInWay_30 : decode bb_Reader_takeInWay 30 = .ok (.if_icmp .ne 33, 3) := by decide +kernel
theorem dd_Reader_takeInWay_33 : decode bb_Reader_takeInWay 33 = .ok (.iload_n 1, 1) := by decide +kernel
theorem dd_Reader_takeInWay_34 : decode bb_Reader_takeInWay 34 = .ok (.iconst 2, 1) := by decide +kernel
theorem dd_Reader_takeInWay_35 : decode bb_Reader_takeInWay 35 = .ok (.if_icmp .ne 28, 3) := by decide +kernel
theorem dd_Reader_takeInWay_38 : decode bb_Reader_takeInWay 38 = .ok (.aload_n 0, 1) := by decide +kernel
theorem dd_Reader_takeInWay_39 : decode bb_Reader_takeInWay 39 = .ok (.aload_n 0, 1) := by decide +kernel
theorem dd_Reader_takeInWay_40 : decode bb_Reader_takeInWay 40 = .ok (.getfield 18, 3) := by decide +kernel
theorem dd_Reader_takeInWay_43 : decode bb_Reader_takeInWay 43 = .ok (.getfield 178, 3) := by decide +kernel
theorem dd_Reader_takeInWay_46 : decode bb_Reader_takeInWay 46 = .ok (.aload_n 0, 1) := by decide +kernel
theorem dd_Reader_takeInWay_47 : decode bb_Reader_takeInWay 47 = .ok (.getfield 30, 3) := by decide +kernel
theorem dd_Reader_takeInWay_50 : decode bb_Reader_takeInWay 50 = .ok (.iaload, 1) := by decide +kernel
theorem dd_Reader_takeInWay_51 : decode bb_Reader_takeInWay 51 = .ok (.invokevirtual 241, 3) := by decide +kernel
theorem dd_Reader_takeInWay_54 : decode bb_Reader_takeInWay 54 = .ok (.aload_n 0, 1) := by decide +kernel
theorem dd_Reader_takeInWay_55 : decode bb_Reader_takeInWay 55 = .ok (.bipush 10, 2) := by decide +kernel
theorem dd_Reader_takeInWay_57 : decode bb_Reader_takeInWay 57 = .ok (.putfield 33, 3) := by decide +kernel
theorem dd_Reader_takeInWay_60 : decode bb_Reader_takeInWay 60 = .ok (.goto 80, 3) := by decide +kernel
theorem dd_Reader_takeInWay_63 : decode bb_Reader_takeInWay 63 = .ok (.aload_n 0, 1) := by decide +kernel
theorem dd_Reader_takeInWay_64 : decode bb_Reader_takeInWay 64 = .ok (.getfield 33, 3) := by decide +kernel
theorem dd_Reader_takeInWay_67 : decode bb_Reader_takeInWay 67 = .ok (.bipush 8, 2) := by decide +kernel
theorem dd_Reader_takeInWay_69 : decode bb_Reader_takeInWay 69 = .ok (.if_icmp .eq 12, 3) := by decide +kernel
theorem dd_Reader_takeInWay_72 : decode bb_Reader_takeInWay 72 = .ok (.aload_n 0, 1) := by decide +kernel
theorem dd_Reader_takeInWay_73 : decode bb_Reader_takeInWay 73 = .ok (.getfield 33, 3) := by decide +kernel
theorem dd_Reader_takeInWay_76 : decode bb_Reader_takeInWay 76 = .ok (.bipush 10, 2) := by decide +kernel
theorem dd_Reader_takeInWay_78 : decode bb_Reader_takeInWay 78 = .ok (.if_icmp .ne 18, 3) := by decide +kernel
theorem dd_Reader_takeInWay_81 : decode bb_Reader_takeInWay 81 = .ok (.iload_n 1, 1) := by decide +kernel
theorem dd_Reader_takeInWay_82 : decode bb_Reader_takeInWay 82 = .ok (.bipush 91, 2) := by decide +kernel
theorem dd_Reader_takeInWay_84 : decode bb_Reader_takeInWay 84 = .ok (.if_icmp .ne 12, 3) := by decide +kernel
theorem dd_Reader_takeInWay_87 : decode bb_Reader_takeInWay 87 = .ok (.aload_n 0, 1) := by decide +kernel
theorem dd_Reader_takeInWay_88 : decode bb_Reader_takeInWay 88 = .ok (.bipush 12, 2) := by decide +kernel
theorem dd_Reader_takeInWay_90 : decode bb_Reader_takeInWay 90 = .ok (.putfield 33, 3) := by decide +kernel
theorem dd_Reader_takeInWay_93 : decode bb_Reader_takeInWay 93 = .ok (.goto 47, 3) := by decide +kernel
theorem dd_Reader_takeInWay_96 : decode bb_Reader_takeInWay 96 = .ok (.aload_n 0, 1) := by decide +kernel
theorem dd_Reader_takeInWay_97 : decode bb_Reader_takeInWay 97 = .ok (.getfield 33, 3) := by decide +kernel
theorem dd_Reader_takeInWay_100 : decode bb_Reader_takeInWay 100 = .ok (.bipush 11, 2) := by decide +kernel
theorem dd_Reader_takeInWay_102 : decode bb_Reader_takeInWay 102 = .ok (.if_icmp .ne 33, 3) := by decide +kernel
theorem dd_Reader_takeInWay_105 : decode bb_Reader_takeInWay 105 = .ok (.iload_n 1, 1) := by decide +kernel
theorem dd_Reader_takeInWay_106 : decode bb_Reader_takeInWay 106 = .ok (.aload_n 0, 1) := by decide +kernel
theorem dd_Reader_takeInWay_107 : decode bb_Reader_takeInWay 107 = .ok (.getfield 79, 3) := by decide +kernel
theorem dd_Reader_takeInWay_110 : decode bb_Reader_takeInWay 110 = .ok (.getfield 244, 3) := by decide +kernel
theorem dd_Reader_takeInWay_113 : decode bb_Reader_takeInWay 113 = .ok (.ifCond .eq 8, 3) := by decide +kernel
theorem dd_Reader_takeInWay_116 : decode bb_Reader_takeInWay 116 = .ok (.bipush 45, 2) := by decide +kernel
theorem dd_Reader_takeInWay_118 : decode bb_Reader_takeInWay 118 = .ok (.goto 6, 3) := by decide +kernel
theorem dd_Reader_takeInWay_121 : decode bb_Reader_takeInWay 121 = .ok (.sipush 256, 3) := by decide +kernel
theorem dd_Reader_takeInWay_124 : decode bb_Reader_takeInWay 124 = .ok (.if_icmp .ne 11, 3) := by decide +kernel
theorem dd_Reader_takeInWay_127 : decode bb_Reader_takeInWay 127 = .ok (.aload_n 0, 1) := by decide +kernel
theorem dd_Reader_takeInWay_128 : decode bb_Reader_takeInWay 128 = .ok (.iconst 3, 1) := by decide +kernel
theorem dd_Reader_takeInWay_129 : decode bb_Reader_takeInWay 129 = .ok (.putfield 33, 3) := by decide +kernel
theorem dd_Reader_takeInWay_132 : decode bb_Reader_takeInWay 132 = .ok (.goto 8, 3) := by decide +kernel
theorem dd_Reader_takeInWay_135 : decode bb_Reader_takeInWay 135 = .ok (.aload_n 0, 1) := by decide +kernel
theorem dd_Reader_takeInWay_136 : decode bb_Reader_takeInWay 136 = .ok (.iconst 2, 1) := by decide +kernel
theorem dd_Reader_takeInWay_137 : decode bb_Reader_takeInWay 137 = .ok (.invokevirtual 133, 3) := by decide +kernel
theorem dd_Reader_takeInWay_140 : decode bb_Reader_takeInWay 140 = .ok (.return_, 1) := by decide +kernel
def f_Reader_takeInWay_140 (nf : Nat)  (c : Zc) : Option (Zc) :=
  some c
def f_Reader_takeInWay_135 (nf : Nat) (x0 : Nat) (c : Zc) : Option (Zc) :=
  (zob c x0 5).bind fun w11 => (f_Reader_fail nf x0 2 c).bind fun q10 => f_Reader_takeInWay_140 nf  q10
def f_Reader_takeInWay_124 (nf : Nat) (x0 : Nat) (s0 : Int32) (s1 : Int32) (c : Zc) : Option (Zc) :=
  if s0 = s1 then ((zpv c x0 5 8 (.int 3)).bind fun c16 => f_Reader_takeInWay_140 nf  c16) else (f_Reader_takeInWay_135 nf x0 c)
def f_Reader_takeInWay_96 (nf : Nat) (x0 : Nat) (x1 : Int32) (c : Zc) : Option (Zc) :=
  (zgi c x0 5 8).bind fun v8 => if v8 = 11 then ((zgr c x0 5 5).bind fun v12 => (zgi c v12 1 3).bind fun v13 => if v13 = 0 then (f_Reader_takeInWay_124 nf x0 x1 256 c) else (f_Reader_takeInWay_124 nf x0 x1 45 c)) else (f_Reader_takeInWay_135 nf x0 c)
def f_Reader_takeInWay_81 (nf : Nat) (x0 : Nat) (x1 : Int32) (c : Zc) : Option (Zc) :=
  if x1 = 91 then ((zpv c x0 5 8 (.int 12)).bind fun c17 => f_Reader_takeInWay_140 nf  c17) else (f_Reader_takeInWay_96 nf x0 x1 c)
def f_Reader_takeInWay_63 (nf : Nat) (x0 : Nat) (x1 : Int32) (c : Zc) : Option (Zc) :=
  (zgi c x0 5 8).bind fun v5 => if v5 = 8 then (f_Reader_takeInWay_81 nf x0 x1 c) else ((zgi c x0 5 8).bind fun v18 => if v18 = 10 then (f_Reader_takeInWay_81 nf x0 x1 c) else (f_Reader_takeInWay_96 nf x0 x1 c))
def f_Reader_takeInWay_24 (nf : Nat) (x0 : Nat) (x1 : Int32) (c : Zc) : Option (Zc) :=
  (zgi c x0 5 8).bind fun v3 => if v3 = 9 then (if x1 = 2 then ((zgr c x0 5 1).bind fun v21 => (zgr c v21 3 1).bind fun v22 => (zgi c x0 5 7).bind fun v23 => (zai c v22 0 v23).bind fun v24 => (zob c x0 5).bind fun w26 => (f_Reader_nameLeast nf x0 v24 c).bind fun q25 => (zpv q25 x0 5 8 (.int 10)).bind fun c27 => f_Reader_takeInWay_140 nf  c27) else (f_Reader_takeInWay_63 nf x0 x1 c)) else (f_Reader_takeInWay_63 nf x0 x1 c)
def f_Reader_takeInWay (nf : Nat) (a0 : Nat) (a1 : Int32) (c : Zc) : Option (Zc) :=
  (zgi c a0 5 8).bind fun v1 => if v1 = 8 then (if a1 = 18 then ((zpv c a0 5 8 (.int 9)).bind fun c29 => f_Reader_takeInWay_140 nf  c29) else (f_Reader_takeInWay_24 nf a0 a1 c)) else (f_Reader_takeInWay_24 nf a0 a1 c)
set_option maxRecDepth 100000 in
set_option maxHeartbeats 4000000 in
theorem t_Reader_takeInWay_140  (X : zX p s m args cd D cid B bb_Reader_takeInWay 2 rr_Reader zT) (H : zH s meth B n0 none "takeInWay") {nf : Nat}  {c : Zc} {res : Zc} (h : f_Reader_takeInWay_140 nf  c = some res) : Zz p l e (zRm 3 64 0 0) s m args below meth cd (MQ below (zQv D cid B res n0 0) args s 0 0 (fun q => B ≤ q)) D cid B 2 0 0 c 140 [] [] := by
  unfold f_Reader_takeInWay_140 at h
  obtain rfl := Option.some.inj h
  exact z_vret X H.1 H.2.1 H.2.2.1 dd_Reader_takeInWay_140
set_option maxRecDepth 100000 in
set_option maxHeartbeats 4000000 in
theorem t_Reader_takeInWay_135  (X : zX p s m args cd D cid B bb_Reader_takeInWay 2 rr_Reader zT) (H : zH s meth B n0 none "takeInWay") {nf : Nat} {x0 : Nat} {c : Zc} {res : Zc} (h : f_Reader_takeInWay_135 nf x0 c = some res) : Zz p l e (zRm 3 64 0 0) s m args below meth cd (MQ below (zQv D cid B res n0 0) args s 0 0 (fun q => B ≤ q)) D cid B 2 0 0 c 135 [(0, .ref x0)] [] := by
  unfold f_Reader_takeInWay_135 at h
  refine z_aload_n X dd_Reader_takeInWay_135 rfl 0 rfl ?_
  refine z_iconst (v := 2) X dd_Reader_takeInWay_136 (by decide) ?_
  obtain ⟨w11, ew11, h⟩ := zb h
  obtain ⟨q10, eq10, h⟩ := zb h
  refine z_callVv X [.int 2] rfl dd_Reader_takeInWay_137 (c_Reader_fail l eq10) (cwV 1 X.1.2.2.2.2 (zg_V km_998 km_1000 km_11 km_130 km_1001) rfl rfl rfl (by decide +kernel) ⟨Nat.le_of_ble_eq_true rfl, Nat.le_of_ble_eq_true rfl⟩) (zob_s ew11) kc_5 rfl (Nat.le_of_ble_eq_true rfl) ⟨Nat.le_of_ble_eq_true rfl, Nat.le_of_ble_eq_true rfl⟩ ?_
  refine z_sub [] rfl ?_
  exact t_Reader_takeInWay_140 X H h
set_option maxRecDepth 100000 in
set_option maxHeartbeats 4000000 in
theorem t_Reader_takeInWay_124  (X : zX p s m args cd D cid B bb_Reader_takeInWay 2 rr_Reader zT) (H : zH s meth B n0 none "takeInWay") {nf : Nat} {x0 : Nat} {s0 : Int32} {s1 : Int32} {c : Zc} {res : Zc} (h : f_Reader_takeInWay_124 nf x0 s0 s1 c = some res) : Zz p l e (zRm 3 64 0 0) s m args below meth cd (MQ below (zQv D cid B res n0 0) args s 0 0 (fun q => B ≤ q)) D cid B 2 0 0 c 124 [(0, .ref x0)] [.int s1, .int s0] := by
  unfold f_Reader_takeInWay_124 at h
  refine z_icmp_ne (tgt := 135) X dd_Reader_takeInWay_124 (by decide) (fun q15 => ?_) (fun q15 => ?_)
  · rw [if_neg q15] at h
    exact t_Reader_takeInWay_135 X H h
  · rw [if_pos q15] at h
    refine z_aload_n X dd_Reader_takeInWay_127 rfl 0 rfl ?_
    refine z_iconst (v := 3) X dd_Reader_takeInWay_128 (by decide) ?_
    obtain ⟨c16, ec16, h⟩ := zb h
    refine z_put (j := 8) X dd_Reader_takeInWay_129 kc_5 ki_5 tt_Reader tk_Reader nn_Reader (by decide) km_482 rfl (tk_Reader 8 (by decide)) rfl rfl ec16 ?_
    refine z_goto (tgt := 140) X dd_Reader_takeInWay_132 (by decide) ?_
    refine z_sub [] rfl ?_
    exact t_Reader_takeInWay_140 X H h
set_option maxRecDepth 100000 in
set_option maxHeartbeats 4000000 in
theorem t_Reader_takeInWay_96  (X : zX p s m args cd D cid B bb_Reader_takeInWay 2 rr_Reader zT) (H : zH s meth B n0 none "takeInWay") {nf : Nat} {x0 : Nat} {x1 : Int32} {c : Zc} {res : Zc} (h : f_Reader_takeInWay_96 nf x0 x1 c = some res) : Zz p l e (zRm 3 64 0 0) s m args below meth cd (MQ below (zQv D cid B res n0 0) args s 0 0 (fun q => B ≤ q)) D cid B 2 0 0 c 96 [(0, .ref x0), (1, .int x1)] [] := by
  unfold f_Reader_takeInWay_96 at h
  refine z_aload_n X dd_Reader_takeInWay_96 rfl 0 rfl ?_
  obtain ⟨v8, ev8, h⟩ := zb h
  refine z_get (j := 8) X dd_Reader_takeInWay_97 kc_5 ki_5 (by decide) km_482 (zgi_v ev8) ?_
  refine z_bipush (v := 11) X dd_Reader_takeInWay_100 (by decide) ?_
  refine z_icmp_ne (tgt := 135) X dd_Reader_takeInWay_102 (by decide) (fun q9 => ?_) (fun q9 => ?_)
  · rw [if_neg q9] at h
    refine z_sub [0] rfl ?_
    exact t_Reader_takeInWay_135 X H h
  · rw [if_pos q9] at h
    refine z_iload_n X dd_Reader_takeInWay_105 rfl 1 rfl ?_
    refine z_aload_n X dd_Reader_takeInWay_106 rfl 0 rfl ?_
    obtain ⟨v12, ev12, h⟩ := zb h
    refine z_get (j := 5) X dd_Reader_takeInWay_107 kc_5 ki_5 (by decide) km_479 (zgr_v ev12) ?_
    obtain ⟨v13, ev13, h⟩ := zb h
    refine z_get (j := 3) X dd_Reader_takeInWay_110 kc_1 ki_1 (by decide) km_231 (zgi_v ev13) ?_
    refine z_if_eq (tgt := 121) X dd_Reader_takeInWay_113 (by decide) (fun q14 => ?_) (fun q14 => ?_)
    · rw [if_pos q14] at h
      refine z_sipush (v := 256) X dd_Reader_takeInWay_121 (by decide) ?_
      refine z_sub [0] rfl ?_
      exact t_Reader_takeInWay_124 X H h
    · rw [if_neg q14] at h
      refine z_bipush (v := 45) X dd_Reader_takeInWay_116 (by decide) ?_
      refine z_goto (tgt := 124) X dd_Reader_takeInWay_118 (by decide) ?_
      refine z_sub [0] rfl ?_
      exact t_Reader_takeInWay_124 X H h
set_option maxRecDepth 100000 in
set_option maxHeartbeats 4000000 in
theorem t_Reader_takeInWay_81  (X : zX p s m args cd D cid B bb_Reader_takeInWay 2 rr_Reader zT) (H : zH s meth B n0 none "takeInWay") {nf : Nat} {x0 : Nat} {x1 : Int32} {c : Zc} {res : Zc} (h : f_Reader_takeInWay_81 nf x0 x1 c = some res) : Zz p l e (zRm 3 64 0 0) s m args below meth cd (MQ below (zQv D cid B res n0 0) args s 0 0 (fun q => B ≤ q)) D cid B 2 0 0 c 81 [(0, .ref x0), (1, .int x1)] [] := by
  unfold f_Reader_takeInWay_81 at h
  refine z_iload_n X dd_Reader_takeInWay_81 rfl 1 rfl ?_
  refine z_bipush (v := 91) X dd_Reader_takeInWay_82 (by decide) ?_
  refine z_icmp_ne (tgt := 96) X dd_Reader_takeInWay_84 (by decide) (fun q7 => ?_) (fun q7 => ?_)
  · rw [if_neg q7] at h
    exact t_Reader_takeInWay_96 X H h
  · rw [if_pos q7] at h
    refine z_aload_n X dd_Reader_takeInWay_87 rfl 0 rfl ?_
    refine z_bipush (v := 12) X dd_Reader_takeInWay_88 (by decide) ?_
    obtain ⟨c17, ec17, h⟩ := zb h
    refine z_put (j := 8) X dd_Reader_takeInWay_90 kc_5 ki_5 tt_Reader tk_Reader nn_Reader (by decide) km_482 rfl (tk_Reader 8 (by decide)) rfl rfl ec17 ?_
    refine z_goto (tgt := 140) X dd_Reader_takeInWay_93 (by decide) ?_
    refine z_sub [] rfl ?_
    exact t_Reader_takeInWay_140 X H h
set_option maxRecDepth 100000 in
set_option maxHeartbeats 4000000 in
theorem t_Reader_takeInWay_63  (X : zX p s m args cd D cid B bb_Reader_takeInWay 2 rr_Reader zT) (H : zH s meth B n0 none "takeInWay") {nf : Nat} {x0 : Nat} {x1 : Int32} {c : Zc} {res : Zc} (h : f_Reader_takeInWay_63 nf x0 x1 c = some res) : Zz p l e (zRm 3 64 0 0) s m args below meth cd (MQ below (zQv D cid B res n0 0) args s 0 0 (fun q => B ≤ q)) D cid B 2 0 0 c 63 [(0, .ref x0), (1, .int x1)] [] := by
  unfold f_Reader_takeInWay_63 at h
  refine z_aload_n X dd_Reader_takeInWay_63 rfl 0 rfl ?_
  obtain ⟨v5, ev5, h⟩ := zb h
  refine z_get (j := 8) X dd_Reader_takeInWay_64 kc_5 ki_5 (by decide) km_482 (zgi_v ev5) ?_
  refine z_bipush (v := 8) X dd_Reader_takeInWay_67 (by decide) ?_
  refine z_icmp_eq (tgt := 81) X dd_Reader_takeInWay_69 (by decide) (fun q6 => ?_) (fun q6 => ?_)
  · rw [if_pos q6] at h
    exact t_Reader_takeInWay_81 X H h
  · rw [if_neg q6] at h
    refine z_aload_n X dd_Reader_takeInWay_72 rfl 0 rfl ?_
    obtain ⟨v18, ev18, h⟩ := zb h
    refine z_get (j := 8) X dd_Reader_takeInWay_73 kc_5 ki_5 (by decide) km_482 (zgi_v ev18) ?_
    refine z_bipush (v := 10) X dd_Reader_takeInWay_76 (by decide) ?_
    refine z_icmp_ne (tgt := 96) X dd_Reader_takeInWay_78 (by decide) (fun q19 => ?_) (fun q19 => ?_)
    · rw [if_neg q19] at h
      exact t_Reader_takeInWay_96 X H h
    · rw [if_pos q19] at h
      exact t_Reader_takeInWay_81 X H h
set_option maxRecDepth 100000 in
set_option maxHeartbeats 4000000 in
theorem t_Reader_takeInWay_24  (X : zX p s m args cd D cid B bb_Reader_takeInWay 2 rr_Reader zT) (H : zH s meth B n0 none "takeInWay") {nf : Nat} {x0 : Nat} {x1 : Int32} {c : Zc} {res : Zc} (h : f_Reader_takeInWay_24 nf x0 x1 c = some res) : Zz p l e (zRm 3 64 0 0) s m args below meth cd (MQ below (zQv D cid B res n0 0) args s 0 0 (fun q => B ≤ q)) D cid B 2 0 0 c 24 [(0, .ref x0), (1, .int x1)] [] := by
  unfold f_Reader_takeInWay_24 at h
  refine z_aload_n X dd_Reader_takeInWay_24 rfl 0 rfl ?_
  obtain ⟨v3, ev3, h⟩ := zb h
  refine z_get (j := 8) X dd_Reader_takeInWay_25 kc_5 ki_5 (by decide) km_482 (zgi_v ev3) ?_
  refine z_bipush (v := 9) X dd_Reader_takeInWay_28 (by decide) ?_
  refine z_icmp_ne (tgt := 63) X dd_Reader_takeInWay_30 (by decide) (fun q4 => ?_) (fun q4 => ?_)
  · rw [if_neg q4] at h
    exact t_Reader_takeInWay_63 X H h
  · rw [if_pos q4] at h
    refine z_iload_n X dd_Reader_takeInWay_33 rfl 1 rfl ?_
    refine z_iconst (v := 2) X dd_Reader_takeInWay_34 (by decide) ?_
    refine z_icmp_ne (tgt := 63) X dd_Reader_takeInWay_35 (by decide) (fun q20 => ?_) (fun q20 => ?_)
    · rw [if_neg q20] at h
      exact t_Reader_takeInWay_63 X H h
    · rw [if_pos q20] at h
      refine z_aload_n X dd_Reader_takeInWay_38 rfl 0 rfl ?_
      refine z_aload_n X dd_Reader_takeInWay_39 rfl 0 rfl ?_
      obtain ⟨v21, ev21, h⟩ := zb h
      refine z_get (j := 1) X dd_Reader_takeInWay_40 kc_5 ki_5 (by decide) km_475 (zgr_v ev21) ?_
      obtain ⟨v22, ev22, h⟩ := zb h
      refine z_get (j := 1) X dd_Reader_takeInWay_43 kc_3 ki_3 (by decide) km_419 (zgr_v ev22) ?_
      refine z_aload_n X dd_Reader_takeInWay_46 rfl 0 rfl ?_
      obtain ⟨v23, ev23, h⟩ := zb h
      refine z_get (j := 7) X dd_Reader_takeInWay_47 kc_5 ki_5 (by decide) km_481 (zgi_v ev23) ?_
      obtain ⟨v24, ev24, h⟩ := zb h
      refine z_iaload X dd_Reader_takeInWay_50 rfl ev24 ?_
      obtain ⟨w26, ew26, h⟩ := zb h
      obtain ⟨q25, eq25, h⟩ := zb h
      refine z_callVv X [.int v24] rfl dd_Reader_takeInWay_51 (c_Reader_nameLeast l eq25) (cwV 1 X.1.2.2.2.2 (zg_V km_1080 km_1082 km_25 km_130 km_1083) rfl rfl rfl (by decide +kernel) ⟨Nat.le_of_ble_eq_true rfl, Nat.le_of_ble_eq_true rfl⟩) (zob_s ew26) kc_5 rfl (Nat.le_of_ble_eq_true rfl) ⟨Nat.le_of_ble_eq_true rfl, Nat.le_of_ble_eq_true rfl⟩ ?_
      refine z_aload_n X dd_Reader_takeInWay_54 rfl 0 rfl ?_
      refine z_bipush (v := 10) X dd_Reader_takeInWay_55 (by decide) ?_
      obtain ⟨c27, ec27, h⟩ := zb h
      refine z_put (j := 8) X dd_Reader_takeInWay_57 kc_5 ki_5 tt_Reader tk_Reader nn_Reader (by decide) km_482 rfl (tk_Reader 8 (by decide)) rfl rfl ec27 ?_
      refine z_goto (tgt := 140) X dd_Reader_takeInWay_60 (by decide) ?_
      refine z_sub [] rfl ?_
      exact t_Reader_takeInWay_140 X H h
set_option maxRecDepth 100000 in
set_option maxHeartbeats 4000000 in
theorem c_Reader_takeInWay (l : Launch) {nf : Nat} {a0 : Nat} {a1 : Int32} {c : Zc} {res : Zc} (h : f_Reader_takeInWay nf a0 a1 c = some res) : zM l yy_Reader_takeInWay ww_Reader_takeInWay 3 64 0 0 [.ref a0, .int a1] c (fun D cid B => zQv D cid B res c.length 0) := by
  refine z_met (cc := bb_Reader_takeInWay) (maxL := 2) (ret := none) (by decide +kernel) rfl (Nat.le_of_ble_eq_true rfl) ?_
  intro p e s m args below meth cd D cid B X h1 h2 h3 h4
  have X : zX p s m args cd D cid B bb_Reader_takeInWay 2 rr_Reader zT := X
  have H : zH s meth B c.length none "takeInWay" := ⟨h1, h2, h4, h3⟩
  unfold f_Reader_takeInWay at h
  show Zz p l e (zRm 3 64 0 0) s m args below meth cd _ D cid B 2 0 0 c 0 [(0, .ref a0), (1, .int a1)] []
  refine z_aload_n X dd_Reader_takeInWay_0 rfl 0 rfl ?_
  obtain ⟨v1, ev1, h⟩ := zb h
  refine z_get (j := 8) X dd_Reader_takeInWay_1 kc_5 ki_5 (by decide) km_482 (zgi_v ev1) ?_
  refine z_bipush (v := 8) X dd_Reader_takeInWay_4 (by decide) ?_
  refine z_icmp_ne (tgt := 24) X dd_Reader_takeInWay_6 (by decide) (fun q2 => ?_) (fun q2 => ?_)
  · rw [if_neg q2] at h
    exact t_Reader_takeInWay_24 X H h
  · rw [if_pos q2] at h
    refine z_iload_n X dd_Reader_takeInWay_9 rfl 1 rfl ?_
    refine z_bipush (v := 18) X dd_Reader_takeInWay_10 (by decide) ?_
    refine z_icmp_ne (tgt := 24) X dd_Reader_takeInWay_12 (by decide) (fun q28 => ?_) (fun q28 => ?_)
    · rw [if_neg q28] at h
      exact t_Reader_takeInWay_24 X H h
    · rw [if_pos q28] at h
      refine z_aload_n X dd_Reader_takeInWay_15 rfl 0 rfl ?_
      refine z_bipush (v := 9) X dd_Reader_takeInWay_16 (by decide) ?_
      obtain ⟨c29, ec29, h⟩ := zb h
      refine z_put (j := 8) X dd_Reader_takeInWay_18 kc_5 ki_5 tt_Reader tk_Reader nn_Reader (by decide) km_482 rfl (tk_Reader 8 (by decide)) rfl rfl ec29 ?_
      refine z_goto (tgt := 140) X dd_Reader_takeInWay_21 (by decide) ?_
      refine z_sub [] rfl ?_
      exact t_Reader_takeInWay_140 X H h
theorem dd_Reader_addStep_0 : decode bb_Reader_addStep 0 = .ok (.aload_n 0, 1) := by decide +kernel
theorem dd_Reader_addStep_1 : decode bb_Reader_addStep 1 = .ok (.getfield 48, 3) := by decide +kernel
theorem dd_Reader_addStep_4 : decode bb_Reader_addStep 4 = .ok (.iconst (-1), 1) := by decide +kernel
theorem dd_Reader_addStep_5 : decode bb_Reader_addStep 5 = .ok (.if_icmp .eq 21, 3) := by decide +kernel
theorem dd_Reader_addStep_8 : decode bb_Reader_addStep 8 = .ok (.iload_n 1, 1) := by decide +kernel
theorem dd_Reader_addStep_9 : decode bb_Reader_addStep 9 = .ok (.bipush 8, 2) := by decide +kernel
theorem dd_Reader_addStep_11 : decode bb_Reader_addStep 11 = .ok (.if_icmp .lt 15, 3) := by decide +kernel
theorem dd_Reader_addStep_14 : decode bb_Reader_addStep 14 = .ok (.iload_n 1, 1) := by decide +kernel
theorem dd_Reader_addStep_15 : decode bb_Reader_addStep 15 = .ok (.bipush 12, 2) := by decide +kernel
theorem dd_Reader_addStep_17 : decode bb_Reader_addStep 17 = .ok (.if_icmp .ge 9, 3) := by decide +kernel
theorem dd_Reader_addStep_20 : decode bb_Reader_addStep 20 = .ok (.aload_n 0, 1) := by decide +kernel
theorem dd_Reader_addStep_21 : decode bb_Reader_addStep 21 = .ok (.bipush 6, 2) := by decide +kernel
theorem dd_Reader_addStep_23 : decode bb_Reader_addStep 23 = .ok (.invokevirtual 133, 3) := by decide +kernel
theorem dd_Reader_addStep_26 : decode bb_Reader_addStep 26 = .ok (.aload_n 0, 1) := by decide +kernel
theorem dd_Reader_addStep_27 : decode bb_Reader_addStep 27 = .ok (.getfield 79, 3) := by decide +kernel
theorem dd_Reader_addStep_30 : decode bb_Reader_addStep 30 = .ok (.iload_n 1, 1) := by decide +kernel
theorem dd_Reader_addStep_31 : decode bb_Reader_addStep 31 = .ok (.aload_n 0, 1) := by decide +kernel
theorem dd_Reader_addStep_32 : decode bb_Reader_addStep 32 = .ok (.getfield 33, 3) := by decide +kernel
theorem dd_Reader_addStep_35 : decode bb_Reader_addStep 35 = .ok (.bipush 13, 2) := by decide +kernel
theorem dd_Reader_addStep_37 : decode bb_Reader_addStep 37 = .ok (.if_icmp .ne 7, 3) := by decide +kernel
theorem dd_Reader_addStep_40 : decode bb_Reader_addStep 40 = .ok (.iconst 1, 1) := by decide +kernel
theorem dd_Reader_addStep_41 : decode bb_Reader_addStep 41 = .ok (.goto 4, 3) := by decide +kernel
theorem dd_Reader_addStep_44 : decode bb_Reader_addStep 44 = .ok (.iconst 0, 1) := by decide +kernel
theorem dd_Reader_addStep_45 : decode bb_Reader_addStep 45 = .ok (.invokevirtual 259, 3) := by decide +kernel
theorem dd_Reader_addStep_48 : decode bb_Reader_addStep 48 = .ok (.aload_n 0, 1) := by decide +kernel
theorem dd_Reader_addStep_49 : decode bb_Reader_addStep 49 = .ok (.bipush 14, 2) := by decide +kernel
theorem dd_Reader_addStep_51 : decode bb_Reader_addStep 51 = .ok (.putfield 33, 3) := by decide +kernel
theorem dd_Reader_addStep_54 : decode bb_Reader_addStep 54 = .ok (.return_, 1) := by decide +kernel
def f_Reader_addStep_45 (nf : Nat) (x0 : Nat) (s0 : Nat) (s1 : Int32) (s2 : Int32) (c : Zc) : Option (Zc) :=
  (zob c s0 1).bind fun w7 => (f_Way_addStep nf s0 s1 s2 c).bind fun q6 => (zpv q6 x0 5 8 (.int 14)).bind fun c8 => some c8
def f_Reader_addStep_26 (nf : Nat) (x0 : Nat) (x1 : Int32) (c : Zc) : Option (Zc) :=
  (zgr c x0 5 5).bind fun v3 => (zgi c x0 5 8).bind fun v4 => if v4 = 13 then (f_Reader_addStep_45 nf x0 v3 x1 1 c) else (f_Reader_addStep_45 nf x0 v3 x1 0 c)
def f_Reader_addStep (nf : Nat) (a0 : Nat) (a1 : Int32) (c : Zc) : Option (Zc) :=
  (zgi c a0 5 13).bind fun v1 => if v1 = (-1) then (f_Reader_addStep_26 nf a0 a1 c) else (if a1 < 8 then (f_Reader_addStep_26 nf a0 a1 c) else (if 12 ≤ a1 then (f_Reader_addStep_26 nf a0 a1 c) else ((zob c a0 5).bind fun w12 => (f_Reader_fail nf a0 6 c).bind fun q11 => f_Reader_addStep_26 nf a0 a1 q11)))
set_option maxRecDepth 100000 in
set_option maxHeartbeats 4000000 in
theorem t_Reader_addStep_45  (X : zX p s m args cd D cid B bb_Reader_addStep 2 rr_Reader zT) (H : zH s meth B n0 none "addStep") {nf : Nat} {x0 : Nat} {s0 : Nat} {s1 : Int32} {s2 : Int32} {c : Zc} {res : Zc} (h : f_Reader_addStep_45 nf x0 s0 s1 s2 c = some res) : Zz p l e (zRm 3 73 0 0) s m args below meth cd (MQ below (zQv D cid B res n0 0) args s 0 0 (fun q => B ≤ q)) D cid B 2 0 0 c 45 [(0, .ref x0)] [.int s2, .int s1, .ref s0] := by
  unfold f_Reader_addStep_45 at h
  obtain ⟨w7, ew7, h⟩ := zb h
  obtain ⟨q6, eq6, h⟩ := zb h
  refine z_callVv X [.int s1, .int s2] rfl dd_Reader_addStep_45 (c_Way_addStep l eq6) (cwV 2 X.1.2.2.2.2 (zg_V km_1106 km_1107 km_1108 km_129 km_1109) rfl rfl rfl (by decide +kernel) ⟨Nat.le_of_ble_eq_true rfl, Nat.le_of_ble_eq_true rfl⟩) (zob_s ew7) kc_1 rfl (Nat.le_of_ble_eq_true rfl) ⟨Nat.le_of_ble_eq_true rfl, Nat.le_of_ble_eq_true rfl⟩ ?_
  refine z_aload_n X dd_Reader_addStep_48 rfl 0 rfl ?_
  refine z_bipush (v := 14) X dd_Reader_addStep_49 (by decide) ?_
  obtain ⟨c8, ec8, h⟩ := zb h
  refine z_put (j := 8) X dd_Reader_addStep_51 kc_5 ki_5 tt_Reader tk_Reader nn_Reader (by decide) km_482 rfl (tk_Reader 8 (by decide)) rfl rfl ec8 ?_
  obtain rfl := Option.some.inj h
  exact z_vret X H.1 H.2.1 H.2.2.1 dd_Reader_addStep_54
set_option maxRecDepth 100000 in
set_option maxHeartbeats 4000000 in
theorem t_Reader_addStep_26  (X : zX p s m args cd D cid B bb_Reader_addStep 2 rr_Reader zT) (H : zH s meth B n0 none "addStep") {nf : Nat} {x0 : Nat} {x1 : Int32} {c : Zc} {res : Zc} (h : f_Reader_addStep_26 nf x0 x1 c = some res) : Zz p l e (zRm 3 73 0 0) s m args below meth cd (MQ below (zQv D cid B res n0 0) args s 0 0 (fun q => B ≤ q)) D cid B 2 0 0 c 26 [(0, .ref x0), (1, .int x1)] [] := by
  unfold f_Reader_addStep_26 at h
  refine z_aload_n X dd_Reader_addStep_26 rfl 0 rfl ?_
  obtain ⟨v3, ev3, h⟩ := zb h
  refine z_get (j := 5) X dd_Reader_addStep_27 kc_5 ki_5 (by decide) km_479 (zgr_v ev3) ?_
  refine z_iload_n X dd_Reader_addStep_30 rfl 1 rfl ?_
  refine z_aload_n X dd_Reader_addStep_31 rfl 0 rfl ?_
  obtain ⟨v4, ev4, h⟩ := zb h
  refine z_get (j := 8) X dd_Reader_addStep_32 kc_5 ki_5 (by decide) km_482 (zgi_v ev4) ?_
  refine z_bipush (v := 13) X dd_Reader_addStep_35 (by decide) ?_
  refine z_icmp_ne (tgt := 44) X dd_Reader_addStep_37 (by decide) (fun q5 => ?_) (fun q5 => ?_)
  · rw [if_neg q5] at h
    refine z_iconst (v := 0) X dd_Reader_addStep_44 (by decide) ?_
    refine z_sub [0] rfl ?_
    exact t_Reader_addStep_45 X H h
  · rw [if_pos q5] at h
    refine z_iconst (v := 1) X dd_Reader_addStep_40 (by decide) ?_
    refine z_goto (tgt := 45) X dd_Reader_addStep_41 (by decide) ?_
    refine z_sub [0] rfl ?_
    exact t_Reader_addStep_45 X H h
set_option maxRecDepth 100000 in
set_option maxHeartbeats 4000000 in
theorem c_Reader_addStep (l : Launch) {nf : Nat} {a0 : Nat} {a1 : Int32} {c : Zc} {res : Zc} (h : f_Reader_addStep nf a0 a1 c = some res) : zM l yy_Reader_addStep ww_Reader_addStep 3 73 0 0 [.ref a0, .int a1] c (fun D cid B => zQv D cid B res c.length 0) := by
  refine z_met (cc := bb_Reader_addStep) (maxL := 2) (ret := none) (by decide +kernel) rfl (Nat.le_of_ble_eq_true rfl) ?_
  intro p e s m args below meth cd D cid B X h1 h2 h3 h4
  have X : zX p s m args cd D cid B bb_Reader_addStep 2 rr_Reader zT := X
  have H : zH s meth B c.length none "addStep" := ⟨h1, h2, h4, h3⟩
  unfold f_Reader_addStep at h
  show Zz p l e (zRm 3 73 0 0) s m args below meth cd _ D cid B 2 0 0 c 0 [(0, .ref a0), (1, .int a1)] []
  refine z_aload_n X dd_Reader_addStep_0 rfl 0 rfl ?_
  obtain ⟨v1, ev1, h⟩ := zb h
  refine z_get (j := 13) X dd_Reader_addStep_1 kc_5 ki_5 (by decide) km_487 (zgi_v ev1) ?_
  refine z_iconst (v := (-1)) X dd_Reader_addStep_4 (by decide) ?_
  refine z_icmp_eq (tgt := 26) X dd_Reader_addStep_5 (by decide) (fun q2 => ?_) (fun q2 => ?_)
  · rw [if_pos q2] at h
    exact t_Reader_addStep_26 X H h
  · rw [if_neg q2] at h
    refine z_iload_n X dd_Reader_addStep_8 rfl 1 rfl ?_
    refine z_bipush (v := 8) X dd_Reader_addStep_9 (by decide) ?_
    refine z_icmp_lt (tgt := 26) X dd_Reader_addStep_11 (by decide) (fun q9 => ?_) (fun q9 => ?_)
    · rw [if_pos q9] at h
      exact t_Reader_addStep_26 X H h
    · rw [if_neg q9] at h
      refine z_iload_n X dd_Reader_addStep_14 rfl 1 rfl ?_
      refine z_bipush (v := 12) X dd_Reader_addStep_15 (by decide) ?_
      refine z_icmp_ge (tgt := 26) X dd_Reader_addStep_17 (by decide) (fun q10 => ?_) (fun q10 => ?_)
      · rw [if_pos q10] at h
        exact t_Reader_addStep_26 X H h
      · rw [if_neg q10] at h
        refine z_aload_n X dd_Reader_addStep_20 rfl 0 rfl ?_
        refine z_bipush (v := 6) X dd_Reader_addStep_21 (by decide) ?_
        obtain ⟨w12, ew12, h⟩ := zb h
        obtain ⟨q11, eq11, h⟩ := zb h
        refine z_callVv X [.int 6] rfl dd_Reader_addStep_23 (c_Reader_fail l eq11) (cwV 1 X.1.2.2.2.2 (zg_V km_998 km_1000 km_11 km_130 km_1001) rfl rfl rfl (by decide +kernel) ⟨Nat.le_of_ble_eq_true rfl, Nat.le_of_ble_eq_true rfl⟩) (zob_s ew12) kc_5 rfl (Nat.le_of_ble_eq_true rfl) ⟨Nat.le_of_ble_eq_true rfl, Nat.le_of_ble_eq_true rfl⟩ ?_
        exact t_Reader_addStep_26 X H h
end ZzM
