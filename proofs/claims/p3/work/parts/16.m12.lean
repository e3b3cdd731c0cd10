section ZzM
variable {p : Program} {l : Launch} {e : Env} {s : State} {m : MethodId} {args : Array Value} {below : List Frame} {meth : Method} {cd : Code} {Q : State → Prop} {D : va_G} {cid : Nat → ClassId} {B n0 : Nat}
theorem dd_PQ_bare_0 : decode bb_PQ_bare 0 = .ok (.aload_n 0, 1) := by decide +kernel
theorem dd_PQ_bare_1 : decode bb_PQ_bare 1 = .ok (.getfield 16, 3) := by decide +kernel
theorem dd_PQ_bare_4 : decode bb_PQ_bare 4 = .ok (.iload_n 1, 1) := by decide +kernel
theorem dd_PQ_bare_5 : decode bb_PQ_bare 5 = .ok (.invokevirtual 90, 3) := by decide +kernel
theorem dd_PQ_bare_8 : decode bb_PQ_bare 8 = .ok (.ifCond .ne 5, 3) := by decide +kernel
theorem dd_PQ_bare_11 : decode bb_PQ_bare 11 = .ok (.iconst (-1), 1) := by decide +kernel
theorem dd_PQ_bare_12 : decode bb_PQ_bare 12 = .ok (.ireturn, 1) := by decide +kernel
theorem dd_PQ_bare_13 : decode bb_PQ_bare 13 = .ok (.aload_n 0, 1) := by decide +kernel
theorem dd_PQ_bare_14 : decode bb_PQ_bare 14 = .ok (.getfield 16, 3) := by decide +kernel
theorem dd_PQ_bare_17 : decode bb_PQ_bare 17 = .ok (.iload_n 1, 1) := by decide +kernel
theorem dd_PQ_bare_18 : decode bb_PQ_bare 18 = .ok (.invokevirtual 128, 3) := by decide +kernel
theorem dd_PQ_bare_21 : decode bb_PQ_bare 21 = .ok (.ireturn, 1) := by decide +kernel
def f_PQ_bare (nf : Nat) (a0 : Nat) (a1 : Int32) (c : Zc) : Option (Int32 × Zc) :=
  (zgr c a0 11 1).bind fun v1 => (zob c v1 0).bind fun w3 => (f_Graph_isNode nf v1 a1 c).bind fun q2 => if q2.1 = 0 then (some ((-1), q2.2)) else ((zgr q2.2 a0 11 1).bind fun v5 => (zob q2.2 v5 0).bind fun w7 => (f_Graph_strip nf v5 a1 q2.2).bind fun q6 => some (q6.1, q6.2))
set_option maxRecDepth 100000 in
set_option maxHeartbeats 4000000 in
theorem c_PQ_bare (l : Launch) {nf : Nat} {a0 : Nat} {a1 : Int32} {c : Zc} {res : Int32 × Zc} (h : f_PQ_bare nf a0 a1 c = some res) : zM l yy_PQ_bare ww_PQ_bare 2 44 0 0 [.ref a0, .int a1] c (fun D cid B => zQi D cid B res.1 res.2 c.length 0) := by
  refine z_met (cc := bb_PQ_bare) (maxL := 2) (ret := (some (.int))) (by decide +kernel) rfl (Nat.le_of_ble_eq_true rfl) ?_
  intro p e s m args below meth cd D cid B X h1 h2 h3 h4
  have X : zX p s m args cd D cid B bb_PQ_bare 2 rr_PQ zT := X
  have H : zH s meth B c.length (some (.int)) "bare" := ⟨h1, h2, h4, h3⟩
  unfold f_PQ_bare at h
  show Zz p l e (zRm 2 44 0 0) s m args below meth cd _ D cid B 2 0 0 c 0 [(0, .ref a0), (1, .int a1)] []
  refine z_aload_n X dd_PQ_bare_0 rfl 0 rfl ?_
  obtain ⟨v1, ev1, h⟩ := zb h
  refine z_get (j := 1) X dd_PQ_bare_1 kc_11 ki_11 (by decide) km_690 (zgr_v ev1) ?_
  refine z_iload_n X dd_PQ_bare_4 rfl 1 rfl ?_
  obtain ⟨w3, ew3, h⟩ := zb h
  obtain ⟨q2, eq2, h⟩ := zb h
  refine z_callVi X [.int a1] rfl dd_PQ_bare_5 (c_Graph_isNode l eq2) (cwV 1 X.1.2.2.2.2 (zg_V km_747 km_748 km_749 km_126 km_750) rfl rfl rfl (by decide +kernel) ⟨Nat.le_of_ble_eq_true rfl, Nat.le_of_ble_eq_true rfl⟩) (zob_s ew3) kc_0 rfl (Nat.le_of_ble_eq_true rfl) ⟨Nat.le_of_ble_eq_true rfl, Nat.le_of_ble_eq_true rfl⟩ ?_
  refine z_if_ne (tgt := 13) X dd_PQ_bare_8 (by decide) (fun q4 => ?_) (fun q4 => ?_)
  · rw [if_neg q4] at h
    refine z_aload_n X dd_PQ_bare_13 rfl 0 rfl ?_
    obtain ⟨v5, ev5, h⟩ := zb h
    refine z_get (j := 1) X dd_PQ_bare_14 kc_11 ki_11 (by decide) km_690 (zgr_v ev5) ?_
    refine z_iload_n X dd_PQ_bare_17 rfl 1 rfl ?_
    obtain ⟨w7, ew7, h⟩ := zb h
    obtain ⟨q6, eq6, h⟩ := zb h
    refine z_callVi X [.int a1] rfl dd_PQ_bare_18 (c_Graph_strip l eq6) (cwV 1 X.1.2.2.2.2 (zg_V km_803 km_804 km_805 km_126 km_806) rfl rfl rfl (by decide +kernel) ⟨Nat.le_of_ble_eq_true rfl, Nat.le_of_ble_eq_true rfl⟩) (zob_s ew7) kc_0 rfl (Nat.le_of_ble_eq_true rfl) ⟨Nat.le_of_ble_eq_true rfl, Nat.le_of_ble_eq_true rfl⟩ ?_
    obtain rfl := Option.some.inj h
    exact z_iret X H.1 H.2.1 H.2.2.1 dd_PQ_bare_21
  · rw [if_pos q4] at h
    refine z_iconst (v := (-1)) X dd_PQ_bare_11 (by decide) ?_
    obtain rfl := Option.some.inj h
    exact z_iret X H.1 H.2.1 H.2.2.1 dd_PQ_bare_12
theorem dd_PQ_forget_0 : decode bb_PQ_forget 0 = .ok (.iload_n 1, 1) := by decide +kernel
theorem dd_PQ_forget_1 : decode bb_PQ_forget 1 = .ok (.ifCond .lt 8, 3) := by decide +kernel
theorem dd_PQ_forget_4 : decode bb_PQ_forget 4 = .ok (.iload_n 1, 1) := by decide +kernel
theorem dd_PQ_forget_5 : decode bb_PQ_forget 5 = .ok (.iconst 4, 1) := by decide +kernel
theorem dd_PQ_forget_6 : decode bb_PQ_forget 6 = .ok (.if_icmp .lt 5, 3) := by decide +kernel
theorem dd_PQ_forget_9 : decode bb_PQ_forget 9 = .ok (.iconst (-1), 1) := by decide +kernel
theorem dd_PQ_forget_10 : decode bb_PQ_forget 10 = .ok (.ireturn, 1) := by decide +kernel
theorem dd_PQ_forget_11 : decode bb_PQ_forget 11 = .ok (.aload_n 0, 1) := by decide +kernel
theorem dd_PQ_forget_12 : decode bb_PQ_forget 12 = .ok (.getfield 50, 3) := by decide +kernel
theorem dd_PQ_forget_15 : decode bb_PQ_forget 15 = .ok (.iload_n 1, 1) := by decide +kernel
theorem dd_PQ_forget_16 : decode bb_PQ_forget 16 = .ok (.invokevirtual 148, 3) := by decide +kernel
theorem dd_PQ_forget_19 : decode bb_PQ_forget 19 = .ok (.ifCond .ne 6, 3) := by decide +kernel
theorem dd_PQ_forget_22 : decode bb_PQ_forget 22 = .ok (.bipush (-2), 2) := by decide +kernel
theorem dd_PQ_forget_24 : decode bb_PQ_forget 24 = .ok (.ireturn, 1) := by decide +kernel
theorem dd_PQ_forget_25 : decode bb_PQ_forget 25 = .ok (.aload_n 0, 1) := by decide +kernel
theorem dd_PQ_forget_26 : decode bb_PQ_forget 26 = .ok (.getfield 50, 3) := by decide +kernel
theorem dd_PQ_forget_29 : decode bb_PQ_forget 29 = .ok (.getfield 151, 3) := by decide +kernel
theorem dd_PQ_forget_32 : decode bb_PQ_forget 32 = .ok (.iload_n 1, 1) := by decide +kernel
theorem dd_PQ_forget_33 : decode bb_PQ_forget 33 = .ok (.aaload, 1) := by decide +kernel
theorem dd_PQ_forget_34 : decode bb_PQ_forget 34 = .ok (.iconst 0, 1) := by decide +kernel
theorem dd_PQ_forget_35 : decode bb_PQ_forget 35 = .ok (.putfield 154, 3) := by decide +kernel
theorem dd_PQ_forget_38 : decode bb_PQ_forget 38 = .ok (.aload_n 0, 1) := by decide +kernel
theorem dd_PQ_forget_39 : decode bb_PQ_forget 39 = .ok (.getfield 16, 3) := by decide +kernel
theorem dd_PQ_forget_42 : decode bb_PQ_forget 42 = .ok (.dup, 1) := by decide +kernel
theorem dd_PQ_forget_43 : decode bb_PQ_forget 43 = .ok (.getfield 145, 3) := by decide +kernel
theorem dd_PQ_forget_46 : decode bb_PQ_forget 46 = .ok (.iconst 1, 1) := by decide +kernel
theorem dd_PQ_forget_47 : decode bb_PQ_forget 47 = .ok (.iadd, 1) := by decide +kernel
theorem dd_PQ_forget_48 : decode bb_PQ_forget 48 = .ok (.putfield 145, 3) := by decide +kernel
theorem dd_PQ_forget_51 : decode bb_PQ_forget 51 = .ok (.iconst 1, 1) := by decide +kernel
theorem dd_PQ_forget_52 : decode bb_PQ_forget 52 = .ok (.ireturn, 1) := by decide +kernel
def f_PQ_forget_9 (nf : Nat)  (c : Zc) : Option (Int32 × Zc) :=
  some ((-1), c)
def f_PQ_forget (nf : Nat) (a0 : Nat) (a1 : Int32) (c : Zc) : Option (Int32 × Zc) :=
  if a1 < 0 then (f_PQ_forget_9 nf  c) else (if a1 < 4 then ((zgr c a0 11 5).bind fun v3 => (zob c v3 8).bind fun w5 => (f_RuleBook_has nf v3 a1 c).bind fun q4 => if q4.1 = 0 then (some ((-2), q4.2)) else ((zgr q4.2 a0 11 5).bind fun v7 => (zgr q4.2 v7 8 0).bind fun v8 => (zar q4.2 v8 4 a1).bind fun v9 => (zpv q4.2 v9 2 0 (.int 0)).bind fun c10 => (zgr c10 a0 11 1).bind fun v11 => (zgi c10 v11 0 9).bind fun v12 => (zpv c10 v11 0 9 (.int (v12 + 1))).bind fun c13 => some (1, c13))) else (f_PQ_forget_9 nf  c))
set_option maxRecDepth 100000 in
set_option maxHeartbeats 4000000 in
theorem t_PQ_forget_9  (X : zX p s m args cd D cid B bb_PQ_forget 2 rr_PQ zT) (H : zH s meth B n0 (some (.int)) "forget") {nf : Nat}  {c : Zc} {res : Int32 × Zc} (h : f_PQ_forget_9 nf  c = some res) : Zz p l e (zRm 1 21 0 0) s m args below meth cd (MQ below (zQi D cid B res.1 res.2 n0 0) args s 0 0 (fun q => B ≤ q)) D cid B 2 0 0 c 9 [] [] := by
  unfold f_PQ_forget_9 at h
  refine z_iconst (v := (-1)) X dd_PQ_forget_9 (by decide) ?_
  obtain rfl := Option.some.inj h
  exact z_iret X H.1 H.2.1 H.2.2.1 dd_PQ_forget_10
set_option maxRecDepth 100000 in
set_option maxHeartbeats 4000000 in
theorem c_PQ_forget (l : Launch) {nf : Nat} {a0 : Nat} {a1 : Int32} {c : Zc} {res : Int32 × Zc} (h : f_PQ_forget nf a0 a1 c = some res) : zM l yy_PQ_forget ww_PQ_forget 1 21 0 0 [.ref a0, .int a1] c (fun D cid B => zQi D cid B res.1 res.2 c.length 0) := by
  refine z_met (cc := bb_PQ_forget) (maxL := 2) (ret := (some (.int))) (by decide +kernel) rfl (Nat.le_of_ble_eq_true rfl) ?_
  intro p e s m args below meth cd D cid B X h1 h2 h3 h4
  have X : zX p s m args cd D cid B bb_PQ_forget 2 rr_PQ zT := X
  have H : zH s meth B c.length (some (.int)) "forget" := ⟨h1, h2, h4, h3⟩
  unfold f_PQ_forget at h
  show Zz p l e (zRm 1 21 0 0) s m args below meth cd _ D cid B 2 0 0 c 0 [(0, .ref a0), (1, .int a1)] []
  refine z_iload_n X dd_PQ_forget_0 rfl 1 rfl ?_
  refine z_if_lt (tgt := 9) X dd_PQ_forget_1 (by decide) (fun q1 => ?_) (fun q1 => ?_)
  · rw [if_pos q1] at h
    refine z_sub [] rfl ?_
    exact t_PQ_forget_9 X H h
  · rw [if_neg q1] at h
    refine z_iload_n X dd_PQ_forget_4 rfl 1 rfl ?_
    refine z_iconst (v := 4) X dd_PQ_forget_5 (by decide) ?_
    refine z_icmp_lt (tgt := 11) X dd_PQ_forget_6 (by decide) (fun q2 => ?_) (fun q2 => ?_)
    · rw [if_pos q2] at h
      refine z_aload_n X dd_PQ_forget_11 rfl 0 rfl ?_
      obtain ⟨v3, ev3, h⟩ := zb h
      refine z_get (j := 5) X dd_PQ_forget_12 kc_11 ki_11 (by decide) km_694 (zgr_v ev3) ?_
      refine z_iload_n X dd_PQ_forget_15 rfl 1 rfl ?_
      obtain ⟨w5, ew5, h⟩ := zb h
      obtain ⟨q4, eq4, h⟩ := zb h
      refine z_callVi X [.int a1] rfl dd_PQ_forget_16 (c_RuleBook_has l eq4) (cwV 1 X.1.2.2.2.2 (zg_V km_1242 km_1243 km_1244 km_135 km_1245) rfl rfl rfl (by decide +kernel) ⟨Nat.le_of_ble_eq_true rfl, Nat.le_of_ble_eq_true rfl⟩) (zob_s ew5) kc_8 rfl (Nat.le_of_ble_eq_true rfl) ⟨Nat.le_of_ble_eq_true rfl, Nat.le_of_ble_eq_true rfl⟩ ?_
      refine z_if_ne (tgt := 25) X dd_PQ_forget_19 (by decide) (fun q6 => ?_) (fun q6 => ?_)
      · rw [if_neg q6] at h
        refine z_aload_n X dd_PQ_forget_25 rfl 0 rfl ?_
        obtain ⟨v7, ev7, h⟩ := zb h
        refine z_get (j := 5) X dd_PQ_forget_26 kc_11 ki_11 (by decide) km_694 (zgr_v ev7) ?_
        obtain ⟨v8, ev8, h⟩ := zb h
        refine z_get (j := 0) X dd_PQ_forget_29 kc_8 ki_8 (by decide) km_623 (zgr_v ev8) ?_
        refine z_iload_n X dd_PQ_forget_32 rfl 1 rfl ?_
        obtain ⟨v9, ev9, h⟩ := zb h
        refine z_aaload X dd_PQ_forget_33 rfl ev9 ?_
        refine z_iconst (v := 0) X dd_PQ_forget_34 (by decide) ?_
        obtain ⟨c10, ec10, h⟩ := zb h
        refine z_put (j := 0) X dd_PQ_forget_35 kc_2 ki_2 tt_Text tk_Text nn_Text (by decide) km_301 rfl (tk_Text 0 (by decide)) rfl rfl ec10 ?_
        refine z_aload_n X dd_PQ_forget_38 rfl 0 rfl ?_
        obtain ⟨v11, ev11, h⟩ := zb h
        refine z_get (j := 1) X dd_PQ_forget_39 kc_11 ki_11 (by decide) km_690 (zgr_v ev11) ?_
        refine z_dup X dd_PQ_forget_42 rfl ?_
        obtain ⟨v12, ev12, h⟩ := zb h
        refine z_get (j := 9) X dd_PQ_forget_43 kc_0 ki_0 (by decide) km_183 (zgi_v ev12) ?_
        refine z_iconst (v := 1) X dd_PQ_forget_46 (by decide) ?_
        refine z_iadd X dd_PQ_forget_47 ?_
        obtain ⟨c13, ec13, h⟩ := zb h
        refine z_put (j := 9) X dd_PQ_forget_48 kc_0 ki_0 tt_Graph tk_Graph nn_Graph (by decide) km_183 rfl (tk_Graph 9 (by decide)) rfl rfl ec13 ?_
        refine z_iconst (v := 1) X dd_PQ_forget_51 (by decide) ?_
        obtain rfl := Option.some.inj h
        exact z_iret X H.1 H.2.1 H.2.2.1 dd_PQ_forget_52
      · rw [if_pos q6] at h
        refine z_bipush (v := (-2)) X dd_PQ_forget_22 (by decide) ?_
        obtain rfl := Option.some.inj h
        exact z_iret X H.1 H.2.1 H.2.2.1 dd_PQ_forget_24
    · rw [if_neg q2] at h
      refine z_sub [] rfl ?_
      exact t_PQ_forget_9 X H h
theorem dd_PQ_place_0 : decode bb_PQ_place 0 = .ok (.aload_n 0, 1) := by decide +kernel
theorem dd_PQ_place_1 : decode bb_PQ_place 1 = .ok (.getfield 32, 3) := by decide +kernel
theorem dd_PQ_place_4 : decode bb_PQ_place 4 = .ok (.getfield 158, 3) := by decide +kernel
theorem dd_PQ_place_7 : decode bb_PQ_place 7 = .ok (.ireturn, 1) := by decide +kernel
def f_PQ_place (nf : Nat) (a0 : Nat) (c : Zc) : Option (Int32 × Zc) :=
  (zgr c a0 11 3).bind fun v1 => (zgi c v1 5 0).bind fun v2 => some (v2, c)
set_option maxRecDepth 100000 in
set_option maxHeartbeats 4000000 in
theorem c_PQ_place (l : Launch) {nf : Nat} {a0 : Nat} {c : Zc} {res : Int32 × Zc} (h : f_PQ_place nf a0 c = some res) : zM l yy_PQ_place ww_PQ_place 0 0 0 0 [.ref a0] c (fun D cid B => zQi D cid B res.1 res.2 c.length 0) := by
  refine z_met (cc := bb_PQ_place) (maxL := 1) (ret := (some (.int))) (by decide +kernel) rfl (Nat.le_of_ble_eq_true rfl) ?_
  intro p e s m args below meth cd D cid B X h1 h2 h3 h4
  have X : zX p s m args cd D cid B bb_PQ_place 1 rr_PQ zT := X
  have H : zH s meth B c.length (some (.int)) "place" := ⟨h1, h2, h4, h3⟩
  unfold f_PQ_place at h
  show Zz p l e (zRm 0 0 0 0) s m args below meth cd _ D cid B 1 0 0 c 0 [(0, .ref a0)] []
  refine z_aload_n X dd_PQ_place_0 rfl 0 rfl ?_
  obtain ⟨v1, ev1, h⟩ := zb h
  refine z_get (j := 3) X dd_PQ_place_1 kc_11 ki_11 (by decide) km_692 (zgr_v ev1) ?_
  obtain ⟨v2, ev2, h⟩ := zb h
  refine z_get (j := 0) X dd_PQ_place_4 kc_5 ki_5 (by decide) km_474 (zgi_v ev2) ?_
  obtain rfl := Option.some.inj h
  exact z_iret X H.1 H.2.1 H.2.2.1 dd_PQ_place_7
theorem dd_PQ_answer_0 : decode bb_PQ_answer 0 = .ok (.iload_n 1, 1) := by decide +kernel
theorem dd_PQ_answer_1 : decode bb_PQ_answer 1 = .ok (.ifCond .lt 24, 3) := by decide +kernel
theorem dd_PQ_answer_4 : decode bb_PQ_answer 4 = .ok (.iload_n 1, 1) := by decide +kernel
theorem dd_PQ_answer_5 : decode bb_PQ_answer 5 = .ok (.iconst 4, 1) := by decide +kernel
theorem dd_PQ_answer_6 : decode bb_PQ_answer 6 = .ok (.if_icmp .ge 19, 3) := by decide +kernel
theorem dd_PQ_answer_9 : decode bb_PQ_answer 9 = .ok (.aload_n 0, 1) := by decide +kernel
theorem dd_PQ_answer_10 : decode bb_PQ_answer 10 = .ok (.getfield 73, 3) := by decide +kernel
theorem dd_PQ_answer_13 : decode bb_PQ_answer 13 = .ok (.iload_n 1, 1) := by decide +kernel
theorem dd_PQ_answer_14 : decode bb_PQ_answer 14 = .ok (.iaload, 1) := by decide +kernel
theorem dd_PQ_answer_15 : decode bb_PQ_answer 15 = .ok (.aload_n 0, 1) := by decide +kernel
theorem dd_PQ_answer_16 : decode bb_PQ_answer 16 = .ok (.getfield 16, 3) := by decide +kernel
theorem dd_PQ_answer_19 : decode bb_PQ_answer 19 = .ok (.getfield 145, 3) := by decide +kernel
theorem dd_PQ_answer_22 : decode bb_PQ_answer 22 = .ok (.if_icmp .eq 6, 3) := by decide +kernel
theorem dd_PQ_answer_25 : decode bb_PQ_answer 25 = .ok (.ldc 178, 2) := by decide +kernel
theorem dd_PQ_answer_27 : decode bb_PQ_answer 27 = .ok (.ireturn, 1) := by decide +kernel
theorem dd_PQ_answer_28 : decode bb_PQ_answer 28 = .ok (.aload_n 0, 1) := by decide +kernel
theorem dd_PQ_answer_29 : decode bb_PQ_answer 29 = .ok (.getfield 69, 3) := by decide +kernel
theorem dd_PQ_answer_32 : decode bb_PQ_answer 32 = .ok (.iload_n 1, 1) := by decide +kernel
theorem dd_PQ_answer_33 : decode bb_PQ_answer 33 = .ok (.aaload, 1) := by decide +kernel
theorem dd_PQ_answer_34 : decode bb_PQ_answer 34 = .ok (.astore 4, 2) := by decide +kernel
theorem dd_PQ_answer_36 : decode bb_PQ_answer 36 = .ok (.iload_n 2, 1) := by decide +kernel
theorem dd_PQ_answer_37 : decode bb_PQ_answer 37 = .ok (.ifCond .lt 25, 3) := by decide +kernel
theorem dd_PQ_answer_40 : decode bb_PQ_answer 40 = .ok (.iload_n 2, 1) := by decide +kernel
theorem dd_PQ_answer_41 : decode bb_PQ_answer 41 = .ok (.aload 4, 2) := by decide +kernel
theorem dd_PQ_answer_43 : decode bb_PQ_answer 43 = .ok (.getfield 175, 3) := by decide +kernel
theorem dd_PQ_answer_46 : decode bb_PQ_answer 46 = .ok (.if_icmp .ge 16, 3) := by decide +kernel
theorem dd_PQ_answer_49 : decode bb_PQ_answer 49 = .ok (.iload_n 3, 1) := by decide +kernel
theorem dd_PQ_answer_50 : decode bb_PQ_answer 50 = .ok (.ifCond .lt 12, 3) := by decide +kernel
theorem dd_PQ_answer_53 : decode bb_PQ_answer 53 = .ok (.iload_n 3, 1) := by decide +kernel
theorem dd_PQ_answer_54 : decode bb_PQ_answer 54 = .ok (.aload 4, 2) := by decide +kernel
theorem dd_PQ_answer_56 : decode bb_PQ_answer 56 = .ok (.getfield 179, 3) := by decide +kernel
theorem dd_PQ_answer_59 : decode bb_PQ_answer 59 = .ok (.if_icmp .lt 6, 3) := by decide +kernel
theorem dd_PQ_answer_62 : decode bb_PQ_answer 62 = .ok (.ldc 178, 2) := by decide +kernel
theorem dd_PQ_answer_64 : decode bb_PQ_answer 64 = .ok (.ireturn, 1) := by decide +kernel
theorem dd_PQ_answer_65 : decode bb_PQ_answer 65 = .ok (.aload 4, 2) := by decide +kernel
theorem dd_PQ_answer_67 : decode bb_PQ_answer 67 = .ok (.iload_n 2, 1) := by decide +kernel
theorem dd_PQ_answer_68 : decode bb_PQ_answer 68 = .ok (.iload_n 3, 1) := by decide +kernel
theorem dd_PQ_answer_69 : decode bb_PQ_answer 69 = .ok (.invokevirtual 182, 3) := by decide +kernel
theorem dd_PQ_answer_72 : decode bb_PQ_answer 72 = .ok (.ireturn, 1) := by decide +kernel
def f_PQ_answer_25 (nf : Nat)  (c : Zc) : Option (Int32 × Zc) :=
  some (2000000000, c)
def f_PQ_answer_62 (nf : Nat)  (c : Zc) : Option (Int32 × Zc) :=
  some (2000000000, c)
def f_PQ_answer (nf : Nat) (a0 : Nat) (a1 : Int32) (a2 : Int32) (a3 : Int32) (c : Zc) : Option (Int32 × Zc) :=
  if a1 < 0 then (f_PQ_answer_25 nf  c) else (if 4 ≤ a1 then (f_PQ_answer_25 nf  c) else ((zgr c a0 11 9).bind fun v3 => (zai c v3 0 a1).bind fun v4 => (zgr c a0 11 1).bind fun v5 => (zgi c v5 0 9).bind fun v6 => if v4 = v6 then ((zgr c a0 11 8).bind fun v8 => (zar c v8 5 a1).bind fun v9 => if a2 < 0 then (f_PQ_answer_62 nf  c) else ((zgi c v9 9 0).bind fun v11 => if v11 ≤ a2 then (f_PQ_answer_62 nf  c) else (if a3 < 0 then (f_PQ_answer_62 nf  c) else ((zgi c v9 9 1).bind fun v14 => if a3 < v14 then ((zob c v9 9).bind fun w17 => (f_Rows_cell nf v9 a2 a3 c).bind fun q16 => some (q16.1, q16.2)) else (f_PQ_answer_62 nf  c))))) else (f_PQ_answer_25 nf  c)))
set_option maxRecDepth 100000 in
set_option maxHeartbeats 4000000 in
theorem t_PQ_answer_25  (X : zX p s m args cd D cid B bb_PQ_answer 5 rr_PQ zT) (H : zH s meth B n0 (some (.int)) "answer") {nf : Nat}  {c : Zc} {res : Int32 × Zc} (h : f_PQ_answer_25 nf  c = some res) : Zz p l e (zRm 1 22 0 0) s m args below meth cd (MQ below (zQi D cid B res.1 res.2 n0 0) args s 0 0 (fun q => B ≤ q)) D cid B 5 0 0 c 25 [] [] := by
  unfold f_PQ_answer_25 at h
  refine z_ldc (v := 2000000000) X dd_PQ_answer_25 km_1486 ?_
  obtain rfl := Option.some.inj h
  exact z_iret X H.1 H.2.1 H.2.2.1 dd_PQ_answer_27
set_option maxRecDepth 100000 in
set_option maxHeartbeats 4000000 in
theorem t_PQ_answer_62  (X : zX p s m args cd D cid B bb_PQ_answer 5 rr_PQ zT) (H : zH s meth B n0 (some (.int)) "answer") {nf : Nat}  {c : Zc} {res : Int32 × Zc} (h : f_PQ_answer_62 nf  c = some res) : Zz p l e (zRm 1 22 0 0) s m args below meth cd (MQ below (zQi D cid B res.1 res.2 n0 0) args s 0 0 (fun q => B ≤ q)) D cid B 5 0 0 c 62 [] [] := by
  unfold f_PQ_answer_62 at h
  refine z_ldc (v := 2000000000) X dd_PQ_answer_62 km_1486 ?_
  obtain rfl := Option.some.inj h
  exact z_iret X H.1 H.2.1 H.2.2.1 dd_PQ_answer_64
set_option maxRecDepth 100000 in
set_option maxHeartbeats 4000000 in
theorem c_PQ_answer (l : Launch) {nf : Nat} {a0 : Nat} {a1 : Int32} {a2 : Int32} {a3 : Int32} {c : Zc} {res : Int32 × Zc} (h : f_PQ_answer nf a0 a1 a2 a3 c = some res) : zM l yy_PQ_answer ww_PQ_answer 1 22 0 0 [.ref a0, .int a1, .int a2, .int a3] c (fun D cid B => zQi D cid B res.1 res.2 c.length 0) := by
  refine z_met (cc := bb_PQ_answer) (maxL := 5) (ret := (some (.int))) (by decide +kernel) rfl (Nat.le_of_ble_eq_true rfl) ?_
  intro p e s m args below meth cd D cid B X h1 h2 h3 h4
  have X : zX p s m args cd D cid B bb_PQ_answer 5 rr_PQ zT := X
  have H : zH s meth B c.length (some (.int)) "answer" := ⟨h1, h2, h4, h3⟩
  unfold f_PQ_answer at h
  show Zz p l e (zRm 1 22 0 0) s m args below meth cd _ D cid B 5 0 0 c 0 [(0, .ref a0), (1, .int a1), (2, .int a2), (3, .int a3)] []
  refine z_iload_n X dd_PQ_answer_0 rfl 1 rfl ?_
  refine z_if_lt (tgt := 25) X dd_PQ_answer_1 (by decide) (fun q1 => ?_) (fun q1 => ?_)
  · rw [if_pos q1] at h
    refine z_sub [] rfl ?_
    exact t_PQ_answer_25 X H h
  · rw [if_neg q1] at h
    refine z_iload_n X dd_PQ_answer_4 rfl 1 rfl ?_
    refine z_iconst (v := 4) X dd_PQ_answer_5 (by decide) ?_
    refine z_icmp_ge (tgt := 25) X dd_PQ_answer_6 (by decide) (fun q2 => ?_) (fun q2 => ?_)
    · rw [if_pos q2] at h
      refine z_sub [] rfl ?_
      exact t_PQ_answer_25 X H h
    · rw [if_neg q2] at h
      refine z_aload_n X dd_PQ_answer_9 rfl 0 rfl ?_
      obtain ⟨v3, ev3, h⟩ := zb h
      refine z_get (j := 9) X dd_PQ_answer_10 kc_11 ki_11 (by decide) km_698 (zgr_v ev3) ?_
      refine z_iload_n X dd_PQ_answer_13 rfl 1 rfl ?_
      obtain ⟨v4, ev4, h⟩ := zb h
      refine z_iaload X dd_PQ_answer_14 rfl ev4 ?_
      refine z_aload_n X dd_PQ_answer_15 rfl 0 rfl ?_
      obtain ⟨v5, ev5, h⟩ := zb h
      refine z_get (j := 1) X dd_PQ_answer_16 kc_11 ki_11 (by decide) km_690 (zgr_v ev5) ?_
      obtain ⟨v6, ev6, h⟩ := zb h
      refine z_get (j := 9) X dd_PQ_answer_19 kc_0 ki_0 (by decide) km_183 (zgi_v ev6) ?_
      refine z_icmp_eq (tgt := 28) X dd_PQ_answer_22 (by decide) (fun q7 => ?_) (fun q7 => ?_)
      · rw [if_pos q7] at h
        refine z_aload_n X dd_PQ_answer_28 rfl 0 rfl ?_
        obtain ⟨v8, ev8, h⟩ := zb h
        refine z_get (j := 8) X dd_PQ_answer_29 kc_11 ki_11 (by decide) km_697 (zgr_v ev8) ?_
        refine z_iload_n X dd_PQ_answer_32 rfl 1 rfl ?_
        obtain ⟨v9, ev9, h⟩ := zb h
        refine z_aaload X dd_PQ_answer_33 rfl ev9 ?_
        refine z_astore (lv' := [(4, .ref v9), (0, .ref a0), (1, .int a1), (2, .int a2), (3, .int a3)]) X dd_PQ_answer_34 (by decide) rfl ?_
        refine z_iload_n X dd_PQ_answer_36 rfl 3 rfl ?_
        refine z_if_lt (tgt := 62) X dd_PQ_answer_37 (by decide) (fun q10 => ?_) (fun q10 => ?_)
        · rw [if_pos q10] at h
          refine z_sub [] rfl ?_
          exact t_PQ_answer_62 X H h
        · rw [if_neg q10] at h
          refine z_iload_n X dd_PQ_answer_40 rfl 3 rfl ?_
          refine z_aload X dd_PQ_answer_41 0 rfl ?_
          obtain ⟨v11, ev11, h⟩ := zb h
          refine z_get (j := 0) X dd_PQ_answer_43 kc_9 ki_9 (by decide) km_656 (zgi_v ev11) ?_
          refine z_icmp_ge (tgt := 62) X dd_PQ_answer_46 (by decide) (fun q12 => ?_) (fun q12 => ?_)
          · rw [if_pos q12] at h
            refine z_sub [] rfl ?_
            exact t_PQ_answer_62 X H h
          · rw [if_neg q12] at h
            refine z_iload_n X dd_PQ_answer_49 rfl 4 rfl ?_
            refine z_if_lt (tgt := 62) X dd_PQ_answer_50 (by decide) (fun q13 => ?_) (fun q13 => ?_)
            · rw [if_pos q13] at h
              refine z_sub [] rfl ?_
              exact t_PQ_answer_62 X H h
            · rw [if_neg q13] at h
              refine z_iload_n X dd_PQ_answer_53 rfl 4 rfl ?_
              refine z_aload X dd_PQ_answer_54 0 rfl ?_
              obtain ⟨v14, ev14, h⟩ := zb h
              refine z_get (j := 1) X dd_PQ_answer_56 kc_9 ki_9 (by decide) km_658 (zgi_v ev14) ?_
              refine z_icmp_lt (tgt := 65) X dd_PQ_answer_59 (by decide) (fun q15 => ?_) (fun q15 => ?_)
              · rw [if_pos q15] at h
                refine z_aload X dd_PQ_answer_65 0 rfl ?_
                refine z_iload_n X dd_PQ_answer_67 rfl 3 rfl ?_
                refine z_iload_n X dd_PQ_answer_68 rfl 4 rfl ?_
                obtain ⟨w17, ew17, h⟩ := zb h
                obtain ⟨q16, eq16, h⟩ := zb h
                refine z_callVi X [.int a2, .int a3] rfl dd_PQ_answer_69 (c_Rows_cell l eq16) (cwV 2 X.1.2.2.2.2 (zg_V km_1487 km_1466 km_1467 km_137 km_1468) rfl rfl rfl (by decide +kernel) ⟨Nat.le_of_ble_eq_true rfl, Nat.le_of_ble_eq_true rfl⟩) (zob_s ew17) kc_9 rfl (Nat.le_of_ble_eq_true rfl) ⟨Nat.le_of_ble_eq_true rfl, Nat.le_of_ble_eq_true rfl⟩ ?_
                obtain rfl := Option.some.inj h
                exact z_iret X H.1 H.2.1 H.2.2.1 dd_PQ_answer_72
              · rw [if_neg q15] at h
                refine z_sub [] rfl ?_
                exact t_PQ_answer_62 X H h
      · rw [if_neg q7] at h
        refine z_sub [] rfl ?_
        exact t_PQ_answer_25 X H h
theorem dd_PQ_leads_0 : decode bb_PQ_leads 0 = .ok (.aload_n 0, 1) := by decide +kernel
theorem dd_PQ_leads_1 : decode bb_PQ_leads 1 = .ok (.getfield 16, 3) := by decide +kernel
theorem dd_PQ_leads_4 : decode bb_PQ_leads 4 = .ok (.iload_n 1, 1) := by decide +kernel
theorem dd_PQ_leads_5 : decode bb_PQ_leads 5 = .ok (.invokevirtual 90, 3) := by decide +kernel
theorem dd_PQ_leads_8 : decode bb_PQ_leads 8 = .ok (.ifCond .eq 24, 3) := by decide +kernel
theorem dd_PQ_leads_11 : decode bb_PQ_leads 11 = .ok (.aload_n 0, 1) := by decide +kernel
theorem dd_PQ_leads_12 : decode bb_PQ_leads 12 = .ok (.getfield 16, 3) := by decide +kernel
theorem dd_PQ_leads_15 : decode bb_PQ_leads 15 = .ok (.iload_n 2, 1) := by decide +kernel
theorem dd_PQ_leads_16 : decode bb_PQ_leads 16 = .ok (.invokevirtual 90, 3) := by decide +kernel
theorem dd_PQ_leads_19 : decode bb_PQ_leads 19 = .ok (.ifCond .eq 13, 3) := by decide +kernel
theorem dd_PQ_leads_22 : decode bb_PQ_leads 22 = .ok (.iload_n 3, 1) := by decide +kernel
theorem dd_PQ_leads_23 : decode bb_PQ_leads 23 = .ok (.ifCond .lt 9, 3) := by decide +kernel
theorem dd_PQ_leads_26 : decode bb_PQ_leads 26 = .ok (.iload_n 3, 1) := by decide +kernel
theorem dd_PQ_leads_27 : decode bb_PQ_leads 27 = .ok (.bipush 12, 2) := by decide +kernel
theorem dd_PQ_leads_29 : decode bb_PQ_leads 29 = .ok (.if_icmp .lt 5, 3) := by decide +kernel
theorem dd_PQ_leads_32 : decode bb_PQ_leads 32 = .ok (.iconst (-1), 1) := by decide +kernel
theorem dd_PQ_leads_33 : decode bb_PQ_leads 33 = .ok (.ireturn, 1) := by decide +kernel
theorem dd_PQ_leads_34 : decode bb_PQ_leads 34 = .ok (.iload_n 3, 1) := by decide +kernel
theorem dd_PQ_leads_35 : decode bb_PQ_leads 35 = .ok (.bipush 8, 2) := by decide +kernel
theorem dd_PQ_leads_37 : decode bb_PQ_leads 37 = .ok (.if_icmp .ge 14, 3) := by decide +kernel
theorem dd_PQ_leads_40 : decode bb_PQ_leads 40 = .ok (.aload_n 0, 1) := by decide +kernel
theorem dd_PQ_leads_41 : decode bb_PQ_leads 41 = .ok (.getfield 16, 3) := by decide +kernel
theorem dd_PQ_leads_44 : decode bb_PQ_leads 44 = .ok (.iload_n 1, 1) := by decide +kernel
theorem dd_PQ_leads_45 : decode bb_PQ_leads 45 = .ok (.iload_n 2, 1) := by decide +kernel
theorem dd_PQ_leads_46 : decode bb_PQ_leads 46 = .ok (.iload_n 3, 1) := by decide +kernel
theorem dd_PQ_leads_47 : decode bb_PQ_leads 47 = .ok (.invokevirtual 185, 3) := by decide +kernel
theorem dd_PQ_leads_50 : decode bb_PQ_leads 50 = .ok (.ireturn, 1) := by decide +kernel
theorem dd_PQ_leads_51 : decode bb_PQ_leads 51 = .ok (.aload_n 0, 1) := by decide +kernel
theorem dd_PQ_leads_52 : decode bb_PQ_leads 52 = .ok (.getfield 50, 3) := by decide +kernel
theorem dd_PQ_leads_55 : decode bb_PQ_leads 55 = .ok (.invokevirtual 161, 3) := by decide +kernel
theorem dd_PQ_leads_58 : decode bb_PQ_leads 58 = .ok (.ifCond .eq 6, 3) := by decide +kernel
theorem dd_PQ_leads_61 : decode bb_PQ_leads 61 = .ok (.bipush (-4), 2) := by decide +kernel
theorem dd_PQ_leads_63 : decode bb_PQ_leads 63 = .ok (.ireturn, 1) := by decide +kernel
theorem dd_PQ_leads_64 : decode bb_PQ_leads 64 = .ok (.aload_n 0, 1) := by decide +kernel
theorem dd_PQ_leads_65 : decode bb_PQ_leads 65 = .ok (.getfield 16, 3) := by decide +kernel
theorem dd_PQ_leads_68 : decode bb_PQ_leads 68 = .ok (.iload_n 3, 1) := by decide +kernel
theorem dd_PQ_leads_69 : decode bb_PQ_leads 69 = .ok (.iload_n 1, 1) := by decide +kernel
theorem dd_PQ_leads_70 : decode bb_PQ_leads 70 = .ok (.invokevirtual 188, 3) := by decide +kernel
theorem dd_PQ_leads_73 : decode bb_PQ_leads 73 = .ok (.iload_n 2, 1) := by decide +kernel
theorem dd_PQ_leads_74 : decode bb_PQ_leads 74 = .ok (.ishr, 1) := by decide +kernel
theorem dd_PQ_leads_75 : decode bb_PQ_leads 75 = .ok (.iconst 1, 1) := by decide +kernel
theorem dd_PQ_leads_76 : decode bb_PQ_leads 76 = .ok (.iand, 1) := by decide +kernel
theorem dd_PQ_leads_77 : decode bb_PQ_leads 77 = .ok (.ireturn, 1) := by decide +kernel
def f_PQ_leads_32 (nf : Nat)  (c : Zc) : Option (Int32 × Zc) :=
  some ((-1), c)
def f_PQ_leads (nf : Nat) (a0 : Nat) (a1 : Int32) (a2 : Int32) (a3 : Int32) (c : Zc) : Option (Int32 × Zc) :=
  (zgr c a0 11 1).bind fun v1 => (zob c v1 0).bind fun w3 => (f_Graph_isNode nf v1 a1 c).bind fun q2 => if q2.1 = 0 then (f_PQ_leads_32 nf  q2.2) else ((zgr q2.2 a0 11 1).bind fun v5 => (zob q2.2 v5 0).bind fun w7 => (f_Graph_isNode nf v5 a2 q2.2).bind fun q6 => if q6.1 = 0 then (f_PQ_leads_32 nf  q6.2) else (if a3 < 0 then (f_PQ_leads_32 nf  q6.2) else (if a3 < 12 then (if 8 ≤ a3 then ((zgr q6.2 a0 11 5).bind fun v12 => (zob q6.2 v12 8).bind fun w14 => (f_RuleBook_settle nf v12 q6.2).bind fun q13 => if q13.1 = 0 then ((zgr q13.2 a0 11 1).bind fun v16 => (zob q13.2 v16 0).bind fun w18 => (f_Graph_reached nf v16 a3 a1 q13.2).bind fun q17 => some (((q17.1 >>> (a2 &&& 31)) &&& 1), q17.2)) else (some ((-4), q13.2))) else ((zgr q6.2 a0 11 1).bind fun v19 => (zob q6.2 v19 0).bind fun w21 => (f_Graph_countArcs nf v19 a1 a2 a3 q6.2).bind fun q20 => some (q20.1, q20.2))) else (f_PQ_leads_32 nf  q6.2))))
set_option maxRecDepth 100000 in
set_option maxHeartbeats 4000000 in
theorem t_PQ_leads_32  (X : zX p s m args cd D cid B bb_PQ_leads 4 rr_PQ zT) (H : zH s meth B n0 (some (.int)) "leads") {nf : Nat}  {c : Zc} {res : Int32 × Zc} (h : f_PQ_leads_32 nf  c = some res) : Zz p l e (zRm 7 170 0 0) s m args below meth cd (MQ below (zQi D cid B res.1 res.2 n0 0) args s 0 0 (fun q => B ≤ q)) D cid B 4 0 0 c 32 [] [] := by
  unfold f_PQ_leads_32 at h
  refine z_iconst (v := (-1)) X dd_PQ_leads_32 (by decide) ?_
  obtain rfl := Option.some.inj h
  exact z_iret X H.1 H.2.1 H.2.2.1 dd_PQ_leads_33
set_option maxRecDepth 100000 in
set_option maxHeartbeats 4000000 in
theorem c_PQ_leads (l : Launch) {nf : Nat} {a0 : Nat} {a1 : Int32} {a2 : Int32} {a3 : Int32} {c : Zc} {res : Int32 × Zc} (h : f_PQ_leads nf a0 a1 a2 a3 c = some res) : zM l yy_PQ_leads ww_PQ_leads 7 170 0 0 [.ref a0, .int a1, .int a2, .int a3] c (fun D cid B => zQi D cid B res.1 res.2 c.length 0) := by
  refine z_met (cc := bb_PQ_leads) (maxL := 4) (ret := (some (.int))) (by decide +kernel) rfl (Nat.le_of_ble_eq_true rfl) ?_
  intro p e s m args below meth cd D cid B X h1 h2 h3 h4
  have X : zX p s m args cd D cid B bb_PQ_leads 4 rr_PQ zT := X
  have H : zH s meth B c.length (some (.int)) "leads" := ⟨h1, h2, h4, h3⟩
  unfold f_PQ_leads at h
  show Zz p l e (zRm 7 170 0 0) s m args below meth cd _ D cid B 4 0 0 c 0 [(0, .ref a0), (1, .int a1), (2, .int a2), (3, .int a3)] []
  refine z_aload_n X dd_PQ_leads_0 rfl 0 rfl ?_
  obtain ⟨v1, ev1, h⟩ := zb h
  refine z_get (j := 1) X dd_PQ_leads_1 kc_11 ki_11 (by decide) km_690 (zgr_v ev1) ?_
  refine z_iload_n X dd_PQ_leads_4 rfl 1 rfl ?_
  obtain ⟨w3, ew3, h⟩ := zb h
  obtain ⟨q2, eq2, h⟩ := zb h
  refine z_callVi X [.int a1] rfl dd_PQ_leads_5 (c_Graph_isNode l eq2) (cwV 1 X.1.2.2.2.2 (zg_V km_747 km_748 km_749 km_126 km_750) rfl rfl rfl (by decide +kernel) ⟨Nat.le_of_ble_eq_true rfl, Nat.le_of_ble_eq_true rfl⟩) (zob_s ew3) kc_0 rfl (Nat.le_of_ble_eq_true rfl) ⟨Nat.le_of_ble_eq_true rfl, Nat.le_of_ble_eq_true rfl⟩ ?_
  refine z_if_eq (tgt := 32) X dd_PQ_leads_8 (by decide) (fun q4 => ?_) (fun q4 => ?_)
  · rw [if_pos q4] at h
    refine z_sub [] rfl ?_
    exact t_PQ_leads_32 X H h
  · rw [if_neg q4] at h
    refine z_aload_n X dd_PQ_leads_11 rfl 0 rfl ?_
    obtain ⟨v5, ev5, h⟩ := zb h
    refine z_get (j := 1) X dd_PQ_leads_12 kc_11 ki_11 (by decide) km_690 (zgr_v ev5) ?_
    refine z_iload_n X dd_PQ_leads_15 rfl 2 rfl ?_
    obtain ⟨w7, ew7, h⟩ := zb h
    obtain ⟨q6, eq6, h⟩ := zb h
    refine z_callVi X [.int a2] rfl dd_PQ_leads_16 (c_Graph_isNode l eq6) (cwV 1 X.1.2.2.2.2 (zg_V km_747 km_748 km_749 km_126 km_750) rfl rfl rfl (by decide +kernel) ⟨Nat.le_of_ble_eq_true rfl, Nat.le_of_ble_eq_true rfl⟩) (zob_s ew7) kc_0 rfl (Nat.le_of_ble_eq_true rfl) ⟨Nat.le_of_ble_eq_true rfl, Nat.le_of_ble_eq_true rfl⟩ ?_
    refine z_if_eq (tgt := 32) X dd_PQ_leads_19 (by decide) (fun q8 => ?_) (fun q8 => ?_)
    · rw [if_pos q8] at h
      refine z_sub [] rfl ?_
      exact t_PQ_leads_32 X H h
    · rw [if_neg q8] at h
      refine z_iload_n X dd_PQ_leads_22 rfl 3 rfl ?_
      refine z_if_lt (tgt := 32) X dd_PQ_leads_23 (by decide) (fun q9 => ?_) (fun q9 => ?_)
      · rw [if_pos q9] at h
        refine z_sub [] rfl ?_
        exact t_PQ_leads_32 X H h
      · rw [if_neg q9] at h
        refine z_iload_n X dd_PQ_leads_26 rfl 3 rfl ?_
        refine z_bipush (v := 12) X dd_PQ_leads_27 (by decide) ?_
        refine z_icmp_lt (tgt := 34) X dd_PQ_leads_29 (by decide) (fun q10 => ?_) (fun q10 => ?_)
        · rw [if_pos q10] at h
          refine z_iload_n X dd_PQ_leads_34 rfl 3 rfl ?_
          refine z_bipush (v := 8) X dd_PQ_leads_35 (by decide) ?_
          refine z_icmp_ge (tgt := 51) X dd_PQ_leads_37 (by decide) (fun q11 => ?_) (fun q11 => ?_)
          · rw [if_pos q11] at h
            refine z_aload_n X dd_PQ_leads_51 rfl 0 rfl ?_
            obtain ⟨v12, ev12, h⟩ := zb h
            refine z_get (j := 5) X dd_PQ_leads_52 kc_11 ki_11 (by decide) km_694 (zgr_v ev12) ?_
            obtain ⟨w14, ew14, h⟩ := zb h
            obtain ⟨q13, eq13, h⟩ := zb h
            refine z_callVi X [] rfl dd_PQ_leads_55 (c_RuleBook_settle l eq13) (cwV 0 X.1.2.2.2.2 (zg_V km_1254 km_1255 km_1256 km_135 km_1257) rfl rfl rfl (by decide +kernel) ⟨Nat.le_of_ble_eq_true rfl, Nat.le_of_ble_eq_true rfl⟩) (zob_s ew14) kc_8 rfl (Nat.le_of_ble_eq_true rfl) ⟨Nat.le_of_ble_eq_true rfl, Nat.le_of_ble_eq_true rfl⟩ ?_
            refine z_if_eq (tgt := 64) X dd_PQ_leads_58 (by decide) (fun q15 => ?_) (fun q15 => ?_)
            · rw [if_pos q15] at h
              refine z_aload_n X dd_PQ_leads_64 rfl 0 rfl ?_
              obtain ⟨v16, ev16, h⟩ := zb h
              refine z_get (j := 1) X dd_PQ_leads_65 kc_11 ki_11 (by decide) km_690 (zgr_v ev16) ?_
              refine z_iload_n X dd_PQ_leads_68 rfl 3 rfl ?_
              refine z_iload_n X dd_PQ_leads_69 rfl 1 rfl ?_
              obtain ⟨w18, ew18, h⟩ := zb h
              obtain ⟨q17, eq17, h⟩ := zb h
              refine z_callVi X [.int a3, .int a1] rfl dd_PQ_leads_70 (c_Graph_reached l eq17) (cwV 2 X.1.2.2.2.2 (zg_V km_1496 km_1384 km_1385 km_126 km_1386) rfl rfl rfl (by decide +kernel) ⟨Nat.le_of_ble_eq_true rfl, Nat.le_of_ble_eq_true rfl⟩) (zob_s ew18) kc_0 rfl (Nat.le_of_ble_eq_true rfl) ⟨Nat.le_of_ble_eq_true rfl, Nat.le_of_ble_eq_true rfl⟩ ?_
              refine z_iload_n X dd_PQ_leads_73 rfl 2 rfl ?_
              refine z_ishr X dd_PQ_leads_74 ?_
              refine z_iconst (v := 1) X dd_PQ_leads_75 (by decide) ?_
              refine z_iand X dd_PQ_leads_76 ?_
              obtain rfl := Option.some.inj h
              exact z_iret X H.1 H.2.1 H.2.2.1 dd_PQ_leads_77
            · rw [if_neg q15] at h
              refine z_bipush (v := (-4)) X dd_PQ_leads_61 (by decide) ?_
              obtain rfl := Option.some.inj h
              exact z_iret X H.1 H.2.1 H.2.2.1 dd_PQ_leads_63
          · rw [if_neg q11] at h
            refine z_aload_n X dd_PQ_leads_40 rfl 0 rfl ?_
            obtain ⟨v19, ev19, h⟩ := zb h
            refine z_get (j := 1) X dd_PQ_leads_41 kc_11 ki_11 (by decide) km_690 (zgr_v ev19) ?_
            refine z_iload_n X dd_PQ_leads_44 rfl 1 rfl ?_
            refine z_iload_n X dd_PQ_leads_45 rfl 2 rfl ?_
            refine z_iload_n X dd_PQ_leads_46 rfl 3 rfl ?_
            obtain ⟨w21, ew21, h⟩ := zb h
            obtain ⟨q20, eq20, h⟩ := zb h
            refine z_callVi X [.int a1, .int a2, .int a3] rfl dd_PQ_leads_47 (c_Graph_countArcs l eq20) (cwV 3 X.1.2.2.2.2 (zg_V km_1492 km_1493 km_1494 km_126 km_1495) rfl rfl rfl (by decide +kernel) ⟨Nat.le_of_ble_eq_true rfl, Nat.le_of_ble_eq_true rfl⟩) (zob_s ew21) kc_0 rfl (Nat.le_of_ble_eq_true rfl) ⟨Nat.le_of_ble_eq_true rfl, Nat.le_of_ble_eq_true rfl⟩ ?_
            obtain rfl := Option.some.inj h
            exact z_iret X H.1 H.2.1 H.2.2.1 dd_PQ_leads_50
        · rw [if_neg q10] at h
          refine z_sub [] rfl ?_
          exact t_PQ_leads_32 X H h
theorem dd_Integer_bitCount_0 : decode bb_Integer_bitCount 0 = .ok (.iload_n 0, 1) := by decide +kernel
theorem dd_Integer_bitCount_1 : decode bb_Integer_bitCount 1 = .ok (.iload_n 0, 1) := by decide +kernel
theorem dd_Integer_bitCount_2 : decode bb_Integer_bitCount 2 = .ok (.iconst 1, 1) := by decide +kernel
theorem dd_Integer_bitCount_3 : decode bb_Integer_bitCount 3 = .ok (.iushr, 1) := by decide +kernel
theorem dd_Integer_bitCount_4 : decode bb_Integer_bitCount 4 = .ok (.ldc_w 265, 3) := by decide +kernel
theorem dd_Integer_bitCount_7 : decode bb_Integer_bitCount 7 = .ok (.iand, 1) := by decide +kernel
theorem dd_Integer_bitCount_8 : decode bb_Integer_bitCount 8 = .ok (.isub, 1) := by decide +kernel
theorem dd_Integer_bitCount_9 : decode bb_Integer_bitCount 9 = .ok (.istore_n 0, 1) := by decide +kernel
theorem dd_Integer_bitCount_10 : decode bb_Integer_bitCount 10 = .ok (.iload_n 0, 1) := by decide +kernel
theorem dd_Integer_bitCount_11 : decode bb_Integer_bitCount 11 = .ok (.ldc_w 266, 3) := by decide +kernel
theorem dd_Integer_bitCount_14 : decode bb_Integer_bitCount 14 = .ok (.iand, 1) := by decide +kernel
theorem dd_Integer_bitCount_15 : decode bb_Integer_bitCount 15 = .ok (.iload_n 0, 1) := by decide +kernel
theorem dd_Integer_bitCount_16 : decode bb_Integer_bitCount 16 = .ok (.iconst 2, 1) := by decide +kernel
theorem dd_Integer_bitCount_17 : decode bb_Integer_bitCount 17 = .ok (.iushr, 1) := by decide +kernel
theorem dd_Integer_bitCount_18 : decode bb_Integer_bitCount 18 = .ok (.ldc_w 266, 3) := by decide +kernel
theorem dd_Integer_bitCount_21 : decode bb_Integer_bitCount 21 = .ok (.iand, 1) := by decide +kernel
theorem dd_Integer_bitCount_22 : decode bb_Integer_bitCount 22 = .ok (.iadd, 1) := by decide +kernel
theorem dd_Integer_bitCount_23 : decode bb_Integer_bitCount 23 = .ok (.istore_n 0, 1) := by decide +kernel
theorem dd_Integer_bitCount_24 : decode bb_Integer_bitCount 24 = .ok (.iload_n 0, 1) := by decide +kernel
theorem dd_Integer_bitCount_25 : decode bb_Integer_bitCount 25 = .ok (.iload_n 0, 1) := by decide +kernel
theorem dd_Integer_bitCount_26 : decode bb_Integer_bitCount 26 = .ok (.iconst 4, 1) := by decide +kernel
theorem dd_Integer_bitCount_27 : decode bb_Integer_bitCount 27 = .ok (.iushr, 1) := by decide +kernel
theorem dd_Integer_bitCount_28 : decode bb_Integer_bitCount 28 = .ok (.iadd, 1) := by decide +kernel
theorem dd_Integer_bitCount_29 : decode bb_Integer_bitCount 29 = .ok (.ldc_w 267, 3) := by decide +kernel
theorem dd_Integer_bitCount_32 : decode bb_Integer_bitCount 32 = .ok (.iand, 1) := by decide +kernel
theorem dd_Integer_bitCount_33 : decode bb_Integer_bitCount 33 = .ok (.istore_n 0, 1) := by decide +kernel
theorem dd_Integer_bitCount_34 : decode bb_Integer_bitCount 34 = .ok (.iload_n 0, 1) := by decide +kernel
theorem dd_Integer_bitCount_35 : decode bb_Integer_bitCount 35 = .ok (.iload_n 0, 1) := by decide +kernel
theorem dd_Integer_bitCount_36 : decode bb_Integer_bitCount 36 = .ok (.bipush 8, 2) := by decide +kernel
theorem dd_Integer_bitCount_38 : decode bb_Integer_bitCount 38 = .ok (.iushr, 1) := by decide +kernel
theorem dd_Integer_bitCount_39 : decode bb_Integer_bitCount 39 = .ok (.iadd, 1) := by decide +kernel
theorem dd_Integer_bitCount_40 : decode bb_Integer_bitCount 40 = .ok (.istore_n 0, 1) := by decide +kernel
theorem dd_Integer_bitCount_41 : decode bb_Integer_bitCount 41 = .ok (.iload_n 0, 1) := by decide +kernel
theorem dd_Integer_bitCount_42 : decode bb_Integer_bitCount 42 = .ok (.iload_n 0, 1) := by decide +kernel
theorem dd_Integer_bitCount_43 : decode bb_Integer_bitCount 43 = .ok (.bipush 16, 2) := by decide +kernel
theorem dd_Integer_bitCount_45 : decode bb_Integer_bitCount 45 = .ok (.iushr, 1) := by decide +kernel
theorem dd_Integer_bitCount_46 : decode bb_Integer_bitCount 46 = .ok (.iadd, 1) := by decide +kernel
theorem dd_Integer_bitCount_47 : decode bb_Integer_bitCount 47 = .ok (.istore_n 0, 1) := by decide +kernel
theorem dd_Integer_bitCount_48 : decode bb_Integer_bitCount 48 = .ok (.iload_n 0, 1) := by decide +kernel
theorem dd_Integer_bitCount_49 : decode bb_Integer_bitCount 49 = .ok (.bipush 63, 2) := by decide +kernel
theorem dd_Integer_bitCount_51 : decode bb_Integer_bitCount 51 = .ok (.iand, 1) := by decide +kernel
theorem dd_Integer_bitCount_52 : decode bb_Integer_bitCount 52 = .ok (.ireturn, 1) := by decide +kernel
def f_Integer_bitCount (nf : Nat) (a0 : Int32) (c : Zc) : Option (Int32 × Zc) :=
  some (((((((((a0 - ((Int32.toUInt32 a0 >>> (Int32.toUInt32 1 &&& Int32.toUInt32 31)).toInt32 &&& 1431655765)) &&& 858993459) + ((Int32.toUInt32 (a0 - ((Int32.toUInt32 a0 >>> (Int32.toUInt32 1 &&& Int32.toUInt32 31)).toInt32 &&& 1431655765)) >>> (Int32.toUInt32 2 &&& Int32.toUInt32 31)).toInt32 &&& 858993459)) + (Int32.toUInt32 (((a0 - ((Int32.toUInt32 a0 >>> (Int32.toUInt32 1 &&& Int32.toUInt32 31)).toInt32 &&& 1431655765)) &&& 858993459) + ((Int32.toUInt32 (a0 - ((Int32.toUInt32 a0 >>> (Int32.toUInt32 1 &&& Int32.toUInt32 31)).toInt32 &&& 1431655765)) >>> (Int32.toUInt32 2 &&& Int32.toUInt32 31)).toInt32 &&& 858993459)) >>> (Int32.toUInt32 4 &&& Int32.toUInt32 31)).toInt32) &&& 252645135) + (Int32.toUInt32 (((((a0 - ((Int32.toUInt32 a0 >>> (Int32.toUInt32 1 &&& Int32.toUInt32 31)).toInt32 &&& 1431655765)) &&& 858993459) + ((Int32.toUInt32 (a0 - ((Int32.toUInt32 a0 >>> (Int32.toUInt32 1 &&& Int32.toUInt32 31)).toInt32 &&& 1431655765)) >>> (Int32.toUInt32 2 &&& Int32.toUInt32 31)).toInt32 &&& 858993459)) + (Int32.toUInt32 (((a0 - ((Int32.toUInt32 a0 >>> (Int32.toUInt32 1 &&& Int32.toUInt32 31)).toInt32 &&& 1431655765)) &&& 858993459) + ((Int32.toUInt32 (a0 - ((Int32.toUInt32 a0 >>> (Int32.toUInt32 1 &&& Int32.toUInt32 31)).toInt32 &&& 1431655765)) >>> (Int32.toUInt32 2 &&& Int32.toUInt32 31)).toInt32 &&& 858993459)) >>> (Int32.toUInt32 4 &&& Int32.toUInt32 31)).toInt32) &&& 252645135) >>> (Int32.toUInt32 8 &&& Int32.toUInt32 31)).toInt32) + (Int32.toUInt32 ((((((a0 - ((Int32.toUInt32 a0 >>> (Int32.toUInt32 1 &&& Int32.toUInt32 31)).toInt32 &&& 1431655765)) &&& 858993459) + ((Int32.toUInt32 (a0 - ((Int32.toUInt32 a0 >>> (Int32.toUInt32 1 &&& Int32.toUInt32 31)).toInt32 &&& 1431655765)) >>> (Int32.toUInt32 2 &&& Int32.toUInt32 31)).toInt32 &&& 858993459)) + (Int32.toUInt32 (((a0 - ((Int32.toUInt32 a0 >>> (Int32.toUInt32 1 &&& Int32.toUInt32 31)).toInt32 &&& 1431655765)) &&& 858993459) + ((Int32.toUInt32 (a0 - ((Int32.toUInt32 a0 >>> (Int32.toUInt32 1 &&& Int32.toUInt32 31)).toInt32 &&& 1431655765)) >>> (Int32.toUInt32 2 &&& Int32.toUInt32 31)).toInt32 &&& 858993459)) >>> (Int32.toUInt32 4 &&& Int32.toUInt32 31)).toInt32) &&& 252645135) + (Int32.toUInt32 (((((a0 - ((Int32.toUInt32 a0 >>> (Int32.toUInt32 1 &&& Int32.toUInt32 31)).toInt32 &&& 1431655765)) &&& 858993459) + ((Int32.toUInt32 (a0 - ((Int32.toUInt32 a0 >>> (Int32.toUInt32 1 &&& Int32.toUInt32 31)).toInt32 &&& 1431655765)) >>> (Int32.toUInt32 2 &&& Int32.toUInt32 31)).toInt32 &&& 858993459)) + (Int32.toUInt32 (((a0 - ((Int32.toUInt32 a0 >>> (Int32.toUInt32 1 &&& Int32.toUInt32 31)).toInt32 &&& 1431655765)) &&& 858993459) + ((Int32.toUInt32 (a0 - ((Int32.toUInt32 a0 >>> (Int32.toUInt32 1 &&& Int32.toUInt32 31)).toInt32 &&& 1431655765)) >>> (Int32.toUInt32 2 &&& Int32.toUInt32 31)).toInt32 &&& 858993459)) >>> (Int32.toUInt32 4 &&& Int32.toUInt32 31)).toInt32) &&& 252645135) >>> (Int32.toUInt32 8 &&& Int32.toUInt32 31)).toInt32) >>> (Int32.toUInt32 16 &&& Int32.toUInt32 31)).toInt32) &&& 63), c)
set_option maxRecDepth 100000 in
set_option maxHeartbeats 4000000 in
theorem c_Integer_bitCount (l : Launch) {nf : Nat} {a0 : Int32} {c : Zc} {res : Int32 × Zc} (h : f_Integer_bitCount nf a0 c = some res) : zM l yy_Integer_bitCount ww_Integer_bitCount 0 0 0 0 [.int a0] c (fun D cid B => zQi D cid B res.1 res.2 c.length 0) := by
  refine z_met (cc := bb_Integer_bitCount) (maxL := 1) (ret := (some (.int))) (by decide +kernel) rfl (Nat.le_of_ble_eq_true rfl) ?_
  intro p e s m args below meth cd D cid B X h1 h2 h3 h4
  have X : zX p s m args cd D cid B bb_Integer_bitCount 1 rr_Integer zT := X
  have H : zH s meth B c.length (some (.int)) "bitCount" := ⟨h1, h2, h4, h3⟩
  unfold f_Integer_bitCount at h
  show Zz p l e (zRm 0 0 0 0) s m args below meth cd _ D cid B 1 0 0 c 0 [(0, .int a0)] []
  refine z_iload_n X dd_Integer_bitCount_0 rfl 0 rfl ?_
  refine z_iload_n X dd_Integer_bitCount_1 rfl 0 rfl ?_
  refine z_iconst (v := 1) X dd_Integer_bitCount_2 (by decide) ?_
  refine z_iushr X dd_Integer_bitCount_3 ?_
  refine z_ldcw (v := 1431655765) X dd_Integer_bitCount_4 km_1504 ?_
  refine z_iand X dd_Integer_bitCount_7 ?_
  refine z_isub X dd_Integer_bitCount_8 ?_
  refine z_istore_n (lv' := [(0, .int (a0 - ((Int32.toUInt32 a0 >>> (Int32.toUInt32 1 &&& Int32.toUInt32 31)).toInt32 &&& 1431655765)))]) X dd_Integer_bitCount_9 rfl (by decide) rfl ?_
  refine z_iload_n X dd_Integer_bitCount_10 rfl 0 rfl ?_
  refine z_ldcw (v := 858993459) X dd_Integer_bitCount_11 km_1505 ?_
  refine z_iand X dd_Integer_bitCount_14 ?_
  refine z_iload_n X dd_Integer_bitCount_15 rfl 0 rfl ?_
  refine z_iconst (v := 2) X dd_Integer_bitCount_16 (by decide) ?_
  refine z_iushr X dd_Integer_bitCount_17 ?_
  refine z_ldcw (v := 858993459) X dd_Integer_bitCount_18 km_1505 ?_
  refine z_iand X dd_Integer_bitCount_21 ?_
  refine z_iadd X dd_Integer_bitCount_22 ?_
  refine z_istore_n (lv' := [(0, .int (((a0 - ((Int32.toUInt32 a0 >>> (Int32.toUInt32 1 &&& Int32.toUInt32 31)).toInt32 &&& 1431655765)) &&& 858993459) + ((Int32.toUInt32 (a0 - ((Int32.toUInt32 a0 >>> (Int32.toUInt32 1 &&& Int32.toUInt32 31)).toInt32 &&& 1431655765)) >>> (Int32.toUInt32 2 &&& Int32.toUInt32 31)).toInt32 &&& 858993459)))]) X dd_Integer_bitCount_23 rfl (by decide) rfl ?_
  refine z_iload_n X dd_Integer_bitCount_24 rfl 0 rfl ?_
  refine z_iload_n X dd_Integer_bitCount_25 rfl 0 rfl ?_
  refine z_iconst (v := 4) X dd_Integer_bitCount_26 (by decide) ?_
  refine z_iushr X dd_Integer_bitCount_27 ?_
  refine z_iadd X dd_Integer_bitCount_28 ?_
  refine z_ldcw (v := 252645135) X dd_Integer_bitCount_29 km_1506 ?_
  refine z_iand X dd_Integer_bitCount_32 ?_
  refine z_istore_n (lv' := [(0, .int (((((a0 - ((Int32.toUInt32 a0 >>> (Int32.toUInt32 1 &&& Int32.toUInt32 31)).toInt32 &&& 1431655765)) &&& 858993459) + ((Int32.toUInt32 (a0 - ((Int32.toUInt32 a0 >>> (Int32.toUInt32 1 &&& Int32.toUInt32 31)).toInt32 &&& 1431655765)) >>> (Int32.toUInt32 2 &&& Int32.toUInt32 31)).toInt32 &&& 858993459)) + (Int32.toUInt32 (((a0 - ((Int32.toUInt32 a0 >>> (Int32.toUInt32 1 &&& Int32.toUInt32 31)).toInt32 &&& 1431655765)) &&& 858993459) + ((Int32.toUInt32 (a0 - ((Int32.toUInt32 a0 >>> (Int32.toUInt32 1 &&& Int32.toUInt32 31)).toInt32 &&& 1431655765)) >>> (Int32.toUInt32 2 &&& Int32.toUInt32 31)).toInt32 &&& 858993459)) >>> (Int32.toUInt32 4 &&& Int32.toUInt32 31)).toInt32) &&& 252645135))]) X dd_Integer_bitCount_33 rfl (by decide) rfl ?_
  refine z_iload_n X dd_Integer_bitCount_34 rfl 0 rfl ?_
  refine z_iload_n X dd_Integer_bitCount_35 rfl 0 rfl ?_
  refine z_bipush (v := 8) X dd_Integer_bitCount_36 (by decide) ?_
  refine z_iushr X dd_Integer_bitCount_38 ?_
  refine z_iadd X dd_Integer_bitCount_39 ?_
  refine z_istore_n (lv' := [(0, .int ((((((a0 - ((Int32.toUInt32 a0 >>> (Int32.toUInt32 1 &&& Int32.toUInt32 31)).toInt32 &&& 1431655765)) &&& 858993459) + ((Int32.toUInt32 (a0 - ((Int32.toUInt32 a0 >>> (Int32.toUInt32 1 &&& Int32.toUInt32 31)).toInt32 &&& 1431655765)) >>> (Int32.toUInt32 2 &&& Int32.toUInt32 31)).toInt32 &&& 858993459)) + (Int32.toUInt32 (((a0 - ((Int32.toUInt32 a0 >>> (Int32.toUInt32 1 &&& Int32.toUInt32 31)).toInt32 &&& 1431655765)) &&& 858993459) + ((Int32.toUInt32 (a0 - ((Int32.toUInt32 a0 >>> (Int32.toUInt32 1 &&& Int32.toUInt32 31)).toInt32 &&& 1431655765)) >>> (Int32.toUInt32 2 &&& Int32.toUInt32 31)).toInt32 &&& 858993459)) >>> (Int32.toUInt32 4 &&& Int32.toUInt32 31)).toInt32) &&& 252645135) + (Int32.toUInt32 (((((a0 - ((Int32.toUInt32 a0 >>> (Int32.toUInt32 1 &&& Int32.toUInt32 31)).toInt32 &&& 1431655765)) &&& 858993459) + ((Int32.toUInt32 (a0 - ((Int32.toUInt32 a0 >>> (Int32.toUInt32 1 &&& Int32.toUInt32 31)).toInt32 &&& 1431655765)) >>> (Int32.toUInt32 2 &&& Int32.toUInt32 31)).toInt32 &&& 858993459)) + (Int32.toUInt32 (((a0 - ((Int32.toUInt32 a0 >>> (Int32.toUInt32 1 &&& Int32.toUInt32 31)).toInt32 &&& 1431655765)) &&& 858993459) + ((Int32.toUInt32 (a0 - ((Int32.toUInt32 a0 >>> (Int32.toUInt32 1 &&& Int32.toUInt32 31)).toInt32 &&& 1431655765)) >>> (Int32.toUInt32 2 &&& Int32.toUInt32 31)).toInt32 &&& 858993459)) >>> (Int32.toUInt32 4 &&& Int32.toUInt32 31)).toInt32) &&& 252645135) >>> (Int32.toUInt32 8 &&& Int32.toUInt32 31)).toInt32))]) X dd_Integer_bitCount_40 rfl (by decide) rfl ?_
  refine z_iload_n X dd_Integer_bitCount_41 rfl 0 rfl ?_
  refine z_iload_n X dd_Integer_bitCount_42 rfl 0 rfl ?_
  refine z_bipush (v := 16) X dd_Integer_bitCount_43 (by decide) ?_
  refine z_iushr X dd_Integer_bitCount_45 ?_
  refine z_iadd X dd_Integer_bitCount_46 ?_
  refine z_istore_n (lv' := [(0, .int (((((((a0 - ((Int32.toUInt32 a0 >>> (Int32.toUInt32 1 &&& Int32.toUInt32 31)).toInt32 &&& 1431655765)) &&& 858993459) + ((Int32.toUInt32 (a0 - ((Int32.toUInt32 a0 >>> (Int32.toUInt32 1 &&& Int32.toUInt32 31)).toInt32 &&& 1431655765)) >>> (Int32.toUInt32 2 &&& Int32.toUInt32 31)).toInt32 &&& 858993459)) + (Int32.toUInt32 (((a0 - ((Int32.toUInt32 a0 >>> (Int32.toUInt32 1 &&& Int32.toUInt32 31)).toInt32 &&& 1431655765)) &&& 858993459) + ((Int32.toUInt32 (a0 - ((Int32.toUInt32 a0 >>> (Int32.toUInt32 1 &&& Int32.toUInt32 31)).toInt32 &&& 1431655765)) >>> (Int32.toUInt32 2 &&& Int32.toUInt32 31)).toInt32 &&& 858993459)) >>> (Int32.toUInt32 4 &&& Int32.toUInt32 31)).toInt32) &&& 252645135) + (Int32.toUInt32 (((((a0 - ((Int32.toUInt32 a0 >>> (Int32.toUInt32 1 &&& Int32.toUInt32 31)).toInt32 &&& 1431655765)) &&& 858993459) + ((Int32.toUInt32 (a0 - ((Int32.toUInt32 a0 >>> (Int32.toUInt32 1 &&& Int32.toUInt32 31)).toInt32 &&& 1431655765)) >>> (Int32.toUInt32 2 &&& Int32.toUInt32 31)).toInt32 &&& 858993459)) + (Int32.toUInt32 (((a0 - ((Int32.toUInt32 a0 >>> (Int32.toUInt32 1 &&& Int32.toUInt32 31)).toInt32 &&& 1431655765)) &&& 858993459) + ((Int32.toUInt32 (a0 - ((Int32.toUInt32 a0 >>> (Int32.toUInt32 1 &&& Int32.toUInt32 31)).toInt32 &&& 1431655765)) >>> (Int32.toUInt32 2 &&& Int32.toUInt32 31)).toInt32 &&& 858993459)) >>> (Int32.toUInt32 4 &&& Int32.toUInt32 31)).toInt32) &&& 252645135) >>> (Int32.toUInt32 8 &&& Int32.toUInt32 31)).toInt32) + (Int32.toUInt32 ((((((a0 - ((Int32.toUInt32 a0 >>> (Int32.toUInt32 1 &&& Int32.toUInt32 31)).toInt32 &&& 1431655765)) &&& 858993459) + ((Int32.toUInt32 (a0 - ((Int32.toUInt32 a0 >>> (Int32.toUInt32 1 &&& Int32.toUInt32 31)).toInt32 &&& 1431655765)) >>> (Int32.toUInt32 2 &&& Int32.toUInt32 31)).toInt32 &&& 858993459)) + (Int32.toUInt32 (((a0 - ((Int32.toUInt32 a0 >>> (Int32.toUInt32 1 &&& Int32.toUInt32 31)).toInt32 &&& 1431655765)) &&& 858993459) + ((Int32.toUInt32 (a0 - ((Int32.toUInt32 a0 >>> (Int32.toUInt32 1 &&& Int32.toUInt32 31)).toInt32 &&& 1431655765)) >>> (Int32.toUInt32 2 &&& Int32.toUInt32 31)).toInt32 &&& 858993459)) >>> (Int32.toUInt32 4 &&& Int32.toUInt32 31)).toInt32) &&& 252645135) + (Int32.toUInt32 (((((a0 - ((Int32.toUInt32 a0 >>> (Int32.toUInt32 1 &&& Int32.toUInt32 31)).toInt32 &&& 1431655765)) &&& 858993459) + ((Int32.toUInt32 (a0 - ((Int32.toUInt32 a0 >>> (Int32.toUInt32 1 &&& Int32.toUInt32 31)).toInt32 &&& 1431655765)) >>> (Int32.toUInt32 2 &&& Int32.toUInt32 31)).toInt32 &&& 858993459)) + (Int32.toUInt32 (((a0 - ((Int32.toUInt32 a0 >>> (Int32.toUInt32 1 &&& Int32.toUInt32 31)).toInt32 &&& 1431655765)) &&& 858993459) + ((Int32.toUInt32 (a0 - ((Int32.toUInt32 a0 >>> (Int32.toUInt32 1 &&& Int32.toUInt32 31)).toInt32 &&& 1431655765)) >>> (Int32.toUInt32 2 &&& Int32.toUInt32 31)).toInt32 &&& 858993459)) >>> (Int32.toUInt32 4 &&& Int32.toUInt32 31)).toInt32) &&& 252645135) >>> (Int32.toUInt32 8 &&& Int32.toUInt32 31)).toInt32) >>> (Int32.toUInt32 16 &&& Int32.toUInt32 31)).toInt32))]) X dd_Integer_bitCount_47 rfl (by decide) rfl ?_
  refine z_iload_n X dd_Integer_bitCount_48 rfl 0 rfl ?_
  refine z_bipush (v := 63) X dd_Integer_bitCount_49 (by decide) ?_
  refine z_iand X dd_Integer_bitCount_51 ?_
  obtain rfl := Option.some.inj h
  exact z_iret X H.1 H.2.1 H.2.2.1 dd_Integer_bitCount_52
theorem dd_PQ_pairs_0 : decode bb_PQ_pairs 0 = .ok (.iload_n 1, 1) := by decide +kernel
theorem dd_PQ_pairs_1 : decode bb_PQ_pairs 1 = .ok (.ifCond .lt 8, 3) := by decide +kernel
theorem dd_PQ_pairs_4 : decode bb_PQ_pairs 4 = .ok (.iload_n 1, 1) := by decide +kernel
theorem dd_PQ_pairs_5 : decode bb_PQ_pairs 5 = .ok (.iconst 4, 1) := by decide +kernel
theorem dd_PQ_pairs_6 : decode bb_PQ_pairs 6 = .ok (.if_icmp .lt 5, 3) := by decide +kernel
theorem dd_PQ_pairs_9 : decode bb_PQ_pairs 9 = .ok (.iconst (-1), 1) := by decide +kernel
theorem dd_PQ_pairs_10 : decode bb_PQ_pairs 10 = .ok (.ireturn, 1) := by decide +kernel
theorem dd_PQ_pairs_11 : decode bb_PQ_pairs 11 = .ok (.aload_n 0, 1) := by decide +kernel
theorem dd_PQ_pairs_12 : decode bb_PQ_pairs 12 = .ok (.getfield 50, 3) := by decide +kernel
theorem dd_PQ_pairs_15 : decode bb_PQ_pairs 15 = .ok (.iload_n 1, 1) := by decide +kernel
theorem dd_PQ_pairs_16 : decode bb_PQ_pairs 16 = .ok (.invokevirtual 148, 3) := by decide +kernel
theorem dd_PQ_pairs_19 : decode bb_PQ_pairs 19 = .ok (.ifCond .ne 6, 3) := by decide +kernel
theorem dd_PQ_pairs_22 : decode bb_PQ_pairs 22 = .ok (.bipush (-2), 2) := by decide +kernel
theorem dd_PQ_pairs_24 : decode bb_PQ_pairs 24 = .ok (.ireturn, 1) := by decide +kernel
theorem dd_PQ_pairs_25 : decode bb_PQ_pairs 25 = .ok (.aload_n 0, 1) := by decide +kernel
theorem dd_PQ_pairs_26 : decode bb_PQ_pairs 26 = .ok (.getfield 50, 3) := by decide +kernel
theorem dd_PQ_pairs_29 : decode bb_PQ_pairs 29 = .ok (.invokevirtual 161, 3) := by decide +kernel
theorem dd_PQ_pairs_32 : decode bb_PQ_pairs 32 = .ok (.ifCond .eq 6, 3) := by decide +kernel
theorem dd_PQ_pairs_35 : decode bb_PQ_pairs 35 = .ok (.bipush (-4), 2) := by decide +kernel
theorem dd_PQ_pairs_37 : decode bb_PQ_pairs 37 = .ok (.ireturn, 1) := by decide +kernel
theorem dd_PQ_pairs_38 : decode bb_PQ_pairs 38 = .ok (.iconst 0, 1) := by decide +kernel
theorem dd_PQ_pairs_39 : decode bb_PQ_pairs 39 = .ok (.istore_n 2, 1) := by decide +kernel
theorem dd_PQ_pairs_40 : decode bb_PQ_pairs 40 = .ok (.iconst 0, 1) := by decide +kernel
theorem dd_PQ_pairs_41 : decode bb_PQ_pairs 41 = .ok (.istore_n 3, 1) := by decide +kernel
theorem dd_PQ_pairs_42 : decode bb_PQ_pairs 42 = .ok (.iload_n 3, 1) := by decide +kernel
theorem dd_PQ_pairs_43 : decode bb_PQ_pairs 43 = .ok (.aload_n 0, 1) := by decide +kernel
theorem dd_PQ_pairs_44 : decode bb_PQ_pairs 44 = .ok (.getfield 16, 3) := by decide +kernel
theorem dd_PQ_pairs_47 : decode bb_PQ_pairs 47 = .ok (.getfield 115, 3) := by decide +kernel
theorem dd_PQ_pairs_50 : decode bb_PQ_pairs 50 = .ok (.if_icmp .ge 27, 3) := by decide +kernel
theorem dd_PQ_pairs_53 : decode bb_PQ_pairs 53 = .ok (.iload_n 2, 1) := by decide +kernel
theorem dd_PQ_pairs_54 : decode bb_PQ_pairs 54 = .ok (.aload_n 0, 1) := by decide +kernel
theorem dd_PQ_pairs_55 : decode bb_PQ_pairs 55 = .ok (.getfield 16, 3) := by decide +kernel
theorem dd_PQ_pairs_58 : decode bb_PQ_pairs 58 = .ok (.bipush 8, 2) := by decide +kernel
theorem dd_PQ_pairs_60 : decode bb_PQ_pairs 60 = .ok (.iload_n 1, 1) := by decide +kernel
theorem dd_PQ_pairs_61 : decode bb_PQ_pairs 61 = .ok (.iadd, 1) := by decide +kernel
theorem dd_PQ_pairs_62 : decode bb_PQ_pairs 62 = .ok (.iload_n 3, 1) := by decide +kernel
theorem dd_PQ_pairs_63 : decode bb_PQ_pairs 63 = .ok (.invokevirtual 188, 3) := by decide +kernel
theorem dd_PQ_pairs_66 : decode bb_PQ_pairs 66 = .ok (.invokestatic 191, 3) := by decide +kernel
theorem dd_PQ_pairs_69 : decode bb_PQ_pairs 69 = .ok (.iadd, 1) := by decide +kernel
theorem dd_PQ_pairs_70 : decode bb_PQ_pairs 70 = .ok (.istore_n 2, 1) := by decide +kernel
theorem dd_PQ_pairs_71 : decode bb_PQ_pairs 71 = .ok (.iinc 3 1, 3) := by decide +kernel
theorem dd_PQ_pairs_74 : decode bb_PQ_pairs 74 = .ok (.goto (-32), 3) := by decide +kernel
theorem dd_PQ_pairs_77 : decode bb_PQ_pairs 77 = .ok (.iload_n 2, 1) := by decide +kernel
theorem dd_PQ_pairs_78 : decode bb_PQ_pairs 78 = .ok (.ireturn, 1) := by decide +kernel
def f_PQ_pairs_9 (nf : Nat)  (c : Zc) : Option (Int32 × Zc) :=
  some ((-1), c)
def g_PQ_pairs_42 (nf : Nat) (x0 : Nat) (x1 : Int32) (x2 : Int32) (x3 : Int32) (c : Zc) : Option ((Nat × Int32 × Int32 × Int32 × Zc) ⊕ (Int32 × Zc)) :=
  (zgr c x0 11 1).bind fun v11 => (zgi c v11 0 7).bind fun v12 => if v12 ≤ x3 then (some (.inr (x2, c))) else ((zgr c x0 11 1).bind fun v14 => (zob c v14 0).bind fun w16 => (f_Graph_reached nf v14 (8 + x1) x3 c).bind fun q15 => (f_Integer_bitCount nf q15.1 q15.2).bind fun q17 => some (.inl (x0, x1, (x2 + q17.1), (x3 + 1), q17.2)))
def f_PQ_pairs_42 (nf : Nat) (x0 : Nat) (x1 : Int32) (x2 : Int32) (x3 : Int32) (c : Zc) : Option (Int32 × Zc) :=
  (zlp (fun a => g_PQ_pairs_42 nf a.1 a.2.1 a.2.2.1 a.2.2.2.1 a.2.2.2.2) nf (x0, x1, x2, x3, c)).bind fun b => some (b.1, b.2)
def f_PQ_pairs (nf : Nat) (a0 : Nat) (a1 : Int32) (c : Zc) : Option (Int32 × Zc) :=
  if a1 < 0 then (f_PQ_pairs_9 nf  c) else (if a1 < 4 then ((zgr c a0 11 5).bind fun v3 => (zob c v3 8).bind fun w5 => (f_RuleBook_has nf v3 a1 c).bind fun q4 => if q4.1 = 0 then (some ((-2), q4.2)) else ((zgr q4.2 a0 11 5).bind fun v7 => (zob q4.2 v7 8).bind fun w9 => (f_RuleBook_settle nf v7 q4.2).bind fun q8 => if q8.1 = 0 then (f_PQ_pairs_42 nf a0 a1 0 0 q8.2) else (some ((-4), q8.2)))) else (f_PQ_pairs_9 nf  c))
set_option maxRecDepth 100000 in
set_option maxHeartbeats 4000000 in
theorem t_PQ_pairs_9  (X : zX p s m args cd D cid B bb_PQ_pairs 4 rr_PQ zT) (H : zH s meth B n0 (some (.int)) "pairs") {nf : Nat}  {c : Zc} {res : Int32 × Zc} (h : f_PQ_pairs_9 nf  c = some res) : Zz p l e (zRm 7 170 0 0) s m args below meth cd (MQ below (zQi D cid B res.1 res.2 n0 0) args s 0 0 (fun q => B ≤ q)) D cid B 4 0 0 c 9 [] [] := by
  unfold f_PQ_pairs_9 at h
  refine z_iconst (v := (-1)) X dd_PQ_pairs_9 (by decide) ?_
  obtain rfl := Option.some.inj h
  exact z_iret X H.1 H.2.1 H.2.2.1 dd_PQ_pairs_10
set_option maxRecDepth 100000 in
set_option maxHeartbeats 4000000 in
theorem u_PQ_pairs_42  (X : zX p s m args cd D cid B bb_PQ_pairs 4 rr_PQ zT) (H : zH s meth B n0 (some (.int)) "pairs") {nf : Nat} {x0 : Nat} {x1 : Int32} {x2 : Int32} {x3 : Int32} {c : Zc} {r : (Nat × Int32 × Int32 × Int32 × Zc) ⊕ (Int32 × Zc)} (h : g_PQ_pairs_42 nf x0 x1 x2 x3 c = some r) (k0 : ∀ a, r = .inl a → (fun a : Nat × Int32 × Int32 × Int32 × Zc => Zz p l e (zRm 7 170 0 0) s m args below meth cd Q D cid B 4 0 0 a.2.2.2.2 42 [(0, .ref a.1), (1, .int a.2.1), (2, .int a.2.2.1), (3, .int a.2.2.2.1)] []) a) (k1 : ∀ b, r = .inr b → (fun b : Int32 × Zc => Zz p l e (zRm 7 170 0 0) s m args below meth cd Q D cid B 4 0 0 b.2 77 [(2, .int b.1)] []) b) : Zz p l e (zRm 7 170 0 0) s m args below meth cd Q D cid B 4 0 0 c 42 [(0, .ref x0), (1, .int x1), (2, .int x2), (3, .int x3)] [] := by
  unfold g_PQ_pairs_42 at h
  refine z_iload_n X dd_PQ_pairs_42 rfl 3 rfl ?_
  refine z_aload_n X dd_PQ_pairs_43 rfl 0 rfl ?_
  obtain ⟨v11, ev11, h⟩ := zb h
  refine z_get (j := 1) X dd_PQ_pairs_44 kc_11 ki_11 (by decide) km_690 (zgr_v ev11) ?_
  obtain ⟨v12, ev12, h⟩ := zb h
  refine z_get (j := 7) X dd_PQ_pairs_47 kc_0 ki_0 (by decide) km_177 (zgi_v ev12) ?_
  refine z_icmp_ge (tgt := 77) X dd_PQ_pairs_50 (by decide) (fun q13 => ?_) (fun q13 => ?_)
  · rw [if_pos q13] at h
    refine z_sub [2] rfl ?_
    obtain rfl := Option.some.inj h
    exact k1 _ rfl
  · rw [if_neg q13] at h
    refine z_iload_n X dd_PQ_pairs_53 rfl 2 rfl ?_
    refine z_aload_n X dd_PQ_pairs_54 rfl 0 rfl ?_
    obtain ⟨v14, ev14, h⟩ := zb h
    refine z_get (j := 1) X dd_PQ_pairs_55 kc_11 ki_11 (by decide) km_690 (zgr_v ev14) ?_
    refine z_bipush (v := 8) X dd_PQ_pairs_58 (by decide) ?_
    refine z_iload_n X dd_PQ_pairs_60 rfl 1 rfl ?_
    refine z_iadd X dd_PQ_pairs_61 ?_
    refine z_iload_n X dd_PQ_pairs_62 rfl 3 rfl ?_
    obtain ⟨w16, ew16, h⟩ := zb h
    obtain ⟨q15, eq15, h⟩ := zb h
    refine z_callVi X [.int (8 + x1), .int x3] rfl dd_PQ_pairs_63 (c_Graph_reached l eq15) (cwV 2 X.1.2.2.2.2 (zg_V km_1496 km_1384 km_1385 km_126 km_1386) rfl rfl rfl (by decide +kernel) ⟨Nat.le_of_ble_eq_true rfl, Nat.le_of_ble_eq_true rfl⟩) (zob_s ew16) kc_0 rfl (Nat.le_of_ble_eq_true rfl) ⟨Nat.le_of_ble_eq_true rfl, Nat.le_of_ble_eq_true rfl⟩ ?_
    obtain ⟨q17, eq17, h⟩ := zb h
    refine z_callSi X [.int q15.1] rfl dd_PQ_pairs_66 (c_Integer_bitCount l eq17) (va_cwS 1 X.1.2.2.2.2 (zg_S km_1501 km_1502 km_145 km_1503) rfl rfl rfl (by decide +kernel) ⟨Nat.le_of_ble_eq_true rfl, Nat.le_of_ble_eq_true rfl⟩) rfl (Nat.le_of_ble_eq_true rfl) ⟨Nat.le_of_ble_eq_true rfl, Nat.le_of_ble_eq_true rfl⟩ ?_
    refine z_iadd X dd_PQ_pairs_69 ?_
    refine z_istore_n (lv' := [(2, .int (x2 + q17.1)), (0, .ref x0), (1, .int x1), (3, .int x3)]) X dd_PQ_pairs_70 rfl (by decide) rfl ?_
    refine z_iinc (v := (x3 + 1)) (lv' := [(3, .int (x3 + 1)), (2, .int (x2 + q17.1)), (0, .ref x0), (1, .int x1)]) X dd_PQ_pairs_71 3 rfl rfl (by decide) rfl ?_
    refine z_goto (tgt := 42) X dd_PQ_pairs_74 (by decide) ?_
    refine z_sub [2, 3, 1, 0] rfl ?_
    obtain rfl := Option.some.inj h
    exact k0 _ rfl
set_option maxRecDepth 100000 in
set_option maxHeartbeats 4000000 in
theorem t_PQ_pairs_42  (X : zX p s m args cd D cid B bb_PQ_pairs 4 rr_PQ zT) (H : zH s meth B n0 (some (.int)) "pairs") {nf : Nat} {x0 : Nat} {x1 : Int32} {x2 : Int32} {x3 : Int32} {c : Zc} {res : Int32 × Zc} (h : f_PQ_pairs_42 nf x0 x1 x2 x3 c = some res) : Zz p l e (zRm 7 170 0 0) s m args below meth cd (MQ below (zQi D cid B res.1 res.2 n0 0) args s 0 0 (fun q => B ≤ q)) D cid B 4 0 0 c 42 [(0, .ref x0), (1, .int x1), (2, .int x2), (3, .int x3)] [] := by
  unfold f_PQ_pairs_42 at h
  obtain ⟨b, eb, h⟩ := zb h
  refine zlp_ok (P := fun a : Nat × Int32 × Int32 × Int32 × Zc => Zz p l e (zRm 7 170 0 0) s m args below meth cd _ D cid B 4 0 0 a.2.2.2.2 42 [(0, .ref a.1), (1, .int a.2.1), (2, .int a.2.2.1), (3, .int a.2.2.2.1)] []) (G := fun b : Int32 × Zc => Zz p l e (zRm 7 170 0 0) s m args below meth cd _ D cid B 4 0 0 b.2 77 [(2, .int b.1)] []) (fun a r ha k0 k1 => u_PQ_pairs_42 X H ha k0 k1) nf _ b eb ?_
  refine z_iload_n X dd_PQ_pairs_77 rfl 0 rfl ?_
  obtain rfl := Option.some.inj h
  exact z_iret X H.1 H.2.1 H.2.2.1 dd_PQ_pairs_78
set_option maxRecDepth 100000 in
set_option maxHeartbeats 4000000 in
theorem c_PQ_pairs (l : Launch) {nf : Nat} {a0 : Nat} {a1 : Int32} {c : Zc} {res : Int32 × Zc} (h : f_PQ_pairs nf a0 a1 c = some res) : zM l yy_PQ_pairs ww_PQ_pairs 7 170 0 0 [.ref a0, .int a1] c (fun D cid B => zQi D cid B res.1 res.2 c.length 0) := by
  refine z_met (cc := bb_PQ_pairs) (maxL := 4) (ret := (some (.int))) (by decide +kernel) rfl (Nat.le_of_ble_eq_true rfl) ?_
  intro p e s m args below meth cd D cid B X h1 h2 h3 h4
  have X : zX p s m args cd D cid B bb_PQ_pairs 4 rr_PQ zT := X
  have H : zH s meth B c.length (some (.int)) "pairs" := ⟨h1, h2, h4, h3⟩
  unfold f_PQ_pairs at h
  show Zz p l e (zRm 7 170 0 0) s m args below meth cd _ D cid B 4 0 0 c 0 [(0, .ref a0), (1, .int a1)] []
  refine z_iload_n X dd_PQ_pairs_0 rfl 1 rfl ?_
  refine z_if_lt (tgt := 9) X dd_PQ_pairs_1 (by decide) (fun q1 => ?_) (fun q1 => ?_)
  · rw [if_pos q1] at h
    refine z_sub [] rfl ?_
    exact t_PQ_pairs_9 X H h
  · rw [if_neg q1] at h
    refine z_iload_n X dd_PQ_pairs_4 rfl 1 rfl ?_
    refine z_iconst (v := 4) X dd_PQ_pairs_5 (by decide) ?_
    refine z_icmp_lt (tgt := 11) X dd_PQ_pairs_6 (by decide) (fun q2 => ?_) (fun q2 => ?_)
    · rw [if_pos q2] at h
      refine z_aload_n X dd_PQ_pairs_11 rfl 0 rfl ?_
      obtain ⟨v3, ev3, h⟩ := zb h
      refine z_get (j := 5) X dd_PQ_pairs_12 kc_11 ki_11 (by decide) km_694 (zgr_v ev3) ?_
      refine z_iload_n X dd_PQ_pairs_15 rfl 1 rfl ?_
      obtain ⟨w5, ew5, h⟩ := zb h
      obtain ⟨q4, eq4, h⟩ := zb h
      refine z_callVi X [.int a1] rfl dd_PQ_pairs_16 (c_RuleBook_has l eq4) (cwV 1 X.1.2.2.2.2 (zg_V km_1242 km_1243 km_1244 km_135 km_1245) rfl rfl rfl (by decide +kernel) ⟨Nat.le_of_ble_eq_true rfl, Nat.le_of_ble_eq_true rfl⟩) (zob_s ew5) kc_8 rfl (Nat.le_of_ble_eq_true rfl) ⟨Nat.le_of_ble_eq_true rfl, Nat.le_of_ble_eq_true rfl⟩ ?_
      refine z_if_ne (tgt := 25) X dd_PQ_pairs_19 (by decide) (fun q6 => ?_) (fun q6 => ?_)
      · rw [if_neg q6] at h
        refine z_aload_n X dd_PQ_pairs_25 rfl 0 rfl ?_
        obtain ⟨v7, ev7, h⟩ := zb h
        refine z_get (j := 5) X dd_PQ_pairs_26 kc_11 ki_11 (by decide) km_694 (zgr_v ev7) ?_
        obtain ⟨w9, ew9, h⟩ := zb h
        obtain ⟨q8, eq8, h⟩ := zb h
        refine z_callVi X [] rfl dd_PQ_pairs_29 (c_RuleBook_settle l eq8) (cwV 0 X.1.2.2.2.2 (zg_V km_1254 km_1255 km_1256 km_135 km_1257) rfl rfl rfl (by decide +kernel) ⟨Nat.le_of_ble_eq_true rfl, Nat.le_of_ble_eq_true rfl⟩) (zob_s ew9) kc_8 rfl (Nat.le_of_ble_eq_true rfl) ⟨Nat.le_of_ble_eq_true rfl, Nat.le_of_ble_eq_true rfl⟩ ?_
        refine z_if_eq (tgt := 38) X dd_PQ_pairs_32 (by decide) (fun q10 => ?_) (fun q10 => ?_)
        · rw [if_pos q10] at h
          refine z_iconst (v := 0) X dd_PQ_pairs_38 (by decide) ?_
          refine z_istore_n (lv' := [(2, .int 0), (0, .ref a0), (1, .int a1)]) X dd_PQ_pairs_39 rfl (by decide) rfl ?_
          refine z_iconst (v := 0) X dd_PQ_pairs_40 (by decide) ?_
          refine z_istore_n (lv' := [(3, .int 0), (2, .int 0), (0, .ref a0), (1, .int a1)]) X dd_PQ_pairs_41 rfl (by decide) rfl ?_
          refine z_sub [2, 3, 1, 0] rfl ?_
          exact t_PQ_pairs_42 X H h
        · rw [if_neg q10] at h
          refine z_bipush (v := (-4)) X dd_PQ_pairs_35 (by decide) ?_
          obtain rfl := Option.some.inj h
          exact z_iret X H.1 H.2.1 H.2.2.1 dd_PQ_pairs_37
      · rw [if_pos q6] at h
        refine z_bipush (v := (-2)) X dd_PQ_pairs_22 (by decide) ?_
        obtain rfl := Option.some.inj h
        exact z_iret X H.1 H.2.1 H.2.2.1 dd_PQ_pairs_24
    · rw [if_neg q2] at h
      refine z_sub [] rfl ?_
      exact t_PQ_pairs_9 X H h
theorem dd_PQ_least_0 : decode bb_PQ_least 0 = .ok (.iload_n 1, 1) := by decide +kernel
theorem dd_PQ_least_1 : decode bb_PQ_least 1 = .ok (.ifCond .lt 30, 3) := by decide +kernel
theorem dd_PQ_least_4 : decode bb_PQ_least 4 = .ok (.iload_n 1, 1) := by decide +kernel
theorem dd_PQ_least_5 : decode bb_PQ_least 5 = .ok (.iconst 4, 1) := by decide +kernel
theorem dd_PQ_least_6 : decode bb_PQ_least 6 = .ok (.if_icmp .ge 25, 3) := by decide +kernel
theorem dd_PQ_least_9 : decode bb_PQ_least 9 = .ok (.aload_n 0, 1) := by decide +kernel
theorem dd_PQ_least_10 : decode bb_PQ_least 10 = .ok (.getfield 16, 3) := by decide +kernel
theorem dd_PQ_least_13 : decode bb_PQ_least 13 = .ok (.iload_n 2, 1) := by decide +kernel
theorem dd_PQ_least_14 : decode bb_PQ_least 14 = .ok (.invokevirtual 90, 3) := by decide +kernel
theorem dd_PQ_least_17 : decode bb_PQ_least 17 = .ok (.ifCond .eq 14, 3) := by decide +kernel
theorem dd_PQ_least_20 : decode bb_PQ_least 20 = .ok (.aload_n 0, 1) := by decide +kernel
theorem dd_PQ_least_21 : decode bb_PQ_least 21 = .ok (.getfield 16, 3) := by decide +kernel
theorem dd_PQ_least_24 : decode bb_PQ_least 24 = .ok (.iload_n 3, 1) := by decide +kernel
theorem dd_PQ_least_25 : decode bb_PQ_least 25 = .ok (.invokevirtual 90, 3) := by decide +kernel
theorem dd_PQ_least_28 : decode bb_PQ_least 28 = .ok (.ifCond .ne 5, 3) := by decide +kernel
theorem dd_PQ_least_31 : decode bb_PQ_least 31 = .ok (.iconst (-1), 1) := by decide +kernel
theorem dd_PQ_least_32 : decode bb_PQ_least 32 = .ok (.ireturn, 1) := by decide +kernel
theorem dd_PQ_least_33 : decode bb_PQ_least 33 = .ok (.aload_n 0, 1) := by decide +kernel
theorem dd_PQ_least_34 : decode bb_PQ_least 34 = .ok (.getfield 63, 3) := by decide +kernel
theorem dd_PQ_least_37 : decode bb_PQ_least 37 = .ok (.iload_n 1, 1) := by decide +kernel
theorem dd_PQ_least_38 : decode bb_PQ_least 38 = .ok (.aaload, 1) := by decide +kernel
theorem dd_PQ_least_39 : decode bb_PQ_least 39 = .ok (.astore 4, 2) := by decide +kernel
theorem dd_PQ_least_41 : decode bb_PQ_least 41 = .ok (.aload 4, 2) := by decide +kernel
theorem dd_PQ_least_43 : decode bb_PQ_least 43 = .ok (.getfield 154, 3) := by decide +kernel
theorem dd_PQ_least_46 : decode bb_PQ_least 46 = .ok (.ifCond .eq 11, 3) := by decide +kernel
theorem dd_PQ_least_49 : decode bb_PQ_least 49 = .ok (.aload 4, 2) := by decide +kernel
theorem dd_PQ_least_51 : decode bb_PQ_least 51 = .ok (.getfield 196, 3) := by decide +kernel
theorem dd_PQ_least_54 : decode bb_PQ_least 54 = .ok (.ifCond .ne 6, 3) := by decide +kernel
theorem dd_PQ_least_57 : decode bb_PQ_least 57 = .ok (.bipush (-2), 2) := by decide +kernel
theorem dd_PQ_least_59 : decode bb_PQ_least 59 = .ok (.ireturn, 1) := by decide +kernel
theorem dd_PQ_least_60 : decode bb_PQ_least 60 = .ok (.aload_n 0, 1) := by decide +kernel
theorem dd_PQ_least_61 : decode bb_PQ_least 61 = .ok (.getfield 50, 3) := by decide +kernel
theorem dd_PQ_least_64 : decode bb_PQ_least 64 = .ok (.invokevirtual 161, 3) := by decide +kernel
theorem dd_PQ_least_67 : decode bb_PQ_least 67 = .ok (.ifCond .eq 6, 3) := by decide +kernel
theorem dd_PQ_least_70 : decode bb_PQ_least 70 = .ok (.bipush (-4), 2) := by decide +kernel
theorem dd_PQ_least_72 : decode bb_PQ_least 72 = .ok (.ireturn, 1) := by decide +kernel
theorem dd_PQ_least_73 : decode bb_PQ_least 73 = .ok (.aload 4, 2) := by decide +kernel
theorem dd_PQ_least_75 : decode bb_PQ_least 75 = .ok (.getfield 199, 3) := by decide +kernel
theorem dd_PQ_least_78 : decode bb_PQ_least 78 = .ok (.iconst 0, 1) := by decide +kernel
theorem dd_PQ_least_79 : decode bb_PQ_least 79 = .ok (.aaload, 1) := by decide +kernel
theorem dd_PQ_least_80 : decode bb_PQ_least 80 = .ok (.astore 5, 2) := by decide +kernel
theorem dd_PQ_least_82 : decode bb_PQ_least 82 = .ok (.aload_n 0, 1) := by decide +kernel
theorem dd_PQ_least_83 : decode bb_PQ_least 83 = .ok (.getfield 41, 3) := by decide +kernel
theorem dd_PQ_least_86 : decode bb_PQ_least 86 = .ok (.aload 5, 2) := by decide +kernel
theorem dd_PQ_least_88 : decode bb_PQ_least 88 = .ok (.invokevirtual 203, 3) := by decide +kernel
theorem dd_PQ_least_91 : decode bb_PQ_least 91 = .ok (.aload 5, 2) := by decide +kernel
theorem dd_PQ_least_93 : decode bb_PQ_least 93 = .ok (.getfield 207, 3) := by decide +kernel
theorem dd_PQ_least_96 : decode bb_PQ_least 96 = .ok (.ifCond .eq 13, 3) := by decide +kernel
theorem dd_PQ_least_99 : decode bb_PQ_least 99 = .ok (.aload 5, 2) := by decide +kernel
theorem dd_PQ_least_101 : decode bb_PQ_least 101 = .ok (.iload_n 3, 1) := by decide +kernel
theorem dd_PQ_least_102 : decode bb_PQ_least 102 = .ok (.iload_n 2, 1) := by decide +kernel
theorem dd_PQ_least_103 : decode bb_PQ_least 103 = .ok (.invokevirtual 212, 3) := by decide +kernel
theorem dd_PQ_least_106 : decode bb_PQ_least 106 = .ok (.goto 10, 3) := by decide +kernel
theorem dd_PQ_least_109 : decode bb_PQ_least 109 = .ok (.aload 5, 2) := by decide +kernel
theorem dd_PQ_least_111 : decode bb_PQ_least 111 = .ok (.iload_n 2, 1) := by decide +kernel
theorem dd_PQ_least_112 : decode bb_PQ_least 112 = .ok (.iload_n 3, 1) := by decide +kernel
theorem dd_PQ_least_113 : decode bb_PQ_least 113 = .ok (.invokevirtual 212, 3) := by decide +kernel
theorem dd_PQ_least_116 : decode bb_PQ_least 116 = .ok (.istore 6, 2) := by decide +kernel
theorem dd_PQ_least_118 : decode bb_PQ_least 118 = .ok (.iload 6, 2) := by decide +kernel
theorem dd_PQ_least_120 : decode bb_PQ_least 120 = .ok (.ifCond .ge 8, 3) := by decide +kernel
theorem dd_PQ_least_123 : decode bb_PQ_least 123 = .ok (.bipush (-2), 2) := by decide +kernel
theorem dd_PQ_least_125 : decode bb_PQ_least 125 = .ok (.goto 5, 3) := by decide +kernel
theorem dd_PQ_least_128 : decode bb_PQ_least 128 = .ok (.iload 6, 2) := by decide +kernel
theorem dd_PQ_least_130 : decode bb_PQ_least 130 = .ok (.ireturn, 1) := by decide +kernel
def f_PQ_least_31 (nf : Nat)  (c : Zc) : Option (Int32 × Zc) :=
  some ((-1), c)
def f_PQ_least_57 (nf : Nat)  (c : Zc) : Option (Int32 × Zc) :=
  some ((-2), c)
def f_PQ_least_130 (nf : Nat) (s0 : Int32) (c : Zc) : Option (Int32 × Zc) :=
  some (s0, c)
def f_PQ_least_116 (nf : Nat) (s0 : Int32) (c : Zc) : Option (Int32 × Zc) :=
  if 0 ≤ s0 then (f_PQ_least_130 nf s0 c) else (f_PQ_least_130 nf (-2) c)
def f_PQ_least (nf : Nat) (a0 : Nat) (a1 : Int32) (a2 : Int32) (a3 : Int32) (c : Zc) : Option (Int32 × Zc) :=
  if a1 < 0 then (f_PQ_least_31 nf  c) else (if 4 ≤ a1 then (f_PQ_least_31 nf  c) else ((zgr c a0 11 1).bind fun v3 => (zob c v3 0).bind fun w5 => (f_Graph_isNode nf v3 a2 c).bind fun q4 => if q4.1 = 0 then (f_PQ_least_31 nf  q4.2) else ((zgr q4.2 a0 11 1).bind fun v7 => (zob q4.2 v7 0).bind fun w9 => (f_Graph_isNode nf v7 a3 q4.2).bind fun q8 => if q8.1 = 0 then (f_PQ_least_31 nf  q8.2) else ((zgr q8.2 a0 11 7).bind fun v11 => (zar q8.2 v11 4 a1).bind fun v12 => (zgi q8.2 v12 2 0).bind fun v13 => if v13 = 0 then (f_PQ_least_57 nf  q8.2) else ((zgi q8.2 v12 2 3).bind fun v15 => if v15 = 0 then (f_PQ_least_57 nf  q8.2) else ((zgr q8.2 a0 11 5).bind fun v17 => (zob q8.2 v17 8).bind fun w19 => (f_RuleBook_settle nf v17 q8.2).bind fun q18 => if q18.1 = 0 then ((zgr q18.2 v12 2 4).bind fun v21 => (zar q18.2 v21 3 0).bind fun v22 => (zgr q18.2 a0 11 4).bind fun v23 => (zob q18.2 v23 7).bind fun w25 => (f_Finder_bringUpToDate nf v23 v22 q18.2).bind fun q24 => (zgi q24 v22 1 3).bind fun v26 => if v26 = 0 then ((zob q24 v22 1).bind fun w29 => (f_Way_arcsBetween nf v22 a2 a3 q24).bind fun q28 => f_PQ_least_116 nf q28.1 q28.2) else ((zob q24 v22 1).bind fun w32 => (f_Way_arcsBetween nf v22 a3 a2 q24).bind fun q31 => f_PQ_least_116 nf q31.1 q31.2)) else (some ((-4), q18.2))))))))
set_option maxRecDepth 100000 in
set_option maxHeartbeats 4000000 in
theorem t_PQ_least_31  (X : zX p s m args cd D cid B bb_PQ_least 7 rr_PQ zT) (H : zH s meth B n0 (some (.int)) "least") {nf : Nat}  {c : Zc} {res : Int32 × Zc} (h : f_PQ_least_31 nf  c = some res) : Zz p l e (zRm 7 170 0 0) s m args below meth cd (MQ below (zQi D cid B res.1 res.2 n0 0) args s 0 0 (fun q => B ≤ q)) D cid B 7 0 0 c 31 [] [] := by
  unfold f_PQ_least_31 at h
  refine z_iconst (v := (-1)) X dd_PQ_least_31 (by decide) ?_
  obtain rfl := Option.some.inj h
  exact z_iret X H.1 H.2.1 H.2.2.1 dd_PQ_least_32
set_option maxRecDepth 100000 in
set_option maxHeartbeats 4000000 in
theorem t_PQ_least_57  (X : zX p s m args cd D cid B bb_PQ_least 7 rr_PQ zT) (H : zH s meth B n0 (some (.int)) "least") {nf : Nat}  {c : Zc} {res : Int32 × Zc} (h : f_PQ_least_57 nf  c = some res) : Zz p l e (zRm 7 170 0 0) s m args below meth cd (MQ below (zQi D cid B res.1 res.2 n0 0) args s 0 0 (fun q => B ≤ q)) D cid B 7 0 0 c 57 [] [] := by
  unfold f_PQ_least_57 at h
  refine z_bipush (v := (-2)) X dd_PQ_least_57 (by decide) ?_
  obtain rfl := Option.some.inj h
  exact z_iret X H.1 H.2.1 H.2.2.1 dd_PQ_least_59
set_option maxRecDepth 100000 in
set_option maxHeartbeats 4000000 in
theorem t_PQ_least_130  (X : zX p s m args cd D cid B bb_PQ_least 7 rr_PQ zT) (H : zH s meth B n0 (some (.int)) "least") {nf : Nat} {s0 : Int32} {c : Zc} {res : Int32 × Zc} (h : f_PQ_least_130 nf s0 c = some res) : Zz p l e (zRm 7 170 0 0) s m args below meth cd (MQ below (zQi D cid B res.1 res.2 n0 0) args s 0 0 (fun q => B ≤ q)) D cid B 7 0 0 c 130 [] [.int s0] := by
  unfold f_PQ_least_130 at h
  obtain rfl := Option.some.inj h
  exact z_iret X H.1 H.2.1 H.2.2.1 dd_PQ_least_130
set_option maxRecDepth 100000 in
set_option maxHeartbeats 4000000 in
theorem t_PQ_least_116  (X : zX p s m args cd D cid B bb_PQ_least 7 rr_PQ zT) (H : zH s meth B n0 (some (.int)) "least") {nf : Nat} {s0 : Int32} {c : Zc} {res : Int32 × Zc} (h : f_PQ_least_116 nf s0 c = some res) : Zz p l e (zRm 7 170 0 0) s m args below meth cd (MQ below (zQi D cid B res.1 res.2 n0 0) args s 0 0 (fun q => B ≤ q)) D cid B 7 0 0 c 116 [] [.int s0] := by
  unfold f_PQ_least_116 at h
  refine z_istore (lv' := [(6, .int s0)]) X dd_PQ_least_116 (by decide) rfl ?_
  refine z_iload X dd_PQ_least_118 0 rfl ?_
  refine z_if_ge (tgt := 128) X dd_PQ_least_120 (by decide) (fun q30 => ?_) (fun q30 => ?_)
  · rw [if_pos q30] at h
    refine z_iload X dd_PQ_least_128 0 rfl ?_
    refine z_sub [] rfl ?_
    exact t_PQ_least_130 X H h
  · rw [if_neg q30] at h
    refine z_bipush (v := (-2)) X dd_PQ_least_123 (by decide) ?_
    refine z_goto (tgt := 130) X dd_PQ_least_125 (by decide) ?_
    refine z_sub [] rfl ?_
    exact t_PQ_least_130 X H h
set_option maxRecDepth 100000 in
set_option maxHeartbeats 4000000 in
theorem c_PQ_least (l : Launch) {nf : Nat} {a0 : Nat} {a1 : Int32} {a2 : Int32} {a3 : Int32} {c : Zc} {res : Int32 × Zc} (h : f_PQ_least nf a0 a1 a2 a3 c = some res) : zM l yy_PQ_least ww_PQ_least 7 170 0 0 [.ref a0, .int a1, .int a2, .int a3] c (fun D cid B => zQi D cid B res.1 res.2 c.length 0) := by
  refine z_met (cc := bb_PQ_least) (maxL := 7) (ret := (some (.int))) (by decide +kernel) rfl (Nat.le_of_ble_eq_true rfl) ?_
  intro p e s m args below meth cd D cid B X h1 h2 h3 h4
  have X : zX p s m args cd D cid B bb_PQ_least 7 rr_PQ zT := X
  have H : zH s meth B c.length (some (.int)) "least" := ⟨h1, h2, h4, h3⟩
  unfold f_PQ_least at h
  show Zz p l e (zRm 7 170 0 0) s m args below meth cd _ D cid B 7 0 0 c 0 [(0, .ref a0), (1, .int a1), (2, .int a2), (3, .int a3)] []
  refine z_iload_n X dd_PQ_least_0 rfl 1 rfl ?_
  refine z_if_lt (tgt := 31) X dd_PQ_least_1 (by decide) (fun q1 => ?_) (fun q1 => ?_)
  · rw [if_pos q1] at h
    refine z_sub [] rfl ?_
    exact t_PQ_least_31 X H h
  · rw [if_neg q1] at h
    refine z_iload_n X dd_PQ_least_4 rfl 1 rfl ?_
    refine z_iconst (v := 4) X dd_PQ_least_5 (by decide) ?_
    refine z_icmp_ge (tgt := 31) X dd_PQ_least_6 (by decide) (fun q2 => ?_) (fun q2 => ?_)
    · rw [if_pos q2] at h
      refine z_sub [] rfl ?_
      exact t_PQ_least_31 X H h
    · rw [if_neg q2] at h
      refine z_aload_n X dd_PQ_least_9 rfl 0 rfl ?_
      obtain ⟨v3, ev3, h⟩ := zb h
      refine z_get (j := 1) X dd_PQ_least_10 kc_11 ki_11 (by decide) km_690 (zgr_v ev3) ?_
      refine z_iload_n X dd_PQ_least_13 rfl 2 rfl ?_
      obtain ⟨w5, ew5, h⟩ := zb h
      obtain ⟨q4, eq4, h⟩ := zb h
      refine z_callVi X [.int a2] rfl dd_PQ_least_14 (c_Graph_isNode l eq4) (cwV 1 X.1.2.2.2.2 (zg_V km_747 km_748 km_749 km_126 km_750) rfl rfl rfl (by decide +kernel) ⟨Nat.le_of_ble_eq_true rfl, Nat.le_of_ble_eq_true rfl⟩) (zob_s ew5) kc_0 rfl (Nat.le_of_ble_eq_true rfl) ⟨Nat.le_of_ble_eq_true rfl, Nat.le_of_ble_eq_true rfl⟩ ?_
      refine z_if_eq (tgt := 31) X dd_PQ_least_17 (by decide) (fun q6 => ?_) (fun q6 => ?_)
      · rw [if_pos q6] at h
        refine z_sub [] rfl ?_
        exact t_PQ_least_31 X H h
      · rw [if_neg q6] at h
        refine z_aload_n X dd_PQ_least_20 rfl 0 rfl ?_
        obtain ⟨v7, ev7, h⟩ := zb h
        refine z_get (j := 1) X dd_PQ_least_21 kc_11 ki_11 (by decide) km_690 (zgr_v ev7) ?_
        refine z_iload_n X dd_PQ_least_24 rfl 3 rfl ?_
        obtain ⟨w9, ew9, h⟩ := zb h
        obtain ⟨q8, eq8, h⟩ := zb h
        refine z_callVi X [.int a3] rfl dd_PQ_least_25 (c_Graph_isNode l eq8) (cwV 1 X.1.2.2.2.2 (zg_V km_747 km_748 km_749 km_126 km_750) rfl rfl rfl (by decide +kernel) ⟨Nat.le_of_ble_eq_true rfl, Nat.le_of_ble_eq_true rfl⟩) (zob_s ew9) kc_0 rfl (Nat.le_of_ble_eq_true rfl) ⟨Nat.le_of_ble_eq_true rfl, Nat.le_of_ble_eq_true rfl⟩ ?_
        refine z_if_ne (tgt := 33) X dd_PQ_least_28 (by decide) (fun q10 => ?_) (fun q10 => ?_)
        · rw [if_neg q10] at h
          refine z_aload_n X dd_PQ_least_33 rfl 0 rfl ?_
          obtain ⟨v11, ev11, h⟩ := zb h
          refine z_get (j := 7) X dd_PQ_least_34 kc_11 ki_11 (by decide) km_696 (zgr_v ev11) ?_
          refine z_iload_n X dd_PQ_least_37 rfl 1 rfl ?_
          obtain ⟨v12, ev12, h⟩ := zb h
          refine z_aaload X dd_PQ_least_38 rfl ev12 ?_
          refine z_astore (lv' := [(4, .ref v12), (0, .ref a0), (1, .int a1), (2, .int a2), (3, .int a3)]) X dd_PQ_least_39 (by decide) rfl ?_
          refine z_aload X dd_PQ_least_41 0 rfl ?_
          obtain ⟨v13, ev13, h⟩ := zb h
          refine z_get (j := 0) X dd_PQ_least_43 kc_2 ki_2 (by decide) km_301 (zgi_v ev13) ?_
          refine z_if_eq (tgt := 57) X dd_PQ_least_46 (by decide) (fun q14 => ?_) (fun q14 => ?_)
          · rw [if_pos q14] at h
            refine z_sub [] rfl ?_
            exact t_PQ_least_57 X H h
          · rw [if_neg q14] at h
            refine z_aload X dd_PQ_least_49 0 rfl ?_
            obtain ⟨v15, ev15, h⟩ := zb h
            refine z_get (j := 3) X dd_PQ_least_51 kc_2 ki_2 (by decide) km_312 (zgi_v ev15) ?_
            refine z_if_ne (tgt := 60) X dd_PQ_least_54 (by decide) (fun q16 => ?_) (fun q16 => ?_)
            · rw [if_neg q16] at h
              refine z_aload_n X dd_PQ_least_60 rfl 1 rfl ?_
              obtain ⟨v17, ev17, h⟩ := zb h
              refine z_get (j := 5) X dd_PQ_least_61 kc_11 ki_11 (by decide) km_694 (zgr_v ev17) ?_
              obtain ⟨w19, ew19, h⟩ := zb h
              obtain ⟨q18, eq18, h⟩ := zb h
              refine z_callVi X [] rfl dd_PQ_least_64 (c_RuleBook_settle l eq18) (cwV 0 X.1.2.2.2.2 (zg_V km_1254 km_1255 km_1256 km_135 km_1257) rfl rfl rfl (by decide +kernel) ⟨Nat.le_of_ble_eq_true rfl, Nat.le_of_ble_eq_true rfl⟩) (zob_s ew19) kc_8 rfl (Nat.le_of_ble_eq_true rfl) ⟨Nat.le_of_ble_eq_true rfl, Nat.le_of_ble_eq_true rfl⟩ ?_
              refine z_if_eq (tgt := 73) X dd_PQ_least_67 (by decide) (fun q20 => ?_) (fun q20 => ?_)
              · rw [if_pos q20] at h
                refine z_aload X dd_PQ_least_73 0 rfl ?_
                obtain ⟨v21, ev21, h⟩ := zb h
                refine z_get (j := 4) X dd_PQ_least_75 kc_2 ki_2 (by decide) km_318 (zgr_v ev21) ?_
                refine z_iconst (v := 0) X dd_PQ_least_78 (by decide) ?_
                obtain ⟨v22, ev22, h⟩ := zb h
                refine z_aaload X dd_PQ_least_79 rfl ev22 ?_
                refine z_astore (lv' := [(5, .ref v22), (4, .ref v12), (0, .ref a0), (1, .int a1), (2, .int a2), (3, .int a3)]) X dd_PQ_least_80 (by decide) rfl ?_
                refine z_aload_n X dd_PQ_least_82 rfl 2 rfl ?_
                obtain ⟨v23, ev23, h⟩ := zb h
                refine z_get (j := 4) X dd_PQ_least_83 kc_11 ki_11 (by decide) km_693 (zgr_v ev23) ?_
                refine z_aload X dd_PQ_least_86 0 rfl ?_
                obtain ⟨w25, ew25, h⟩ := zb h
                obtain ⟨q24, eq24, h⟩ := zb h
                refine z_callVv X [.ref v22] rfl dd_PQ_least_88 (c_Finder_bringUpToDate l eq24) (cwV 1 X.1.2.2.2.2 (zg_V km_1511 km_1294 km_1295 km_133 km_1296) rfl rfl rfl (by decide +kernel) ⟨Nat.le_of_ble_eq_true rfl, Nat.le_of_ble_eq_true rfl⟩) (zob_s ew25) kc_7 rfl (Nat.le_of_ble_eq_true rfl) ⟨Nat.le_of_ble_eq_true rfl, Nat.le_of_ble_eq_true rfl⟩ ?_
                refine z_aload X dd_PQ_least_91 0 rfl ?_
                obtain ⟨v26, ev26, h⟩ := zb h
                refine z_get (j := 3) X dd_PQ_least_93 kc_1 ki_1 (by decide) km_232 (zgi_v ev26) ?_
                refine z_if_eq (tgt := 109) X dd_PQ_least_96 (by decide) (fun q27 => ?_) (fun q27 => ?_)
                · rw [if_pos q27] at h
                  refine z_aload X dd_PQ_least_109 0 rfl ?_
                  refine z_iload_n X dd_PQ_least_111 rfl 4 rfl ?_
                  refine z_iload_n X dd_PQ_least_112 rfl 5 rfl ?_
                  obtain ⟨w29, ew29, h⟩ := zb h
                  obtain ⟨q28, eq28, h⟩ := zb h
                  refine z_callVi X [.int a2, .int a3] rfl dd_PQ_least_113 (c_Way_arcsBetween l eq28) (cwV 2 X.1.2.2.2.2 (zg_V km_1512 km_1369 km_1370 km_129 km_1371) rfl rfl rfl (by decide +kernel) ⟨Nat.le_of_ble_eq_true rfl, Nat.le_of_ble_eq_true rfl⟩) (zob_s ew29) kc_1 rfl (Nat.le_of_ble_eq_true rfl) ⟨Nat.le_of_ble_eq_true rfl, Nat.le_of_ble_eq_true rfl⟩ ?_
                  refine z_sub [] rfl ?_
                  exact t_PQ_least_116 X H h
                · rw [if_neg q27] at h
                  refine z_aload X dd_PQ_least_99 0 rfl ?_
                  refine z_iload_n X dd_PQ_least_101 rfl 5 rfl ?_
                  refine z_iload_n X dd_PQ_least_102 rfl 4 rfl ?_
                  obtain ⟨w32, ew32, h⟩ := zb h
                  obtain ⟨q31, eq31, h⟩ := zb h
                  refine z_callVi X [.int a3, .int a2] rfl dd_PQ_least_103 (c_Way_arcsBetween l eq31) (cwV 2 X.1.2.2.2.2 (zg_V km_1512 km_1369 km_1370 km_129 km_1371) rfl rfl rfl (by decide +kernel) ⟨Nat.le_of_ble_eq_true rfl, Nat.le_of_ble_eq_true rfl⟩) (zob_s ew32) kc_1 rfl (Nat.le_of_ble_eq_true rfl) ⟨Nat.le_of_ble_eq_true rfl, Nat.le_of_ble_eq_true rfl⟩ ?_
                  refine z_goto (tgt := 116) X dd_PQ_least_106 (by decide) ?_
                  refine z_sub [] rfl ?_
                  exact t_PQ_least_116 X H h
              · rw [if_neg q20] at h
                refine z_bipush (v := (-4)) X dd_PQ_least_70 (by decide) ?_
                obtain rfl := Option.some.inj h
                exact z_iret X H.1 H.2.1 H.2.2.1 dd_PQ_least_72
            · rw [if_pos q16] at h
              refine z_sub [] rfl ?_
              exact t_PQ_least_57 X H h
        · rw [if_pos q10] at h
          refine z_sub [] rfl ?_
          exact t_PQ_least_31 X H h
end ZzM
