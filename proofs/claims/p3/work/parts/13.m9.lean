section ZzM
variable {p : Program} {l : Launch} {e : Env} {s : State} {m : MethodId} {args : Array Value} {below : List Frame} {meth : Method} {cd : Code} {Q : State → Prop} {D : va_G} {cid : Nat → ClassId} {B n0 : Nat}
theorem dd_Reader_checkLast_0 : decode bb_Reader_checkLast 0 = .ok (.aload_n 0, 1) := by decide +kernel
theorem dd_Reader_checkLast_1 : decode bb_Reader_checkLast 1 = .ok (.getfield 30, 3) := by decide +kernel
theorem dd_Reader_checkLast_4 : decode bb_Reader_checkLast 4 = .ok (.sipush 200, 3) := by decide +kernel
theorem dd_Reader_checkLast_7 : decode bb_Reader_checkLast 7 = .ok (.if_icmp .ne 28, 3) := by decide +kernel
theorem dd_Reader_checkLast_10 : decode bb_Reader_checkLast 10 = .ok (.iload_n 1, 1) := by decide +kernel
theorem dd_Reader_checkLast_11 : decode bb_Reader_checkLast 11 = .ok (.iconst 1, 1) := by decide +kernel
theorem dd_Reader_checkLast_12 : decode bb_Reader_checkLast 12 = .ok (.if_icmp .eq 23, 3) := by decide +kernel
theorem dd_Reader_checkLast_15 : decode bb_Reader_checkLast 15 = .ok (.aload_n 0, 1) := by decide +kernel
theorem dd_Reader_checkLast_16 : decode bb_Reader_checkLast 16 = .ok (.getfield 36, 3) := by decide +kernel
theorem dd_Reader_checkLast_19 : decode bb_Reader_checkLast 19 = .ok (.ifCond .eq 11, 3) := by decide +kernel
theorem dd_Reader_checkLast_22 : decode bb_Reader_checkLast 22 = .ok (.aload_n 0, 1) := by decide +kernel
theorem dd_Reader_checkLast_23 : decode bb_Reader_checkLast 23 = .ok (.getfield 36, 3) := by decide +kernel
theorem dd_Reader_checkLast_26 : decode bb_Reader_checkLast 26 = .ok (.iconst 3, 1) := by decide +kernel
theorem dd_Reader_checkLast_27 : decode bb_Reader_checkLast 27 = .ok (.if_icmp .le 8, 3) := by decide +kernel
theorem dd_Reader_checkLast_30 : decode bb_Reader_checkLast 30 = .ok (.aload_n 0, 1) := by decide +kernel
theorem dd_Reader_checkLast_31 : decode bb_Reader_checkLast 31 = .ok (.iconst 3, 1) := by decide +kernel
theorem dd_Reader_checkLast_32 : decode bb_Reader_checkLast 32 = .ok (.invokevirtual 133, 3) := by decide +kernel
theorem dd_Reader_checkLast_35 : decode bb_Reader_checkLast 35 = .ok (.return_, 1) := by decide +kernel
def f_Reader_checkLast_35 (nf : Nat)  (c : Zc) : Option (Zc) :=
  some c
def f_Reader_checkLast_30 (nf : Nat) (x0 : Nat) (c : Zc) : Option (Zc) :=
  (zob c x0 5).bind fun w7 => (f_Reader_fail nf x0 3 c).bind fun q6 => f_Reader_checkLast_35 nf  q6
def f_Reader_checkLast (nf : Nat) (a0 : Nat) (a1 : Int32) (c : Zc) : Option (Zc) :=
  (zgi c a0 5 7).bind fun v1 => if v1 = 200 then (if a1 = 1 then (f_Reader_checkLast_35 nf  c) else ((zgi c a0 5 9).bind fun v4 => if v4 = 0 then (f_Reader_checkLast_30 nf a0 c) else ((zgi c a0 5 9).bind fun v8 => if v8 ≤ 3 then (f_Reader_checkLast_35 nf  c) else (f_Reader_checkLast_30 nf a0 c)))) else (f_Reader_checkLast_35 nf  c)
set_option maxRecDepth 100000 in
set_option maxHeartbeats 4000000 in
theorem t_Reader_checkLast_35  (X : zX p s m args cd D cid B bb_Reader_checkLast 2 rr_Reader zT) (H : zH s meth B n0 none "checkLast") {nf : Nat}  {c : Zc} {res : Zc} (h : f_Reader_checkLast_35 nf  c = some res) : Zz p l e (zRm 2 43 0 0) s m args below meth cd (MQ below (zQv D cid B res n0 0) args s 0 0 (fun q => B ≤ q)) D cid B 2 0 0 c 35 [] [] := by
  unfold f_Reader_checkLast_35 at h
  obtain rfl := Option.some.inj h
  exact z_vret X H.1 H.2.1 H.2.2.1 dd_Reader_checkLast_35
set_option maxRecDepth 100000 in
set_option maxHeartbeats 4000000 in
theorem t_Reader_checkLast_30  (X : zX p s m args cd D cid B bb_Reader_checkLast 2 rr_Reader zT) (H : zH s meth B n0 none "checkLast") {nf : Nat} {x0 : Nat} {c : Zc} {res : Zc} (h : f_Reader_checkLast_30 nf x0 c = some res) : Zz p l e (zRm 2 43 0 0) s m args below meth cd (MQ below (zQv D cid B res n0 0) args s 0 0 (fun q => B ≤ q)) D cid B 2 0 0 c 30 [(0, .ref x0)] [] := by
  unfold f_Reader_checkLast_30 at h
  refine z_aload_n X dd_Reader_checkLast_30 rfl 0 rfl ?_
  refine z_iconst (v := 3) X dd_Reader_checkLast_31 (by decide) ?_
  obtain ⟨w7, ew7, h⟩ := zb h
  obtain ⟨q6, eq6, h⟩ := zb h
  refine z_callVv X [.int 3] rfl dd_Reader_checkLast_32 (c_Reader_fail l eq6) (cwV 1 X.1.2.2.2.2 (zg_V km_998 km_1000 km_11 km_130 km_1001) rfl rfl rfl (by decide +kernel) ⟨Nat.le_of_ble_eq_true rfl, Nat.le_of_ble_eq_true rfl⟩) (zob_s ew7) kc_5 rfl (Nat.le_of_ble_eq_true rfl) ⟨Nat.le_of_ble_eq_true rfl, Nat.le_of_ble_eq_true rfl⟩ ?_
  refine z_sub [] rfl ?_
  exact t_Reader_checkLast_35 X H h
set_option maxRecDepth 100000 in
set_option maxHeartbeats 4000000 in
theorem c_Reader_checkLast (l : Launch) {nf : Nat} {a0 : Nat} {a1 : Int32} {c : Zc} {res : Zc} (h : f_Reader_checkLast nf a0 a1 c = some res) : zM l yy_Reader_checkLast ww_Reader_checkLast 2 43 0 0 [.ref a0, .int a1] c (fun D cid B => zQv D cid B res c.length 0) := by
  refine z_met (cc := bb_Reader_checkLast) (maxL := 2) (ret := none) (by decide +kernel) rfl (Nat.le_of_ble_eq_true rfl) ?_
  intro p e s m args below meth cd D cid B X h1 h2 h3 h4
  have X : zX p s m args cd D cid B bb_Reader_checkLast 2 rr_Reader zT := X
  have H : zH s meth B c.length none "checkLast" := ⟨h1, h2, h4, h3⟩
  unfold f_Reader_checkLast at h
  show Zz p l e (zRm 2 43 0 0) s m args below meth cd _ D cid B 2 0 0 c 0 [(0, .ref a0), (1, .int a1)] []
  refine z_aload_n X dd_Reader_checkLast_0 rfl 0 rfl ?_
  obtain ⟨v1, ev1, h⟩ := zb h
  refine z_get (j := 7) X dd_Reader_checkLast_1 kc_5 ki_5 (by decide) km_481 (zgi_v ev1) ?_
  refine z_sipush (v := 200) X dd_Reader_checkLast_4 (by decide) ?_
  refine z_icmp_ne (tgt := 35) X dd_Reader_checkLast_7 (by decide) (fun q2 => ?_) (fun q2 => ?_)
  · rw [if_neg q2] at h
    refine z_sub [] rfl ?_
    exact t_Reader_checkLast_35 X H h
  · rw [if_pos q2] at h
    refine z_iload_n X dd_Reader_checkLast_10 rfl 1 rfl ?_
    refine z_iconst (v := 1) X dd_Reader_checkLast_11 (by decide) ?_
    refine z_icmp_eq (tgt := 35) X dd_Reader_checkLast_12 (by decide) (fun q3 => ?_) (fun q3 => ?_)
    · rw [if_pos q3] at h
      refine z_sub [] rfl ?_
      exact t_Reader_checkLast_35 X H h
    · rw [if_neg q3] at h
      refine z_aload_n X dd_Reader_checkLast_15 rfl 0 rfl ?_
      obtain ⟨v4, ev4, h⟩ := zb h
      refine z_get (j := 9) X dd_Reader_checkLast_16 kc_5 ki_5 (by decide) km_483 (zgi_v ev4) ?_
      refine z_if_eq (tgt := 30) X dd_Reader_checkLast_19 (by decide) (fun q5 => ?_) (fun q5 => ?_)
      · rw [if_pos q5] at h
        refine z_sub [0] rfl ?_
        exact t_Reader_checkLast_30 X H h
      · rw [if_neg q5] at h
        refine z_aload_n X dd_Reader_checkLast_22 rfl 0 rfl ?_
        obtain ⟨v8, ev8, h⟩ := zb h
        refine z_get (j := 9) X dd_Reader_checkLast_23 kc_5 ki_5 (by decide) km_483 (zgi_v ev8) ?_
        refine z_iconst (v := 3) X dd_Reader_checkLast_26 (by decide) ?_
        refine z_icmp_le (tgt := 35) X dd_Reader_checkLast_27 (by decide) (fun q9 => ?_) (fun q9 => ?_)
        · rw [if_pos q9] at h
          refine z_sub [] rfl ?_
          exact t_Reader_checkLast_35 X H h
        · rw [if_neg q9] at h
          refine z_sub [0] rfl ?_
          exact t_Reader_checkLast_30 X H h
theorem dd_Reader_read_0 : decode bb_Reader_read 0 = .ok (.aload_n 0, 1) := by decide +kernel
theorem dd_Reader_read_1 : decode bb_Reader_read 1 = .ok (.aload_n 3, 1) := by decide +kernel
theorem dd_Reader_read_2 : decode bb_Reader_read 2 = .ok (.iload 4, 2) := by decide +kernel
theorem dd_Reader_read_4 : decode bb_Reader_read 4 = .ok (.invokevirtual 91, 3) := by decide +kernel
theorem dd_Reader_read_7 : decode bb_Reader_read 7 = .ok (.aload_n 0, 1) := by decide +kernel
theorem dd_Reader_read_8 : decode bb_Reader_read 8 = .ok (.getfield 18, 3) := by decide +kernel
theorem dd_Reader_read_11 : decode bb_Reader_read 11 = .ok (.aload_n 1, 1) := by decide +kernel
theorem dd_Reader_read_12 : decode bb_Reader_read 12 = .ok (.iload_n 2, 1) := by decide +kernel
theorem dd_Reader_read_13 : decode bb_Reader_read 13 = .ok (.invokevirtual 95, 3) := by decide +kernel
theorem dd_Reader_read_16 : decode bb_Reader_read 16 = .ok (.iconst 0, 1) := by decide +kernel
theorem dd_Reader_read_17 : decode bb_Reader_read 17 = .ok (.istore 5, 2) := by decide +kernel
theorem dd_Reader_read_19 : decode bb_Reader_read 19 = .ok (.iload 5, 2) := by decide +kernel
theorem dd_Reader_read_21 : decode bb_Reader_read 21 = .ok (.aload_n 0, 1) := by decide +kernel
theorem dd_Reader_read_22 : decode bb_Reader_read 22 = .ok (.getfield 18, 3) := by decide +kernel
theorem dd_Reader_read_25 : decode bb_Reader_read 25 = .ok (.getfield 99, 3) := by decide +kernel
theorem dd_Reader_read_28 : decode bb_Reader_read 28 = .ok (.if_icmp .gt 90, 3) := by decide +kernel
theorem dd_Reader_read_31 : decode bb_Reader_read 31 = .ok (.aload_n 0, 1) := by decide +kernel
theorem dd_Reader_read_32 : decode bb_Reader_read 32 = .ok (.getfield 36, 3) := by decide +kernel
theorem dd_Reader_read_35 : decode bb_Reader_read 35 = .ok (.ifCond .ne 83, 3) := by decide +kernel
theorem dd_Reader_read_38 : decode bb_Reader_read 38 = .ok (.aload_n 0, 1) := by decide +kernel
theorem dd_Reader_read_39 : decode bb_Reader_read 39 = .ok (.iload 5, 2) := by decide +kernel
theorem dd_Reader_read_41 : decode bb_Reader_read 41 = .ok (.putfield 30, 3) := by decide +kernel
theorem dd_Reader_read_44 : decode bb_Reader_read 44 = .ok (.aload_n 0, 1) := by decide +kernel
theorem dd_Reader_read_45 : decode bb_Reader_read 45 = .ok (.iconst 0, 1) := by decide +kernel
theorem dd_Reader_read_46 : decode bb_Reader_read 46 = .ok (.putfield 66, 3) := by decide +kernel
theorem dd_Reader_read_49 : decode bb_Reader_read 49 = .ok (.iconst 0, 1) := by decide +kernel
theorem dd_Reader_read_50 : decode bb_Reader_read 50 = .ok (.istore 6, 2) := by decide +kernel
theorem dd_Reader_read_52 : decode bb_Reader_read 52 = .ok (.iload 6, 2) := by decide +kernel
theorem dd_Reader_read_54 : decode bb_Reader_read 54 = .ok (.bipush 8, 2) := by decide +kernel
theorem dd_Reader_read_56 : decode bb_Reader_read 56 = .ok (.if_icmp .ge 42, 3) := by decide +kernel
theorem dd_Reader_read_59 : decode bb_Reader_read 59 = .ok (.aload_n 0, 1) := by decide +kernel
theorem dd_Reader_read_60 : decode bb_Reader_read 60 = .ok (.getfield 66, 3) := by decide +kernel
theorem dd_Reader_read_63 : decode bb_Reader_read 63 = .ok (.ifCond .ne 35, 3) := by decide +kernel
theorem dd_Reader_read_66 : decode bb_Reader_read 66 = .ok (.aload_n 0, 1) := by decide +kernel
theorem dd_Reader_read_67 : decode bb_Reader_read 67 = .ok (.getfield 36, 3) := by decide +kernel
theorem dd_Reader_read_70 : decode bb_Reader_read 70 = .ok (.ifCond .ne 28, 3) := by decide +kernel
theorem dd_Reader_read_73 : decode bb_Reader_read 73 = .ok (.aload_n 0, 1) := by decide +kernel
theorem dd_Reader_read_74 : decode bb_Reader_read 74 = .ok (.iconst 1, 1) := by decide +kernel
theorem dd_Reader_read_75 : decode bb_Reader_read 75 = .ok (.putfield 66, 3) := by decide +kernel
theorem dd_Reader_read_78 : decode bb_Reader_read 78 = .ok (.aload_n 0, 1) := by decide +kernel
theorem dd_Reader_read_79 : decode bb_Reader_read 79 = .ok (.aload_n 0, 1) := by decide +kernel
theorem dd_Reader_read_80 : decode bb_Reader_read 80 = .ok (.getfield 18, 3) := by decide +kernel
theorem dd_Reader_read_83 : decode bb_Reader_read 83 = .ok (.getfield 102, 3) := by decide +kernel
theorem dd_Reader_read_86 : decode bb_Reader_read 86 = .ok (.iload 5, 2) := by decide +kernel
theorem dd_Reader_read_88 : decode bb_Reader_read 88 = .ok (.iaload, 1) := by decide +kernel
theorem dd_Reader_read_89 : decode bb_Reader_read 89 = .ok (.invokevirtual 105, 3) := by decide +kernel
theorem dd_Reader_read_92 : decode bb_Reader_read 92 = .ok (.iinc 6 1, 3) := by decide +kernel
theorem dd_Reader_read_95 : decode bb_Reader_read 95 = .ok (.goto (-43), 3) := by decide +kernel
theorem dd_Reader_read_98 : decode bb_Reader_read 98 = .ok (.aload_n 0, 1) := by decide +kernel
theorem dd_Reader_read_99 : decode bb_Reader_read 99 = .ok (.aload_n 0, 1) := by decide +kernel
theorem dd_Reader_read_100 : decode bb_Reader_read 100 = .ok (.getfield 18, 3) := by decide +kernel
theorem dd_Reader_read_103 : decode bb_Reader_read 103 = .ok (.getfield 102, 3) := by decide +kernel
theorem dd_Reader_read_106 : decode bb_Reader_read 106 = .ok (.iload 5, 2) := by decide +kernel
theorem dd_Reader_read_108 : decode bb_Reader_read 108 = .ok (.iaload, 1) := by decide +kernel
theorem dd_Reader_read_109 : decode bb_Reader_read 109 = .ok (.invokevirtual 109, 3) := by decide +kernel
theorem dd_Reader_read_112 : decode bb_Reader_read 112 = .ok (.iinc 5 1, 3) := by decide +kernel
theorem dd_Reader_read_115 : decode bb_Reader_read 115 = .ok (.goto (-96), 3) := by decide +kernel
theorem dd_Reader_read_118 : decode bb_Reader_read 118 = .ok (.aload_n 3, 1) := by decide +kernel
theorem dd_Reader_read_119 : decode bb_Reader_read 119 = .ok (.aload_n 0, 1) := by decide +kernel
theorem dd_Reader_read_120 : decode bb_Reader_read 120 = .ok (.getfield 36, 3) := by decide +kernel
theorem dd_Reader_read_123 : decode bb_Reader_read 123 = .ok (.ifCond .ne 7, 3) := by decide +kernel
theorem dd_Reader_read_126 : decode bb_Reader_read 126 = .ok (.iconst 1, 1) := by decide +kernel
theorem dd_Reader_read_127 : decode bb_Reader_read 127 = .ok (.goto 4, 3) := by decide +kernel
theorem dd_Reader_read_130 : decode bb_Reader_read 130 = .ok (.iconst 0, 1) := by decide +kernel
theorem dd_Reader_read_131 : decode bb_Reader_read 131 = .ok (.putfield 112, 3) := by decide +kernel
theorem dd_Reader_read_134 : decode bb_Reader_read 134 = .ok (.aload_n 0, 1) := by decide +kernel
theorem dd_Reader_read_135 : decode bb_Reader_read 135 = .ok (.getfield 36, 3) := by decide +kernel
theorem dd_Reader_read_138 : decode bb_Reader_read 138 = .ok (.ireturn, 1) := by decide +kernel
def g_Reader_read_52 (nf : Nat) (x0 : Nat) (x3 : Nat) (x5 : Int32) (x6 : Int32) (c : Zc) : Option ((Nat × Nat × Int32 × Int32 × Zc) ⊕ (Nat × Nat × Int32 × Zc)) :=
  if 8 ≤ x6 then (some (.inr (x0, x3, x5, c))) else ((zgi c x0 5 19).bind fun v14 => if v14 = 0 then ((zgi c x0 5 9).bind fun v16 => if v16 = 0 then ((zpv c x0 5 19 (.int 1)).bind fun c18 => (zgr c18 x0 5 1).bind fun v19 => (zgr c18 v19 3 0).bind fun v20 => (zai c18 v20 0 x5).bind fun v21 => (zob c18 x0 5).bind fun w23 => (f_Reader_take nf x0 v21 c18).bind fun q22 => some (.inl (x0, x3, x5, (x6 + 1), q22))) else (some (.inr (x0, x3, x5, c)))) else (some (.inr (x0, x3, x5, c))))
def f_Reader_read_98 (nf : Nat) (x0 : Nat) (x3 : Nat) (x5 : Int32) (c : Zc) : Option ((Nat × Nat × Int32 × Zc) ⊕ (Nat × Nat × Zc)) :=
  (zgr c x0 5 1).bind fun v24 => (zgr c v24 3 0).bind fun v25 => (zai c v25 0 x5).bind fun v26 => (zob c x0 5).bind fun w28 => (f_Reader_checkLast nf x0 v26 c).bind fun q27 => some (.inl (x0, x3, (x5 + 1), q27))
def f_Reader_read_52 (nf : Nat) (x0 : Nat) (x3 : Nat) (x5 : Int32) (x6 : Int32) (c : Zc) : Option ((Nat × Nat × Int32 × Zc) ⊕ (Nat × Nat × Zc)) :=
  (zlp (fun a => g_Reader_read_52 nf a.1 a.2.1 a.2.2.1 a.2.2.2.1 a.2.2.2.2) nf (x0, x3, x5, x6, c)).bind fun b => f_Reader_read_98 nf b.1 b.2.1 b.2.2.1 b.2.2.2
def g_Reader_read_19 (nf : Nat) (x0 : Nat) (x3 : Nat) (x5 : Int32) (c : Zc) : Option ((Nat × Nat × Int32 × Zc) ⊕ (Nat × Nat × Zc)) :=
  (zgr c x0 5 1).bind fun v6 => (zgi c v6 3 3).bind fun v7 => if v7 < x5 then (some (.inr (x0, x3, c))) else ((zgi c x0 5 9).bind fun v9 => if v9 = 0 then ((zpv c x0 5 7 (.int x5)).bind fun c11 => (zpv c11 x0 5 19 (.int 0)).bind fun c12 => f_Reader_read_52 nf x0 x3 x5 0 c12) else (some (.inr (x0, x3, c))))
def f_Reader_read_131 (nf : Nat) (x0 : Nat) (s0 : Nat) (s1 : Int32) (c : Zc) : Option (Int32 × Zc) :=
  (zpz c s0 2 0 s1).bind fun c31 => (zgi c31 x0 5 9).bind fun v32 => some (v32, c31)
def f_Reader_read_118 (nf : Nat) (x0 : Nat) (x3 : Nat) (c : Zc) : Option (Int32 × Zc) :=
  (zgi c x0 5 9).bind fun v29 => if v29 = 0 then (f_Reader_read_131 nf x0 x3 1 c) else (f_Reader_read_131 nf x0 x3 0 c)
def f_Reader_read_19 (nf : Nat) (x0 : Nat) (x3 : Nat) (x5 : Int32) (c : Zc) : Option (Int32 × Zc) :=
  (zlp (fun a => g_Reader_read_19 nf a.1 a.2.1 a.2.2.1 a.2.2.2) nf (x0, x3, x5, c)).bind fun b => f_Reader_read_118 nf b.1 b.2.1 b.2.2
def f_Reader_read (nf : Nat) (a0 : Nat) (a1 : Nat) (a2 : Int32) (a3 : Nat) (a4 : Int32) (c : Zc) : Option (Int32 × Zc) :=
  (zob c a0 5).bind fun w2 => (f_Reader_begin nf a0 a3 a4 c).bind fun q1 => (zgr q1 a0 5 1).bind fun v3 => (zob q1 v3 3).bind fun w5 => (f_Tokens_split nf v3 a1 a2 q1).bind fun q4 => f_Reader_read_19 nf a0 a3 0 q4
set_option maxRecDepth 100000 in
set_option maxHeartbeats 4000000 in
theorem u_Reader_read_52  (X : zX p s m args cd D cid B bb_Reader_read 7 rr_Reader zT) (H : zH s meth B n0 (some (.int)) "read") {nf : Nat} {x0 : Nat} {x3 : Nat} {x5 : Int32} {x6 : Int32} {c : Zc} {r : (Nat × Nat × Int32 × Int32 × Zc) ⊕ (Nat × Nat × Int32 × Zc)} (h : g_Reader_read_52 nf x0 x3 x5 x6 c = some r) (k0 : ∀ a, r = .inl a → (fun a : Nat × Nat × Int32 × Int32 × Zc => Zz p l e (zRm 9 203 0 0) s m args below meth cd Q D cid B 7 0 0 a.2.2.2.2 52 [(0, .ref a.1), (3, .ref a.2.1), (5, .int a.2.2.1), (6, .int a.2.2.2.1)] []) a) (k1 : ∀ b, r = .inr b → (fun b : Nat × Nat × Int32 × Zc => Zz p l e (zRm 9 203 0 0) s m args below meth cd Q D cid B 7 0 0 b.2.2.2 98 [(0, .ref b.1), (3, .ref b.2.1), (5, .int b.2.2.1)] []) b) : Zz p l e (zRm 9 203 0 0) s m args below meth cd Q D cid B 7 0 0 c 52 [(0, .ref x0), (3, .ref x3), (5, .int x5), (6, .int x6)] [] := by
  unfold g_Reader_read_52 at h
  refine z_iload X dd_Reader_read_52 3 rfl ?_
  refine z_bipush (v := 8) X dd_Reader_read_54 (by decide) ?_
  refine z_icmp_ge (tgt := 98) X dd_Reader_read_56 (by decide) (fun q13 => ?_) (fun q13 => ?_)
  · rw [if_pos q13] at h
    refine z_sub [0, 1, 2] rfl ?_
    obtain rfl := Option.some.inj h
    exact k1 _ rfl
  · rw [if_neg q13] at h
    refine z_aload_n X dd_Reader_read_59 rfl 0 rfl ?_
    obtain ⟨v14, ev14, h⟩ := zb h
    refine z_get (j := 19) X dd_Reader_read_60 kc_5 ki_5 (by decide) km_493 (zgi_v ev14) ?_
    refine z_if_ne (tgt := 98) X dd_Reader_read_63 (by decide) (fun q15 => ?_) (fun q15 => ?_)
    · rw [if_neg q15] at h
      refine z_sub [0, 1, 2] rfl ?_
      obtain rfl := Option.some.inj h
      exact k1 _ rfl
    · rw [if_pos q15] at h
      refine z_aload_n X dd_Reader_read_66 rfl 0 rfl ?_
      obtain ⟨v16, ev16, h⟩ := zb h
      refine z_get (j := 9) X dd_Reader_read_67 kc_5 ki_5 (by decide) km_483 (zgi_v ev16) ?_
      refine z_if_ne (tgt := 98) X dd_Reader_read_70 (by decide) (fun q17 => ?_) (fun q17 => ?_)
      · rw [if_neg q17] at h
        refine z_sub [0, 1, 2] rfl ?_
        obtain rfl := Option.some.inj h
        exact k1 _ rfl
      · rw [if_pos q17] at h
        refine z_aload_n X dd_Reader_read_73 rfl 0 rfl ?_
        refine z_iconst (v := 1) X dd_Reader_read_74 (by decide) ?_
        obtain ⟨c18, ec18, h⟩ := zb h
        refine z_put (j := 19) X dd_Reader_read_75 kc_5 ki_5 tt_Reader tk_Reader nn_Reader (by decide) km_493 rfl (tk_Reader 19 (by decide)) rfl rfl ec18 ?_
        refine z_aload_n X dd_Reader_read_78 rfl 0 rfl ?_
        refine z_aload_n X dd_Reader_read_79 rfl 0 rfl ?_
        obtain ⟨v19, ev19, h⟩ := zb h
        refine z_get (j := 1) X dd_Reader_read_80 kc_5 ki_5 (by decide) km_475 (zgr_v ev19) ?_
        obtain ⟨v20, ev20, h⟩ := zb h
        refine z_get (j := 0) X dd_Reader_read_83 kc_3 ki_3 (by decide) km_417 (zgr_v ev20) ?_
        refine z_iload X dd_Reader_read_86 2 rfl ?_
        obtain ⟨v21, ev21, h⟩ := zb h
        refine z_iaload X dd_Reader_read_88 rfl ev21 ?_
        obtain ⟨w23, ew23, h⟩ := zb h
        obtain ⟨q22, eq22, h⟩ := zb h
        refine z_callVv X [.int v21] rfl dd_Reader_read_89 (c_Reader_take l eq22) (cwV 1 X.1.2.2.2.2 (zg_V km_994 km_996 km_10 km_130 km_997) rfl rfl rfl (by decide +kernel) ⟨Nat.le_of_ble_eq_true rfl, Nat.le_of_ble_eq_true rfl⟩) (zob_s ew23) kc_5 rfl (Nat.le_of_ble_eq_true rfl) ⟨Nat.le_of_ble_eq_true rfl, Nat.le_of_ble_eq_true rfl⟩ ?_
        refine z_iinc (v := (x6 + 1)) (lv' := [(6, .int (x6 + 1)), (0, .ref x0), (3, .ref x3), (5, .int x5)]) X dd_Reader_read_92 3 rfl rfl (by decide) rfl ?_
        refine z_goto (tgt := 52) X dd_Reader_read_95 (by decide) ?_
        refine z_sub [1, 2, 3, 0] rfl ?_
        obtain rfl := Option.some.inj h
        exact k0 _ rfl
set_option maxRecDepth 100000 in
set_option maxHeartbeats 4000000 in
theorem t_Reader_read_98  (X : zX p s m args cd D cid B bb_Reader_read 7 rr_Reader zT) (H : zH s meth B n0 (some (.int)) "read") {nf : Nat} {x0 : Nat} {x3 : Nat} {x5 : Int32} {c : Zc} {r : (Nat × Nat × Int32 × Zc) ⊕ (Nat × Nat × Zc)} (h : f_Reader_read_98 nf x0 x3 x5 c = some r) (k0 : ∀ a, r = .inl a → (fun a : Nat × Nat × Int32 × Zc => Zz p l e (zRm 9 203 0 0) s m args below meth cd Q D cid B 7 0 0 a.2.2.2 19 [(0, .ref a.1), (3, .ref a.2.1), (5, .int a.2.2.1)] []) a) (k1 : ∀ b, r = .inr b → (fun b : Nat × Nat × Zc => Zz p l e (zRm 9 203 0 0) s m args below meth cd Q D cid B 7 0 0 b.2.2 118 [(0, .ref b.1), (3, .ref b.2.1)] []) b) : Zz p l e (zRm 9 203 0 0) s m args below meth cd Q D cid B 7 0 0 c 98 [(0, .ref x0), (3, .ref x3), (5, .int x5)] [] := by
  unfold f_Reader_read_98 at h
  refine z_aload_n X dd_Reader_read_98 rfl 0 rfl ?_
  refine z_aload_n X dd_Reader_read_99 rfl 0 rfl ?_
  obtain ⟨v24, ev24, h⟩ := zb h
  refine z_get (j := 1) X dd_Reader_read_100 kc_5 ki_5 (by decide) km_475 (zgr_v ev24) ?_
  obtain ⟨v25, ev25, h⟩ := zb h
  refine z_get (j := 0) X dd_Reader_read_103 kc_3 ki_3 (by decide) km_417 (zgr_v ev25) ?_
  refine z_iload X dd_Reader_read_106 2 rfl ?_
  obtain ⟨v26, ev26, h⟩ := zb h
  refine z_iaload X dd_Reader_read_108 rfl ev26 ?_
  obtain ⟨w28, ew28, h⟩ := zb h
  obtain ⟨q27, eq27, h⟩ := zb h
  refine z_callVv X [.int v26] rfl dd_Reader_read_109 (c_Reader_checkLast l eq27) (cwV 1 X.1.2.2.2.2 (zg_V km_1226 km_1228 km_43 km_130 km_1229) rfl rfl rfl (by decide +kernel) ⟨Nat.le_of_ble_eq_true rfl, Nat.le_of_ble_eq_true rfl⟩) (zob_s ew28) kc_5 rfl (Nat.le_of_ble_eq_true rfl) ⟨Nat.le_of_ble_eq_true rfl, Nat.le_of_ble_eq_true rfl⟩ ?_
  refine z_iinc (v := (x5 + 1)) (lv' := [(5, .int (x5 + 1)), (0, .ref x0), (3, .ref x3)]) X dd_Reader_read_112 2 rfl rfl (by decide) rfl ?_
  refine z_goto (tgt := 19) X dd_Reader_read_115 (by decide) ?_
  refine z_sub [1, 2, 0] rfl ?_
  obtain rfl := Option.some.inj h
  exact k0 _ rfl
set_option maxRecDepth 100000 in
set_option maxHeartbeats 4000000 in
theorem t_Reader_read_52  (X : zX p s m args cd D cid B bb_Reader_read 7 rr_Reader zT) (H : zH s meth B n0 (some (.int)) "read") {nf : Nat} {x0 : Nat} {x3 : Nat} {x5 : Int32} {x6 : Int32} {c : Zc} {r : (Nat × Nat × Int32 × Zc) ⊕ (Nat × Nat × Zc)} (h : f_Reader_read_52 nf x0 x3 x5 x6 c = some r) (k0 : ∀ a, r = .inl a → (fun a : Nat × Nat × Int32 × Zc => Zz p l e (zRm 9 203 0 0) s m args below meth cd Q D cid B 7 0 0 a.2.2.2 19 [(0, .ref a.1), (3, .ref a.2.1), (5, .int a.2.2.1)] []) a) (k1 : ∀ b, r = .inr b → (fun b : Nat × Nat × Zc => Zz p l e (zRm 9 203 0 0) s m args below meth cd Q D cid B 7 0 0 b.2.2 118 [(0, .ref b.1), (3, .ref b.2.1)] []) b) : Zz p l e (zRm 9 203 0 0) s m args below meth cd Q D cid B 7 0 0 c 52 [(0, .ref x0), (3, .ref x3), (5, .int x5), (6, .int x6)] [] := by
  unfold f_Reader_read_52 at h
  obtain ⟨b, eb, h⟩ := zb h
  refine zlp_ok (P := fun a : Nat × Nat × Int32 × Int32 × Zc => Zz p l e (zRm 9 203 0 0) s m args below meth cd _ D cid B 7 0 0 a.2.2.2.2 52 [(0, .ref a.1), (3, .ref a.2.1), (5, .int a.2.2.1), (6, .int a.2.2.2.1)] []) (G := fun b : Nat × Nat × Int32 × Zc => Zz p l e (zRm 9 203 0 0) s m args below meth cd _ D cid B 7 0 0 b.2.2.2 98 [(0, .ref b.1), (3, .ref b.2.1), (5, .int b.2.2.1)] []) (fun a r ha k0 k1 => u_Reader_read_52 X H ha k0 k1) nf _ b eb ?_
  exact t_Reader_read_98 X H h k0 k1
set_option maxRecDepth 100000 in
set_option maxHeartbeats 4000000 in
theorem u_Reader_read_19  (X : zX p s m args cd D cid B bb_Reader_read 7 rr_Reader zT) (H : zH s meth B n0 (some (.int)) "read") {nf : Nat} {x0 : Nat} {x3 : Nat} {x5 : Int32} {c : Zc} {r : (Nat × Nat × Int32 × Zc) ⊕ (Nat × Nat × Zc)} (h : g_Reader_read_19 nf x0 x3 x5 c = some r) (k0 : ∀ a, r = .inl a → (fun a : Nat × Nat × Int32 × Zc => Zz p l e (zRm 9 203 0 0) s m args below meth cd Q D cid B 7 0 0 a.2.2.2 19 [(0, .ref a.1), (3, .ref a.2.1), (5, .int a.2.2.1)] []) a) (k1 : ∀ b, r = .inr b → (fun b : Nat × Nat × Zc => Zz p l e (zRm 9 203 0 0) s m args below meth cd Q D cid B 7 0 0 b.2.2 118 [(0, .ref b.1), (3, .ref b.2.1)] []) b) : Zz p l e (zRm 9 203 0 0) s m args below meth cd Q D cid B 7 0 0 c 19 [(0, .ref x0), (3, .ref x3), (5, .int x5)] [] := by
  unfold g_Reader_read_19 at h
  refine z_iload X dd_Reader_read_19 2 rfl ?_
  refine z_aload_n X dd_Reader_read_21 rfl 0 rfl ?_
  obtain ⟨v6, ev6, h⟩ := zb h
  refine z_get (j := 1) X dd_Reader_read_22 kc_5 ki_5 (by decide) km_475 (zgr_v ev6) ?_
  obtain ⟨v7, ev7, h⟩ := zb h
  refine z_get (j := 3) X dd_Reader_read_25 kc_3 ki_3 (by decide) km_423 (zgi_v ev7) ?_
  refine z_icmp_gt (tgt := 118) X dd_Reader_read_28 (by decide) (fun q8 => ?_) (fun q8 => ?_)
  · rw [if_pos q8] at h
    refine z_sub [0, 1] rfl ?_
    obtain rfl := Option.some.inj h
    exact k1 _ rfl
  · rw [if_neg q8] at h
    refine z_aload_n X dd_Reader_read_31 rfl 0 rfl ?_
    obtain ⟨v9, ev9, h⟩ := zb h
    refine z_get (j := 9) X dd_Reader_read_32 kc_5 ki_5 (by decide) km_483 (zgi_v ev9) ?_
    refine z_if_ne (tgt := 118) X dd_Reader_read_35 (by decide) (fun q10 => ?_) (fun q10 => ?_)
    · rw [if_neg q10] at h
      refine z_sub [0, 1] rfl ?_
      obtain rfl := Option.some.inj h
      exact k1 _ rfl
    · rw [if_pos q10] at h
      refine z_aload_n X dd_Reader_read_38 rfl 0 rfl ?_
      refine z_iload X dd_Reader_read_39 2 rfl ?_
      obtain ⟨c11, ec11, h⟩ := zb h
      refine z_put (j := 7) X dd_Reader_read_41 kc_5 ki_5 tt_Reader tk_Reader nn_Reader (by decide) km_481 rfl (tk_Reader 7 (by decide)) rfl rfl ec11 ?_
      refine z_aload_n X dd_Reader_read_44 rfl 0 rfl ?_
      refine z_iconst (v := 0) X dd_Reader_read_45 (by decide) ?_
      obtain ⟨c12, ec12, h⟩ := zb h
      refine z_put (j := 19) X dd_Reader_read_46 kc_5 ki_5 tt_Reader tk_Reader nn_Reader (by decide) km_493 rfl (tk_Reader 19 (by decide)) rfl rfl ec12 ?_
      refine z_iconst (v := 0) X dd_Reader_read_49 (by decide) ?_
      refine z_istore (lv' := [(6, .int 0), (0, .ref x0), (3, .ref x3), (5, .int x5)]) X dd_Reader_read_50 (by decide) rfl ?_
      refine z_sub [1, 2, 3, 0] rfl ?_
      exact t_Reader_read_52 X H h k0 k1
set_option maxRecDepth 100000 in
set_option maxHeartbeats 4000000 in
theorem t_Reader_read_131  (X : zX p s m args cd D cid B bb_Reader_read 7 rr_Reader zT) (H : zH s meth B n0 (some (.int)) "read") {nf : Nat} {x0 : Nat} {s0 : Nat} {s1 : Int32} {c : Zc} {res : Int32 × Zc} (h : f_Reader_read_131 nf x0 s0 s1 c = some res) : Zz p l e (zRm 9 203 0 0) s m args below meth cd (MQ below (zQi D cid B res.1 res.2 n0 0) args s 0 0 (fun q => B ≤ q)) D cid B 7 0 0 c 131 [(0, .ref x0)] [.int s1, .ref s0] := by
  unfold f_Reader_read_131 at h
  obtain ⟨c31, ec31, h⟩ := zb h
  obtain ⟨bc31, ec31⟩ := zpz_s ec31
  refine z_put (j := 0) X dd_Reader_read_131 kc_2 ki_2 tt_Text tk_Text nn_Text (by decide) km_300 rfl (tk_Text 0 (by decide)) (zn_z bc31) (zf_z bc31) ec31 ?_
  refine z_aload_n X dd_Reader_read_134 rfl 0 rfl ?_
  obtain ⟨v32, ev32, h⟩ := zb h
  refine z_get (j := 9) X dd_Reader_read_135 kc_5 ki_5 (by decide) km_483 (zgi_v ev32) ?_
  obtain rfl := Option.some.inj h
  exact z_iret X H.1 H.2.1 H.2.2.1 dd_Reader_read_138
set_option maxRecDepth 100000 in
set_option maxHeartbeats 4000000 in
theorem t_Reader_read_118  (X : zX p s m args cd D cid B bb_Reader_read 7 rr_Reader zT) (H : zH s meth B n0 (some (.int)) "read") {nf : Nat} {x0 : Nat} {x3 : Nat} {c : Zc} {res : Int32 × Zc} (h : f_Reader_read_118 nf x0 x3 c = some res) : Zz p l e (zRm 9 203 0 0) s m args below meth cd (MQ below (zQi D cid B res.1 res.2 n0 0) args s 0 0 (fun q => B ≤ q)) D cid B 7 0 0 c 118 [(0, .ref x0), (3, .ref x3)] [] := by
  unfold f_Reader_read_118 at h
  refine z_aload_n X dd_Reader_read_118 rfl 1 rfl ?_
  refine z_aload_n X dd_Reader_read_119 rfl 0 rfl ?_
  obtain ⟨v29, ev29, h⟩ := zb h
  refine z_get (j := 9) X dd_Reader_read_120 kc_5 ki_5 (by decide) km_483 (zgi_v ev29) ?_
  refine z_if_ne (tgt := 130) X dd_Reader_read_123 (by decide) (fun q30 => ?_) (fun q30 => ?_)
  · rw [if_neg q30] at h
    refine z_iconst (v := 0) X dd_Reader_read_130 (by decide) ?_
    refine z_sub [0] rfl ?_
    exact t_Reader_read_131 X H h
  · rw [if_pos q30] at h
    refine z_iconst (v := 1) X dd_Reader_read_126 (by decide) ?_
    refine z_goto (tgt := 131) X dd_Reader_read_127 (by decide) ?_
    refine z_sub [0] rfl ?_
    exact t_Reader_read_131 X H h
set_option maxRecDepth 100000 in
set_option maxHeartbeats 4000000 in
theorem t_Reader_read_19  (X : zX p s m args cd D cid B bb_Reader_read 7 rr_Reader zT) (H : zH s meth B n0 (some (.int)) "read") {nf : Nat} {x0 : Nat} {x3 : Nat} {x5 : Int32} {c : Zc} {res : Int32 × Zc} (h : f_Reader_read_19 nf x0 x3 x5 c = some res) : Zz p l e (zRm 9 203 0 0) s m args below meth cd (MQ below (zQi D cid B res.1 res.2 n0 0) args s 0 0 (fun q => B ≤ q)) D cid B 7 0 0 c 19 [(0, .ref x0), (3, .ref x3), (5, .int x5)] [] := by
  unfold f_Reader_read_19 at h
  obtain ⟨b, eb, h⟩ := zb h
  refine zlp_ok (P := fun a : Nat × Nat × Int32 × Zc => Zz p l e (zRm 9 203 0 0) s m args below meth cd _ D cid B 7 0 0 a.2.2.2 19 [(0, .ref a.1), (3, .ref a.2.1), (5, .int a.2.2.1)] []) (G := fun b : Nat × Nat × Zc => Zz p l e (zRm 9 203 0 0) s m args below meth cd _ D cid B 7 0 0 b.2.2 118 [(0, .ref b.1), (3, .ref b.2.1)] []) (fun a r ha k0 k1 => u_Reader_read_19 X H ha k0 k1) nf _ b eb ?_
  exact t_Reader_read_118 X H h
set_option maxRecDepth 100000 in
set_option maxHeartbeats 4000000 in
theorem c_Reader_read (l : Launch) {nf : Nat} {a0 : Nat} {a1 : Nat} {a2 : Int32} {a3 : Nat} {a4 : Int32} {c : Zc} {res : Int32 × Zc} (h : f_Reader_read nf a0 a1 a2 a3 a4 c = some res) : zM l yy_Reader_read ww_Reader_read 9 203 0 0 [.ref a0, .ref a1, .int a2, .ref a3, .int a4] c (fun D cid B => zQi D cid B res.1 res.2 c.length 0) := by
  refine z_met (cc := bb_Reader_read) (maxL := 7) (ret := (some (.int))) (by decide +kernel) rfl (Nat.le_of_ble_eq_true rfl) ?_
  intro p e s m args below meth cd D cid B X h1 h2 h3 h4
  have X : zX p s m args cd D cid B bb_Reader_read 7 rr_Reader zT := X
  have H : zH s meth B c.length (some (.int)) "read" := ⟨h1, h2, h4, h3⟩
  unfold f_Reader_read at h
  show Zz p l e (zRm 9 203 0 0) s m args below meth cd _ D cid B 7 0 0 c 0 [(0, .ref a0), (1, .ref a1), (2, .int a2), (3, .ref a3), (4, .int a4)] []
  refine z_aload_n X dd_Reader_read_0 rfl 0 rfl ?_
  refine z_aload_n X dd_Reader_read_1 rfl 3 rfl ?_
  refine z_iload X dd_Reader_read_2 4 rfl ?_
  obtain ⟨w2, ew2, h⟩ := zb h
  obtain ⟨q1, eq1, h⟩ := zb h
  refine z_callVv X [.ref a3, .int a4] rfl dd_Reader_read_4 (c_Reader_begin l eq1) (cwV 2 X.1.2.2.2.2 (zg_V km_816 km_818 km_1 km_130 km_819) rfl rfl rfl (by decide +kernel) ⟨Nat.le_of_ble_eq_true rfl, Nat.le_of_ble_eq_true rfl⟩) (zob_s ew2) kc_5 rfl (Nat.le_of_ble_eq_true rfl) ⟨Nat.le_of_ble_eq_true rfl, Nat.le_of_ble_eq_true rfl⟩ ?_
  refine z_aload_n X dd_Reader_read_7 rfl 0 rfl ?_
  obtain ⟨v3, ev3, h⟩ := zb h
  refine z_get (j := 1) X dd_Reader_read_8 kc_5 ki_5 (by decide) km_475 (zgr_v ev3) ?_
  refine z_aload_n X dd_Reader_read_11 rfl 1 rfl ?_
  refine z_iload_n X dd_Reader_read_12 rfl 2 rfl ?_
  obtain ⟨w5, ew5, h⟩ := zb h
  obtain ⟨q4, eq4, h⟩ := zb h
  refine z_callVv X [.ref a1, .int a2] rfl dd_Reader_read_13 (c_Tokens_split l eq4) (cwV 2 X.1.2.2.2.2 (zg_V km_837 km_838 km_839 km_131 km_840) rfl rfl rfl (by decide +kernel) ⟨Nat.le_of_ble_eq_true rfl, Nat.le_of_ble_eq_true rfl⟩) (zob_s ew5) kc_3 rfl (Nat.le_of_ble_eq_true rfl) ⟨Nat.le_of_ble_eq_true rfl, Nat.le_of_ble_eq_true rfl⟩ ?_
  refine z_iconst (v := 0) X dd_Reader_read_16 (by decide) ?_
  refine z_istore (lv' := [(5, .int 0), (0, .ref a0), (1, .ref a1), (2, .int a2), (3, .ref a3), (4, .int a4)]) X dd_Reader_read_17 (by decide) rfl ?_
  refine z_sub [1, 4, 0] rfl ?_
  exact t_Reader_read_19 X H h
theorem dd_Search_init_0 : decode bb_Search_init 0 = .ok (.aload_n 0, 1) := by decide +kernel
theorem dd_Search_init_1 : decode bb_Search_init 1 = .ok (.invokespecial 3, 3) := by decide +kernel
theorem dd_Search_init_4 : decode bb_Search_init 4 = .ok (.aload_n 0, 1) := by decide +kernel
theorem dd_Search_init_5 : decode bb_Search_init 5 = .ok (.bipush 8, 2) := by decide +kernel
theorem dd_Search_init_7 : decode bb_Search_init 7 = .ok (.newarray .int, 2) := by decide +kernel
theorem dd_Search_init_9 : decode bb_Search_init 9 = .ok (.putfield 9, 3) := by decide +kernel
theorem dd_Search_init_12 : decode bb_Search_init 12 = .ok (.aload_n 0, 1) := by decide +kernel
theorem dd_Search_init_13 : decode bb_Search_init 13 = .ok (.bipush 8, 2) := by decide +kernel
theorem dd_Search_init_15 : decode bb_Search_init 15 = .ok (.newarray .int, 2) := by decide +kernel
theorem dd_Search_init_17 : decode bb_Search_init 17 = .ok (.putfield 15, 3) := by decide +kernel
theorem dd_Search_init_20 : decode bb_Search_init 20 = .ok (.aload_n 0, 1) := by decide +kernel
theorem dd_Search_init_21 : decode bb_Search_init 21 = .ok (.bipush 8, 2) := by decide +kernel
theorem dd_Search_init_23 : decode bb_Search_init 23 = .ok (.newarray .int, 2) := by decide +kernel
theorem dd_Search_init_25 : decode bb_Search_init 25 = .ok (.putfield 18, 3) := by decide +kernel
theorem dd_Search_init_28 : decode bb_Search_init 28 = .ok (.aload_n 0, 1) := by decide +kernel
theorem dd_Search_init_29 : decode bb_Search_init 29 = .ok (.iconst 0, 1) := by decide +kernel
theorem dd_Search_init_30 : decode bb_Search_init 30 = .ok (.putfield 21, 3) := by decide +kernel
theorem dd_Search_init_33 : decode bb_Search_init 33 = .ok (.aload_n 0, 1) := by decide +kernel
theorem dd_Search_init_34 : decode bb_Search_init 34 = .ok (.iconst 0, 1) := by decide +kernel
theorem dd_Search_init_35 : decode bb_Search_init 35 = .ok (.putfield 25, 3) := by decide +kernel
theorem dd_Search_init_38 : decode bb_Search_init 38 = .ok (.aload_n 0, 1) := by decide +kernel
theorem dd_Search_init_39 : decode bb_Search_init 39 = .ok (.iconst 0, 1) := by decide +kernel
theorem dd_Search_init_40 : decode bb_Search_init 40 = .ok (.putfield 28, 3) := by decide +kernel
theorem dd_Search_init_43 : decode bb_Search_init 43 = .ok (.aload_n 0, 1) := by decide +kernel
theorem dd_Search_init_44 : decode bb_Search_init 44 = .ok (.iconst 0, 1) := by decide +kernel
theorem dd_Search_init_45 : decode bb_Search_init 45 = .ok (.putfield 31, 3) := by decide +kernel
theorem dd_Search_init_48 : decode bb_Search_init 48 = .ok (.aload_n 0, 1) := by decide +kernel
theorem dd_Search_init_49 : decode bb_Search_init 49 = .ok (.iconst 0, 1) := by decide +kernel
theorem dd_Search_init_50 : decode bb_Search_init 50 = .ok (.putfield 34, 3) := by decide +kernel
theorem dd_Search_init_53 : decode bb_Search_init 53 = .ok (.aload_n 0, 1) := by decide +kernel
theorem dd_Search_init_54 : decode bb_Search_init 54 = .ok (.iconst (-1), 1) := by decide +kernel
theorem dd_Search_init_55 : decode bb_Search_init 55 = .ok (.putfield 37, 3) := by decide +kernel
theorem dd_Search_init_58 : decode bb_Search_init 58 = .ok (.aload_n 0, 1) := by decide +kernel
theorem dd_Search_init_59 : decode bb_Search_init 59 = .ok (.aload_n 1, 1) := by decide +kernel
theorem dd_Search_init_60 : decode bb_Search_init 60 = .ok (.putfield 40, 3) := by decide +kernel
theorem dd_Search_init_63 : decode bb_Search_init 63 = .ok (.aload_n 0, 1) := by decide +kernel
theorem dd_Search_init_64 : decode bb_Search_init 64 = .ok (.aload_n 2, 1) := by decide +kernel
theorem dd_Search_init_65 : decode bb_Search_init 65 = .ok (.putfield 44, 3) := by decide +kernel
theorem dd_Search_init_68 : decode bb_Search_init 68 = .ok (.aload_n 0, 1) := by decide +kernel
theorem dd_Search_init_69 : decode bb_Search_init 69 = .ok (.aload_n 3, 1) := by decide +kernel
theorem dd_Search_init_70 : decode bb_Search_init 70 = .ok (.putfield 48, 3) := by decide +kernel
theorem dd_Search_init_73 : decode bb_Search_init 73 = .ok (.return_, 1) := by decide +kernel
def f_Search_init (nf mc ms : Nat) (a0 : Nat) (a1 : Nat) (a2 : Nat) (a3 : Nat) (c : Zc) : Option (Zc) :=
  (zlim (0 + 1) (0 + 8) mc ms).bind fun u2 => (znw c (.inl (0, 8, .inl (fun _ => 0)))).bind fun c1 => (zpv c1 a0 6 2 (.ref (List.length c))).bind fun c3 => (zlim ((0 + 1) + 1) ((0 + 8) + 8) mc ms).bind fun u5 => (znw c3 (.inl (0, 8, .inl (fun _ => 0)))).bind fun c4 => (zpv c4 a0 6 3 (.ref (List.length c3))).bind fun c6 => (zlim (((0 + 1) + 1) + 1) (((0 + 8) + 8) + 8) mc ms).bind fun u8 => (znw c6 (.inl (0, 8, .inl (fun _ => 0)))).bind fun c7 => (zpv c7 a0 6 4 (.ref (List.length c6))).bind fun c9 => (zpv c9 a0 6 6 (.int 0)).bind fun c10 => (zpv c10 a0 6 7 (.int 0)).bind fun c11 => (zpv c11 a0 6 8 (.int 0)).bind fun c12 => (zpv c12 a0 6 9 (.int 0)).bind fun c13 => (zpv c13 a0 6 10 (.int 0)).bind fun c14 => (zpv c14 a0 6 11 (.int (-1))).bind fun c15 => (zpv c15 a0 6 0 (.ref a1)).bind fun c16 => (zpv c16 a0 6 5 (.ref a2)).bind fun c17 => (zpv c17 a0 6 1 (.ref a3)).bind fun c18 => (zend (((0 + 1) + 1) + 1) (((0 + 8) + 8) + 8) mc ms).bind fun u19 => some c18
set_option maxRecDepth 100000 in
set_option maxHeartbeats 4000000 in
theorem c_Search_init (l : Launch) {nf mc ms : Nat} {a0 : Nat} {a1 : Nat} {a2 : Nat} {a3 : Nat} {c : Zc} {res : Zc} (h : f_Search_init nf mc ms a0 a1 a2 a3 c = some res) : zM l yy_Search_init ww_Search_init 1 20 mc ms [.ref a0, .ref a1, .ref a2, .ref a3] c (fun D cid B => zQv D cid B res c.length mc) := by
  refine z_met (cc := bb_Search_init) (maxL := 4) (ret := none) (by decide +kernel) rfl (Nat.le_of_ble_eq_true rfl) ?_
  intro p e s m args below meth cd D cid B X h1 h2 h3 h4
  have X : zX p s m args cd D cid B bb_Search_init 4 rr_Search zT := X
  have H : zH s meth B c.length none "<init>" := ⟨h1, h2, h4, h3⟩
  unfold f_Search_init at h
  show Zz p l e (zRm 1 20 mc ms) s m args below meth cd _ D cid B 4 0 0 c 0 [(0, .ref a0), (1, .ref a1), (2, .ref a2), (3, .ref a3)] []
  refine z_aload_n X dd_Search_init_0 rfl 0 rfl ?_
  refine z_objInit X dd_Search_init_1 km_546 km_153 km_154 (Nat.le_of_ble_eq_true rfl) (Nat.le_of_ble_eq_true rfl) ?_
  refine z_aload_n X dd_Search_init_4 rfl 0 rfl ?_
  refine z_bipush (v := 8) X dd_Search_init_5 (by decide) ?_
  obtain ⟨u2, eu2, h⟩ := zb h
  obtain ⟨c1, ec1, h⟩ := zb h
  refine z_newaC (ty := .int) X dd_Search_init_7 rfl km_206 rfl (fun _ q => by cases q) (fun _ => rfl) (fun _ => rfl) (by decide) (by decide) (by decide) (zlim_s eu2).1 (zlim_s eu2).2 ec1 ?_
  obtain ⟨c3, ec3, h⟩ := zb h
  refine z_putF (j := 2) X dd_Search_init_9 kc_6 ki_6 tt_Search tk_Search nn_Search (by decide) km_549 rfl H.2.2.2 rfl (tk_Search 2 (by decide)) rfl rfl ec3 ?_
  refine z_aload_n X dd_Search_init_12 rfl 0 rfl ?_
  refine z_bipush (v := 8) X dd_Search_init_13 (by decide) ?_
  obtain ⟨u5, eu5, h⟩ := zb h
  obtain ⟨c4, ec4, h⟩ := zb h
  refine z_newaC (ty := .int) X dd_Search_init_15 rfl km_206 rfl (fun _ q => by cases q) (fun _ => rfl) (fun _ => rfl) (by decide) (by decide) (by decide) (zlim_s eu5).1 (zlim_s eu5).2 ec4 ?_
  obtain ⟨c6, ec6, h⟩ := zb h
  refine z_putF (j := 3) X dd_Search_init_17 kc_6 ki_6 tt_Search tk_Search nn_Search (by decide) km_550 rfl H.2.2.2 rfl (tk_Search 3 (by decide)) rfl rfl ec6 ?_
  refine z_aload_n X dd_Search_init_20 rfl 0 rfl ?_
  refine z_bipush (v := 8) X dd_Search_init_21 (by decide) ?_
  obtain ⟨u8, eu8, h⟩ := zb h
  obtain ⟨c7, ec7, h⟩ := zb h
  refine z_newaC (ty := .int) X dd_Search_init_23 rfl km_206 rfl (fun _ q => by cases q) (fun _ => rfl) (fun _ => rfl) (by decide) (by decide) (by decide) (zlim_s eu8).1 (zlim_s eu8).2 ec7 ?_
  obtain ⟨c9, ec9, h⟩ := zb h
  refine z_putF (j := 4) X dd_Search_init_25 kc_6 ki_6 tt_Search tk_Search nn_Search (by decide) km_551 rfl H.2.2.2 rfl (tk_Search 4 (by decide)) rfl rfl ec9 ?_
  refine z_aload_n X dd_Search_init_28 rfl 0 rfl ?_
  refine z_iconst (v := 0) X dd_Search_init_29 (by decide) ?_
  obtain ⟨c10, ec10, h⟩ := zb h
  refine z_put (j := 6) X dd_Search_init_30 kc_6 ki_6 tt_Search tk_Search nn_Search (by decide) km_553 rfl (tk_Search 6 (by decide)) rfl rfl ec10 ?_
  refine z_aload_n X dd_Search_init_33 rfl 0 rfl ?_
  refine z_iconst (v := 0) X dd_Search_init_34 (by decide) ?_
  obtain ⟨c11, ec11, h⟩ := zb h
  refine z_put (j := 7) X dd_Search_init_35 kc_6 ki_6 tt_Search tk_Search nn_Search (by decide) km_554 rfl (tk_Search 7 (by decide)) rfl rfl ec11 ?_
  refine z_aload_n X dd_Search_init_38 rfl 0 rfl ?_
  refine z_iconst (v := 0) X dd_Search_init_39 (by decide) ?_
  obtain ⟨c12, ec12, h⟩ := zb h
  refine z_put (j := 8) X dd_Search_init_40 kc_6 ki_6 tt_Search tk_Search nn_Search (by decide) km_555 rfl (tk_Search 8 (by decide)) rfl rfl ec12 ?_
  refine z_aload_n X dd_Search_init_43 rfl 0 rfl ?_
  refine z_iconst (v := 0) X dd_Search_init_44 (by decide) ?_
  obtain ⟨c13, ec13, h⟩ := zb h
  refine z_put (j := 9) X dd_Search_init_45 kc_6 ki_6 tt_Search tk_Search nn_Search (by decide) km_556 rfl (tk_Search 9 (by decide)) rfl rfl ec13 ?_
  refine z_aload_n X dd_Search_init_48 rfl 0 rfl ?_
  refine z_iconst (v := 0) X dd_Search_init_49 (by decide) ?_
  obtain ⟨c14, ec14, h⟩ := zb h
  refine z_put (j := 10) X dd_Search_init_50 kc_6 ki_6 tt_Search tk_Search nn_Search (by decide) km_557 rfl (tk_Search 10 (by decide)) rfl rfl ec14 ?_
  refine z_aload_n X dd_Search_init_53 rfl 0 rfl ?_
  refine z_iconst (v := (-1)) X dd_Search_init_54 (by decide) ?_
  obtain ⟨c15, ec15, h⟩ := zb h
  refine z_put (j := 11) X dd_Search_init_55 kc_6 ki_6 tt_Search tk_Search nn_Search (by decide) km_558 rfl (tk_Search 11 (by decide)) rfl rfl ec15 ?_
  refine z_aload_n X dd_Search_init_58 rfl 0 rfl ?_
  refine z_aload_n X dd_Search_init_59 rfl 1 rfl ?_
  obtain ⟨c16, ec16, h⟩ := zb h
  refine z_putF (j := 0) X dd_Search_init_60 kc_6 ki_6 tt_Search tk_Search nn_Search (by decide) km_547 rfl H.2.2.2 rfl (tk_Search 0 (by decide)) rfl rfl ec16 ?_
  refine z_aload_n X dd_Search_init_63 rfl 0 rfl ?_
  refine z_aload_n X dd_Search_init_64 rfl 2 rfl ?_
  obtain ⟨c17, ec17, h⟩ := zb h
  refine z_put (j := 5) X dd_Search_init_65 kc_6 ki_6 tt_Search tk_Search nn_Search (by decide) km_552 rfl (tk_Search 5 (by decide)) rfl rfl ec17 ?_
  refine z_aload_n X dd_Search_init_68 rfl 0 rfl ?_
  refine z_aload_n X dd_Search_init_69 rfl 3 rfl ?_
  obtain ⟨c18, ec18, h⟩ := zb h
  refine z_putF (j := 1) X dd_Search_init_70 kc_6 ki_6 tt_Search tk_Search nn_Search (by decide) km_548 rfl H.2.2.2 rfl (tk_Search 1 (by decide)) rfl rfl ec18 ?_
  obtain ⟨u19, eu19, h⟩ := zb h
  refine z_wid (zend_s eu19).1 (zend_s eu19).2 ?_
  obtain rfl := Option.some.inj h
  exact z_vret X H.1 H.2.1 H.2.2.1 dd_Search_init_73
theorem dd_Search_candidates_0 : decode bb_Search_candidates 0 = .ok (.aload_n 0, 1) := by decide +kernel
theorem dd_Search_candidates_1 : decode bb_Search_candidates 1 = .ok (.getfield 9, 3) := by decide +kernel
theorem dd_Search_candidates_4 : decode bb_Search_candidates 4 = .ok (.iload_n 1, 1) := by decide +kernel
theorem dd_Search_candidates_5 : decode bb_Search_candidates 5 = .ok (.iaload, 1) := by decide +kernel
theorem dd_Search_candidates_6 : decode bb_Search_candidates 6 = .ok (.istore_n 2, 1) := by decide +kernel
theorem dd_Search_candidates_7 : decode bb_Search_candidates 7 = .ok (.aload_n 0, 1) := by decide +kernel
theorem dd_Search_candidates_8 : decode bb_Search_candidates 8 = .ok (.getfield 15, 3) := by decide +kernel
theorem dd_Search_candidates_11 : decode bb_Search_candidates 11 = .ok (.iload_n 1, 1) := by decide +kernel
theorem dd_Search_candidates_12 : decode bb_Search_candidates 12 = .ok (.iaload, 1) := by decide +kernel
theorem dd_Search_candidates_13 : decode bb_Search_candidates 13 = .ok (.istore_n 3, 1) := by decide +kernel
theorem dd_Search_candidates_14 : decode bb_Search_candidates 14 = .ok (.iconst 1, 1) := by decide +kernel
theorem dd_Search_candidates_15 : decode bb_Search_candidates 15 = .ok (.aload_n 0, 1) := by decide +kernel
theorem dd_Search_candidates_16 : decode bb_Search_candidates 16 = .ok (.getfield 40, 3) := by decide +kernel
theorem dd_Search_candidates_19 : decode bb_Search_candidates 19 = .ok (.getfield 84, 3) := by decide +kernel
theorem dd_Search_candidates_22 : decode bb_Search_candidates 22 = .ok (.ishl, 1) := by decide +kernel
theorem dd_Search_candidates_23 : decode bb_Search_candidates 23 = .ok (.iconst 1, 1) := by decide +kernel
theorem dd_Search_candidates_24 : decode bb_Search_candidates 24 = .ok (.isub, 1) := by decide +kernel
theorem dd_Search_candidates_25 : decode bb_Search_candidates 25 = .ok (.istore 4, 2) := by decide +kernel
theorem dd_Search_candidates_27 : decode bb_Search_candidates 27 = .ok (.aload_n 0, 1) := by decide +kernel
theorem dd_Search_candidates_28 : decode bb_Search_candidates 28 = .ok (.getfield 28, 3) := by decide +kernel
theorem dd_Search_candidates_31 : decode bb_Search_candidates 31 = .ok (.istore 5, 2) := by decide +kernel
theorem dd_Search_candidates_33 : decode bb_Search_candidates 33 = .ok (.iload 5, 2) := by decide +kernel
theorem dd_Search_candidates_35 : decode bb_Search_candidates 35 = .ok (.aload_n 0, 1) := by decide +kernel
theorem dd_Search_candidates_36 : decode bb_Search_candidates 36 = .ok (.getfield 31, 3) := by decide +kernel
theorem dd_Search_candidates_39 : decode bb_Search_candidates 39 = .ok (.if_icmp .ge 42, 3) := by decide +kernel
theorem dd_Search_candidates_42 : decode bb_Search_candidates 42 = .ok (.aload_n 0, 1) := by decide +kernel
theorem dd_Search_candidates_43 : decode bb_Search_candidates 43 = .ok (.getfield 44, 3) := by decide +kernel
theorem dd_Search_candidates_46 : decode bb_Search_candidates 46 = .ok (.getfield 89, 3) := by decide +kernel
theorem dd_Search_candidates_49 : decode bb_Search_candidates 49 = .ok (.iload 5, 2) := by decide +kernel
theorem dd_Search_candidates_51 : decode bb_Search_candidates 51 = .ok (.iaload, 1) := by decide +kernel
theorem dd_Search_candidates_52 : decode bb_Search_candidates 52 = .ok (.sipush 256, 3) := by decide +kernel
theorem dd_Search_candidates_55 : decode bb_Search_candidates 55 = .ok (.idiv, 1) := by decide +kernel
theorem dd_Search_candidates_56 : decode bb_Search_candidates 56 = .ok (.iload_n 2, 1) := by decide +kernel
theorem dd_Search_candidates_57 : decode bb_Search_candidates 57 = .ok (.if_icmp .ne 18, 3) := by decide +kernel
theorem dd_Search_candidates_60 : decode bb_Search_candidates 60 = .ok (.iload 4, 2) := by decide +kernel
theorem dd_Search_candidates_62 : decode bb_Search_candidates 62 = .ok (.aload_n 0, 1) := by decide +kernel
theorem dd_Search_candidates_63 : decode bb_Search_candidates 63 = .ok (.getfield 44, 3) := by decide +kernel
theorem dd_Search_candidates_66 : decode bb_Search_candidates 66 = .ok (.getfield 92, 3) := by decide +kernel
theorem dd_Search_candidates_69 : decode bb_Search_candidates 69 = .ok (.iload 5, 2) := by decide +kernel
theorem dd_Search_candidates_71 : decode bb_Search_candidates 71 = .ok (.iaload, 1) := by decide +kernel
theorem dd_Search_candidates_72 : decode bb_Search_candidates 72 = .ok (.iand, 1) := by decide +kernel
theorem dd_Search_candidates_73 : decode bb_Search_candidates 73 = .ok (.istore 4, 2) := by decide +kernel
theorem dd_Search_candidates_75 : decode bb_Search_candidates 75 = .ok (.iinc 5 1, 3) := by decide +kernel
theorem dd_Search_candidates_78 : decode bb_Search_candidates 78 = .ok (.goto (-45), 3) := by decide +kernel
theorem dd_Search_candidates_81 : decode bb_Search_candidates 81 = .ok (.aload_n 0, 1) := by decide +kernel
theorem dd_Search_candidates_82 : decode bb_Search_candidates 82 = .ok (.getfield 21, 3) := by decide +kernel
theorem dd_Search_candidates_85 : decode bb_Search_candidates 85 = .ok (.istore 5, 2) := by decide +kernel
theorem dd_Search_candidates_87 : decode bb_Search_candidates 87 = .ok (.iload 5, 2) := by decide +kernel
theorem dd_Search_candidates_89 : decode bb_Search_candidates 89 = .ok (.aload_n 0, 1) := by decide +kernel
theorem dd_Search_candidates_90 : decode bb_Search_candidates 90 = .ok (.getfield 25, 3) := by decide +kernel
theorem dd_Search_candidates_93 : decode bb_Search_candidates 93 = .ok (.if_icmp .ge 144, 3) := by decide +kernel
theorem dd_Search_candidates_96 : decode bb_Search_candidates 96 = .ok (.iload 4, 2) := by decide +kernel
theorem dd_Search_candidates_98 : decode bb_Search_candidates 98 = .ok (.ifCond .eq 139, 3) := by decide +kernel
theorem dd_Search_candidates_101 : decode bb_Search_candidates 101 = .ok (.aload_n 0, 1) := by decide +kernel
theorem dd_Search_candidates_102 : decode bb_Search_candidates 102 = .ok (.getfield 44, 3) := by decide +kernel
theorem dd_Search_candidates_105 : decode bb_Search_candidates 105 = .ok (.getfield 95, 3) := by decide +kernel
theorem dd_Search_candidates_108 : decode bb_Search_candidates 108 = .ok (.iload 5, 2) := by decide +kernel
theorem dd_Search_candidates_110 : decode bb_Search_candidates 110 = .ok (.aaload, 1) := by decide +kernel
theorem dd_Search_candidates_111 : decode bb_Search_candidates 111 = .ok (.astore 6, 2) := by decide +kernel
theorem dd_Search_candidates_113 : decode bb_Search_candidates 113 = .ok (.aload 6, 2) := by decide +kernel
theorem dd_Search_candidates_115 : decode bb_Search_candidates 115 = .ok (.getfield 99, 3) := by decide +kernel
theorem dd_Search_candidates_118 : decode bb_Search_candidates 118 = .ok (.iload_n 2, 1) := by decide +kernel
theorem dd_Search_candidates_119 : decode bb_Search_candidates 119 = .ok (.if_icmp .ne 25, 3) := by decide +kernel
theorem dd_Search_candidates_122 : decode bb_Search_candidates 122 = .ok (.aload 6, 2) := by decide +kernel
theorem dd_Search_candidates_124 : decode bb_Search_candidates 124 = .ok (.getfield 104, 3) := by decide +kernel
theorem dd_Search_candidates_127 : decode bb_Search_candidates 127 = .ok (.iload_n 2, 1) := by decide +kernel
theorem dd_Search_candidates_128 : decode bb_Search_candidates 128 = .ok (.if_icmp .ne 16, 3) := by decide +kernel
theorem dd_Search_candidates_131 : decode bb_Search_candidates 131 = .ok (.iload 4, 2) := by decide +kernel
theorem dd_Search_candidates_133 : decode bb_Search_candidates 133 = .ok (.aload 6, 2) := by decide +kernel
theorem dd_Search_candidates_135 : decode bb_Search_candidates 135 = .ok (.getfield 107, 3) := by decide +kernel
theorem dd_Search_candidates_138 : decode bb_Search_candidates 138 = .ok (.iand, 1) := by decide +kernel
theorem dd_Search_candidates_139 : decode bb_Search_candidates 139 = .ok (.istore 4, 2) := by decide +kernel
theorem dd_Search_candidates_141 : decode bb_Search_candidates 141 = .ok (.goto 90, 3) := by decide +kernel
theorem dd_Search_candidates_144 : decode bb_Search_candidates 144 = .ok (.aload 6, 2) := by decide +kernel
theorem dd_Search_candidates_146 : decode bb_Search_candidates 146 = .ok (.getfield 99, 3) := by decide +kernel
theorem dd_Search_candidates_149 : decode bb_Search_candidates 149 = .ok (.iload_n 2, 1) := by decide +kernel
theorem dd_Search_candidates_150 : decode bb_Search_candidates 150 = .ok (.if_icmp .ne 39, 3) := by decide +kernel
theorem dd_Search_candidates_153 : decode bb_Search_candidates 153 = .ok (.iload_n 3, 1) := by decide +kernel
theorem dd_Search_candidates_154 : decode bb_Search_candidates 154 = .ok (.aload 6, 2) := by decide +kernel
theorem dd_Search_candidates_156 : decode bb_Search_candidates 156 = .ok (.getfield 104, 3) := by decide +kernel
theorem dd_Search_candidates_159 : decode bb_Search_candidates 159 = .ok (.ishr, 1) := by decide +kernel
theorem dd_Search_candidates_160 : decode bb_Search_candidates 160 = .ok (.iconst 1, 1) := by decide +kernel
theorem dd_Search_candidates_161 : decode bb_Search_candidates 161 = .ok (.iand, 1) := by decide +kernel
theorem dd_Search_candidates_162 : decode bb_Search_candidates 162 = .ok (.ifCond .eq 27, 3) := by decide +kernel
theorem dd_Search_candidates_165 : decode bb_Search_candidates 165 = .ok (.iload 4, 2) := by decide +kernel
theorem dd_Search_candidates_167 : decode bb_Search_candidates 167 = .ok (.aload 6, 2) := by decide +kernel
theorem dd_Search_candidates_169 : decode bb_Search_candidates 169 = .ok (.getfield 110, 3) := by decide +kernel
theorem dd_Search_candidates_172 : decode bb_Search_candidates 172 = .ok (.aload_n 0, 1) := by decide +kernel
theorem dd_Search_candidates_173 : decode bb_Search_candidates 173 = .ok (.getfield 48, 3) := by decide +kernel
theorem dd_Search_candidates_176 : decode bb_Search_candidates 176 = .ok (.aload 6, 2) := by decide +kernel
theorem dd_Search_candidates_178 : decode bb_Search_candidates 178 = .ok (.getfield 104, 3) := by decide +kernel
theorem dd_Search_candidates_181 : decode bb_Search_candidates 181 = .ok (.iaload, 1) := by decide +kernel
theorem dd_Search_candidates_182 : decode bb_Search_candidates 182 = .ok (.iaload, 1) := by decide +kernel
theorem dd_Search_candidates_183 : decode bb_Search_candidates 183 = .ok (.iand, 1) := by decide +kernel
theorem dd_Search_candidates_184 : decode bb_Search_candidates 184 = .ok (.istore 4, 2) := by decide +kernel
theorem dd_Search_candidates_186 : decode bb_Search_candidates 186 = .ok (.goto 45, 3) := by decide +kernel
theorem dd_Search_candidates_189 : decode bb_Search_candidates 189 = .ok (.aload 6, 2) := by decide +kernel
theorem dd_Search_candidates_191 : decode bb_Search_candidates 191 = .ok (.getfield 104, 3) := by decide +kernel
theorem dd_Search_candidates_194 : decode bb_Search_candidates 194 = .ok (.iload_n 2, 1) := by decide +kernel
theorem dd_Search_candidates_195 : decode bb_Search_candidates 195 = .ok (.if_icmp .ne 36, 3) := by decide +kernel
theorem dd_Search_candidates_198 : decode bb_Search_candidates 198 = .ok (.iload_n 3, 1) := by decide +kernel
theorem dd_Search_candidates_199 : decode bb_Search_candidates 199 = .ok (.aload 6, 2) := by decide +kernel
theorem dd_Search_candidates_201 : decode bb_Search_candidates 201 = .ok (.getfield 99, 3) := by decide +kernel
theorem dd_Search_candidates_204 : decode bb_Search_candidates 204 = .ok (.ishr, 1) := by decide +kernel
theorem dd_Search_candidates_205 : decode bb_Search_candidates 205 = .ok (.iconst 1, 1) := by decide +kernel
theorem dd_Search_candidates_206 : decode bb_Search_candidates 206 = .ok (.iand, 1) := by decide +kernel
theorem dd_Search_candidates_207 : decode bb_Search_candidates 207 = .ok (.ifCond .eq 24, 3) := by decide +kernel
theorem dd_Search_candidates_210 : decode bb_Search_candidates 210 = .ok (.iload 4, 2) := by decide +kernel
theorem dd_Search_candidates_212 : decode bb_Search_candidates 212 = .ok (.aload 6, 2) := by decide +kernel
theorem dd_Search_candidates_214 : decode bb_Search_candidates 214 = .ok (.getfield 113, 3) := by decide +kernel
theorem dd_Search_candidates_217 : decode bb_Search_candidates 217 = .ok (.aload_n 0, 1) := by decide +kernel
theorem dd_Search_candidates_218 : decode bb_Search_candidates 218 = .ok (.getfield 48, 3) := by decide +kernel
theorem dd_Search_candidates_221 : decode bb_Search_candidates 221 = .ok (.aload 6, 2) := by decide +kernel
theorem dd_Search_candidates_223 : decode bb_Search_candidates 223 = .ok (.getfield 99, 3) := by decide +kernel
theorem dd_Search_candidates_226 : decode bb_Search_candidates 226 = .ok (.iaload, 1) := by decide +kernel
theorem dd_Search_candidates_227 : decode bb_Search_candidates 227 = .ok (.iaload, 1) := by decide +kernel
theorem dd_Search_candidates_228 : decode bb_Search_candidates 228 = .ok (.iand, 1) := by decide +kernel
theorem dd_Search_candidates_229 : decode bb_Search_candidates 229 = .ok (.istore 4, 2) := by decide +kernel
theorem dd_Search_candidates_231 : decode bb_Search_candidates 231 = .ok (.iinc 5 1, 3) := by decide +kernel
theorem dd_Search_candidates_234 : decode bb_Search_candidates 234 = .ok (.goto (-147), 3) := by decide +kernel
theorem dd_Search_candidates_237 : decode bb_Search_candidates 237 = .ok (.iload 4, 2) := by decide +kernel
theorem dd_Search_candidates_239 : decode bb_Search_candidates 239 = .ok (.ireturn, 1) := by decide +kernel
def f_Search_candidates_75 (nf : Nat) (x0 : Nat) (x2 : Int32) (x3 : Int32) (x4 : Int32) (x5 : Int32) (c : Zc) : Option ((Nat × Int32 × Int32 × Int32 × Int32 × Zc) ⊕ (Nat × Int32 × Int32 × Int32 × Zc)) :=
  some (.inl (x0, x2, x3, x4, (x5 + 1), c))
def g_Search_candidates_33 (nf : Nat) (x0 : Nat) (x2 : Int32) (x3 : Int32) (x4 : Int32) (x5 : Int32) (c : Zc) : Option ((Nat × Int32 × Int32 × Int32 × Int32 × Zc) ⊕ (Nat × Int32 × Int32 × Int32 × Zc)) :=
  (zgi c x0 6 9).bind fun v8 => if v8 ≤ x5 then (some (.inr (x0, x2, x3, x4, c))) else ((zgr c x0 6 5).bind fun v10 => (zgr c v10 2 6).bind fun v11 => (zai c v11 0 x5).bind fun v12 => if (v12 / 256) = x2 then ((zgr c x0 6 5).bind fun v15 => (zgr c v15 2 7).bind fun v16 => (zai c v16 0 x5).bind fun v17 => f_Search_candidates_75 nf x0 x2 x3 (x4 &&& v17) x5 c) else (f_Search_candidates_75 nf x0 x2 x3 x4 x5 c))
def f_Search_candidates_231 (nf : Nat) (x0 : Nat) (x2 : Int32) (x3 : Int32) (x4 : Int32) (x5 : Int32) (c : Zc) : Option ((Nat × Int32 × Int32 × Int32 × Int32 × Zc) ⊕ (Int32 × Zc)) :=
  some (.inl (x0, x2, x3, x4, (x5 + 1), c))
def f_Search_candidates_189 (nf : Nat) (x0 : Nat) (x2 : Int32) (x3 : Int32) (x4 : Int32) (x5 : Int32) (x6 : Nat) (c : Zc) : Option ((Nat × Int32 × Int32 × Int32 × Int32 × Zc) ⊕ (Int32 × Zc)) :=
  (zgi c x6 1 1).bind fun v29 => if v29 = x2 then ((zgi c x6 1 0).bind fun v31 => if ((x3 >>> (v31 &&& 31)) &&& 1) = 0 then (f_Search_candidates_231 nf x0 x2 x3 x4 x5 c) else ((zgr c x6 1 14).bind fun v33 => (zgr c x0 6 1).bind fun v34 => (zgi c x6 1 0).bind fun v35 => (zai c v34 0 v35).bind fun v36 => (zai c v33 0 v36).bind fun v37 => f_Search_candidates_231 nf x0 x2 x3 (x4 &&& v37) x5 c)) else (f_Search_candidates_231 nf x0 x2 x3 x4 x5 c)
def f_Search_candidates_144 (nf : Nat) (x0 : Nat) (x2 : Int32) (x3 : Int32) (x4 : Int32) (x5 : Int32) (x6 : Nat) (c : Zc) : Option ((Nat × Int32 × Int32 × Int32 × Int32 × Zc) ⊕ (Int32 × Zc)) :=
  (zgi c x6 1 0).bind fun v27 => if v27 = x2 then ((zgi c x6 1 1).bind fun v38 => if ((x3 >>> (v38 &&& 31)) &&& 1) = 0 then (f_Search_candidates_189 nf x0 x2 x3 x4 x5 x6 c) else ((zgr c x6 1 15).bind fun v40 => (zgr c x0 6 1).bind fun v41 => (zgi c x6 1 1).bind fun v42 => (zai c v41 0 v42).bind fun v43 => (zai c v40 0 v43).bind fun v44 => f_Search_candidates_231 nf x0 x2 x3 (x4 &&& v44) x5 c)) else (f_Search_candidates_189 nf x0 x2 x3 x4 x5 x6 c)
def g_Search_candidates_87 (nf : Nat) (x0 : Nat) (x2 : Int32) (x3 : Int32) (x4 : Int32) (x5 : Int32) (c : Zc) : Option ((Nat × Int32 × Int32 × Int32 × Int32 × Zc) ⊕ (Int32 × Zc)) :=
  (zgi c x0 6 7).bind fun v19 => if v19 ≤ x5 then (some (.inr (x4, c))) else (if x4 = 0 then (some (.inr (x4, c))) else ((zgr c x0 6 5).bind fun v22 => (zgr c v22 2 4).bind fun v23 => (zar c v23 3 x5).bind fun v24 => (zgi c v24 1 0).bind fun v25 => if v25 = x2 then ((zgi c v24 1 1).bind fun v45 => if v45 = x2 then ((zgi c v24 1 16).bind fun v47 => f_Search_candidates_231 nf x0 x2 x3 (x4 &&& v47) x5 c) else (f_Search_candidates_144 nf x0 x2 x3 x4 x5 v24 c)) else (f_Search_candidates_144 nf x0 x2 x3 x4 x5 v24 c)))
def f_Search_candidates_237 (nf : Nat) (x4 : Int32) (c : Zc) : Option (Int32 × Zc) :=
  some (x4, c)
def f_Search_candidates_87 (nf : Nat) (x0 : Nat) (x2 : Int32) (x3 : Int32) (x4 : Int32) (x5 : Int32) (c : Zc) : Option (Int32 × Zc) :=
  (zlp (fun a => g_Search_candidates_87 nf a.1 a.2.1 a.2.2.1 a.2.2.2.1 a.2.2.2.2.1 a.2.2.2.2.2) nf (x0, x2, x3, x4, x5, c)).bind fun b => f_Search_candidates_237 nf b.1 b.2
def f_Search_candidates_33 (nf : Nat) (x0 : Nat) (x2 : Int32) (x3 : Int32) (x4 : Int32) (x5 : Int32) (c : Zc) : Option (Int32 × Zc) :=
  (zlp (fun a => g_Search_candidates_33 nf a.1 a.2.1 a.2.2.1 a.2.2.2.1 a.2.2.2.2.1 a.2.2.2.2.2) nf (x0, x2, x3, x4, x5, c)).bind fun b => (zgi b.2.2.2.2 b.1 6 6).bind fun v18 => f_Search_candidates_87 nf b.1 b.2.1 b.2.2.1 b.2.2.2.1 v18 b.2.2.2.2
def f_Search_candidates (nf : Nat) (a0 : Nat) (a1 : Int32) (c : Zc) : Option (Int32 × Zc) :=
  (zgr c a0 6 2).bind fun v1 => (zai c v1 0 a1).bind fun v2 => (zgr c a0 6 3).bind fun v3 => (zai c v3 0 a1).bind fun v4 => (zgr c a0 6 0).bind fun v5 => (zgi c v5 0 7).bind fun v6 => (zgi c a0 6 8).bind fun v7 => f_Search_candidates_33 nf a0 v2 v4 ((1 <<< (v6 &&& 31)) - 1) v7 c
set_option maxRecDepth 100000 in
set_option maxHeartbeats 4000000 in
theorem t_Search_candidates_75  (X : zX p s m args cd D cid B bb_Search_candidates 7 rr_Search zT) (H : zH s meth B n0 (some (.int)) "candidates") {nf : Nat} {x0 : Nat} {x2 : Int32} {x3 : Int32} {x4 : Int32} {x5 : Int32} {c : Zc} {r : (Nat × Int32 × Int32 × Int32 × Int32 × Zc) ⊕ (Nat × Int32 × Int32 × Int32 × Zc)} (h : f_Search_candidates_75 nf x0 x2 x3 x4 x5 c = some r) (k0 : ∀ a, r = .inl a → (fun a : Nat × Int32 × Int32 × Int32 × Int32 × Zc => Zz p l e (zRm 0 0 0 0) s m args below meth cd Q D cid B 7 0 0 a.2.2.2.2.2 33 [(0, .ref a.1), (2, .int a.2.1), (3, .int a.2.2.1), (4, .int a.2.2.2.1), (5, .int a.2.2.2.2.1)] []) a) (k1 : ∀ b, r = .inr b → (fun b : Nat × Int32 × Int32 × Int32 × Zc => Zz p l e (zRm 0 0 0 0) s m args below meth cd Q D cid B 7 0 0 b.2.2.2.2 81 [(0, .ref b.1), (2, .int b.2.1), (3, .int b.2.2.1), (4, .int b.2.2.2.1)] []) b) : Zz p l e (zRm 0 0 0 0) s m args below meth cd Q D cid B 7 0 0 c 75 [(0, .ref x0), (2, .int x2), (3, .int x3), (4, .int x4), (5, .int x5)] [] := by
  unfold f_Search_candidates_75 at h
  refine z_iinc (v := (x5 + 1)) (lv' := [(5, .int (x5 + 1)), (0, .ref x0), (2, .int x2), (3, .int x3), (4, .int x4)]) X dd_Search_candidates_75 4 rfl rfl (by decide) rfl ?_
  refine z_goto (tgt := 33) X dd_Search_candidates_78 (by decide) ?_
  refine z_sub [1, 2, 3, 4, 0] rfl ?_
  obtain rfl := Option.some.inj h
  exact k0 _ rfl
set_option maxRecDepth 100000 in
set_option maxHeartbeats 4000000 in
theorem u_Search_candidates_33  (X : zX p s m args cd D cid B bb_Search_candidates 7 rr_Search zT) (H : zH s meth B n0 (some (.int)) "candidates") {nf : Nat} {x0 : Nat} {x2 : Int32} {x3 : Int32} {x4 : Int32} {x5 : Int32} {c : Zc} {r : (Nat × Int32 × Int32 × Int32 × Int32 × Zc) ⊕ (Nat × Int32 × Int32 × Int32 × Zc)} (h : g_Search_candidates_33 nf x0 x2 x3 x4 x5 c = some r) (k0 : ∀ a, r = .inl a → (fun a : Nat × Int32 × Int32 × Int32 × Int32 × Zc => Zz p l e (zRm 0 0 0 0) s m args below meth cd Q D cid B 7 0 0 a.2.2.2.2.2 33 [(0, .ref a.1), (2, .int a.2.1), (3, .int a.2.2.1), (4, .int a.2.2.2.1), (5, .int a.2.2.2.2.1)] []) a) (k1 : ∀ b, r = .inr b → (fun b : Nat × Int32 × Int32 × Int32 × Zc => Zz p l e (zRm 0 0 0 0) s m args below meth cd Q D cid B 7 0 0 b.2.2.2.2 81 [(0, .ref b.1), (2, .int b.2.1), (3, .int b.2.2.1), (4, .int b.2.2.2.1)] []) b) : Zz p l e (zRm 0 0 0 0) s m args below meth cd Q D cid B 7 0 0 c 33 [(0, .ref x0), (2, .int x2), (3, .int x3), (4, .int x4), (5, .int x5)] [] := by
  unfold g_Search_candidates_33 at h
  refine z_iload X dd_Search_candidates_33 4 rfl ?_
  refine z_aload_n X dd_Search_candidates_35 rfl 0 rfl ?_
  obtain ⟨v8, ev8, h⟩ := zb h
  refine z_get (j := 9) X dd_Search_candidates_36 kc_6 ki_6 (by decide) km_556 (zgi_v ev8) ?_
  refine z_icmp_ge (tgt := 81) X dd_Search_candidates_39 (by decide) (fun q9 => ?_) (fun q9 => ?_)
  · rw [if_pos q9] at h
    refine z_sub [0, 1, 2, 3] rfl ?_
    obtain rfl := Option.some.inj h
    exact k1 _ rfl
  · rw [if_neg q9] at h
    refine z_aload_n X dd_Search_candidates_42 rfl 0 rfl ?_
    obtain ⟨v10, ev10, h⟩ := zb h
    refine z_get (j := 5) X dd_Search_candidates_43 kc_6 ki_6 (by decide) km_552 (zgr_v ev10) ?_
    obtain ⟨v11, ev11, h⟩ := zb h
    refine z_get (j := 6) X dd_Search_candidates_46 kc_2 ki_2 (by decide) km_323 (zgr_v ev11) ?_
    refine z_iload X dd_Search_candidates_49 4 rfl ?_
    obtain ⟨v12, ev12, h⟩ := zb h
    refine z_iaload X dd_Search_candidates_51 rfl ev12 ?_
    refine z_sipush (v := 256) X dd_Search_candidates_52 (by decide) ?_
    refine z_idiv X dd_Search_candidates_55 (by decide) ?_
    refine z_iload_n X dd_Search_candidates_56 rfl 1 rfl ?_
    refine z_icmp_ne (tgt := 75) X dd_Search_candidates_57 (by decide) (fun q14 => ?_) (fun q14 => ?_)
    · rw [if_neg q14] at h
      exact t_Search_candidates_75 X H h k0 k1
    · rw [if_pos q14] at h
      refine z_iload X dd_Search_candidates_60 3 rfl ?_
      refine z_aload_n X dd_Search_candidates_62 rfl 0 rfl ?_
      obtain ⟨v15, ev15, h⟩ := zb h
      refine z_get (j := 5) X dd_Search_candidates_63 kc_6 ki_6 (by decide) km_552 (zgr_v ev15) ?_
      obtain ⟨v16, ev16, h⟩ := zb h
      refine z_get (j := 7) X dd_Search_candidates_66 kc_2 ki_2 (by decide) km_326 (zgr_v ev16) ?_
      refine z_iload X dd_Search_candidates_69 4 rfl ?_
      obtain ⟨v17, ev17, h⟩ := zb h
      refine z_iaload X dd_Search_candidates_71 rfl ev17 ?_
      refine z_iand X dd_Search_candidates_72 ?_
      refine z_istore (lv' := [(4, .int (x4 &&& v17)), (0, .ref x0), (2, .int x2), (3, .int x3), (5, .int x5)]) X dd_Search_candidates_73 (by decide) rfl ?_
      refine z_sub [1, 2, 3, 0, 4] rfl ?_
      exact t_Search_candidates_75 X H h k0 k1
set_option maxRecDepth 100000 in
set_option maxHeartbeats 4000000 in
theorem t_Search_candidates_231  (X : zX p s m args cd D cid B bb_Search_candidates 7 rr_Search zT) (H : zH s meth B n0 (some (.int)) "candidates") {nf : Nat} {x0 : Nat} {x2 : Int32} {x3 : Int32} {x4 : Int32} {x5 : Int32} {c : Zc} {r : (Nat × Int32 × Int32 × Int32 × Int32 × Zc) ⊕ (Int32 × Zc)} (h : f_Search_candidates_231 nf x0 x2 x3 x4 x5 c = some r) (k0 : ∀ a, r = .inl a → (fun a : Nat × Int32 × Int32 × Int32 × Int32 × Zc => Zz p l e (zRm 0 0 0 0) s m args below meth cd Q D cid B 7 0 0 a.2.2.2.2.2 87 [(0, .ref a.1), (2, .int a.2.1), (3, .int a.2.2.1), (4, .int a.2.2.2.1), (5, .int a.2.2.2.2.1)] []) a) (k1 : ∀ b, r = .inr b → (fun b : Int32 × Zc => Zz p l e (zRm 0 0 0 0) s m args below meth cd Q D cid B 7 0 0 b.2 237 [(4, .int b.1)] []) b) : Zz p l e (zRm 0 0 0 0) s m args below meth cd Q D cid B 7 0 0 c 231 [(0, .ref x0), (2, .int x2), (3, .int x3), (4, .int x4), (5, .int x5)] [] := by
  unfold f_Search_candidates_231 at h
  refine z_iinc (v := (x5 + 1)) (lv' := [(5, .int (x5 + 1)), (0, .ref x0), (2, .int x2), (3, .int x3), (4, .int x4)]) X dd_Search_candidates_231 4 rfl rfl (by decide) rfl ?_
  refine z_goto (tgt := 87) X dd_Search_candidates_234 (by decide) ?_
  refine z_sub [1, 2, 3, 4, 0] rfl ?_
  obtain rfl := Option.some.inj h
  exact k0 _ rfl
set_option maxRecDepth 100000 in
set_option maxHeartbeats 4000000 in
theorem t_Search_candidates_189  (X : zX p s m args cd D cid B bb_Search_candidates 7 rr_Search zT) (H : zH s meth B n0 (some (.int)) "candidates") {nf : Nat} {x0 : Nat} {x2 : Int32} {x3 : Int32} {x4 : Int32} {x5 : Int32} {x6 : Nat} {c : Zc} {r : (Nat × Int32 × Int32 × Int32 × Int32 × Zc) ⊕ (Int32 × Zc)} (h : f_Search_candidates_189 nf x0 x2 x3 x4 x5 x6 c = some r) (k0 : ∀ a, r = .inl a → (fun a : Nat × Int32 × Int32 × Int32 × Int32 × Zc => Zz p l e (zRm 0 0 0 0) s m args below meth cd Q D cid B 7 0 0 a.2.2.2.2.2 87 [(0, .ref a.1), (2, .int a.2.1), (3, .int a.2.2.1), (4, .int a.2.2.2.1), (5, .int a.2.2.2.2.1)] []) a) (k1 : ∀ b, r = .inr b → (fun b : Int32 × Zc => Zz p l e (zRm 0 0 0 0) s m args below meth cd Q D cid B 7 0 0 b.2 237 [(4, .int b.1)] []) b) : Zz p l e (zRm 0 0 0 0) s m args below meth cd Q D cid B 7 0 0 c 189 [(0, .ref x0), (2, .int x2), (3, .int x3), (4, .int x4), (5, .int x5), (6, .ref x6)] [] := by
  unfold f_Search_candidates_189 at h
  refine z_aload X dd_Search_candidates_189 5 rfl ?_
  obtain ⟨v29, ev29, h⟩ := zb h
  refine z_get (j := 1) X dd_Search_candidates_191 kc_1 ki_1 (by decide) km_226 (zgi_v ev29) ?_
  refine z_iload_n X dd_Search_candidates_194 rfl 1 rfl ?_
  refine z_icmp_ne (tgt := 231) X dd_Search_candidates_195 (by decide) (fun q30 => ?_) (fun q30 => ?_)
  · rw [if_neg q30] at h
    refine z_sub [0, 1, 2, 3, 4] rfl ?_
    exact t_Search_candidates_231 X H h k0 k1
  · rw [if_pos q30] at h
    refine z_iload_n X dd_Search_candidates_198 rfl 2 rfl ?_
    refine z_aload X dd_Search_candidates_199 5 rfl ?_
    obtain ⟨v31, ev31, h⟩ := zb h
    refine z_get (j := 0) X dd_Search_candidates_201 kc_1 ki_1 (by decide) km_223 (zgi_v ev31) ?_
    refine z_ishr X dd_Search_candidates_204 ?_
    refine z_iconst (v := 1) X dd_Search_candidates_205 (by decide) ?_
    refine z_iand X dd_Search_candidates_206 ?_
    refine z_if_eq (tgt := 231) X dd_Search_candidates_207 (by decide) (fun q32 => ?_) (fun q32 => ?_)
    · rw [if_pos q32] at h
      refine z_sub [0, 1, 2, 3, 4] rfl ?_
      exact t_Search_candidates_231 X H h k0 k1
    · rw [if_neg q32] at h
      refine z_iload X dd_Search_candidates_210 3 rfl ?_
      refine z_aload X dd_Search_candidates_212 5 rfl ?_
      obtain ⟨v33, ev33, h⟩ := zb h
      refine z_get (j := 14) X dd_Search_candidates_214 kc_1 ki_1 (by decide) km_251 (zgr_v ev33) ?_
      refine z_aload_n X dd_Search_candidates_217 rfl 0 rfl ?_
      obtain ⟨v34, ev34, h⟩ := zb h
      refine z_get (j := 1) X dd_Search_candidates_218 kc_6 ki_6 (by decide) km_548 (zgr_v ev34) ?_
      refine z_aload X dd_Search_candidates_221 5 rfl ?_
      obtain ⟨v35, ev35, h⟩ := zb h
      refine z_get (j := 0) X dd_Search_candidates_223 kc_1 ki_1 (by decide) km_223 (zgi_v ev35) ?_
      obtain ⟨v36, ev36, h⟩ := zb h
      refine z_iaload X dd_Search_candidates_226 rfl ev36 ?_
      obtain ⟨v37, ev37, h⟩ := zb h
      refine z_iaload X dd_Search_candidates_227 rfl ev37 ?_
      refine z_iand X dd_Search_candidates_228 ?_
      refine z_istore (lv' := [(4, .int (x4 &&& v37)), (0, .ref x0), (2, .int x2), (3, .int x3), (5, .int x5), (6, .ref x6)]) X dd_Search_candidates_229 (by decide) rfl ?_
      refine z_sub [1, 2, 3, 0, 4] rfl ?_
      exact t_Search_candidates_231 X H h k0 k1
set_option maxRecDepth 100000 in
set_option maxHeartbeats 4000000 in
theorem t_Search_candidates_144  (X : zX p s m args cd D cid B bb_Search_candidates 7 rr_Search zT) (H : zH s meth B n0 (some (.int)) "candidates") {nf : Nat} {x0 : Nat} {x2 : Int32} {x3 : Int32} {x4 : Int32} {x5 : Int32} {x6 : Nat} {c : Zc} {r : (Nat × Int32 × Int32 × Int32 × Int32 × Zc) ⊕ (Int32 × Zc)} (h : f_Search_candidates_144 nf x0 x2 x3 x4 x5 x6 c = some r) (k0 : ∀ a, r = .inl a → (fun a : Nat × Int32 × Int32 × Int32 × Int32 × Zc => Zz p l e (zRm 0 0 0 0) s m args below meth cd Q D cid B 7 0 0 a.2.2.2.2.2 87 [(0, .ref a.1), (2, .int a.2.1), (3, .int a.2.2.1), (4, .int a.2.2.2.1), (5, .int a.2.2.2.2.1)] []) a) (k1 : ∀ b, r = .inr b → (fun b : Int32 × Zc => Zz p l e (zRm 0 0 0 0) s m args below meth cd Q D cid B 7 0 0 b.2 237 [(4, .int b.1)] []) b) : Zz p l e (zRm 0 0 0 0) s m args below meth cd Q D cid B 7 0 0 c 144 [(0, .ref x0), (2, .int x2), (3, .int x3), (4, .int x4), (5, .int x5), (6, .ref x6)] [] := by
  unfold f_Search_candidates_144 at h
  refine z_aload X dd_Search_candidates_144 5 rfl ?_
  obtain ⟨v27, ev27, h⟩ := zb h
  refine z_get (j := 0) X dd_Search_candidates_146 kc_1 ki_1 (by decide) km_223 (zgi_v ev27) ?_
  refine z_iload_n X dd_Search_candidates_149 rfl 1 rfl ?_
  refine z_icmp_ne (tgt := 189) X dd_Search_candidates_150 (by decide) (fun q28 => ?_) (fun q28 => ?_)
  · rw [if_neg q28] at h
    exact t_Search_candidates_189 X H h k0 k1
  · rw [if_pos q28] at h
    refine z_iload_n X dd_Search_candidates_153 rfl 2 rfl ?_
    refine z_aload X dd_Search_candidates_154 5 rfl ?_
    obtain ⟨v38, ev38, h⟩ := zb h
    refine z_get (j := 1) X dd_Search_candidates_156 kc_1 ki_1 (by decide) km_226 (zgi_v ev38) ?_
    refine z_ishr X dd_Search_candidates_159 ?_
    refine z_iconst (v := 1) X dd_Search_candidates_160 (by decide) ?_
    refine z_iand X dd_Search_candidates_161 ?_
    refine z_if_eq (tgt := 189) X dd_Search_candidates_162 (by decide) (fun q39 => ?_) (fun q39 => ?_)
    · rw [if_pos q39] at h
      exact t_Search_candidates_189 X H h k0 k1
    · rw [if_neg q39] at h
      refine z_iload X dd_Search_candidates_165 3 rfl ?_
      refine z_aload X dd_Search_candidates_167 5 rfl ?_
      obtain ⟨v40, ev40, h⟩ := zb h
      refine z_get (j := 15) X dd_Search_candidates_169 kc_1 ki_1 (by decide) km_254 (zgr_v ev40) ?_
      refine z_aload_n X dd_Search_candidates_172 rfl 0 rfl ?_
      obtain ⟨v41, ev41, h⟩ := zb h
      refine z_get (j := 1) X dd_Search_candidates_173 kc_6 ki_6 (by decide) km_548 (zgr_v ev41) ?_
      refine z_aload X dd_Search_candidates_176 5 rfl ?_
      obtain ⟨v42, ev42, h⟩ := zb h
      refine z_get (j := 1) X dd_Search_candidates_178 kc_1 ki_1 (by decide) km_226 (zgi_v ev42) ?_
      obtain ⟨v43, ev43, h⟩ := zb h
      refine z_iaload X dd_Search_candidates_181 rfl ev43 ?_
      obtain ⟨v44, ev44, h⟩ := zb h
      refine z_iaload X dd_Search_candidates_182 rfl ev44 ?_
      refine z_iand X dd_Search_candidates_183 ?_
      refine z_istore (lv' := [(4, .int (x4 &&& v44)), (0, .ref x0), (2, .int x2), (3, .int x3), (5, .int x5), (6, .ref x6)]) X dd_Search_candidates_184 (by decide) rfl ?_
      refine z_goto (tgt := 231) X dd_Search_candidates_186 (by decide) ?_
      refine z_sub [1, 2, 3, 0, 4] rfl ?_
      exact t_Search_candidates_231 X H h k0 k1
set_option maxRecDepth 100000 in
set_option maxHeartbeats 4000000 in
theorem u_Search_candidates_87  (X : zX p s m args cd D cid B bb_Search_candidates 7 rr_Search zT) (H : zH s meth B n0 (some (.int)) "candidates") {nf : Nat} {x0 : Nat} {x2 : Int32} {x3 : Int32} {x4 : Int32} {x5 : Int32} {c : Zc} {r : (Nat × Int32 × Int32 × Int32 × Int32 × Zc) ⊕ (Int32 × Zc)} (h : g_Search_candidates_87 nf x0 x2 x3 x4 x5 c = some r) (k0 : ∀ a, r = .inl a → (fun a : Nat × Int32 × Int32 × Int32 × Int32 × Zc => Zz p l e (zRm 0 0 0 0) s m args below meth cd Q D cid B 7 0 0 a.2.2.2.2.2 87 [(0, .ref a.1), (2, .int a.2.1), (3, .int a.2.2.1), (4, .int a.2.2.2.1), (5, .int a.2.2.2.2.1)] []) a) (k1 : ∀ b, r = .inr b → (fun b : Int32 × Zc => Zz p l e (zRm 0 0 0 0) s m args below meth cd Q D cid B 7 0 0 b.2 237 [(4, .int b.1)] []) b) : Zz p l e (zRm 0 0 0 0) s m args below meth cd Q D cid B 7 0 0 c 87 [(0, .ref x0), (2, .int x2), (3, .int x3), (4, .int x4), (5, .int x5)] [] := by
  unfold g_Search_candidates_87 at h
  refine z_iload X dd_Search_candidates_87 4 rfl ?_
  refine z_aload_n X dd_Search_candidates_89 rfl 0 rfl ?_
  obtain ⟨v19, ev19, h⟩ := zb h
  refine z_get (j := 7) X dd_Search_candidates_90 kc_6 ki_6 (by decide) km_554 (zgi_v ev19) ?_
  refine z_icmp_ge (tgt := 237) X dd_Search_candidates_93 (by decide) (fun q20 => ?_) (fun q20 => ?_)
  · rw [if_pos q20] at h
    refine z_sub [3] rfl ?_
    obtain rfl := Option.some.inj h
    exact k1 _ rfl
  · rw [if_neg q20] at h
    refine z_iload X dd_Search_candidates_96 3 rfl ?_
    refine z_if_eq (tgt := 237) X dd_Search_candidates_98 (by decide) (fun q21 => ?_) (fun q21 => ?_)
    · rw [if_pos q21] at h
      refine z_sub [3] rfl ?_
      obtain rfl := Option.some.inj h
      exact k1 _ rfl
    · rw [if_neg q21] at h
      refine z_aload_n X dd_Search_candidates_101 rfl 0 rfl ?_
      obtain ⟨v22, ev22, h⟩ := zb h
      refine z_get (j := 5) X dd_Search_candidates_102 kc_6 ki_6 (by decide) km_552 (zgr_v ev22) ?_
      obtain ⟨v23, ev23, h⟩ := zb h
      refine z_get (j := 4) X dd_Search_candidates_105 kc_2 ki_2 (by decide) km_316 (zgr_v ev23) ?_
      refine z_iload X dd_Search_candidates_108 4 rfl ?_
      obtain ⟨v24, ev24, h⟩ := zb h
      refine z_aaload X dd_Search_candidates_110 rfl ev24 ?_
      refine z_astore (lv' := [(6, .ref v24), (0, .ref x0), (2, .int x2), (3, .int x3), (4, .int x4), (5, .int x5)]) X dd_Search_candidates_111 (by decide) rfl ?_
      refine z_aload X dd_Search_candidates_113 0 rfl ?_
      obtain ⟨v25, ev25, h⟩ := zb h
      refine z_get (j := 0) X dd_Search_candidates_115 kc_1 ki_1 (by decide) km_223 (zgi_v ev25) ?_
      refine z_iload_n X dd_Search_candidates_118 rfl 2 rfl ?_
      refine z_icmp_ne (tgt := 144) X dd_Search_candidates_119 (by decide) (fun q26 => ?_) (fun q26 => ?_)
      · rw [if_neg q26] at h
        refine z_sub [1, 2, 3, 4, 5, 0] rfl ?_
        exact t_Search_candidates_144 X H h k0 k1
      · rw [if_pos q26] at h
        refine z_aload X dd_Search_candidates_122 0 rfl ?_
        obtain ⟨v45, ev45, h⟩ := zb h
        refine z_get (j := 1) X dd_Search_candidates_124 kc_1 ki_1 (by decide) km_226 (zgi_v ev45) ?_
        refine z_iload_n X dd_Search_candidates_127 rfl 2 rfl ?_
        refine z_icmp_ne (tgt := 144) X dd_Search_candidates_128 (by decide) (fun q46 => ?_) (fun q46 => ?_)
        · rw [if_neg q46] at h
          refine z_sub [1, 2, 3, 4, 5, 0] rfl ?_
          exact t_Search_candidates_144 X H h k0 k1
        · rw [if_pos q46] at h
          refine z_iload X dd_Search_candidates_131 4 rfl ?_
          refine z_aload X dd_Search_candidates_133 0 rfl ?_
          obtain ⟨v47, ev47, h⟩ := zb h
          refine z_get (j := 16) X dd_Search_candidates_135 kc_1 ki_1 (by decide) km_256 (zgi_v ev47) ?_
          refine z_iand X dd_Search_candidates_138 ?_
          refine z_istore (lv' := [(4, .int (x4 &&& v47)), (6, .ref v24), (0, .ref x0), (2, .int x2), (3, .int x3), (5, .int x5)]) X dd_Search_candidates_139 (by decide) rfl ?_
          refine z_goto (tgt := 231) X dd_Search_candidates_141 (by decide) ?_
          refine z_sub [2, 3, 4, 0, 5] rfl ?_
          exact t_Search_candidates_231 X H h k0 k1
set_option maxRecDepth 100000 in
set_option maxHeartbeats 4000000 in
theorem t_Search_candidates_237  (X : zX p s m args cd D cid B bb_Search_candidates 7 rr_Search zT) (H : zH s meth B n0 (some (.int)) "candidates") {nf : Nat} {x4 : Int32} {c : Zc} {res : Int32 × Zc} (h : f_Search_candidates_237 nf x4 c = some res) : Zz p l e (zRm 0 0 0 0) s m args below meth cd (MQ below (zQi D cid B res.1 res.2 n0 0) args s 0 0 (fun q => B ≤ q)) D cid B 7 0 0 c 237 [(4, .int x4)] [] := by
  unfold f_Search_candidates_237 at h
  refine z_iload X dd_Search_candidates_237 0 rfl ?_
  obtain rfl := Option.some.inj h
  exact z_iret X H.1 H.2.1 H.2.2.1 dd_Search_candidates_239
set_option maxRecDepth 100000 in
set_option maxHeartbeats 4000000 in
theorem t_Search_candidates_87  (X : zX p s m args cd D cid B bb_Search_candidates 7 rr_Search zT) (H : zH s meth B n0 (some (.int)) "candidates") {nf : Nat} {x0 : Nat} {x2 : Int32} {x3 : Int32} {x4 : Int32} {x5 : Int32} {c : Zc} {res : Int32 × Zc} (h : f_Search_candidates_87 nf x0 x2 x3 x4 x5 c = some res) : Zz p l e (zRm 0 0 0 0) s m args below meth cd (MQ below (zQi D cid B res.1 res.2 n0 0) args s 0 0 (fun q => B ≤ q)) D cid B 7 0 0 c 87 [(0, .ref x0), (2, .int x2), (3, .int x3), (4, .int x4), (5, .int x5)] [] := by
  unfold f_Search_candidates_87 at h
  obtain ⟨b, eb, h⟩ := zb h
  refine zlp_ok (P := fun a : Nat × Int32 × Int32 × Int32 × Int32 × Zc => Zz p l e (zRm 0 0 0 0) s m args below meth cd _ D cid B 7 0 0 a.2.2.2.2.2 87 [(0, .ref a.1), (2, .int a.2.1), (3, .int a.2.2.1), (4, .int a.2.2.2.1), (5, .int a.2.2.2.2.1)] []) (G := fun b : Int32 × Zc => Zz p l e (zRm 0 0 0 0) s m args below meth cd _ D cid B 7 0 0 b.2 237 [(4, .int b.1)] []) (fun a r ha k0 k1 => u_Search_candidates_87 X H ha k0 k1) nf _ b eb ?_
  exact t_Search_candidates_237 X H h
set_option maxRecDepth 100000 in
set_option maxHeartbeats 4000000 in
theorem t_Search_candidates_33  (X : zX p s m args cd D cid B bb_Search_candidates 7 rr_Search zT) (H : zH s meth B n0 (some (.int)) "candidates") {nf : Nat} {x0 : Nat} {x2 : Int32} {x3 : Int32} {x4 : Int32} {x5 : Int32} {c : Zc} {res : Int32 × Zc} (h : f_Search_candidates_33 nf x0 x2 x3 x4 x5 c = some res) : Zz p l e (zRm 0 0 0 0) s m args below meth cd (MQ below (zQi D cid B res.1 res.2 n0 0) args s 0 0 (fun q => B ≤ q)) D cid B 7 0 0 c 33 [(0, .ref x0), (2, .int x2), (3, .int x3), (4, .int x4), (5, .int x5)] [] := by
  unfold f_Search_candidates_33 at h
  obtain ⟨b, eb, h⟩ := zb h
  refine zlp_ok (P := fun a : Nat × Int32 × Int32 × Int32 × Int32 × Zc => Zz p l e (zRm 0 0 0 0) s m args below meth cd _ D cid B 7 0 0 a.2.2.2.2.2 33 [(0, .ref a.1), (2, .int a.2.1), (3, .int a.2.2.1), (4, .int a.2.2.2.1), (5, .int a.2.2.2.2.1)] []) (G := fun b : Nat × Int32 × Int32 × Int32 × Zc => Zz p l e (zRm 0 0 0 0) s m args below meth cd _ D cid B 7 0 0 b.2.2.2.2 81 [(0, .ref b.1), (2, .int b.2.1), (3, .int b.2.2.1), (4, .int b.2.2.2.1)] []) (fun a r ha k0 k1 => u_Search_candidates_33 X H ha k0 k1) nf _ b eb ?_
  refine z_aload_n X dd_Search_candidates_81 rfl 0 rfl ?_
  obtain ⟨v18, ev18, h⟩ := zb h
  refine z_get (j := 6) X dd_Search_candidates_82 kc_6 ki_6 (by decide) km_553 (zgi_v ev18) ?_
  refine z_istore (lv' := [(5, .int v18), (0, .ref b.1), (2, .int b.2.1), (3, .int b.2.2.1), (4, .int b.2.2.2.1)]) X dd_Search_candidates_85 (by decide) rfl ?_
  refine z_sub [1, 2, 3, 4, 0] rfl ?_
  exact t_Search_candidates_87 X H h
set_option maxRecDepth 100000 in
set_option maxHeartbeats 4000000 in
theorem c_Search_candidates (l : Launch) {nf : Nat} {a0 : Nat} {a1 : Int32} {c : Zc} {res : Int32 × Zc} (h : f_Search_candidates nf a0 a1 c = some res) : zM l yy_Search_candidates ww_Search_candidates 0 0 0 0 [.ref a0, .int a1] c (fun D cid B => zQi D cid B res.1 res.2 c.length 0) := by
  refine z_met (cc := bb_Search_candidates) (maxL := 7) (ret := (some (.int))) (by decide +kernel) rfl (Nat.le_of_ble_eq_true rfl) ?_
  intro p e s m args below meth cd D cid B X h1 h2 h3 h4
  have X : zX p s m args cd D cid B bb_Search_candidates 7 rr_Search zT := X
  have H : zH s meth B c.length (some (.int)) "candidates" := ⟨h1, h2, h4, h3⟩
  unfold f_Search_candidates at h
  show Zz p l e (zRm 0 0 0 0) s m args below meth cd _ D cid B 7 0 0 c 0 [(0, .ref a0), (1, .int a1)] []
  refine z_aload_n X dd_Search_candidates_0 rfl 0 rfl ?_
  obtain ⟨v1, ev1, h⟩ := zb h
  refine z_get (j := 2) X dd_Search_candidates_1 kc_6 ki_6 (by decide) km_549 (zgr_v ev1) ?_
  refine z_iload_n X dd_Search_candidates_4 rfl 1 rfl ?_
  obtain ⟨v2, ev2, h⟩ := zb h
  refine z_iaload X dd_Search_candidates_5 rfl ev2 ?_
  refine z_istore_n (lv' := [(2, .int v2), (0, .ref a0), (1, .int a1)]) X dd_Search_candidates_6 rfl (by decide) rfl ?_
  refine z_aload_n X dd_Search_candidates_7 rfl 1 rfl ?_
  obtain ⟨v3, ev3, h⟩ := zb h
  refine z_get (j := 3) X dd_Search_candidates_8 kc_6 ki_6 (by decide) km_550 (zgr_v ev3) ?_
  refine z_iload_n X dd_Search_candidates_11 rfl 2 rfl ?_
  obtain ⟨v4, ev4, h⟩ := zb h
  refine z_iaload X dd_Search_candidates_12 rfl ev4 ?_
  refine z_istore_n (lv' := [(3, .int v4), (2, .int v2), (0, .ref a0), (1, .int a1)]) X dd_Search_candidates_13 rfl (by decide) rfl ?_
  refine z_iconst (v := 1) X dd_Search_candidates_14 (by decide) ?_
  refine z_aload_n X dd_Search_candidates_15 rfl 2 rfl ?_
  obtain ⟨v5, ev5, h⟩ := zb h
  refine z_get (j := 0) X dd_Search_candidates_16 kc_6 ki_6 (by decide) km_547 (zgr_v ev5) ?_
  obtain ⟨v6, ev6, h⟩ := zb h
  refine z_get (j := 7) X dd_Search_candidates_19 kc_0 ki_0 (by decide) km_174 (zgi_v ev6) ?_
  refine z_ishl X dd_Search_candidates_22 ?_
  refine z_iconst (v := 1) X dd_Search_candidates_23 (by decide) ?_
  refine z_isub X dd_Search_candidates_24 ?_
  refine z_istore (lv' := [(4, .int ((1 <<< (v6 &&& 31)) - 1)), (3, .int v4), (2, .int v2), (0, .ref a0), (1, .int a1)]) X dd_Search_candidates_25 (by decide) rfl ?_
  refine z_aload_n X dd_Search_candidates_27 rfl 3 rfl ?_
  obtain ⟨v7, ev7, h⟩ := zb h
  refine z_get (j := 8) X dd_Search_candidates_28 kc_6 ki_6 (by decide) km_555 (zgi_v ev7) ?_
  refine z_istore (lv' := [(5, .int v7), (4, .int ((1 <<< (v6 &&& 31)) - 1)), (3, .int v4), (2, .int v2), (0, .ref a0), (1, .int a1)]) X dd_Search_candidates_31 (by decide) rfl ?_
  refine z_sub [4, 3, 2, 1, 0] rfl ?_
  exact t_Search_candidates_33 X H h
theorem dd_Search_begin_0 : decode bb_Search_begin 0 = .ok (.aload_n 0, 1) := by decide +kernel
theorem dd_Search_begin_1 : decode bb_Search_begin 1 = .ok (.aload_n 1, 1) := by decide +kernel
theorem dd_Search_begin_2 : decode bb_Search_begin 2 = .ok (.putfield 44, 3) := by decide +kernel
theorem dd_Search_begin_5 : decode bb_Search_begin 5 = .ok (.aload_n 0, 1) := by decide +kernel
theorem dd_Search_begin_6 : decode bb_Search_begin 6 = .ok (.iload_n 2, 1) := by decide +kernel
theorem dd_Search_begin_7 : decode bb_Search_begin 7 = .ok (.ifCond .ne 7, 3) := by decide +kernel
theorem dd_Search_begin_10 : decode bb_Search_begin 10 = .ok (.iconst 0, 1) := by decide +kernel
theorem dd_Search_begin_11 : decode bb_Search_begin 11 = .ok (.goto 14, 3) := by decide +kernel
theorem dd_Search_begin_14 : decode bb_Search_begin 14 = .ok (.aload_n 0, 1) := by decide +kernel
theorem dd_Search_begin_15 : decode bb_Search_begin 15 = .ok (.getfield 44, 3) := by decide +kernel
theorem dd_Search_begin_18 : decode bb_Search_begin 18 = .ok (.getfield 51, 3) := by decide +kernel
theorem dd_Search_begin_21 : decode bb_Search_begin 21 = .ok (.iload_n 2, 1) := by decide +kernel
theorem dd_Search_begin_22 : decode bb_Search_begin 22 = .ok (.iconst 1, 1) := by decide +kernel
theorem dd_Search_begin_23 : decode bb_Search_begin 23 = .ok (.isub, 1) := by decide +kernel
theorem dd_Search_begin_24 : decode bb_Search_begin 24 = .ok (.iaload, 1) := by decide +kernel
theorem dd_Search_begin_25 : decode bb_Search_begin 25 = .ok (.putfield 21, 3) := by decide +kernel
theorem dd_Search_begin_28 : decode bb_Search_begin 28 = .ok (.aload_n 0, 1) := by decide +kernel
theorem dd_Search_begin_29 : decode bb_Search_begin 29 = .ok (.aload_n 0, 1) := by decide +kernel
theorem dd_Search_begin_30 : decode bb_Search_begin 30 = .ok (.getfield 44, 3) := by decide +kernel
theorem dd_Search_begin_33 : decode bb_Search_begin 33 = .ok (.getfield 51, 3) := by decide +kernel
theorem dd_Search_begin_36 : decode bb_Search_begin 36 = .ok (.iload_n 2, 1) := by decide +kernel
theorem dd_Search_begin_37 : decode bb_Search_begin 37 = .ok (.iaload, 1) := by decide +kernel
theorem dd_Search_begin_38 : decode bb_Search_begin 38 = .ok (.putfield 25, 3) := by decide +kernel
theorem dd_Search_begin_41 : decode bb_Search_begin 41 = .ok (.aload_n 0, 1) := by decide +kernel
theorem dd_Search_begin_42 : decode bb_Search_begin 42 = .ok (.iload_n 2, 1) := by decide +kernel
theorem dd_Search_begin_43 : decode bb_Search_begin 43 = .ok (.ifCond .ne 7, 3) := by decide +kernel
theorem dd_Search_begin_46 : decode bb_Search_begin 46 = .ok (.iconst 0, 1) := by decide +kernel
theorem dd_Search_begin_47 : decode bb_Search_begin 47 = .ok (.goto 14, 3) := by decide +kernel
theorem dd_Search_begin_50 : decode bb_Search_begin 50 = .ok (.aload_n 0, 1) := by decide +kernel
theorem dd_Search_begin_51 : decode bb_Search_begin 51 = .ok (.getfield 44, 3) := by decide +kernel
theorem dd_Search_begin_54 : decode bb_Search_begin 54 = .ok (.getfield 56, 3) := by decide +kernel
theorem dd_Search_begin_57 : decode bb_Search_begin 57 = .ok (.iload_n 2, 1) := by decide +kernel
theorem dd_Search_begin_58 : decode bb_Search_begin 58 = .ok (.iconst 1, 1) := by decide +kernel
theorem dd_Search_begin_59 : decode bb_Search_begin 59 = .ok (.isub, 1) := by decide +kernel
theorem dd_Search_begin_60 : decode bb_Search_begin 60 = .ok (.iaload, 1) := by decide +kernel
theorem dd_Search_begin_61 : decode bb_Search_begin 61 = .ok (.putfield 28, 3) := by decide +kernel
theorem dd_Search_begin_64 : decode bb_Search_begin 64 = .ok (.aload_n 0, 1) := by decide +kernel
theorem dd_Search_begin_65 : decode bb_Search_begin 65 = .ok (.aload_n 0, 1) := by decide +kernel
theorem dd_Search_begin_66 : decode bb_Search_begin 66 = .ok (.getfield 44, 3) := by decide +kernel
theorem dd_Search_begin_69 : decode bb_Search_begin 69 = .ok (.getfield 56, 3) := by decide +kernel
theorem dd_Search_begin_72 : decode bb_Search_begin 72 = .ok (.iload_n 2, 1) := by decide +kernel
theorem dd_Search_begin_73 : decode bb_Search_begin 73 = .ok (.iaload, 1) := by decide +kernel
theorem dd_Search_begin_74 : decode bb_Search_begin 74 = .ok (.putfield 31, 3) := by decide +kernel
theorem dd_Search_begin_77 : decode bb_Search_begin 77 = .ok (.aload_n 0, 1) := by decide +kernel
theorem dd_Search_begin_78 : decode bb_Search_begin 78 = .ok (.iconst 0, 1) := by decide +kernel
theorem dd_Search_begin_79 : decode bb_Search_begin 79 = .ok (.putfield 34, 3) := by decide +kernel
theorem dd_Search_begin_82 : decode bb_Search_begin 82 = .ok (.iload_n 2, 1) := by decide +kernel
theorem dd_Search_begin_83 : decode bb_Search_begin 83 = .ok (.ifCond .ne 7, 3) := by decide +kernel
theorem dd_Search_begin_86 : decode bb_Search_begin 86 = .ok (.iconst 0, 1) := by decide +kernel
theorem dd_Search_begin_87 : decode bb_Search_begin 87 = .ok (.goto 12, 3) := by decide +kernel
theorem dd_Search_begin_90 : decode bb_Search_begin 90 = .ok (.aload_n 0, 1) := by decide +kernel
theorem dd_Search_begin_91 : decode bb_Search_begin 91 = .ok (.getfield 44, 3) := by decide +kernel
theorem dd_Search_begin_94 : decode bb_Search_begin 94 = .ok (.getfield 59, 3) := by decide +kernel
theorem dd_Search_begin_97 : decode bb_Search_begin 97 = .ok (.iconst 0, 1) := by decide +kernel
theorem dd_Search_begin_98 : decode bb_Search_begin 98 = .ok (.iaload, 1) := by decide +kernel
theorem dd_Search_begin_99 : decode bb_Search_begin 99 = .ok (.istore_n 3, 1) := by decide +kernel
theorem dd_Search_begin_100 : decode bb_Search_begin 100 = .ok (.iconst 0, 1) := by decide +kernel
theorem dd_Search_begin_101 : decode bb_Search_begin 101 = .ok (.istore 4, 2) := by decide +kernel
theorem dd_Search_begin_103 : decode bb_Search_begin 103 = .ok (.iload 4, 2) := by decide +kernel
theorem dd_Search_begin_105 : decode bb_Search_begin 105 = .ok (.bipush 8, 2) := by decide +kernel
theorem dd_Search_begin_107 : decode bb_Search_begin 107 = .ok (.if_icmp .ge 64, 3) := by decide +kernel
theorem dd_Search_begin_110 : decode bb_Search_begin 110 = .ok (.aload_n 0, 1) := by decide +kernel
theorem dd_Search_begin_111 : decode bb_Search_begin 111 = .ok (.getfield 44, 3) := by decide +kernel
theorem dd_Search_begin_114 : decode bb_Search_begin 114 = .ok (.getfield 59, 3) := by decide +kernel
theorem dd_Search_begin_117 : decode bb_Search_begin 117 = .ok (.iload_n 2, 1) := by decide +kernel
theorem dd_Search_begin_118 : decode bb_Search_begin 118 = .ok (.iaload, 1) := by decide +kernel
theorem dd_Search_begin_119 : decode bb_Search_begin 119 = .ok (.iload 4, 2) := by decide +kernel
theorem dd_Search_begin_121 : decode bb_Search_begin 121 = .ok (.ishr, 1) := by decide +kernel
theorem dd_Search_begin_122 : decode bb_Search_begin 122 = .ok (.iconst 1, 1) := by decide +kernel
theorem dd_Search_begin_123 : decode bb_Search_begin 123 = .ok (.iand, 1) := by decide +kernel
theorem dd_Search_begin_124 : decode bb_Search_begin 124 = .ok (.ifCond .eq 41, 3) := by decide +kernel
theorem dd_Search_begin_127 : decode bb_Search_begin 127 = .ok (.aload_n 0, 1) := by decide +kernel
theorem dd_Search_begin_128 : decode bb_Search_begin 128 = .ok (.getfield 9, 3) := by decide +kernel
theorem dd_Search_begin_131 : decode bb_Search_begin 131 = .ok (.aload_n 0, 1) := by decide +kernel
theorem dd_Search_begin_132 : decode bb_Search_begin 132 = .ok (.getfield 34, 3) := by decide +kernel
theorem dd_Search_begin_135 : decode bb_Search_begin 135 = .ok (.iload 4, 2) := by decide +kernel
theorem dd_Search_begin_137 : decode bb_Search_begin 137 = .ok (.iastore, 1) := by decide +kernel
theorem dd_Search_begin_138 : decode bb_Search_begin 138 = .ok (.aload_n 0, 1) := by decide +kernel
theorem dd_Search_begin_139 : decode bb_Search_begin 139 = .ok (.getfield 15, 3) := by decide +kernel
theorem dd_Search_begin_142 : decode bb_Search_begin 142 = .ok (.aload_n 0, 1) := by decide +kernel
theorem dd_Search_begin_143 : decode bb_Search_begin 143 = .ok (.getfield 34, 3) := by decide +kernel
theorem dd_Search_begin_146 : decode bb_Search_begin 146 = .ok (.iload_n 3, 1) := by decide +kernel
theorem dd_Search_begin_147 : decode bb_Search_begin 147 = .ok (.iastore, 1) := by decide +kernel
theorem dd_Search_begin_148 : decode bb_Search_begin 148 = .ok (.iload_n 3, 1) := by decide +kernel
theorem dd_Search_begin_149 : decode bb_Search_begin 149 = .ok (.iconst 1, 1) := by decide +kernel
theorem dd_Search_begin_150 : decode bb_Search_begin 150 = .ok (.iload 4, 2) := by decide +kernel
theorem dd_Search_begin_152 : decode bb_Search_begin 152 = .ok (.ishl, 1) := by decide +kernel
theorem dd_Search_begin_153 : decode bb_Search_begin 153 = .ok (.ior, 1) := by decide +kernel
theorem dd_Search_begin_154 : decode bb_Search_begin 154 = .ok (.istore_n 3, 1) := by decide +kernel
theorem dd_Search_begin_155 : decode bb_Search_begin 155 = .ok (.aload_n 0, 1) := by decide +kernel
theorem dd_Search_begin_156 : decode bb_Search_begin 156 = .ok (.dup, 1) := by decide +kernel
theorem dd_Search_begin_157 : decode bb_Search_begin 157 = .ok (.getfield 34, 3) := by decide +kernel
theorem dd_Search_begin_160 : decode bb_Search_begin 160 = .ok (.iconst 1, 1) := by decide +kernel
theorem dd_Search_begin_161 : decode bb_Search_begin 161 = .ok (.iadd, 1) := by decide +kernel
theorem dd_Search_begin_162 : decode bb_Search_begin 162 = .ok (.putfield 34, 3) := by decide +kernel
theorem dd_Search_begin_165 : decode bb_Search_begin 165 = .ok (.iinc 4 1, 3) := by decide +kernel
theorem dd_Search_begin_168 : decode bb_Search_begin 168 = .ok (.goto (-65), 3) := by decide +kernel
theorem dd_Search_begin_171 : decode bb_Search_begin 171 = .ok (.aload_n 0, 1) := by decide +kernel
theorem dd_Search_begin_172 : decode bb_Search_begin 172 = .ok (.iconst 0, 1) := by decide +kernel
theorem dd_Search_begin_173 : decode bb_Search_begin 173 = .ok (.putfield 37, 3) := by decide +kernel
theorem dd_Search_begin_176 : decode bb_Search_begin 176 = .ok (.aload_n 0, 1) := by decide +kernel
theorem dd_Search_begin_177 : decode bb_Search_begin 177 = .ok (.getfield 18, 3) := by decide +kernel
theorem dd_Search_begin_180 : decode bb_Search_begin 180 = .ok (.iconst 0, 1) := by decide +kernel
theorem dd_Search_begin_181 : decode bb_Search_begin 181 = .ok (.aload_n 0, 1) := by decide +kernel
theorem dd_Search_begin_182 : decode bb_Search_begin 182 = .ok (.getfield 34, 3) := by decide +kernel
theorem dd_Search_begin_185 : decode bb_Search_begin 185 = .ok (.ifCond .ne 7, 3) := by decide +kernel
theorem dd_Search_begin_188 : decode bb_Search_begin 188 = .ok (.iconst 0, 1) := by decide +kernel
theorem dd_Search_begin_189 : decode bb_Search_begin 189 = .ok (.goto 8, 3) := by decide +kernel
theorem dd_Search_begin_192 : decode bb_Search_begin 192 = .ok (.aload_n 0, 1) := by decide +kernel
theorem dd_Search_begin_193 : decode bb_Search_begin 193 = .ok (.iconst 0, 1) := by decide +kernel
theorem dd_Search_begin_194 : decode bb_Search_begin 194 = .ok (.invokevirtual 62, 3) := by decide +kernel
theorem dd_Search_begin_197 : decode bb_Search_begin 197 = .ok (.iastore, 1) := by decide +kernel
theorem dd_Search_begin_198 : decode bb_Search_begin 198 = .ok (.return_, 1) := by decide +kernel
def f_Search_begin_165 (nf : Nat) (x0 : Nat) (x2 : Int32) (x3 : Int32) (x4 : Int32) (c : Zc) : Option ((Nat × Int32 × Int32 × Int32 × Zc) ⊕ (Nat × Zc)) :=
  some (.inl (x0, x2, x3, (x4 + 1), c))
def g_Search_begin_103 (nf : Nat) (x0 : Nat) (x2 : Int32) (x3 : Int32) (x4 : Int32) (c : Zc) : Option ((Nat × Int32 × Int32 × Int32 × Zc) ⊕ (Nat × Zc)) :=
  if 8 ≤ x4 then (some (.inr (x0, c))) else ((zgr c x0 6 5).bind fun v26 => (zgr c v26 2 9).bind fun v27 => (zai c v27 0 x2).bind fun v28 => if ((v28 >>> (x4 &&& 31)) &&& 1) = 0 then (f_Search_begin_165 nf x0 x2 x3 x4 c) else ((zgr c x0 6 2).bind fun v30 => (zgi c x0 6 10).bind fun v31 => (zsi c v30 0 v31 x4).bind fun c32 => (zgr c32 x0 6 3).bind fun v33 => (zgi c32 x0 6 10).bind fun v34 => (zsi c32 v33 0 v34 x3).bind fun c35 => (zgi c35 x0 6 10).bind fun v36 => (zpv c35 x0 6 10 (.int (v36 + 1))).bind fun c37 => f_Search_begin_165 nf x0 x2 (x3 ||| (1 <<< (x4 &&& 31))) x4 c37))
def f_Search_begin_197 (nf : Nat) (s0 : Nat) (s1 : Int32) (s2 : Int32) (c : Zc) : Option (Zc) :=
  (zsi c s0 0 s1 s2).bind fun c44 => some c44
def f_Search_begin_103 (nf : Nat) (x0 : Nat) (x2 : Int32) (x3 : Int32) (x4 : Int32) (c : Zc) : Option (Zc) :=
  (zlp (fun a => g_Search_begin_103 nf a.1 a.2.1 a.2.2.1 a.2.2.2.1 a.2.2.2.2) nf (x0, x2, x3, x4, c)).bind fun b => (zpv b.2 b.1 6 11 (.int 0)).bind fun c38 => (zgr c38 b.1 6 4).bind fun v39 => (zgi c38 b.1 6 10).bind fun v40 => if v40 = 0 then (f_Search_begin_197 nf v39 0 0 c38) else ((zob c38 b.1 6).bind fun w43 => (f_Search_candidates nf b.1 0 c38).bind fun q42 => f_Search_begin_197 nf v39 0 q42.1 q42.2)
def f_Search_begin_99 (nf : Nat) (x0 : Nat) (x2 : Int32) (s0 : Int32) (c : Zc) : Option (Zc) :=
  f_Search_begin_103 nf x0 x2 s0 0 c
def f_Search_begin_61 (nf : Nat) (x0 : Nat) (x2 : Int32) (s0 : Nat) (s1 : Int32) (c : Zc) : Option (Zc) :=
  (zpv c s0 6 8 (.int s1)).bind fun c15 => (zgr c15 x0 6 5).bind fun v16 => (zgr c15 v16 2 11).bind fun v17 => (zai c15 v17 0 x2).bind fun v18 => (zpv c15 x0 6 9 (.int v18)).bind fun c19 => (zpv c19 x0 6 10 (.int 0)).bind fun c20 => if x2 = 0 then (f_Search_begin_99 nf x0 x2 0 c20) else ((zgr c20 x0 6 5).bind fun v22 => (zgr c20 v22 2 9).bind fun v23 => (zai c20 v23 0 0).bind fun v24 => f_Search_begin_99 nf x0 x2 v24 c20)
def f_Search_begin_25 (nf : Nat) (x0 : Nat) (x2 : Int32) (s0 : Nat) (s1 : Int32) (c : Zc) : Option (Zc) :=
  (zpv c s0 6 6 (.int s1)).bind fun c6 => (zgr c6 x0 6 5).bind fun v7 => (zgr c6 v7 2 10).bind fun v8 => (zai c6 v8 0 x2).bind fun v9 => (zpv c6 x0 6 7 (.int v9)).bind fun c10 => if x2 = 0 then (f_Search_begin_61 nf x0 x2 x0 0 c10) else ((zgr c10 x0 6 5).bind fun v12 => (zgr c10 v12 2 11).bind fun v13 => (zai c10 v13 0 (x2 - 1)).bind fun v14 => f_Search_begin_61 nf x0 x2 x0 v14 c10)
def f_Search_begin (nf : Nat) (a0 : Nat) (a1 : Nat) (a2 : Int32) (c : Zc) : Option (Zc) :=
  (zpv c a0 6 5 (.ref a1)).bind fun c1 => if a2 = 0 then (f_Search_begin_25 nf a0 a2 a0 0 c1) else ((zgr c1 a0 6 5).bind fun v3 => (zgr c1 v3 2 10).bind fun v4 => (zai c1 v4 0 (a2 - 1)).bind fun v5 => f_Search_begin_25 nf a0 a2 a0 v5 c1)
set_option maxRecDepth 100000 in
set_option maxHeartbeats 4000000 in
theorem t_Search_begin_165  (X : zX p s m args cd D cid B bb_Search_begin 5 rr_Search zT) (H : zH s meth B n0 none "begin") {nf : Nat} {x0 : Nat} {x2 : Int32} {x3 : Int32} {x4 : Int32} {c : Zc} {r : (Nat × Int32 × Int32 × Int32 × Zc) ⊕ (Nat × Zc)} (h : f_Search_begin_165 nf x0 x2 x3 x4 c = some r) (k0 : ∀ a, r = .inl a → (fun a : Nat × Int32 × Int32 × Int32 × Zc => Zz p l e (zRm 1 26 0 0) s m args below meth cd Q D cid B 5 0 0 a.2.2.2.2 103 [(0, .ref a.1), (2, .int a.2.1), (3, .int a.2.2.1), (4, .int a.2.2.2.1)] []) a) (k1 : ∀ b, r = .inr b → (fun b : Nat × Zc => Zz p l e (zRm 1 26 0 0) s m args below meth cd Q D cid B 5 0 0 b.2 171 [(0, .ref b.1)] []) b) : Zz p l e (zRm 1 26 0 0) s m args below meth cd Q D cid B 5 0 0 c 165 [(0, .ref x0), (2, .int x2), (3, .int x3), (4, .int x4)] [] := by
  unfold f_Search_begin_165 at h
  refine z_iinc (v := (x4 + 1)) (lv' := [(4, .int (x4 + 1)), (0, .ref x0), (2, .int x2), (3, .int x3)]) X dd_Search_begin_165 3 rfl rfl (by decide) rfl ?_
  refine z_goto (tgt := 103) X dd_Search_begin_168 (by decide) ?_
  refine z_sub [1, 2, 3, 0] rfl ?_
  obtain rfl := Option.some.inj h
  exact k0 _ rfl
set_option maxRecDepth 100000 in
set_option maxHeartbeats 4000000 in
theorem u_Search_begin_103  (X : zX p s m args cd D cid B bb_Search_begin 5 rr_Search zT) (H : zH s meth B n0 none "begin") {nf : Nat} {x0 : Nat} {x2 : Int32} {x3 : Int32} {x4 : Int32} {c : Zc} {r : (Nat × Int32 × Int32 × Int32 × Zc) ⊕ (Nat × Zc)} (h : g_Search_begin_103 nf x0 x2 x3 x4 c = some r) (k0 : ∀ a, r = .inl a → (fun a : Nat × Int32 × Int32 × Int32 × Zc => Zz p l e (zRm 1 26 0 0) s m args below meth cd Q D cid B 5 0 0 a.2.2.2.2 103 [(0, .ref a.1), (2, .int a.2.1), (3, .int a.2.2.1), (4, .int a.2.2.2.1)] []) a) (k1 : ∀ b, r = .inr b → (fun b : Nat × Zc => Zz p l e (zRm 1 26 0 0) s m args below meth cd Q D cid B 5 0 0 b.2 171 [(0, .ref b.1)] []) b) : Zz p l e (zRm 1 26 0 0) s m args below meth cd Q D cid B 5 0 0 c 103 [(0, .ref x0), (2, .int x2), (3, .int x3), (4, .int x4)] [] := by
  unfold g_Search_begin_103 at h
  refine z_iload X dd_Search_begin_103 3 rfl ?_
  refine z_bipush (v := 8) X dd_Search_begin_105 (by decide) ?_
  refine z_icmp_ge (tgt := 171) X dd_Search_begin_107 (by decide) (fun q25 => ?_) (fun q25 => ?_)
  · rw [if_pos q25] at h
    refine z_sub [0] rfl ?_
    obtain rfl := Option.some.inj h
    exact k1 _ rfl
  · rw [if_neg q25] at h
    refine z_aload_n X dd_Search_begin_110 rfl 0 rfl ?_
    obtain ⟨v26, ev26, h⟩ := zb h
    refine z_get (j := 5) X dd_Search_begin_111 kc_6 ki_6 (by decide) km_552 (zgr_v ev26) ?_
    obtain ⟨v27, ev27, h⟩ := zb h
    refine z_get (j := 9) X dd_Search_begin_114 kc_2 ki_2 (by decide) km_330 (zgr_v ev27) ?_
    refine z_iload_n X dd_Search_begin_117 rfl 1 rfl ?_
    obtain ⟨v28, ev28, h⟩ := zb h
    refine z_iaload X dd_Search_begin_118 rfl ev28 ?_
    refine z_iload X dd_Search_begin_119 3 rfl ?_
    refine z_ishr X dd_Search_begin_121 ?_
    refine z_iconst (v := 1) X dd_Search_begin_122 (by decide) ?_
    refine z_iand X dd_Search_begin_123 ?_
    refine z_if_eq (tgt := 165) X dd_Search_begin_124 (by decide) (fun q29 => ?_) (fun q29 => ?_)
    · rw [if_pos q29] at h
      exact t_Search_begin_165 X H h k0 k1
    · rw [if_neg q29] at h
      refine z_aload_n X dd_Search_begin_127 rfl 0 rfl ?_
      obtain ⟨v30, ev30, h⟩ := zb h
      refine z_get (j := 2) X dd_Search_begin_128 kc_6 ki_6 (by decide) km_549 (zgr_v ev30) ?_
      refine z_aload_n X dd_Search_begin_131 rfl 0 rfl ?_
      obtain ⟨v31, ev31, h⟩ := zb h
      refine z_get (j := 10) X dd_Search_begin_132 kc_6 ki_6 (by decide) km_557 (zgi_v ev31) ?_
      refine z_iload X dd_Search_begin_135 3 rfl ?_
      obtain ⟨c32, ec32, h⟩ := zb h
      refine z_iastore X dd_Search_begin_137 rfl ec32 ?_
      refine z_aload_n X dd_Search_begin_138 rfl 0 rfl ?_
      obtain ⟨v33, ev33, h⟩ := zb h
      refine z_get (j := 3) X dd_Search_begin_139 kc_6 ki_6 (by decide) km_550 (zgr_v ev33) ?_
      refine z_aload_n X dd_Search_begin_142 rfl 0 rfl ?_
      obtain ⟨v34, ev34, h⟩ := zb h
      refine z_get (j := 10) X dd_Search_begin_143 kc_6 ki_6 (by decide) km_557 (zgi_v ev34) ?_
      refine z_iload_n X dd_Search_begin_146 rfl 2 rfl ?_
      obtain ⟨c35, ec35, h⟩ := zb h
      refine z_iastore X dd_Search_begin_147 rfl ec35 ?_
      refine z_iload_n X dd_Search_begin_148 rfl 2 rfl ?_
      refine z_iconst (v := 1) X dd_Search_begin_149 (by decide) ?_
      refine z_iload X dd_Search_begin_150 3 rfl ?_
      refine z_ishl X dd_Search_begin_152 ?_
      refine z_ior X dd_Search_begin_153 ?_
      refine z_istore_n (lv' := [(3, .int (x3 ||| (1 <<< (x4 &&& 31)))), (0, .ref x0), (2, .int x2), (4, .int x4)]) X dd_Search_begin_154 rfl (by decide) rfl ?_
      refine z_aload_n X dd_Search_begin_155 rfl 1 rfl ?_
      refine z_dup X dd_Search_begin_156 rfl ?_
      obtain ⟨v36, ev36, h⟩ := zb h
      refine z_get (j := 10) X dd_Search_begin_157 kc_6 ki_6 (by decide) km_557 (zgi_v ev36) ?_
      refine z_iconst (v := 1) X dd_Search_begin_160 (by decide) ?_
      refine z_iadd X dd_Search_begin_161 ?_
      obtain ⟨c37, ec37, h⟩ := zb h
      refine z_put (j := 10) X dd_Search_begin_162 kc_6 ki_6 tt_Search tk_Search nn_Search (by decide) km_557 rfl (tk_Search 10 (by decide)) rfl rfl ec37 ?_
      refine z_sub [1, 2, 0, 3] rfl ?_
      exact t_Search_begin_165 X H h k0 k1
set_option maxRecDepth 100000 in
set_option maxHeartbeats 4000000 in
theorem t_Search_begin_197  (X : zX p s m args cd D cid B bb_Search_begin 5 rr_Search zT) (H : zH s meth B n0 none "begin") {nf : Nat} {s0 : Nat} {s1 : Int32} {s2 : Int32} {c : Zc} {res : Zc} (h : f_Search_begin_197 nf s0 s1 s2 c = some res) : Zz p l e (zRm 1 26 0 0) s m args below meth cd (MQ below (zQv D cid B res n0 0) args s 0 0 (fun q => B ≤ q)) D cid B 5 0 0 c 197 [] [.int s2, .int s1, .ref s0] := by
  unfold f_Search_begin_197 at h
  obtain ⟨c44, ec44, h⟩ := zb h
  refine z_iastore X dd_Search_begin_197 rfl ec44 ?_
  obtain rfl := Option.some.inj h
  exact z_vret X H.1 H.2.1 H.2.2.1 dd_Search_begin_198
set_option maxRecDepth 100000 in
set_option maxHeartbeats 4000000 in
theorem t_Search_begin_103  (X : zX p s m args cd D cid B bb_Search_begin 5 rr_Search zT) (H : zH s meth B n0 none "begin") {nf : Nat} {x0 : Nat} {x2 : Int32} {x3 : Int32} {x4 : Int32} {c : Zc} {res : Zc} (h : f_Search_begin_103 nf x0 x2 x3 x4 c = some res) : Zz p l e (zRm 1 26 0 0) s m args below meth cd (MQ below (zQv D cid B res n0 0) args s 0 0 (fun q => B ≤ q)) D cid B 5 0 0 c 103 [(0, .ref x0), (2, .int x2), (3, .int x3), (4, .int x4)] [] := by
  unfold f_Search_begin_103 at h
  obtain ⟨b, eb, h⟩ := zb h
  refine zlp_ok (P := fun a : Nat × Int32 × Int32 × Int32 × Zc => Zz p l e (zRm 1 26 0 0) s m args below meth cd _ D cid B 5 0 0 a.2.2.2.2 103 [(0, .ref a.1), (2, .int a.2.1), (3, .int a.2.2.1), (4, .int a.2.2.2.1)] []) (G := fun b : Nat × Zc => Zz p l e (zRm 1 26 0 0) s m args below meth cd _ D cid B 5 0 0 b.2 171 [(0, .ref b.1)] []) (fun a r ha k0 k1 => u_Search_begin_103 X H ha k0 k1) nf _ b eb ?_
  refine z_aload_n X dd_Search_begin_171 rfl 0 rfl ?_
  refine z_iconst (v := 0) X dd_Search_begin_172 (by decide) ?_
  obtain ⟨c38, ec38, h⟩ := zb h
  refine z_put (j := 11) X dd_Search_begin_173 kc_6 ki_6 tt_Search tk_Search nn_Search (by decide) km_558 rfl (tk_Search 11 (by decide)) rfl rfl ec38 ?_
  refine z_aload_n X dd_Search_begin_176 rfl 0 rfl ?_
  obtain ⟨v39, ev39, h⟩ := zb h
  refine z_get (j := 4) X dd_Search_begin_177 kc_6 ki_6 (by decide) km_551 (zgr_v ev39) ?_
  refine z_iconst (v := 0) X dd_Search_begin_180 (by decide) ?_
  refine z_aload_n X dd_Search_begin_181 rfl 0 rfl ?_
  obtain ⟨v40, ev40, h⟩ := zb h
  refine z_get (j := 10) X dd_Search_begin_182 kc_6 ki_6 (by decide) km_557 (zgi_v ev40) ?_
  refine z_if_ne (tgt := 192) X dd_Search_begin_185 (by decide) (fun q41 => ?_) (fun q41 => ?_)
  · rw [if_neg q41] at h
    refine z_aload_n X dd_Search_begin_192 rfl 0 rfl ?_
    refine z_iconst (v := 0) X dd_Search_begin_193 (by decide) ?_
    obtain ⟨w43, ew43, h⟩ := zb h
    obtain ⟨q42, eq42, h⟩ := zb h
    refine z_callVi X [.int 0] rfl dd_Search_begin_194 (c_Search_candidates l eq42) (cwV 1 X.1.2.2.2.2 (zg_V km_1332 km_1334 km_51 km_134 km_1335) rfl rfl rfl (by decide +kernel) ⟨Nat.le_of_ble_eq_true rfl, Nat.le_of_ble_eq_true rfl⟩) (zob_s ew43) kc_6 rfl (Nat.le_of_ble_eq_true rfl) ⟨Nat.le_of_ble_eq_true rfl, Nat.le_of_ble_eq_true rfl⟩ ?_
    refine z_sub [] rfl ?_
    exact t_Search_begin_197 X H h
  · rw [if_pos q41] at h
    refine z_iconst (v := 0) X dd_Search_begin_188 (by decide) ?_
    refine z_goto (tgt := 197) X dd_Search_begin_189 (by decide) ?_
    refine z_sub [] rfl ?_
    exact t_Search_begin_197 X H h
set_option maxRecDepth 100000 in
set_option maxHeartbeats 4000000 in
theorem t_Search_begin_99  (X : zX p s m args cd D cid B bb_Search_begin 5 rr_Search zT) (H : zH s meth B n0 none "begin") {nf : Nat} {x0 : Nat} {x2 : Int32} {s0 : Int32} {c : Zc} {res : Zc} (h : f_Search_begin_99 nf x0 x2 s0 c = some res) : Zz p l e (zRm 1 26 0 0) s m args below meth cd (MQ below (zQv D cid B res n0 0) args s 0 0 (fun q => B ≤ q)) D cid B 5 0 0 c 99 [(0, .ref x0), (2, .int x2)] [.int s0] := by
  unfold f_Search_begin_99 at h
  refine z_istore_n (lv' := [(3, .int s0), (0, .ref x0), (2, .int x2)]) X dd_Search_begin_99 rfl (by decide) rfl ?_
  refine z_iconst (v := 0) X dd_Search_begin_100 (by decide) ?_
  refine z_istore (lv' := [(4, .int 0), (3, .int s0), (0, .ref x0), (2, .int x2)]) X dd_Search_begin_101 (by decide) rfl ?_
  refine z_sub [2, 3, 1, 0] rfl ?_
  exact t_Search_begin_103 X H h
set_option maxRecDepth 100000 in
set_option maxHeartbeats 4000000 in
theorem t_Search_begin_61  (X : zX p s m args cd D cid B bb_Search_begin 5 rr_Search zT) (H : zH s meth B n0 none "begin") {nf : Nat} {x0 : Nat} {x2 : Int32} {s0 : Nat} {s1 : Int32} {c : Zc} {res : Zc} (h : f_Search_begin_61 nf x0 x2 s0 s1 c = some res) : Zz p l e (zRm 1 26 0 0) s m args below meth cd (MQ below (zQv D cid B res n0 0) args s 0 0 (fun q => B ≤ q)) D cid B 5 0 0 c 61 [(0, .ref x0), (2, .int x2)] [.int s1, .ref s0] := by
  unfold f_Search_begin_61 at h
  obtain ⟨c15, ec15, h⟩ := zb h
  refine z_put (j := 8) X dd_Search_begin_61 kc_6 ki_6 tt_Search tk_Search nn_Search (by decide) km_555 rfl (tk_Search 8 (by decide)) rfl rfl ec15 ?_
  refine z_aload_n X dd_Search_begin_64 rfl 0 rfl ?_
  refine z_aload_n X dd_Search_begin_65 rfl 0 rfl ?_
  obtain ⟨v16, ev16, h⟩ := zb h
  refine z_get (j := 5) X dd_Search_begin_66 kc_6 ki_6 (by decide) km_552 (zgr_v ev16) ?_
  obtain ⟨v17, ev17, h⟩ := zb h
  refine z_get (j := 11) X dd_Search_begin_69 kc_2 ki_2 (by decide) km_335 (zgr_v ev17) ?_
  refine z_iload_n X dd_Search_begin_72 rfl 1 rfl ?_
  obtain ⟨v18, ev18, h⟩ := zb h
  refine z_iaload X dd_Search_begin_73 rfl ev18 ?_
  obtain ⟨c19, ec19, h⟩ := zb h
  refine z_put (j := 9) X dd_Search_begin_74 kc_6 ki_6 tt_Search tk_Search nn_Search (by decide) km_556 rfl (tk_Search 9 (by decide)) rfl rfl ec19 ?_
  refine z_aload_n X dd_Search_begin_77 rfl 0 rfl ?_
  refine z_iconst (v := 0) X dd_Search_begin_78 (by decide) ?_
  obtain ⟨c20, ec20, h⟩ := zb h
  refine z_put (j := 10) X dd_Search_begin_79 kc_6 ki_6 tt_Search tk_Search nn_Search (by decide) km_557 rfl (tk_Search 10 (by decide)) rfl rfl ec20 ?_
  refine z_iload_n X dd_Search_begin_82 rfl 1 rfl ?_
  refine z_if_ne (tgt := 90) X dd_Search_begin_83 (by decide) (fun q21 => ?_) (fun q21 => ?_)
  · rw [if_neg q21] at h
    refine z_aload_n X dd_Search_begin_90 rfl 0 rfl ?_
    obtain ⟨v22, ev22, h⟩ := zb h
    refine z_get (j := 5) X dd_Search_begin_91 kc_6 ki_6 (by decide) km_552 (zgr_v ev22) ?_
    obtain ⟨v23, ev23, h⟩ := zb h
    refine z_get (j := 9) X dd_Search_begin_94 kc_2 ki_2 (by decide) km_330 (zgr_v ev23) ?_
    refine z_iconst (v := 0) X dd_Search_begin_97 (by decide) ?_
    obtain ⟨v24, ev24, h⟩ := zb h
    refine z_iaload X dd_Search_begin_98 rfl ev24 ?_
    exact t_Search_begin_99 X H h
  · rw [if_pos q21] at h
    refine z_iconst (v := 0) X dd_Search_begin_86 (by decide) ?_
    refine z_goto (tgt := 99) X dd_Search_begin_87 (by decide) ?_
    exact t_Search_begin_99 X H h
set_option maxRecDepth 100000 in
set_option maxHeartbeats 4000000 in
theorem t_Search_begin_25  (X : zX p s m args cd D cid B bb_Search_begin 5 rr_Search zT) (H : zH s meth B n0 none "begin") {nf : Nat} {x0 : Nat} {x2 : Int32} {s0 : Nat} {s1 : Int32} {c : Zc} {res : Zc} (h : f_Search_begin_25 nf x0 x2 s0 s1 c = some res) : Zz p l e (zRm 1 26 0 0) s m args below meth cd (MQ below (zQv D cid B res n0 0) args s 0 0 (fun q => B ≤ q)) D cid B 5 0 0 c 25 [(0, .ref x0), (2, .int x2)] [.int s1, .ref s0] := by
  unfold f_Search_begin_25 at h
  obtain ⟨c6, ec6, h⟩ := zb h
  refine z_put (j := 6) X dd_Search_begin_25 kc_6 ki_6 tt_Search tk_Search nn_Search (by decide) km_553 rfl (tk_Search 6 (by decide)) rfl rfl ec6 ?_
  refine z_aload_n X dd_Search_begin_28 rfl 0 rfl ?_
  refine z_aload_n X dd_Search_begin_29 rfl 0 rfl ?_
  obtain ⟨v7, ev7, h⟩ := zb h
  refine z_get (j := 5) X dd_Search_begin_30 kc_6 ki_6 (by decide) km_552 (zgr_v ev7) ?_
  obtain ⟨v8, ev8, h⟩ := zb h
  refine z_get (j := 10) X dd_Search_begin_33 kc_2 ki_2 (by decide) km_333 (zgr_v ev8) ?_
  refine z_iload_n X dd_Search_begin_36 rfl 1 rfl ?_
  obtain ⟨v9, ev9, h⟩ := zb h
  refine z_iaload X dd_Search_begin_37 rfl ev9 ?_
  obtain ⟨c10, ec10, h⟩ := zb h
  refine z_put (j := 7) X dd_Search_begin_38 kc_6 ki_6 tt_Search tk_Search nn_Search (by decide) km_554 rfl (tk_Search 7 (by decide)) rfl rfl ec10 ?_
  refine z_aload_n X dd_Search_begin_41 rfl 0 rfl ?_
  refine z_iload_n X dd_Search_begin_42 rfl 1 rfl ?_
  refine z_if_ne (tgt := 50) X dd_Search_begin_43 (by decide) (fun q11 => ?_) (fun q11 => ?_)
  · rw [if_neg q11] at h
    refine z_aload_n X dd_Search_begin_50 rfl 0 rfl ?_
    obtain ⟨v12, ev12, h⟩ := zb h
    refine z_get (j := 5) X dd_Search_begin_51 kc_6 ki_6 (by decide) km_552 (zgr_v ev12) ?_
    obtain ⟨v13, ev13, h⟩ := zb h
    refine z_get (j := 11) X dd_Search_begin_54 kc_2 ki_2 (by decide) km_335 (zgr_v ev13) ?_
    refine z_iload_n X dd_Search_begin_57 rfl 1 rfl ?_
    refine z_iconst (v := 1) X dd_Search_begin_58 (by decide) ?_
    refine z_isub X dd_Search_begin_59 ?_
    obtain ⟨v14, ev14, h⟩ := zb h
    refine z_iaload X dd_Search_begin_60 rfl ev14 ?_
    exact t_Search_begin_61 X H h
  · rw [if_pos q11] at h
    refine z_iconst (v := 0) X dd_Search_begin_46 (by decide) ?_
    refine z_goto (tgt := 61) X dd_Search_begin_47 (by decide) ?_
    exact t_Search_begin_61 X H h
set_option maxRecDepth 100000 in
set_option maxHeartbeats 4000000 in
theorem c_Search_begin (l : Launch) {nf : Nat} {a0 : Nat} {a1 : Nat} {a2 : Int32} {c : Zc} {res : Zc} (h : f_Search_begin nf a0 a1 a2 c = some res) : zM l yy_Search_begin ww_Search_begin 1 26 0 0 [.ref a0, .ref a1, .int a2] c (fun D cid B => zQv D cid B res c.length 0) := by
  refine z_met (cc := bb_Search_begin) (maxL := 5) (ret := none) (by decide +kernel) rfl (Nat.le_of_ble_eq_true rfl) ?_
  intro p e s m args below meth cd D cid B X h1 h2 h3 h4
  have X : zX p s m args cd D cid B bb_Search_begin 5 rr_Search zT := X
  have H : zH s meth B c.length none "begin" := ⟨h1, h2, h4, h3⟩
  unfold f_Search_begin at h
  show Zz p l e (zRm 1 26 0 0) s m args below meth cd _ D cid B 5 0 0 c 0 [(0, .ref a0), (1, .ref a1), (2, .int a2)] []
  refine z_aload_n X dd_Search_begin_0 rfl 0 rfl ?_
  refine z_aload_n X dd_Search_begin_1 rfl 1 rfl ?_
  obtain ⟨c1, ec1, h⟩ := zb h
  refine z_put (j := 5) X dd_Search_begin_2 kc_6 ki_6 tt_Search tk_Search nn_Search (by decide) km_552 rfl (tk_Search 5 (by decide)) rfl rfl ec1 ?_
  refine z_aload_n X dd_Search_begin_5 rfl 0 rfl ?_
  refine z_iload_n X dd_Search_begin_6 rfl 2 rfl ?_
  refine z_if_ne (tgt := 14) X dd_Search_begin_7 (by decide) (fun q2 => ?_) (fun q2 => ?_)
  · rw [if_neg q2] at h
    refine z_aload_n X dd_Search_begin_14 rfl 0 rfl ?_
    obtain ⟨v3, ev3, h⟩ := zb h
    refine z_get (j := 5) X dd_Search_begin_15 kc_6 ki_6 (by decide) km_552 (zgr_v ev3) ?_
    obtain ⟨v4, ev4, h⟩ := zb h
    refine z_get (j := 10) X dd_Search_begin_18 kc_2 ki_2 (by decide) km_333 (zgr_v ev4) ?_
    refine z_iload_n X dd_Search_begin_21 rfl 2 rfl ?_
    refine z_iconst (v := 1) X dd_Search_begin_22 (by decide) ?_
    refine z_isub X dd_Search_begin_23 ?_
    obtain ⟨v5, ev5, h⟩ := zb h
    refine z_iaload X dd_Search_begin_24 rfl ev5 ?_
    refine z_sub [0, 2] rfl ?_
    exact t_Search_begin_25 X H h
  · rw [if_pos q2] at h
    refine z_iconst (v := 0) X dd_Search_begin_10 (by decide) ?_
    refine z_goto (tgt := 25) X dd_Search_begin_11 (by decide) ?_
    refine z_sub [0, 2] rfl ?_
    exact t_Search_begin_25 X H h
theorem dd_Integer_numberOfTrailingZeros_0 : decode bb_Integer_numberOfTrailingZeros 0 = .ok (.iload_n 0, 1) := by decide +kernel
theorem dd_Integer_numberOfTrailingZeros_1 : decode bb_Integer_numberOfTrailingZeros 1 = .ok (.iconst (-1), 1) := by decide +kernel
theorem dd_Integer_numberOfTrailingZeros_2 : decode bb_Integer_numberOfTrailingZeros 2 = .ok (.ixor, 1) := by decide +kernel
theorem dd_Integer_numberOfTrailingZeros_3 : decode bb_Integer_numberOfTrailingZeros 3 = .ok (.iload_n 0, 1) := by decide +kernel
theorem dd_Integer_numberOfTrailingZeros_4 : decode bb_Integer_numberOfTrailingZeros 4 = .ok (.iconst 1, 1) := by decide +kernel
theorem dd_Integer_numberOfTrailingZeros_5 : decode bb_Integer_numberOfTrailingZeros 5 = .ok (.isub, 1) := by decide +kernel
theorem dd_Integer_numberOfTrailingZeros_6 : decode bb_Integer_numberOfTrailingZeros 6 = .ok (.iand, 1) := by decide +kernel
theorem dd_Integer_numberOfTrailingZeros_7 : decode bb_Integer_numberOfTrailingZeros 7 = .ok (.istore_n 0, 1) := by decide +kernel
theorem dd_Integer_numberOfTrailingZeros_8 : decode bb_Integer_numberOfTrailingZeros 8 = .ok (.iload_n 0, 1) := by decide +kernel
theorem dd_Integer_numberOfTrailingZeros_9 : decode bb_Integer_numberOfTrailingZeros 9 = .ok (.ifCond .gt 8, 3) := by decide +kernel
theorem dd_Integer_numberOfTrailingZeros_12 : decode bb_Integer_numberOfTrailingZeros 12 = .ok (.iload_n 0, 1) := by decide +kernel
theorem dd_Integer_numberOfTrailingZeros_13 : decode bb_Integer_numberOfTrailingZeros 13 = .ok (.bipush 32, 2) := by decide +kernel
theorem dd_Integer_numberOfTrailingZeros_15 : decode bb_Integer_numberOfTrailingZeros 15 = .ok (.iand, 1) := by decide +kernel
theorem dd_Integer_numberOfTrailingZeros_16 : decode bb_Integer_numberOfTrailingZeros 16 = .ok (.ireturn, 1) := by decide +kernel
theorem dd_Integer_numberOfTrailingZeros_17 : decode bb_Integer_numberOfTrailingZeros 17 = .ok (.iconst 1, 1) := by decide +kernel
theorem dd_Integer_numberOfTrailingZeros_18 : decode bb_Integer_numberOfTrailingZeros 18 = .ok (.istore_n 1, 1) := by decide +kernel
theorem dd_Integer_numberOfTrailingZeros_19 : decode bb_Integer_numberOfTrailingZeros 19 = .ok (.iload_n 0, 1) := by decide +kernel
theorem dd_Integer_numberOfTrailingZeros_20 : decode bb_Integer_numberOfTrailingZeros 20 = .ok (.ldc_w 264, 3) := by decide +kernel
theorem dd_Integer_numberOfTrailingZeros_23 : decode bb_Integer_numberOfTrailingZeros 23 = .ok (.if_icmp .le 11, 3) := by decide +kernel
theorem dd_Integer_numberOfTrailingZeros_26 : decode bb_Integer_numberOfTrailingZeros 26 = .ok (.iinc 1 16, 3) := by decide +kernel
theorem dd_Integer_numberOfTrailingZeros_29 : decode bb_Integer_numberOfTrailingZeros 29 = .ok (.iload_n 0, 1) := by decide +kernel
theorem dd_Integer_numberOfTrailingZeros_30 : decode bb_Integer_numberOfTrailingZeros 30 = .ok (.bipush 16, 2) := by decide +kernel
theorem dd_Integer_numberOfTrailingZeros_32 : decode bb_Integer_numberOfTrailingZeros 32 = .ok (.iushr, 1) := by decide +kernel
theorem dd_Integer_numberOfTrailingZeros_33 : decode bb_Integer_numberOfTrailingZeros 33 = .ok (.istore_n 0, 1) := by decide +kernel
theorem dd_Integer_numberOfTrailingZeros_34 : decode bb_Integer_numberOfTrailingZeros 34 = .ok (.iload_n 0, 1) := by decide +kernel
theorem dd_Integer_numberOfTrailingZeros_35 : decode bb_Integer_numberOfTrailingZeros 35 = .ok (.sipush 256, 3) := by decide +kernel
theorem dd_Integer_numberOfTrailingZeros_38 : decode bb_Integer_numberOfTrailingZeros 38 = .ok (.if_icmp .le 11, 3) := by decide +kernel
theorem dd_Integer_numberOfTrailingZeros_41 : decode bb_Integer_numberOfTrailingZeros 41 = .ok (.iinc 1 8, 3) := by decide +kernel
theorem dd_Integer_numberOfTrailingZeros_44 : decode bb_Integer_numberOfTrailingZeros 44 = .ok (.iload_n 0, 1) := by decide +kernel
theorem dd_Integer_numberOfTrailingZeros_45 : decode bb_Integer_numberOfTrailingZeros 45 = .ok (.bipush 8, 2) := by decide +kernel
theorem dd_Integer_numberOfTrailingZeros_47 : decode bb_Integer_numberOfTrailingZeros 47 = .ok (.iushr, 1) := by decide +kernel
theorem dd_Integer_numberOfTrailingZeros_48 : decode bb_Integer_numberOfTrailingZeros 48 = .ok (.istore_n 0, 1) := by decide +kernel
theorem dd_Integer_numberOfTrailingZeros_49 : decode bb_Integer_numberOfTrailingZeros 49 = .ok (.iload_n 0, 1) := by decide +kernel
theorem dd_Integer_numberOfTrailingZeros_50 : decode bb_Integer_numberOfTrailingZeros 50 = .ok (.bipush 16, 2) := by decide +kernel
theorem dd_Integer_numberOfTrailingZeros_52 : decode bb_Integer_numberOfTrailingZeros 52 = .ok (.if_icmp .le 10, 3) := by decide +kernel
theorem dd_Integer_numberOfTrailingZeros_55 : decode bb_Integer_numberOfTrailingZeros 55 = .ok (.iinc 1 4, 3) := by decide +kernel
theorem dd_Integer_numberOfTrailingZeros_58 : decode bb_Integer_numberOfTrailingZeros 58 = .ok (.iload_n 0, 1) := by decide +kernel
theorem dd_Integer_numberOfTrailingZeros_59 : decode bb_Integer_numberOfTrailingZeros 59 = .ok (.iconst 4, 1) := by decide +kernel
theorem dd_Integer_numberOfTrailingZeros_60 : decode bb_Integer_numberOfTrailingZeros 60 = .ok (.iushr, 1) := by decide +kernel
theorem dd_Integer_numberOfTrailingZeros_61 : decode bb_Integer_numberOfTrailingZeros 61 = .ok (.istore_n 0, 1) := by decide +kernel
theorem dd_Integer_numberOfTrailingZeros_62 : decode bb_Integer_numberOfTrailingZeros 62 = .ok (.iload_n 0, 1) := by decide +kernel
theorem dd_Integer_numberOfTrailingZeros_63 : decode bb_Integer_numberOfTrailingZeros 63 = .ok (.iconst 4, 1) := by decide +kernel
theorem dd_Integer_numberOfTrailingZeros_64 : decode bb_Integer_numberOfTrailingZeros 64 = .ok (.if_icmp .le 10, 3) := by decide +kernel
theorem dd_Integer_numberOfTrailingZeros_67 : decode bb_Integer_numberOfTrailingZeros 67 = .ok (.iinc 1 2, 3) := by decide +kernel
theorem dd_Integer_numberOfTrailingZeros_70 : decode bb_Integer_numberOfTrailingZeros 70 = .ok (.iload_n 0, 1) := by decide +kernel
theorem dd_Integer_numberOfTrailingZeros_71 : decode bb_Integer_numberOfTrailingZeros 71 = .ok (.iconst 2, 1) := by decide +kernel
theorem dd_Integer_numberOfTrailingZeros_72 : decode bb_Integer_numberOfTrailingZeros 72 = .ok (.iushr, 1) := by decide +kernel
theorem dd_Integer_numberOfTrailingZeros_73 : decode bb_Integer_numberOfTrailingZeros 73 = .ok (.istore_n 0, 1) := by decide +kernel
theorem dd_Integer_numberOfTrailingZeros_74 : decode bb_Integer_numberOfTrailingZeros 74 = .ok (.iload_n 1, 1) := by decide +kernel
theorem dd_Integer_numberOfTrailingZeros_75 : decode bb_Integer_numberOfTrailingZeros 75 = .ok (.iload_n 0, 1) := by decide +kernel
theorem dd_Integer_numberOfTrailingZeros_76 : decode bb_Integer_numberOfTrailingZeros 76 = .ok (.iconst 1, 1) := by decide +kernel
theorem dd_Integer_numberOfTrailingZeros_77 : decode bb_Integer_numberOfTrailingZeros 77 = .ok (.iushr, 1) := by decide +kernel
theorem dd_Integer_numberOfTrailingZeros_78 : decode bb_Integer_numberOfTrailingZeros 78 = .ok (.iadd, 1) := by decide +kernel
theorem dd_Integer_numberOfTrailingZeros_79 : decode bb_Integer_numberOfTrailingZeros 79 = .ok (.ireturn, 1) := by decide +kernel
def f_Integer_numberOfTrailingZeros_74 (nf : Nat) (x0 : Int32) (x1 : Int32) (c : Zc) : Option (Int32 × Zc) :=
  some ((x1 + (Int32.toUInt32 x0 >>> (Int32.toUInt32 1 &&& Int32.toUInt32 31)).toInt32), c)
def f_Integer_numberOfTrailingZeros_62 (nf : Nat) (x0 : Int32) (x1 : Int32) (c : Zc) : Option (Int32 × Zc) :=
  if x0 ≤ 4 then (f_Integer_numberOfTrailingZeros_74 nf x0 x1 c) else (f_Integer_numberOfTrailingZeros_74 nf (Int32.toUInt32 x0 >>> (Int32.toUInt32 2 &&& Int32.toUInt32 31)).toInt32 (x1 + 2) c)
def f_Integer_numberOfTrailingZeros_49 (nf : Nat) (x0 : Int32) (x1 : Int32) (c : Zc) : Option (Int32 × Zc) :=
  if x0 ≤ 16 then (f_Integer_numberOfTrailingZeros_62 nf x0 x1 c) else (f_Integer_numberOfTrailingZeros_62 nf (Int32.toUInt32 x0 >>> (Int32.toUInt32 4 &&& Int32.toUInt32 31)).toInt32 (x1 + 4) c)
def f_Integer_numberOfTrailingZeros_34 (nf : Nat) (x0 : Int32) (x1 : Int32) (c : Zc) : Option (Int32 × Zc) :=
  if x0 ≤ 256 then (f_Integer_numberOfTrailingZeros_49 nf x0 x1 c) else (f_Integer_numberOfTrailingZeros_49 nf (Int32.toUInt32 x0 >>> (Int32.toUInt32 8 &&& Int32.toUInt32 31)).toInt32 (x1 + 8) c)
def f_Integer_numberOfTrailingZeros (nf : Nat) (a0 : Int32) (c : Zc) : Option (Int32 × Zc) :=
  if 0 < ((a0 ^^^ (-1)) &&& (a0 - 1)) then (if ((a0 ^^^ (-1)) &&& (a0 - 1)) ≤ 65536 then (f_Integer_numberOfTrailingZeros_34 nf ((a0 ^^^ (-1)) &&& (a0 - 1)) 1 c) else (f_Integer_numberOfTrailingZeros_34 nf (Int32.toUInt32 ((a0 ^^^ (-1)) &&& (a0 - 1)) >>> (Int32.toUInt32 16 &&& Int32.toUInt32 31)).toInt32 (1 + 16) c)) else (some ((((a0 ^^^ (-1)) &&& (a0 - 1)) &&& 32), c))
set_option maxRecDepth 100000 in
set_option maxHeartbeats 4000000 in
theorem t_Integer_numberOfTrailingZeros_74  (X : zX p s m args cd D cid B bb_Integer_numberOfTrailingZeros 2 rr_Integer zT) (H : zH s meth B n0 (some (.int)) "numberOfTrailingZeros") {nf : Nat} {x0 : Int32} {x1 : Int32} {c : Zc} {res : Int32 × Zc} (h : f_Integer_numberOfTrailingZeros_74 nf x0 x1 c = some res) : Zz p l e (zRm 0 0 0 0) s m args below meth cd (MQ below (zQi D cid B res.1 res.2 n0 0) args s 0 0 (fun q => B ≤ q)) D cid B 2 0 0 c 74 [(0, .int x0), (1, .int x1)] [] := by
  unfold f_Integer_numberOfTrailingZeros_74 at h
  refine z_iload_n X dd_Integer_numberOfTrailingZeros_74 rfl 1 rfl ?_
  refine z_iload_n X dd_Integer_numberOfTrailingZeros_75 rfl 0 rfl ?_
  refine z_iconst (v := 1) X dd_Integer_numberOfTrailingZeros_76 (by decide) ?_
  refine z_iushr X dd_Integer_numberOfTrailingZeros_77 ?_
  refine z_iadd X dd_Integer_numberOfTrailingZeros_78 ?_
  obtain rfl := Option.some.inj h
  exact z_iret X H.1 H.2.1 H.2.2.1 dd_Integer_numberOfTrailingZeros_79
set_option maxRecDepth 100000 in
set_option maxHeartbeats 4000000 in
theorem t_Integer_numberOfTrailingZeros_62  (X : zX p s m args cd D cid B bb_Integer_numberOfTrailingZeros 2 rr_Integer zT) (H : zH s meth B n0 (some (.int)) "numberOfTrailingZeros") {nf : Nat} {x0 : Int32} {x1 : Int32} {c : Zc} {res : Int32 × Zc} (h : f_Integer_numberOfTrailingZeros_62 nf x0 x1 c = some res) : Zz p l e (zRm 0 0 0 0) s m args below meth cd (MQ below (zQi D cid B res.1 res.2 n0 0) args s 0 0 (fun q => B ≤ q)) D cid B 2 0 0 c 62 [(0, .int x0), (1, .int x1)] [] := by
  unfold f_Integer_numberOfTrailingZeros_62 at h
  refine z_iload_n X dd_Integer_numberOfTrailingZeros_62 rfl 0 rfl ?_
  refine z_iconst (v := 4) X dd_Integer_numberOfTrailingZeros_63 (by decide) ?_
  refine z_icmp_le (tgt := 74) X dd_Integer_numberOfTrailingZeros_64 (by decide) (fun q5 => ?_) (fun q5 => ?_)
  · rw [if_pos q5] at h
    exact t_Integer_numberOfTrailingZeros_74 X H h
  · rw [if_neg q5] at h
    refine z_iinc (v := (x1 + 2)) (lv' := [(1, .int (x1 + 2)), (0, .int x0)]) X dd_Integer_numberOfTrailingZeros_67 1 rfl rfl (by decide) rfl ?_
    refine z_iload_n X dd_Integer_numberOfTrailingZeros_70 rfl 1 rfl ?_
    refine z_iconst (v := 2) X dd_Integer_numberOfTrailingZeros_71 (by decide) ?_
    refine z_iushr X dd_Integer_numberOfTrailingZeros_72 ?_
    refine z_istore_n (lv' := [(0, .int (Int32.toUInt32 x0 >>> (Int32.toUInt32 2 &&& Int32.toUInt32 31)).toInt32), (1, .int (x1 + 2))]) X dd_Integer_numberOfTrailingZeros_73 rfl (by decide) rfl ?_
    exact t_Integer_numberOfTrailingZeros_74 X H h
set_option maxRecDepth 100000 in
set_option maxHeartbeats 4000000 in
theorem t_Integer_numberOfTrailingZeros_49  (X : zX p s m args cd D cid B bb_Integer_numberOfTrailingZeros 2 rr_Integer zT) (H : zH s meth B n0 (some (.int)) "numberOfTrailingZeros") {nf : Nat} {x0 : Int32} {x1 : Int32} {c : Zc} {res : Int32 × Zc} (h : f_Integer_numberOfTrailingZeros_49 nf x0 x1 c = some res) : Zz p l e (zRm 0 0 0 0) s m args below meth cd (MQ below (zQi D cid B res.1 res.2 n0 0) args s 0 0 (fun q => B ≤ q)) D cid B 2 0 0 c 49 [(0, .int x0), (1, .int x1)] [] := by
  unfold f_Integer_numberOfTrailingZeros_49 at h
  refine z_iload_n X dd_Integer_numberOfTrailingZeros_49 rfl 0 rfl ?_
  refine z_bipush (v := 16) X dd_Integer_numberOfTrailingZeros_50 (by decide) ?_
  refine z_icmp_le (tgt := 62) X dd_Integer_numberOfTrailingZeros_52 (by decide) (fun q4 => ?_) (fun q4 => ?_)
  · rw [if_pos q4] at h
    exact t_Integer_numberOfTrailingZeros_62 X H h
  · rw [if_neg q4] at h
    refine z_iinc (v := (x1 + 4)) (lv' := [(1, .int (x1 + 4)), (0, .int x0)]) X dd_Integer_numberOfTrailingZeros_55 1 rfl rfl (by decide) rfl ?_
    refine z_iload_n X dd_Integer_numberOfTrailingZeros_58 rfl 1 rfl ?_
    refine z_iconst (v := 4) X dd_Integer_numberOfTrailingZeros_59 (by decide) ?_
    refine z_iushr X dd_Integer_numberOfTrailingZeros_60 ?_
    refine z_istore_n (lv' := [(0, .int (Int32.toUInt32 x0 >>> (Int32.toUInt32 4 &&& Int32.toUInt32 31)).toInt32), (1, .int (x1 + 4))]) X dd_Integer_numberOfTrailingZeros_61 rfl (by decide) rfl ?_
    exact t_Integer_numberOfTrailingZeros_62 X H h
set_option maxRecDepth 100000 in
set_option maxHeartbeats 4000000 in
theorem t_Integer_numberOfTrailingZeros_34  (X : zX p s m args cd D cid B bb_Integer_numberOfTrailingZeros 2 rr_Integer zT) (H : zH s meth B n0 (some (.int)) "numberOfTrailingZeros") {nf : Nat} {x0 : Int32} {x1 : Int32} {c : Zc} {res : Int32 × Zc} (h : f_Integer_numberOfTrailingZeros_34 nf x0 x1 c = some res) : Zz p l e (zRm 0 0 0 0) s m args below meth cd (MQ below (zQi D cid B res.1 res.2 n0 0) args s 0 0 (fun q => B ≤ q)) D cid B 2 0 0 c 34 [(0, .int x0), (1, .int x1)] [] := by
  unfold f_Integer_numberOfTrailingZeros_34 at h
  refine z_iload_n X dd_Integer_numberOfTrailingZeros_34 rfl 0 rfl ?_
  refine z_sipush (v := 256) X dd_Integer_numberOfTrailingZeros_35 (by decide) ?_
  refine z_icmp_le (tgt := 49) X dd_Integer_numberOfTrailingZeros_38 (by decide) (fun q3 => ?_) (fun q3 => ?_)
  · rw [if_pos q3] at h
    exact t_Integer_numberOfTrailingZeros_49 X H h
  · rw [if_neg q3] at h
    refine z_iinc (v := (x1 + 8)) (lv' := [(1, .int (x1 + 8)), (0, .int x0)]) X dd_Integer_numberOfTrailingZeros_41 1 rfl rfl (by decide) rfl ?_
    refine z_iload_n X dd_Integer_numberOfTrailingZeros_44 rfl 1 rfl ?_
    refine z_bipush (v := 8) X dd_Integer_numberOfTrailingZeros_45 (by decide) ?_
    refine z_iushr X dd_Integer_numberOfTrailingZeros_47 ?_
    refine z_istore_n (lv' := [(0, .int (Int32.toUInt32 x0 >>> (Int32.toUInt32 8 &&& Int32.toUInt32 31)).toInt32), (1, .int (x1 + 8))]) X dd_Integer_numberOfTrailingZeros_48 rfl (by decide) rfl ?_
    exact t_Integer_numberOfTrailingZeros_49 X H h
set_option maxRecDepth 100000 in
set_option maxHeartbeats 4000000 in
theorem c_Integer_numberOfTrailingZeros (l : Launch) {nf : Nat} {a0 : Int32} {c : Zc} {res : Int32 × Zc} (h : f_Integer_numberOfTrailingZeros nf a0 c = some res) : zM l yy_Integer_numberOfTrailingZeros ww_Integer_numberOfTrailingZeros 0 0 0 0 [.int a0] c (fun D cid B => zQi D cid B res.1 res.2 c.length 0) := by
  refine z_met (cc := bb_Integer_numberOfTrailingZeros) (maxL := 2) (ret := (some (.int))) (by decide +kernel) rfl (Nat.le_of_ble_eq_true rfl) ?_
  intro p e s m args below meth cd D cid B X h1 h2 h3 h4
  have X : zX p s m args cd D cid B bb_Integer_numberOfTrailingZeros 2 rr_Integer zT := X
  have H : zH s meth B c.length (some (.int)) "numberOfTrailingZeros" := ⟨h1, h2, h4, h3⟩
  unfold f_Integer_numberOfTrailingZeros at h
  show Zz p l e (zRm 0 0 0 0) s m args below meth cd _ D cid B 2 0 0 c 0 [(0, .int a0)] []
  refine z_iload_n X dd_Integer_numberOfTrailingZeros_0 rfl 0 rfl ?_
  refine z_iconst (v := (-1)) X dd_Integer_numberOfTrailingZeros_1 (by decide) ?_
  refine z_ixor X dd_Integer_numberOfTrailingZeros_2 ?_
  refine z_iload_n X dd_Integer_numberOfTrailingZeros_3 rfl 0 rfl ?_
  refine z_iconst (v := 1) X dd_Integer_numberOfTrailingZeros_4 (by decide) ?_
  refine z_isub X dd_Integer_numberOfTrailingZeros_5 ?_
  refine z_iand X dd_Integer_numberOfTrailingZeros_6 ?_
  refine z_istore_n (lv' := [(0, .int ((a0 ^^^ (-1)) &&& (a0 - 1)))]) X dd_Integer_numberOfTrailingZeros_7 rfl (by decide) rfl ?_
  refine z_iload_n X dd_Integer_numberOfTrailingZeros_8 rfl 0 rfl ?_
  refine z_if_gt (tgt := 17) X dd_Integer_numberOfTrailingZeros_9 (by decide) (fun q1 => ?_) (fun q1 => ?_)
  · rw [if_pos q1] at h
    refine z_iconst (v := 1) X dd_Integer_numberOfTrailingZeros_17 (by decide) ?_
    refine z_istore_n (lv' := [(1, .int 1), (0, .int ((a0 ^^^ (-1)) &&& (a0 - 1)))]) X dd_Integer_numberOfTrailingZeros_18 rfl (by decide) rfl ?_
    refine z_iload_n X dd_Integer_numberOfTrailingZeros_19 rfl 1 rfl ?_
    refine z_ldcw (v := 65536) X dd_Integer_numberOfTrailingZeros_20 km_1349 ?_
    refine z_icmp_le (tgt := 34) X dd_Integer_numberOfTrailingZeros_23 (by decide) (fun q2 => ?_) (fun q2 => ?_)
    · rw [if_pos q2] at h
      refine z_sub [1, 0] rfl ?_
      exact t_Integer_numberOfTrailingZeros_34 X H h
    · rw [if_neg q2] at h
      refine z_iinc (v := (1 + 16)) (lv' := [(1, .int (1 + 16)), (0, .int ((a0 ^^^ (-1)) &&& (a0 - 1)))]) X dd_Integer_numberOfTrailingZeros_26 0 rfl rfl (by decide) rfl ?_
      refine z_iload_n X dd_Integer_numberOfTrailingZeros_29 rfl 1 rfl ?_
      refine z_bipush (v := 16) X dd_Integer_numberOfTrailingZeros_30 (by decide) ?_
      refine z_iushr X dd_Integer_numberOfTrailingZeros_32 ?_
      refine z_istore_n (lv' := [(0, .int (Int32.toUInt32 ((a0 ^^^ (-1)) &&& (a0 - 1)) >>> (Int32.toUInt32 16 &&& Int32.toUInt32 31)).toInt32), (1, .int (1 + 16))]) X dd_Integer_numberOfTrailingZeros_33 rfl (by decide) rfl ?_
      exact t_Integer_numberOfTrailingZeros_34 X H h
  · rw [if_neg q1] at h
    refine z_iload_n X dd_Integer_numberOfTrailingZeros_12 rfl 0 rfl ?_
    refine z_bipush (v := 32) X dd_Integer_numberOfTrailingZeros_13 (by decide) ?_
    refine z_iand X dd_Integer_numberOfTrailingZeros_15 ?_
    obtain rfl := Option.some.inj h
    exact z_iret X H.1 H.2.1 H.2.2.1 dd_Integer_numberOfTrailingZeros_16
end ZzM
