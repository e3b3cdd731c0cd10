section ZzM
variable {p : Program} {l : Launch} {e : Env} {s : State} {m : MethodId} {args : Array Value} {below : List Frame} {meth : Method} {cd : Code} {Q : State → Prop} {D : va_G} {cid : Nat → ClassId} {B n0 : Nat}
theorem dd_Search_fits_0 : decode bb_Search_fits 0 = .ok (.aload_n 0, 1) := by decide +kernel
theorem dd_Search_fits_1 : decode bb_Search_fits 1 = .ok (.aload_n 1, 1) := by decide +kernel
theorem dd_Search_fits_2 : decode bb_Search_fits 2 = .ok (.iload_n 2, 1) := by decide +kernel
theorem dd_Search_fits_3 : decode bb_Search_fits 3 = .ok (.invokevirtual 72, 3) := by decide +kernel
theorem dd_Search_fits_6 : decode bb_Search_fits 6 = .ok (.aload_n 0, 1) := by decide +kernel
theorem dd_Search_fits_7 : decode bb_Search_fits 7 = .ok (.aload_n 1, 1) := by decide +kernel
theorem dd_Search_fits_8 : decode bb_Search_fits 8 = .ok (.getfield 59, 3) := by decide +kernel
theorem dd_Search_fits_11 : decode bb_Search_fits 11 = .ok (.iconst 0, 1) := by decide +kernel
theorem dd_Search_fits_12 : decode bb_Search_fits 12 = .ok (.iaload, 1) := by decide +kernel
theorem dd_Search_fits_13 : decode bb_Search_fits 13 = .ok (.invokevirtual 76, 3) := by decide +kernel
theorem dd_Search_fits_16 : decode bb_Search_fits 16 = .ok (.ifCond .eq 21, 3) := by decide +kernel
theorem dd_Search_fits_19 : decode bb_Search_fits 19 = .ok (.aload_n 0, 1) := by decide +kernel
theorem dd_Search_fits_20 : decode bb_Search_fits 20 = .ok (.getfield 34, 3) := by decide +kernel
theorem dd_Search_fits_23 : decode bb_Search_fits 23 = .ok (.ifCond .eq 10, 3) := by decide +kernel
theorem dd_Search_fits_26 : decode bb_Search_fits 26 = .ok (.aload_n 0, 1) := by decide +kernel
theorem dd_Search_fits_27 : decode bb_Search_fits 27 = .ok (.invokevirtual 80, 3) := by decide +kernel
theorem dd_Search_fits_30 : decode bb_Search_fits 30 = .ok (.ifCond .eq 7, 3) := by decide +kernel
theorem dd_Search_fits_33 : decode bb_Search_fits 33 = .ok (.iconst 1, 1) := by decide +kernel
theorem dd_Search_fits_34 : decode bb_Search_fits 34 = .ok (.goto 4, 3) := by decide +kernel
theorem dd_Search_fits_37 : decode bb_Search_fits 37 = .ok (.iconst 0, 1) := by decide +kernel
theorem dd_Search_fits_38 : decode bb_Search_fits 38 = .ok (.ireturn, 1) := by decide +kernel
def f_Search_fits_38 (nf : Nat) (s0 : Int32) (c : Zc) : Option (Int32 × Zc) :=
  zrz s0 c
def f_Search_fits_37 (nf : Nat)  (c : Zc) : Option (Int32 × Zc) :=
  f_Search_fits_38 nf 0 c
def f_Search_fits_33 (nf : Nat)  (c : Zc) : Option (Int32 × Zc) :=
  f_Search_fits_38 nf 1 c
def f_Search_fits (nf : Nat) (a0 : Nat) (a1 : Nat) (a2 : Int32) (c : Zc) : Option (Int32 × Zc) :=
  (zob c a0 6).bind fun w2 => (f_Search_begin nf a0 a1 a2 c).bind fun q1 => (zgr q1 a1 2 9).bind fun v3 => (zai q1 v3 0 0).bind fun v4 => (zob q1 a0 6).bind fun w6 => (f_Search_knownFit nf a0 v4 q1).bind fun q5 => if q5.1 = 0 then (f_Search_fits_37 nf  q5.2) else ((zgi q5.2 a0 6 10).bind fun v8 => if v8 = 0 then (f_Search_fits_33 nf  q5.2) else ((zob q5.2 a0 6).bind fun w11 => (f_Search_next nf a0 q5.2).bind fun q10 => if q10.1 = 0 then (f_Search_fits_37 nf  q10.2) else (f_Search_fits_33 nf  q10.2)))
set_option maxRecDepth 100000 in
set_option maxHeartbeats 4000000 in
theorem t_Search_fits_38  (X : zX p s m args cd D cid B bb_Search_fits 3 rr_Search zT) (H : zH s meth B n0 (some (.boolean)) "fits") {nf : Nat} {s0 : Int32} {c : Zc} {res : Int32 × Zc} (h : f_Search_fits_38 nf s0 c = some res) : Zz p l e (zRm 2 50 0 0) s m args below meth cd (MQ below (zQi D cid B res.1 res.2 n0 0) args s 0 0 (fun q => B ≤ q)) D cid B 3 0 0 c 38 [] [.int s0] := by
  unfold f_Search_fits_38 at h
  obtain ⟨hz, h⟩ := zrz_s h
  obtain rfl := h
  exact z_zret X H.1 (zn_z hz) H.2.1 H.2.2.1 dd_Search_fits_38
set_option maxRecDepth 100000 in
set_option maxHeartbeats 4000000 in
theorem t_Search_fits_37  (X : zX p s m args cd D cid B bb_Search_fits 3 rr_Search zT) (H : zH s meth B n0 (some (.boolean)) "fits") {nf : Nat}  {c : Zc} {res : Int32 × Zc} (h : f_Search_fits_37 nf  c = some res) : Zz p l e (zRm 2 50 0 0) s m args below meth cd (MQ below (zQi D cid B res.1 res.2 n0 0) args s 0 0 (fun q => B ≤ q)) D cid B 3 0 0 c 37 [] [] := by
  unfold f_Search_fits_37 at h
  refine z_iconst (v := 0) X dd_Search_fits_37 (by decide) ?_
  exact t_Search_fits_38 X H h
set_option maxRecDepth 100000 in
set_option maxHeartbeats 4000000 in
theorem t_Search_fits_33  (X : zX p s m args cd D cid B bb_Search_fits 3 rr_Search zT) (H : zH s meth B n0 (some (.boolean)) "fits") {nf : Nat}  {c : Zc} {res : Int32 × Zc} (h : f_Search_fits_33 nf  c = some res) : Zz p l e (zRm 2 50 0 0) s m args below meth cd (MQ below (zQi D cid B res.1 res.2 n0 0) args s 0 0 (fun q => B ≤ q)) D cid B 3 0 0 c 33 [] [] := by
  unfold f_Search_fits_33 at h
  refine z_iconst (v := 1) X dd_Search_fits_33 (by decide) ?_
  refine z_goto (tgt := 38) X dd_Search_fits_34 (by decide) ?_
  exact t_Search_fits_38 X H h
set_option maxRecDepth 100000 in
set_option maxHeartbeats 4000000 in
theorem c_Search_fits (l : Launch) {nf : Nat} {a0 : Nat} {a1 : Nat} {a2 : Int32} {c : Zc} {res : Int32 × Zc} (h : f_Search_fits nf a0 a1 a2 c = some res) : zM l yy_Search_fits ww_Search_fits 2 50 0 0 [.ref a0, .ref a1, .int a2] c (fun D cid B => zQi D cid B res.1 res.2 c.length 0) := by
  refine z_met (cc := bb_Search_fits) (maxL := 3) (ret := (some (.boolean))) (by decide +kernel) rfl (Nat.le_of_ble_eq_true rfl) ?_
  intro p e s m args below meth cd D cid B X h1 h2 h3 h4
  have X : zX p s m args cd D cid B bb_Search_fits 3 rr_Search zT := X
  have H : zH s meth B c.length (some (.boolean)) "fits" := ⟨h1, h2, h4, h3⟩
  unfold f_Search_fits at h
  show Zz p l e (zRm 2 50 0 0) s m args below meth cd _ D cid B 3 0 0 c 0 [(0, .ref a0), (1, .ref a1), (2, .int a2)] []
  refine z_aload_n X dd_Search_fits_0 rfl 0 rfl ?_
  refine z_aload_n X dd_Search_fits_1 rfl 1 rfl ?_
  refine z_iload_n X dd_Search_fits_2 rfl 2 rfl ?_
  obtain ⟨w2, ew2, h⟩ := zb h
  obtain ⟨q1, eq1, h⟩ := zb h
  refine z_callVv X [.ref a1, .int a2] rfl dd_Search_fits_3 (c_Search_begin l eq1) (cwV 2 X.1.2.2.2.2 (zg_V km_1358 km_1329 km_1330 km_134 km_1331) rfl rfl rfl (by decide +kernel) ⟨Nat.le_of_ble_eq_true rfl, Nat.le_of_ble_eq_true rfl⟩) (zob_s ew2) kc_6 rfl (Nat.le_of_ble_eq_true rfl) ⟨Nat.le_of_ble_eq_true rfl, Nat.le_of_ble_eq_true rfl⟩ ?_
  refine z_aload_n X dd_Search_fits_6 rfl 0 rfl ?_
  refine z_aload_n X dd_Search_fits_7 rfl 1 rfl ?_
  obtain ⟨v3, ev3, h⟩ := zb h
  refine z_get (j := 9) X dd_Search_fits_8 kc_2 ki_2 (by decide) km_330 (zgr_v ev3) ?_
  refine z_iconst (v := 0) X dd_Search_fits_11 (by decide) ?_
  obtain ⟨v4, ev4, h⟩ := zb h
  refine z_iaload X dd_Search_fits_12 rfl ev4 ?_
  obtain ⟨w6, ew6, h⟩ := zb h
  obtain ⟨q5, eq5, h⟩ := zb h
  refine z_callVi X [.int v4] rfl dd_Search_fits_13 (c_Search_knownFit l eq5) (cwV 1 X.1.2.2.2.2 (zg_V km_1359 km_1361 km_52 km_134 km_1362) rfl rfl rfl (by decide +kernel) ⟨Nat.le_of_ble_eq_true rfl, Nat.le_of_ble_eq_true rfl⟩) (zob_s ew6) kc_6 rfl (Nat.le_of_ble_eq_true rfl) ⟨Nat.le_of_ble_eq_true rfl, Nat.le_of_ble_eq_true rfl⟩ ?_
  refine z_if_eq (tgt := 37) X dd_Search_fits_16 (by decide) (fun q7 => ?_) (fun q7 => ?_)
  · rw [if_pos q7] at h
    refine z_sub [] rfl ?_
    exact t_Search_fits_37 X H h
  · rw [if_neg q7] at h
    refine z_aload_n X dd_Search_fits_19 rfl 0 rfl ?_
    obtain ⟨v8, ev8, h⟩ := zb h
    refine z_get (j := 10) X dd_Search_fits_20 kc_6 ki_6 (by decide) km_557 (zgi_v ev8) ?_
    refine z_if_eq (tgt := 33) X dd_Search_fits_23 (by decide) (fun q9 => ?_) (fun q9 => ?_)
    · rw [if_pos q9] at h
      refine z_sub [] rfl ?_
      exact t_Search_fits_33 X H h
    · rw [if_neg q9] at h
      refine z_aload_n X dd_Search_fits_26 rfl 0 rfl ?_
      obtain ⟨w11, ew11, h⟩ := zb h
      obtain ⟨q10, eq10, h⟩ := zb h
      refine z_callVi X [] rfl dd_Search_fits_27 (c_Search_next l eq10) (cwV 0 X.1.2.2.2.2 (zg_V km_1363 km_1342 km_1343 km_134 km_1344) rfl rfl rfl (by decide +kernel) ⟨Nat.le_of_ble_eq_true rfl, Nat.le_of_ble_eq_true rfl⟩) (zob_s ew11) kc_6 rfl (Nat.le_of_ble_eq_true rfl) ⟨Nat.le_of_ble_eq_true rfl, Nat.le_of_ble_eq_true rfl⟩ ?_
      refine z_if_eq (tgt := 37) X dd_Search_fits_30 (by decide) (fun q12 => ?_) (fun q12 => ?_)
      · rw [if_pos q12] at h
        refine z_sub [] rfl ?_
        exact t_Search_fits_37 X H h
      · rw [if_neg q12] at h
        refine z_sub [] rfl ?_
        exact t_Search_fits_33 X H h
theorem dd_Finder_goFirst_0 : decode bb_Finder_goFirst 0 = .ok (.iconst 0, 1) := by decide +kernel
theorem dd_Finder_goFirst_1 : decode bb_Finder_goFirst 1 = .ok (.istore_n 3, 1) := by decide +kernel
theorem dd_Finder_goFirst_2 : decode bb_Finder_goFirst 2 = .ok (.iconst 0, 1) := by decide +kernel
theorem dd_Finder_goFirst_3 : decode bb_Finder_goFirst 3 = .ok (.istore 4, 2) := by decide +kernel
theorem dd_Finder_goFirst_5 : decode bb_Finder_goFirst 5 = .ok (.iload 4, 2) := by decide +kernel
theorem dd_Finder_goFirst_7 : decode bb_Finder_goFirst 7 = .ok (.aload_n 1, 1) := by decide +kernel
theorem dd_Finder_goFirst_8 : decode bb_Finder_goFirst 8 = .ok (.getfield 167, 3) := by decide +kernel
theorem dd_Finder_goFirst_11 : decode bb_Finder_goFirst 11 = .ok (.if_icmp .ge 90, 3) := by decide +kernel
theorem dd_Finder_goFirst_14 : decode bb_Finder_goFirst 14 = .ok (.aload_n 1, 1) := by decide +kernel
theorem dd_Finder_goFirst_15 : decode bb_Finder_goFirst 15 = .ok (.getfield 150, 3) := by decide +kernel
theorem dd_Finder_goFirst_18 : decode bb_Finder_goFirst 18 = .ok (.iload 4, 2) := by decide +kernel
theorem dd_Finder_goFirst_20 : decode bb_Finder_goFirst 20 = .ok (.lshr, 1) := by decide +kernel
theorem dd_Finder_goFirst_21 : decode bb_Finder_goFirst 21 = .ok (.lconst 1, 1) := by decide +kernel
theorem dd_Finder_goFirst_22 : decode bb_Finder_goFirst 22 = .ok (.land, 1) := by decide +kernel
theorem dd_Finder_goFirst_23 : decode bb_Finder_goFirst 23 = .ok (.lconst 0, 1) := by decide +kernel
theorem dd_Finder_goFirst_24 : decode bb_Finder_goFirst 24 = .ok (.lcmp, 1) := by decide +kernel
theorem dd_Finder_goFirst_25 : decode bb_Finder_goFirst 25 = .ok (.ifCond .eq 7, 3) := by decide +kernel
theorem dd_Finder_goFirst_28 : decode bb_Finder_goFirst 28 = .ok (.iconst 1, 1) := by decide +kernel
theorem dd_Finder_goFirst_29 : decode bb_Finder_goFirst 29 = .ok (.goto 4, 3) := by decide +kernel
theorem dd_Finder_goFirst_32 : decode bb_Finder_goFirst 32 = .ok (.iconst 0, 1) := by decide +kernel
theorem dd_Finder_goFirst_33 : decode bb_Finder_goFirst 33 = .ok (.istore 5, 2) := by decide +kernel
theorem dd_Finder_goFirst_35 : decode bb_Finder_goFirst 35 = .ok (.aload_n 0, 1) := by decide +kernel
theorem dd_Finder_goFirst_36 : decode bb_Finder_goFirst 36 = .ok (.getfield 18, 3) := by decide +kernel
theorem dd_Finder_goFirst_39 : decode bb_Finder_goFirst 39 = .ok (.iload 4, 2) := by decide +kernel
theorem dd_Finder_goFirst_41 : decode bb_Finder_goFirst 41 = .ok (.iload 5, 2) := by decide +kernel
theorem dd_Finder_goFirst_43 : decode bb_Finder_goFirst 43 = .ok (.ifCond .eq 26, 3) := by decide +kernel
theorem dd_Finder_goFirst_46 : decode bb_Finder_goFirst 46 = .ok (.aload_n 0, 1) := by decide +kernel
theorem dd_Finder_goFirst_47 : decode bb_Finder_goFirst 47 = .ok (.getfield 27, 3) := by decide +kernel
theorem dd_Finder_goFirst_50 : decode bb_Finder_goFirst 50 = .ok (.getfield 174, 3) := by decide +kernel
theorem dd_Finder_goFirst_53 : decode bb_Finder_goFirst 53 = .ok (.aload_n 1, 1) := by decide +kernel
theorem dd_Finder_goFirst_54 : decode bb_Finder_goFirst 54 = .ok (.getfield 177, 3) := by decide +kernel
theorem dd_Finder_goFirst_57 : decode bb_Finder_goFirst 57 = .ok (.iload 4, 2) := by decide +kernel
theorem dd_Finder_goFirst_59 : decode bb_Finder_goFirst 59 = .ok (.iaload, 1) := by decide +kernel
theorem dd_Finder_goFirst_60 : decode bb_Finder_goFirst 60 = .ok (.bipush 16, 2) := by decide +kernel
theorem dd_Finder_goFirst_62 : decode bb_Finder_goFirst 62 = .ok (.imul, 1) := by decide +kernel
theorem dd_Finder_goFirst_63 : decode bb_Finder_goFirst 63 = .ok (.iload_n 2, 1) := by decide +kernel
theorem dd_Finder_goFirst_64 : decode bb_Finder_goFirst 64 = .ok (.iadd, 1) := by decide +kernel
theorem dd_Finder_goFirst_65 : decode bb_Finder_goFirst 65 = .ok (.iaload, 1) := by decide +kernel
theorem dd_Finder_goFirst_66 : decode bb_Finder_goFirst 66 = .ok (.goto 4, 3) := by decide +kernel
theorem dd_Finder_goFirst_69 : decode bb_Finder_goFirst 69 = .ok (.iconst 0, 1) := by decide +kernel
theorem dd_Finder_goFirst_70 : decode bb_Finder_goFirst 70 = .ok (.iastore, 1) := by decide +kernel
theorem dd_Finder_goFirst_71 : decode bb_Finder_goFirst 71 = .ok (.aload_n 0, 1) := by decide +kernel
theorem dd_Finder_goFirst_72 : decode bb_Finder_goFirst 72 = .ok (.getfield 24, 3) := by decide +kernel
theorem dd_Finder_goFirst_75 : decode bb_Finder_goFirst 75 = .ok (.iload 4, 2) := by decide +kernel
theorem dd_Finder_goFirst_77 : decode bb_Finder_goFirst 77 = .ok (.aload_n 0, 1) := by decide +kernel
theorem dd_Finder_goFirst_78 : decode bb_Finder_goFirst 78 = .ok (.getfield 18, 3) := by decide +kernel
theorem dd_Finder_goFirst_81 : decode bb_Finder_goFirst 81 = .ok (.iload 4, 2) := by decide +kernel
theorem dd_Finder_goFirst_83 : decode bb_Finder_goFirst 83 = .ok (.iaload, 1) := by decide +kernel
theorem dd_Finder_goFirst_84 : decode bb_Finder_goFirst 84 = .ok (.iastore, 1) := by decide +kernel
theorem dd_Finder_goFirst_85 : decode bb_Finder_goFirst 85 = .ok (.iload_n 3, 1) := by decide +kernel
theorem dd_Finder_goFirst_86 : decode bb_Finder_goFirst 86 = .ok (.aload_n 0, 1) := by decide +kernel
theorem dd_Finder_goFirst_87 : decode bb_Finder_goFirst 87 = .ok (.getfield 18, 3) := by decide +kernel
theorem dd_Finder_goFirst_90 : decode bb_Finder_goFirst 90 = .ok (.iload 4, 2) := by decide +kernel
theorem dd_Finder_goFirst_92 : decode bb_Finder_goFirst 92 = .ok (.iaload, 1) := by decide +kernel
theorem dd_Finder_goFirst_93 : decode bb_Finder_goFirst 93 = .ok (.ior, 1) := by decide +kernel
theorem dd_Finder_goFirst_94 : decode bb_Finder_goFirst 94 = .ok (.istore_n 3, 1) := by decide +kernel
theorem dd_Finder_goFirst_95 : decode bb_Finder_goFirst 95 = .ok (.iinc 4 1, 3) := by decide +kernel
theorem dd_Finder_goFirst_98 : decode bb_Finder_goFirst 98 = .ok (.goto (-93), 3) := by decide +kernel
theorem dd_Finder_goFirst_101 : decode bb_Finder_goFirst 101 = .ok (.iload_n 3, 1) := by decide +kernel
theorem dd_Finder_goFirst_102 : decode bb_Finder_goFirst 102 = .ok (.ifCond .eq 7, 3) := by decide +kernel
theorem dd_Finder_goFirst_105 : decode bb_Finder_goFirst 105 = .ok (.iconst 1, 1) := by decide +kernel
theorem dd_Finder_goFirst_106 : decode bb_Finder_goFirst 106 = .ok (.goto 4, 3) := by decide +kernel
theorem dd_Finder_goFirst_109 : decode bb_Finder_goFirst 109 = .ok (.iconst 0, 1) := by decide +kernel
theorem dd_Finder_goFirst_110 : decode bb_Finder_goFirst 110 = .ok (.ireturn, 1) := by decide +kernel
def f_Finder_goFirst_70 (nf : Nat) (x0 : Nat) (x1 : Nat) (x2 : Int32) (x3 : Int32) (x4 : Int32) (s0 : Nat) (s1 : Int32) (s2 : Int32) (c : Zc) : Option ((Nat × Nat × Int32 × Int32 × Int32 × Zc) ⊕ (Int32 × Zc)) :=
  (zsi c s0 0 s1 s2).bind fun c7 => (zgr c7 x0 7 7).bind fun v8 => (zgr c7 x0 7 5).bind fun v9 => (zai c7 v9 0 x4).bind fun v10 => (zsi c7 v8 0 x4 v10).bind fun c11 => (zgr c11 x0 7 5).bind fun v12 => (zai c11 v12 0 x4).bind fun v13 => some (.inl (x0, x1, x2, (x3 ||| v13), (x4 + 1), c11))
def f_Finder_goFirst_33 (nf : Nat) (x0 : Nat) (x1 : Nat) (x2 : Int32) (x3 : Int32) (x4 : Int32) (s0 : Int32) (c : Zc) : Option ((Nat × Nat × Int32 × Int32 × Int32 × Zc) ⊕ (Int32 × Zc)) :=
  (zgr c x0 7 5).bind fun v5 => if s0 = 0 then (f_Finder_goFirst_70 nf x0 x1 x2 x3 x4 v5 x4 0 c) else ((zgr c x0 7 1).bind fun v14 => (zgr c v14 0 6).bind fun v15 => (zgr c x1 1 6).bind fun v16 => (zai c v16 0 x4).bind fun v17 => (zai c v15 0 ((v17 * 16) + x2)).bind fun v18 => f_Finder_goFirst_70 nf x0 x1 x2 x3 x4 v5 x4 v18 c)
def g_Finder_goFirst_5 (nf : Nat) (x0 : Nat) (x1 : Nat) (x2 : Int32) (x3 : Int32) (x4 : Int32) (c : Zc) : Option ((Nat × Nat × Int32 × Int32 × Int32 × Zc) ⊕ (Int32 × Zc)) :=
  (zgi c x1 1 5).bind fun v1 => if v1 ≤ x4 then (some (.inr (x3, c))) else ((zgl c x1 1 8).bind fun v3 => if (lg_cmp ((v3 >>> (Int32.toInt64 x4 &&& 63)) &&& 1) 0) = 0 then (f_Finder_goFirst_33 nf x0 x1 x2 x3 x4 0 c) else (f_Finder_goFirst_33 nf x0 x1 x2 x3 x4 1 c))
def f_Finder_goFirst_110 (nf : Nat) (s0 : Int32) (c : Zc) : Option (Int32 × Zc) :=
  zrz s0 c
def f_Finder_goFirst_5 (nf : Nat) (x0 : Nat) (x1 : Nat) (x2 : Int32) (x3 : Int32) (x4 : Int32) (c : Zc) : Option (Int32 × Zc) :=
  (zlp (fun a => g_Finder_goFirst_5 nf a.1 a.2.1 a.2.2.1 a.2.2.2.1 a.2.2.2.2.1 a.2.2.2.2.2) nf (x0, x1, x2, x3, x4, c)).bind fun b => if b.1 = 0 then (f_Finder_goFirst_110 nf 0 b.2) else (f_Finder_goFirst_110 nf 1 b.2)
def f_Finder_goFirst (nf : Nat) (a0 : Nat) (a1 : Nat) (a2 : Int32) (c : Zc) : Option (Int32 × Zc) :=
  f_Finder_goFirst_5 nf a0 a1 a2 0 0 c
set_option maxRecDepth 100000 in
set_option maxHeartbeats 4000000 in
theorem t_Finder_goFirst_70  (X : zX p s m args cd D cid B bb_Finder_goFirst 6 rr_Finder zT) (H : zH s meth B n0 (some (.boolean)) "goFirst") {nf : Nat} {x0 : Nat} {x1 : Nat} {x2 : Int32} {x3 : Int32} {x4 : Int32} {s0 : Nat} {s1 : Int32} {s2 : Int32} {c : Zc} {r : (Nat × Nat × Int32 × Int32 × Int32 × Zc) ⊕ (Int32 × Zc)} (h : f_Finder_goFirst_70 nf x0 x1 x2 x3 x4 s0 s1 s2 c = some r) (k0 : ∀ a, r = .inl a → (fun a : Nat × Nat × Int32 × Int32 × Int32 × Zc => Zz p l e (zRm 0 0 0 0) s m args below meth cd Q D cid B 6 0 0 a.2.2.2.2.2 5 [(0, .ref a.1), (1, .ref a.2.1), (2, .int a.2.2.1), (3, .int a.2.2.2.1), (4, .int a.2.2.2.2.1)] []) a) (k1 : ∀ b, r = .inr b → (fun b : Int32 × Zc => Zz p l e (zRm 0 0 0 0) s m args below meth cd Q D cid B 6 0 0 b.2 101 [(3, .int b.1)] []) b) : Zz p l e (zRm 0 0 0 0) s m args below meth cd Q D cid B 6 0 0 c 70 [(0, .ref x0), (1, .ref x1), (2, .int x2), (3, .int x3), (4, .int x4)] [.int s2, .int s1, .ref s0] := by
  unfold f_Finder_goFirst_70 at h
  obtain ⟨c7, ec7, h⟩ := zb h
  refine z_iastore X dd_Finder_goFirst_70 rfl ec7 ?_
  refine z_aload_n X dd_Finder_goFirst_71 rfl 0 rfl ?_
  obtain ⟨v8, ev8, h⟩ := zb h
  refine z_get (j := 7) X dd_Finder_goFirst_72 kc_7 ki_7 (by decide) km_592 (zgr_v ev8) ?_
  refine z_iload X dd_Finder_goFirst_75 4 rfl ?_
  refine z_aload_n X dd_Finder_goFirst_77 rfl 0 rfl ?_
  obtain ⟨v9, ev9, h⟩ := zb h
  refine z_get (j := 5) X dd_Finder_goFirst_78 kc_7 ki_7 (by decide) km_590 (zgr_v ev9) ?_
  refine z_iload X dd_Finder_goFirst_81 4 rfl ?_
  obtain ⟨v10, ev10, h⟩ := zb h
  refine z_iaload X dd_Finder_goFirst_83 rfl ev10 ?_
  obtain ⟨c11, ec11, h⟩ := zb h
  refine z_iastore X dd_Finder_goFirst_84 rfl ec11 ?_
  refine z_iload_n X dd_Finder_goFirst_85 rfl 3 rfl ?_
  refine z_aload_n X dd_Finder_goFirst_86 rfl 0 rfl ?_
  obtain ⟨v12, ev12, h⟩ := zb h
  refine z_get (j := 5) X dd_Finder_goFirst_87 kc_7 ki_7 (by decide) km_590 (zgr_v ev12) ?_
  refine z_iload X dd_Finder_goFirst_90 4 rfl ?_
  obtain ⟨v13, ev13, h⟩ := zb h
  refine z_iaload X dd_Finder_goFirst_92 rfl ev13 ?_
  refine z_ior X dd_Finder_goFirst_93 ?_
  refine z_istore_n (lv' := [(3, .int (x3 ||| v13)), (0, .ref x0), (1, .ref x1), (2, .int x2), (4, .int x4)]) X dd_Finder_goFirst_94 rfl (by decide) rfl ?_
  refine z_iinc (v := (x4 + 1)) (lv' := [(4, .int (x4 + 1)), (3, .int (x3 ||| v13)), (0, .ref x0), (1, .ref x1), (2, .int x2)]) X dd_Finder_goFirst_95 4 rfl rfl (by decide) rfl ?_
  refine z_goto (tgt := 5) X dd_Finder_goFirst_98 (by decide) ?_
  refine z_sub [2, 3, 4, 1, 0] rfl ?_
  obtain rfl := Option.some.inj h
  exact k0 _ rfl
set_option maxRecDepth 100000 in
set_option maxHeartbeats 4000000 in
theorem t_Finder_goFirst_33  (X : zX p s m args cd D cid B bb_Finder_goFirst 6 rr_Finder zT) (H : zH s meth B n0 (some (.boolean)) "goFirst") {nf : Nat} {x0 : Nat} {x1 : Nat} {x2 : Int32} {x3 : Int32} {x4 : Int32} {s0 : Int32} {c : Zc} {r : (Nat × Nat × Int32 × Int32 × Int32 × Zc) ⊕ (Int32 × Zc)} (h : f_Finder_goFirst_33 nf x0 x1 x2 x3 x4 s0 c = some r) (k0 : ∀ a, r = .inl a → (fun a : Nat × Nat × Int32 × Int32 × Int32 × Zc => Zz p l e (zRm 0 0 0 0) s m args below meth cd Q D cid B 6 0 0 a.2.2.2.2.2 5 [(0, .ref a.1), (1, .ref a.2.1), (2, .int a.2.2.1), (3, .int a.2.2.2.1), (4, .int a.2.2.2.2.1)] []) a) (k1 : ∀ b, r = .inr b → (fun b : Int32 × Zc => Zz p l e (zRm 0 0 0 0) s m args below meth cd Q D cid B 6 0 0 b.2 101 [(3, .int b.1)] []) b) : Zz p l e (zRm 0 0 0 0) s m args below meth cd Q D cid B 6 0 0 c 33 [(0, .ref x0), (1, .ref x1), (2, .int x2), (3, .int x3), (4, .int x4)] [.int s0] := by
  unfold f_Finder_goFirst_33 at h
  refine z_istore (lv' := [(5, .int s0), (0, .ref x0), (1, .ref x1), (2, .int x2), (3, .int x3), (4, .int x4)]) X dd_Finder_goFirst_33 (by decide) rfl ?_
  refine z_aload_n X dd_Finder_goFirst_35 rfl 1 rfl ?_
  obtain ⟨v5, ev5, h⟩ := zb h
  refine z_get (j := 5) X dd_Finder_goFirst_36 kc_7 ki_7 (by decide) km_590 (zgr_v ev5) ?_
  refine z_iload X dd_Finder_goFirst_39 5 rfl ?_
  refine z_iload X dd_Finder_goFirst_41 0 rfl ?_
  refine z_if_eq (tgt := 69) X dd_Finder_goFirst_43 (by decide) (fun q6 => ?_) (fun q6 => ?_)
  · rw [if_pos q6] at h
    refine z_iconst (v := 0) X dd_Finder_goFirst_69 (by decide) ?_
    refine z_sub [1, 2, 3, 4, 5] rfl ?_
    exact t_Finder_goFirst_70 X H h k0 k1
  · rw [if_neg q6] at h
    refine z_aload_n X dd_Finder_goFirst_46 rfl 1 rfl ?_
    obtain ⟨v14, ev14, h⟩ := zb h
    refine z_get (j := 1) X dd_Finder_goFirst_47 kc_7 ki_7 (by decide) km_586 (zgr_v ev14) ?_
    obtain ⟨v15, ev15, h⟩ := zb h
    refine z_get (j := 6) X dd_Finder_goFirst_50 kc_0 ki_0 (by decide) km_172 (zgr_v ev15) ?_
    refine z_aload_n X dd_Finder_goFirst_53 rfl 2 rfl ?_
    obtain ⟨v16, ev16, h⟩ := zb h
    refine z_get (j := 6) X dd_Finder_goFirst_54 kc_1 ki_1 (by decide) km_239 (zgr_v ev16) ?_
    refine z_iload X dd_Finder_goFirst_57 5 rfl ?_
    obtain ⟨v17, ev17, h⟩ := zb h
    refine z_iaload X dd_Finder_goFirst_59 rfl ev17 ?_
    refine z_bipush (v := 16) X dd_Finder_goFirst_60 (by decide) ?_
    refine z_imul X dd_Finder_goFirst_62 ?_
    refine z_iload_n X dd_Finder_goFirst_63 rfl 3 rfl ?_
    refine z_iadd X dd_Finder_goFirst_64 ?_
    obtain ⟨v18, ev18, h⟩ := zb h
    refine z_iaload X dd_Finder_goFirst_65 rfl ev18 ?_
    refine z_goto (tgt := 70) X dd_Finder_goFirst_66 (by decide) ?_
    refine z_sub [1, 2, 3, 4, 5] rfl ?_
    exact t_Finder_goFirst_70 X H h k0 k1
set_option maxRecDepth 100000 in
set_option maxHeartbeats 4000000 in
theorem u_Finder_goFirst_5  (X : zX p s m args cd D cid B bb_Finder_goFirst 6 rr_Finder zT) (H : zH s meth B n0 (some (.boolean)) "goFirst") {nf : Nat} {x0 : Nat} {x1 : Nat} {x2 : Int32} {x3 : Int32} {x4 : Int32} {c : Zc} {r : (Nat × Nat × Int32 × Int32 × Int32 × Zc) ⊕ (Int32 × Zc)} (h : g_Finder_goFirst_5 nf x0 x1 x2 x3 x4 c = some r) (k0 : ∀ a, r = .inl a → (fun a : Nat × Nat × Int32 × Int32 × Int32 × Zc => Zz p l e (zRm 0 0 0 0) s m args below meth cd Q D cid B 6 0 0 a.2.2.2.2.2 5 [(0, .ref a.1), (1, .ref a.2.1), (2, .int a.2.2.1), (3, .int a.2.2.2.1), (4, .int a.2.2.2.2.1)] []) a) (k1 : ∀ b, r = .inr b → (fun b : Int32 × Zc => Zz p l e (zRm 0 0 0 0) s m args below meth cd Q D cid B 6 0 0 b.2 101 [(3, .int b.1)] []) b) : Zz p l e (zRm 0 0 0 0) s m args below meth cd Q D cid B 6 0 0 c 5 [(0, .ref x0), (1, .ref x1), (2, .int x2), (3, .int x3), (4, .int x4)] [] := by
  unfold g_Finder_goFirst_5 at h
  refine z_iload X dd_Finder_goFirst_5 4 rfl ?_
  refine z_aload_n X dd_Finder_goFirst_7 rfl 1 rfl ?_
  obtain ⟨v1, ev1, h⟩ := zb h
  refine z_get (j := 5) X dd_Finder_goFirst_8 kc_1 ki_1 (by decide) km_236 (zgi_v ev1) ?_
  refine z_icmp_ge (tgt := 101) X dd_Finder_goFirst_11 (by decide) (fun q2 => ?_) (fun q2 => ?_)
  · rw [if_pos q2] at h
    refine z_sub [3] rfl ?_
    obtain rfl := Option.some.inj h
    exact k1 _ rfl
  · rw [if_neg q2] at h
    refine z_aload_n X dd_Finder_goFirst_14 rfl 1 rfl ?_
    obtain ⟨v3, ev3, h⟩ := zb h
    refine z_get (j := 8) X dd_Finder_goFirst_15 kc_1 ki_1 (by decide) km_243 (zgl_v ev3) ?_
    refine z_iload X dd_Finder_goFirst_18 4 rfl ?_
    refine z_lshr X dd_Finder_goFirst_20 ?_
    refine z_lconst (v := 1) X dd_Finder_goFirst_21 (by decide) ?_
    refine z_land X dd_Finder_goFirst_22 ?_
    refine z_lconst (v := 0) X dd_Finder_goFirst_23 (by decide) ?_
    refine z_lcmp X dd_Finder_goFirst_24 ?_
    refine z_if_eq (tgt := 32) X dd_Finder_goFirst_25 (by decide) (fun q4 => ?_) (fun q4 => ?_)
    · rw [if_pos q4] at h
      refine z_iconst (v := 0) X dd_Finder_goFirst_32 (by decide) ?_
      exact t_Finder_goFirst_33 X H h k0 k1
    · rw [if_neg q4] at h
      refine z_iconst (v := 1) X dd_Finder_goFirst_28 (by decide) ?_
      refine z_goto (tgt := 33) X dd_Finder_goFirst_29 (by decide) ?_
      exact t_Finder_goFirst_33 X H h k0 k1
set_option maxRecDepth 100000 in
set_option maxHeartbeats 4000000 in
theorem t_Finder_goFirst_110  (X : zX p s m args cd D cid B bb_Finder_goFirst 6 rr_Finder zT) (H : zH s meth B n0 (some (.boolean)) "goFirst") {nf : Nat} {s0 : Int32} {c : Zc} {res : Int32 × Zc} (h : f_Finder_goFirst_110 nf s0 c = some res) : Zz p l e (zRm 0 0 0 0) s m args below meth cd (MQ below (zQi D cid B res.1 res.2 n0 0) args s 0 0 (fun q => B ≤ q)) D cid B 6 0 0 c 110 [] [.int s0] := by
  unfold f_Finder_goFirst_110 at h
  obtain ⟨hz, h⟩ := zrz_s h
  obtain rfl := h
  exact z_zret X H.1 (zn_z hz) H.2.1 H.2.2.1 dd_Finder_goFirst_110
set_option maxRecDepth 100000 in
set_option maxHeartbeats 4000000 in
theorem t_Finder_goFirst_5  (X : zX p s m args cd D cid B bb_Finder_goFirst 6 rr_Finder zT) (H : zH s meth B n0 (some (.boolean)) "goFirst") {nf : Nat} {x0 : Nat} {x1 : Nat} {x2 : Int32} {x3 : Int32} {x4 : Int32} {c : Zc} {res : Int32 × Zc} (h : f_Finder_goFirst_5 nf x0 x1 x2 x3 x4 c = some res) : Zz p l e (zRm 0 0 0 0) s m args below meth cd (MQ below (zQi D cid B res.1 res.2 n0 0) args s 0 0 (fun q => B ≤ q)) D cid B 6 0 0 c 5 [(0, .ref x0), (1, .ref x1), (2, .int x2), (3, .int x3), (4, .int x4)] [] := by
  unfold f_Finder_goFirst_5 at h
  obtain ⟨b, eb, h⟩ := zb h
  refine zlp_ok (P := fun a : Nat × Nat × Int32 × Int32 × Int32 × Zc => Zz p l e (zRm 0 0 0 0) s m args below meth cd _ D cid B 6 0 0 a.2.2.2.2.2 5 [(0, .ref a.1), (1, .ref a.2.1), (2, .int a.2.2.1), (3, .int a.2.2.2.1), (4, .int a.2.2.2.2.1)] []) (G := fun b : Int32 × Zc => Zz p l e (zRm 0 0 0 0) s m args below meth cd _ D cid B 6 0 0 b.2 101 [(3, .int b.1)] []) (fun a r ha k0 k1 => u_Finder_goFirst_5 X H ha k0 k1) nf _ b eb ?_
  refine z_iload_n X dd_Finder_goFirst_101 rfl 0 rfl ?_
  refine z_if_eq (tgt := 109) X dd_Finder_goFirst_102 (by decide) (fun q19 => ?_) (fun q19 => ?_)
  · rw [if_pos q19] at h
    refine z_iconst (v := 0) X dd_Finder_goFirst_109 (by decide) ?_
    refine z_sub [] rfl ?_
    exact t_Finder_goFirst_110 X H h
  · rw [if_neg q19] at h
    refine z_iconst (v := 1) X dd_Finder_goFirst_105 (by decide) ?_
    refine z_goto (tgt := 110) X dd_Finder_goFirst_106 (by decide) ?_
    refine z_sub [] rfl ?_
    exact t_Finder_goFirst_110 X H h
set_option maxRecDepth 100000 in
set_option maxHeartbeats 4000000 in
theorem c_Finder_goFirst (l : Launch) {nf : Nat} {a0 : Nat} {a1 : Nat} {a2 : Int32} {c : Zc} {res : Int32 × Zc} (h : f_Finder_goFirst nf a0 a1 a2 c = some res) : zM l yy_Finder_goFirst ww_Finder_goFirst 0 0 0 0 [.ref a0, .ref a1, .int a2] c (fun D cid B => zQi D cid B res.1 res.2 c.length 0) := by
  refine z_met (cc := bb_Finder_goFirst) (maxL := 6) (ret := (some (.boolean))) (by decide +kernel) rfl (Nat.le_of_ble_eq_true rfl) ?_
  intro p e s m args below meth cd D cid B X h1 h2 h3 h4
  have X : zX p s m args cd D cid B bb_Finder_goFirst 6 rr_Finder zT := X
  have H : zH s meth B c.length (some (.boolean)) "goFirst" := ⟨h1, h2, h4, h3⟩
  unfold f_Finder_goFirst at h
  show Zz p l e (zRm 0 0 0 0) s m args below meth cd _ D cid B 6 0 0 c 0 [(0, .ref a0), (1, .ref a1), (2, .int a2)] []
  refine z_iconst (v := 0) X dd_Finder_goFirst_0 (by decide) ?_
  refine z_istore_n (lv' := [(3, .int 0), (0, .ref a0), (1, .ref a1), (2, .int a2)]) X dd_Finder_goFirst_1 rfl (by decide) rfl ?_
  refine z_iconst (v := 0) X dd_Finder_goFirst_2 (by decide) ?_
  refine z_istore (lv' := [(4, .int 0), (3, .int 0), (0, .ref a0), (1, .ref a1), (2, .int a2)]) X dd_Finder_goFirst_3 (by decide) rfl ?_
  refine z_sub [2, 3, 4, 1, 0] rfl ?_
  exact t_Finder_goFirst_5 X H h
theorem dd_Finder_spread_0 : decode bb_Finder_spread 0 = .ok (.iconst 0, 1) := by decide +kernel
theorem dd_Finder_spread_1 : decode bb_Finder_spread 1 = .ok (.istore 4, 2) := by decide +kernel
theorem dd_Finder_spread_3 : decode bb_Finder_spread 3 = .ok (.iload 4, 2) := by decide +kernel
theorem dd_Finder_spread_5 : decode bb_Finder_spread 5 = .ok (.aload_n 1, 1) := by decide +kernel
theorem dd_Finder_spread_6 : decode bb_Finder_spread 6 = .ok (.getfield 167, 3) := by decide +kernel
theorem dd_Finder_spread_9 : decode bb_Finder_spread 9 = .ok (.if_icmp .ge 83, 3) := by decide +kernel
theorem dd_Finder_spread_12 : decode bb_Finder_spread 12 = .ok (.iload_n 3, 1) := by decide +kernel
theorem dd_Finder_spread_13 : decode bb_Finder_spread 13 = .ok (.iload 4, 2) := by decide +kernel
theorem dd_Finder_spread_15 : decode bb_Finder_spread 15 = .ok (.ishr, 1) := by decide +kernel
theorem dd_Finder_spread_16 : decode bb_Finder_spread 16 = .ok (.iconst 1, 1) := by decide +kernel
theorem dd_Finder_spread_17 : decode bb_Finder_spread 17 = .ok (.iand, 1) := by decide +kernel
theorem dd_Finder_spread_18 : decode bb_Finder_spread 18 = .ok (.ifCond .eq 68, 3) := by decide +kernel
theorem dd_Finder_spread_21 : decode bb_Finder_spread 21 = .ok (.aload_n 1, 1) := by decide +kernel
theorem dd_Finder_spread_22 : decode bb_Finder_spread 22 = .ok (.getfield 177, 3) := by decide +kernel
theorem dd_Finder_spread_25 : decode bb_Finder_spread 25 = .ok (.iload 4, 2) := by decide +kernel
theorem dd_Finder_spread_27 : decode bb_Finder_spread 27 = .ok (.iaload, 1) := by decide +kernel
theorem dd_Finder_spread_28 : decode bb_Finder_spread 28 = .ok (.bipush 16, 2) := by decide +kernel
theorem dd_Finder_spread_30 : decode bb_Finder_spread 30 = .ok (.imul, 1) := by decide +kernel
theorem dd_Finder_spread_31 : decode bb_Finder_spread 31 = .ok (.istore 5, 2) := by decide +kernel
theorem dd_Finder_spread_33 : decode bb_Finder_spread 33 = .ok (.iconst 0, 1) := by decide +kernel
theorem dd_Finder_spread_34 : decode bb_Finder_spread 34 = .ok (.istore 6, 2) := by decide +kernel
theorem dd_Finder_spread_36 : decode bb_Finder_spread 36 = .ok (.iload 6, 2) := by decide +kernel
theorem dd_Finder_spread_38 : decode bb_Finder_spread 38 = .ok (.aload_n 0, 1) := by decide +kernel
theorem dd_Finder_spread_39 : decode bb_Finder_spread 39 = .ok (.getfield 27, 3) := by decide +kernel
theorem dd_Finder_spread_42 : decode bb_Finder_spread 42 = .ok (.getfield 143, 3) := by decide +kernel
theorem dd_Finder_spread_45 : decode bb_Finder_spread 45 = .ok (.if_icmp .ge 41, 3) := by decide +kernel
theorem dd_Finder_spread_48 : decode bb_Finder_spread 48 = .ok (.iload_n 2, 1) := by decide +kernel
theorem dd_Finder_spread_49 : decode bb_Finder_spread 49 = .ok (.iload 6, 2) := by decide +kernel
theorem dd_Finder_spread_51 : decode bb_Finder_spread 51 = .ok (.ishr, 1) := by decide +kernel
theorem dd_Finder_spread_52 : decode bb_Finder_spread 52 = .ok (.iconst 1, 1) := by decide +kernel
theorem dd_Finder_spread_53 : decode bb_Finder_spread 53 = .ok (.iand, 1) := by decide +kernel
theorem dd_Finder_spread_54 : decode bb_Finder_spread 54 = .ok (.ifCond .eq 26, 3) := by decide +kernel
theorem dd_Finder_spread_57 : decode bb_Finder_spread 57 = .ok (.aload_n 0, 1) := by decide +kernel
theorem dd_Finder_spread_58 : decode bb_Finder_spread 58 = .ok (.getfield 21, 3) := by decide +kernel
theorem dd_Finder_spread_61 : decode bb_Finder_spread 61 = .ok (.iload 4, 2) := by decide +kernel
theorem dd_Finder_spread_63 : decode bb_Finder_spread 63 = .ok (.dup2, 1) := by decide +kernel
theorem dd_Finder_spread_64 : decode bb_Finder_spread 64 = .ok (.iaload, 1) := by decide +kernel
theorem dd_Finder_spread_65 : decode bb_Finder_spread 65 = .ok (.aload_n 0, 1) := by decide +kernel
theorem dd_Finder_spread_66 : decode bb_Finder_spread 66 = .ok (.getfield 27, 3) := by decide +kernel
theorem dd_Finder_spread_69 : decode bb_Finder_spread 69 = .ok (.getfield 174, 3) := by decide +kernel
theorem dd_Finder_spread_72 : decode bb_Finder_spread 72 = .ok (.iload 5, 2) := by decide +kernel
theorem dd_Finder_spread_74 : decode bb_Finder_spread 74 = .ok (.iload 6, 2) := by decide +kernel
theorem dd_Finder_spread_76 : decode bb_Finder_spread 76 = .ok (.iadd, 1) := by decide +kernel
theorem dd_Finder_spread_77 : decode bb_Finder_spread 77 = .ok (.iaload, 1) := by decide +kernel
theorem dd_Finder_spread_78 : decode bb_Finder_spread 78 = .ok (.ior, 1) := by decide +kernel
theorem dd_Finder_spread_79 : decode bb_Finder_spread 79 = .ok (.iastore, 1) := by decide +kernel
theorem dd_Finder_spread_80 : decode bb_Finder_spread 80 = .ok (.iinc 6 1, 3) := by decide +kernel
theorem dd_Finder_spread_83 : decode bb_Finder_spread 83 = .ok (.goto (-47), 3) := by decide +kernel
theorem dd_Finder_spread_86 : decode bb_Finder_spread 86 = .ok (.iinc 4 1, 3) := by decide +kernel
theorem dd_Finder_spread_89 : decode bb_Finder_spread 89 = .ok (.goto (-86), 3) := by decide +kernel
theorem dd_Finder_spread_92 : decode bb_Finder_spread 92 = .ok (.return_, 1) := by decide +kernel
def f_Finder_spread_86 (nf : Nat) (x0 : Nat) (x1 : Nat) (x2 : Int32) (x3 : Int32) (x4 : Int32) (c : Zc) : Option ((Nat × Nat × Int32 × Int32 × Int32 × Zc) ⊕ (Zc)) :=
  some (.inl (x0, x1, x2, x3, (x4 + 1), c))
def f_Finder_spread_80 (nf : Nat) (x0 : Nat) (x1 : Nat) (x2 : Int32) (x3 : Int32) (x4 : Int32) (x5 : Int32) (x6 : Int32) (c : Zc) : Option ((Nat × Nat × Int32 × Int32 × Int32 × Int32 × Int32 × Zc) ⊕ (Nat × Nat × Int32 × Int32 × Int32 × Zc)) :=
  some (.inl (x0, x1, x2, x3, x4, x5, (x6 + 1), c))
def g_Finder_spread_36 (nf : Nat) (x0 : Nat) (x1 : Nat) (x2 : Int32) (x3 : Int32) (x4 : Int32) (x5 : Int32) (x6 : Int32) (c : Zc) : Option ((Nat × Nat × Int32 × Int32 × Int32 × Int32 × Int32 × Zc) ⊕ (Nat × Nat × Int32 × Int32 × Int32 × Zc)) :=
  (zgr c x0 7 1).bind fun v6 => (zgi c v6 0 7).bind fun v7 => if v7 ≤ x6 then (some (.inr (x0, x1, x2, x3, x4, c))) else (if ((x2 >>> (x6 &&& 31)) &&& 1) = 0 then (f_Finder_spread_80 nf x0 x1 x2 x3 x4 x5 x6 c) else ((zgr c x0 7 6).bind fun v10 => (zai c v10 0 x4).bind fun v11 => (zgr c x0 7 1).bind fun v12 => (zgr c v12 0 6).bind fun v13 => (zai c v13 0 (x5 + x6)).bind fun v14 => (zsi c v10 0 x4 (v11 ||| v14)).bind fun c15 => f_Finder_spread_80 nf x0 x1 x2 x3 x4 x5 x6 c15))
def f_Finder_spread_36 (nf : Nat) (x0 : Nat) (x1 : Nat) (x2 : Int32) (x3 : Int32) (x4 : Int32) (x5 : Int32) (x6 : Int32) (c : Zc) : Option ((Nat × Nat × Int32 × Int32 × Int32 × Zc) ⊕ (Zc)) :=
  (zlp (fun a => g_Finder_spread_36 nf a.1 a.2.1 a.2.2.1 a.2.2.2.1 a.2.2.2.2.1 a.2.2.2.2.2.1 a.2.2.2.2.2.2.1 a.2.2.2.2.2.2.2) nf (x0, x1, x2, x3, x4, x5, x6, c)).bind fun b => f_Finder_spread_86 nf b.1 b.2.1 b.2.2.1 b.2.2.2.1 b.2.2.2.2.1 b.2.2.2.2.2
def g_Finder_spread_3 (nf : Nat) (x0 : Nat) (x1 : Nat) (x2 : Int32) (x3 : Int32) (x4 : Int32) (c : Zc) : Option ((Nat × Nat × Int32 × Int32 × Int32 × Zc) ⊕ (Zc)) :=
  (zgi c x1 1 5).bind fun v1 => if v1 ≤ x4 then (some (.inr c)) else (if ((x3 >>> (x4 &&& 31)) &&& 1) = 0 then (f_Finder_spread_86 nf x0 x1 x2 x3 x4 c) else ((zgr c x1 1 6).bind fun v4 => (zai c v4 0 x4).bind fun v5 => f_Finder_spread_36 nf x0 x1 x2 x3 x4 (v5 * 16) 0 c))
def f_Finder_spread_3 (nf : Nat) (x0 : Nat) (x1 : Nat) (x2 : Int32) (x3 : Int32) (x4 : Int32) (c : Zc) : Option (Zc) :=
  (zlp (fun a => g_Finder_spread_3 nf a.1 a.2.1 a.2.2.1 a.2.2.2.1 a.2.2.2.2.1 a.2.2.2.2.2) nf (x0, x1, x2, x3, x4, c)).bind fun b => some b
def f_Finder_spread (nf : Nat) (a0 : Nat) (a1 : Nat) (a2 : Int32) (a3 : Int32) (c : Zc) : Option (Zc) :=
  f_Finder_spread_3 nf a0 a1 a2 a3 0 c
set_option maxRecDepth 100000 in
set_option maxHeartbeats 4000000 in
theorem t_Finder_spread_86  (X : zX p s m args cd D cid B bb_Finder_spread 7 rr_Finder zT) (H : zH s meth B n0 none "spread") {nf : Nat} {x0 : Nat} {x1 : Nat} {x2 : Int32} {x3 : Int32} {x4 : Int32} {c : Zc} {r : (Nat × Nat × Int32 × Int32 × Int32 × Zc) ⊕ (Zc)} (h : f_Finder_spread_86 nf x0 x1 x2 x3 x4 c = some r) (k0 : ∀ a, r = .inl a → (fun a : Nat × Nat × Int32 × Int32 × Int32 × Zc => Zz p l e (zRm 0 0 0 0) s m args below meth cd Q D cid B 7 0 0 a.2.2.2.2.2 3 [(0, .ref a.1), (1, .ref a.2.1), (2, .int a.2.2.1), (3, .int a.2.2.2.1), (4, .int a.2.2.2.2.1)] []) a) (k1 : ∀ b, r = .inr b → (fun b : Zc => Zz p l e (zRm 0 0 0 0) s m args below meth cd Q D cid B 7 0 0 b 92 [] []) b) : Zz p l e (zRm 0 0 0 0) s m args below meth cd Q D cid B 7 0 0 c 86 [(0, .ref x0), (1, .ref x1), (2, .int x2), (3, .int x3), (4, .int x4)] [] := by
  unfold f_Finder_spread_86 at h
  refine z_iinc (v := (x4 + 1)) (lv' := [(4, .int (x4 + 1)), (0, .ref x0), (1, .ref x1), (2, .int x2), (3, .int x3)]) X dd_Finder_spread_86 4 rfl rfl (by decide) rfl ?_
  refine z_goto (tgt := 3) X dd_Finder_spread_89 (by decide) ?_
  refine z_sub [1, 2, 3, 4, 0] rfl ?_
  obtain rfl := Option.some.inj h
  exact k0 _ rfl
set_option maxRecDepth 100000 in
set_option maxHeartbeats 4000000 in
theorem t_Finder_spread_80  (X : zX p s m args cd D cid B bb_Finder_spread 7 rr_Finder zT) (H : zH s meth B n0 none "spread") {nf : Nat} {x0 : Nat} {x1 : Nat} {x2 : Int32} {x3 : Int32} {x4 : Int32} {x5 : Int32} {x6 : Int32} {c : Zc} {r : (Nat × Nat × Int32 × Int32 × Int32 × Int32 × Int32 × Zc) ⊕ (Nat × Nat × Int32 × Int32 × Int32 × Zc)} (h : f_Finder_spread_80 nf x0 x1 x2 x3 x4 x5 x6 c = some r) (k0 : ∀ a, r = .inl a → (fun a : Nat × Nat × Int32 × Int32 × Int32 × Int32 × Int32 × Zc => Zz p l e (zRm 0 0 0 0) s m args below meth cd Q D cid B 7 0 0 a.2.2.2.2.2.2.2 36 [(0, .ref a.1), (1, .ref a.2.1), (2, .int a.2.2.1), (3, .int a.2.2.2.1), (4, .int a.2.2.2.2.1), (5, .int a.2.2.2.2.2.1), (6, .int a.2.2.2.2.2.2.1)] []) a) (k1 : ∀ b, r = .inr b → (fun b : Nat × Nat × Int32 × Int32 × Int32 × Zc => Zz p l e (zRm 0 0 0 0) s m args below meth cd Q D cid B 7 0 0 b.2.2.2.2.2 86 [(0, .ref b.1), (1, .ref b.2.1), (2, .int b.2.2.1), (3, .int b.2.2.2.1), (4, .int b.2.2.2.2.1)] []) b) : Zz p l e (zRm 0 0 0 0) s m args below meth cd Q D cid B 7 0 0 c 80 [(0, .ref x0), (1, .ref x1), (2, .int x2), (3, .int x3), (4, .int x4), (5, .int x5), (6, .int x6)] [] := by
  unfold f_Finder_spread_80 at h
  refine z_iinc (v := (x6 + 1)) (lv' := [(6, .int (x6 + 1)), (0, .ref x0), (1, .ref x1), (2, .int x2), (3, .int x3), (4, .int x4), (5, .int x5)]) X dd_Finder_spread_80 6 rfl rfl (by decide) rfl ?_
  refine z_goto (tgt := 36) X dd_Finder_spread_83 (by decide) ?_
  refine z_sub [1, 2, 3, 4, 5, 6, 0] rfl ?_
  obtain rfl := Option.some.inj h
  exact k0 _ rfl
set_option maxRecDepth 100000 in
set_option maxHeartbeats 4000000 in
theorem u_Finder_spread_36  (X : zX p s m args cd D cid B bb_Finder_spread 7 rr_Finder zT) (H : zH s meth B n0 none "spread") {nf : Nat} {x0 : Nat} {x1 : Nat} {x2 : Int32} {x3 : Int32} {x4 : Int32} {x5 : Int32} {x6 : Int32} {c : Zc} {r : (Nat × Nat × Int32 × Int32 × Int32 × Int32 × Int32 × Zc) ⊕ (Nat × Nat × Int32 × Int32 × Int32 × Zc)} (h : g_Finder_spread_36 nf x0 x1 x2 x3 x4 x5 x6 c = some r) (k0 : ∀ a, r = .inl a → (fun a : Nat × Nat × Int32 × Int32 × Int32 × Int32 × Int32 × Zc => Zz p l e (zRm 0 0 0 0) s m args below meth cd Q D cid B 7 0 0 a.2.2.2.2.2.2.2 36 [(0, .ref a.1), (1, .ref a.2.1), (2, .int a.2.2.1), (3, .int a.2.2.2.1), (4, .int a.2.2.2.2.1), (5, .int a.2.2.2.2.2.1), (6, .int a.2.2.2.2.2.2.1)] []) a) (k1 : ∀ b, r = .inr b → (fun b : Nat × Nat × Int32 × Int32 × Int32 × Zc => Zz p l e (zRm 0 0 0 0) s m args below meth cd Q D cid B 7 0 0 b.2.2.2.2.2 86 [(0, .ref b.1), (1, .ref b.2.1), (2, .int b.2.2.1), (3, .int b.2.2.2.1), (4, .int b.2.2.2.2.1)] []) b) : Zz p l e (zRm 0 0 0 0) s m args below meth cd Q D cid B 7 0 0 c 36 [(0, .ref x0), (1, .ref x1), (2, .int x2), (3, .int x3), (4, .int x4), (5, .int x5), (6, .int x6)] [] := by
  unfold g_Finder_spread_36 at h
  refine z_iload X dd_Finder_spread_36 6 rfl ?_
  refine z_aload_n X dd_Finder_spread_38 rfl 0 rfl ?_
  obtain ⟨v6, ev6, h⟩ := zb h
  refine z_get (j := 1) X dd_Finder_spread_39 kc_7 ki_7 (by decide) km_586 (zgr_v ev6) ?_
  obtain ⟨v7, ev7, h⟩ := zb h
  refine z_get (j := 7) X dd_Finder_spread_42 kc_0 ki_0 (by decide) km_176 (zgi_v ev7) ?_
  refine z_icmp_ge (tgt := 86) X dd_Finder_spread_45 (by decide) (fun q8 => ?_) (fun q8 => ?_)
  · rw [if_pos q8] at h
    refine z_sub [0, 1, 2, 3, 4] rfl ?_
    obtain rfl := Option.some.inj h
    exact k1 _ rfl
  · rw [if_neg q8] at h
    refine z_iload_n X dd_Finder_spread_48 rfl 2 rfl ?_
    refine z_iload X dd_Finder_spread_49 6 rfl ?_
    refine z_ishr X dd_Finder_spread_51 ?_
    refine z_iconst (v := 1) X dd_Finder_spread_52 (by decide) ?_
    refine z_iand X dd_Finder_spread_53 ?_
    refine z_if_eq (tgt := 80) X dd_Finder_spread_54 (by decide) (fun q9 => ?_) (fun q9 => ?_)
    · rw [if_pos q9] at h
      exact t_Finder_spread_80 X H h k0 k1
    · rw [if_neg q9] at h
      refine z_aload_n X dd_Finder_spread_57 rfl 0 rfl ?_
      obtain ⟨v10, ev10, h⟩ := zb h
      refine z_get (j := 6) X dd_Finder_spread_58 kc_7 ki_7 (by decide) km_591 (zgr_v ev10) ?_
      refine z_iload X dd_Finder_spread_61 4 rfl ?_
      refine z_dup2_11 X dd_Finder_spread_63 rfl rfl ?_
      obtain ⟨v11, ev11, h⟩ := zb h
      refine z_iaload X dd_Finder_spread_64 rfl ev11 ?_
      refine z_aload_n X dd_Finder_spread_65 rfl 0 rfl ?_
      obtain ⟨v12, ev12, h⟩ := zb h
      refine z_get (j := 1) X dd_Finder_spread_66 kc_7 ki_7 (by decide) km_586 (zgr_v ev12) ?_
      obtain ⟨v13, ev13, h⟩ := zb h
      refine z_get (j := 6) X dd_Finder_spread_69 kc_0 ki_0 (by decide) km_172 (zgr_v ev13) ?_
      refine z_iload X dd_Finder_spread_72 5 rfl ?_
      refine z_iload X dd_Finder_spread_74 6 rfl ?_
      refine z_iadd X dd_Finder_spread_76 ?_
      obtain ⟨v14, ev14, h⟩ := zb h
      refine z_iaload X dd_Finder_spread_77 rfl ev14 ?_
      refine z_ior X dd_Finder_spread_78 ?_
      obtain ⟨c15, ec15, h⟩ := zb h
      refine z_iastore X dd_Finder_spread_79 rfl ec15 ?_
      exact t_Finder_spread_80 X H h k0 k1
set_option maxRecDepth 100000 in
set_option maxHeartbeats 4000000 in
theorem t_Finder_spread_36  (X : zX p s m args cd D cid B bb_Finder_spread 7 rr_Finder zT) (H : zH s meth B n0 none "spread") {nf : Nat} {x0 : Nat} {x1 : Nat} {x2 : Int32} {x3 : Int32} {x4 : Int32} {x5 : Int32} {x6 : Int32} {c : Zc} {r : (Nat × Nat × Int32 × Int32 × Int32 × Zc) ⊕ (Zc)} (h : f_Finder_spread_36 nf x0 x1 x2 x3 x4 x5 x6 c = some r) (k0 : ∀ a, r = .inl a → (fun a : Nat × Nat × Int32 × Int32 × Int32 × Zc => Zz p l e (zRm 0 0 0 0) s m args below meth cd Q D cid B 7 0 0 a.2.2.2.2.2 3 [(0, .ref a.1), (1, .ref a.2.1), (2, .int a.2.2.1), (3, .int a.2.2.2.1), (4, .int a.2.2.2.2.1)] []) a) (k1 : ∀ b, r = .inr b → (fun b : Zc => Zz p l e (zRm 0 0 0 0) s m args below meth cd Q D cid B 7 0 0 b 92 [] []) b) : Zz p l e (zRm 0 0 0 0) s m args below meth cd Q D cid B 7 0 0 c 36 [(0, .ref x0), (1, .ref x1), (2, .int x2), (3, .int x3), (4, .int x4), (5, .int x5), (6, .int x6)] [] := by
  unfold f_Finder_spread_36 at h
  obtain ⟨b, eb, h⟩ := zb h
  refine zlp_ok (P := fun a : Nat × Nat × Int32 × Int32 × Int32 × Int32 × Int32 × Zc => Zz p l e (zRm 0 0 0 0) s m args below meth cd _ D cid B 7 0 0 a.2.2.2.2.2.2.2 36 [(0, .ref a.1), (1, .ref a.2.1), (2, .int a.2.2.1), (3, .int a.2.2.2.1), (4, .int a.2.2.2.2.1), (5, .int a.2.2.2.2.2.1), (6, .int a.2.2.2.2.2.2.1)] []) (G := fun b : Nat × Nat × Int32 × Int32 × Int32 × Zc => Zz p l e (zRm 0 0 0 0) s m args below meth cd _ D cid B 7 0 0 b.2.2.2.2.2 86 [(0, .ref b.1), (1, .ref b.2.1), (2, .int b.2.2.1), (3, .int b.2.2.2.1), (4, .int b.2.2.2.2.1)] []) (fun a r ha k0 k1 => u_Finder_spread_36 X H ha k0 k1) nf _ b eb ?_
  exact t_Finder_spread_86 X H h k0 k1
set_option maxRecDepth 100000 in
set_option maxHeartbeats 4000000 in
theorem u_Finder_spread_3  (X : zX p s m args cd D cid B bb_Finder_spread 7 rr_Finder zT) (H : zH s meth B n0 none "spread") {nf : Nat} {x0 : Nat} {x1 : Nat} {x2 : Int32} {x3 : Int32} {x4 : Int32} {c : Zc} {r : (Nat × Nat × Int32 × Int32 × Int32 × Zc) ⊕ (Zc)} (h : g_Finder_spread_3 nf x0 x1 x2 x3 x4 c = some r) (k0 : ∀ a, r = .inl a → (fun a : Nat × Nat × Int32 × Int32 × Int32 × Zc => Zz p l e (zRm 0 0 0 0) s m args below meth cd Q D cid B 7 0 0 a.2.2.2.2.2 3 [(0, .ref a.1), (1, .ref a.2.1), (2, .int a.2.2.1), (3, .int a.2.2.2.1), (4, .int a.2.2.2.2.1)] []) a) (k1 : ∀ b, r = .inr b → (fun b : Zc => Zz p l e (zRm 0 0 0 0) s m args below meth cd Q D cid B 7 0 0 b 92 [] []) b) : Zz p l e (zRm 0 0 0 0) s m args below meth cd Q D cid B 7 0 0 c 3 [(0, .ref x0), (1, .ref x1), (2, .int x2), (3, .int x3), (4, .int x4)] [] := by
  unfold g_Finder_spread_3 at h
  refine z_iload X dd_Finder_spread_3 4 rfl ?_
  refine z_aload_n X dd_Finder_spread_5 rfl 1 rfl ?_
  obtain ⟨v1, ev1, h⟩ := zb h
  refine z_get (j := 5) X dd_Finder_spread_6 kc_1 ki_1 (by decide) km_236 (zgi_v ev1) ?_
  refine z_icmp_ge (tgt := 92) X dd_Finder_spread_9 (by decide) (fun q2 => ?_) (fun q2 => ?_)
  · rw [if_pos q2] at h
    refine z_sub [] rfl ?_
    obtain rfl := Option.some.inj h
    exact k1 _ rfl
  · rw [if_neg q2] at h
    refine z_iload_n X dd_Finder_spread_12 rfl 3 rfl ?_
    refine z_iload X dd_Finder_spread_13 4 rfl ?_
    refine z_ishr X dd_Finder_spread_15 ?_
    refine z_iconst (v := 1) X dd_Finder_spread_16 (by decide) ?_
    refine z_iand X dd_Finder_spread_17 ?_
    refine z_if_eq (tgt := 86) X dd_Finder_spread_18 (by decide) (fun q3 => ?_) (fun q3 => ?_)
    · rw [if_pos q3] at h
      exact t_Finder_spread_86 X H h k0 k1
    · rw [if_neg q3] at h
      refine z_aload_n X dd_Finder_spread_21 rfl 1 rfl ?_
      obtain ⟨v4, ev4, h⟩ := zb h
      refine z_get (j := 6) X dd_Finder_spread_22 kc_1 ki_1 (by decide) km_239 (zgr_v ev4) ?_
      refine z_iload X dd_Finder_spread_25 4 rfl ?_
      obtain ⟨v5, ev5, h⟩ := zb h
      refine z_iaload X dd_Finder_spread_27 rfl ev5 ?_
      refine z_bipush (v := 16) X dd_Finder_spread_28 (by decide) ?_
      refine z_imul X dd_Finder_spread_30 ?_
      refine z_istore (lv' := [(5, .int (v5 * 16)), (0, .ref x0), (1, .ref x1), (2, .int x2), (3, .int x3), (4, .int x4)]) X dd_Finder_spread_31 (by decide) rfl ?_
      refine z_iconst (v := 0) X dd_Finder_spread_33 (by decide) ?_
      refine z_istore (lv' := [(6, .int 0), (5, .int (v5 * 16)), (0, .ref x0), (1, .ref x1), (2, .int x2), (3, .int x3), (4, .int x4)]) X dd_Finder_spread_34 (by decide) rfl ?_
      refine z_sub [2, 3, 4, 5, 6, 1, 0] rfl ?_
      exact t_Finder_spread_36 X H h k0 k1
set_option maxRecDepth 100000 in
set_option maxHeartbeats 4000000 in
theorem t_Finder_spread_3  (X : zX p s m args cd D cid B bb_Finder_spread 7 rr_Finder zT) (H : zH s meth B n0 none "spread") {nf : Nat} {x0 : Nat} {x1 : Nat} {x2 : Int32} {x3 : Int32} {x4 : Int32} {c : Zc} {res : Zc} (h : f_Finder_spread_3 nf x0 x1 x2 x3 x4 c = some res) : Zz p l e (zRm 0 0 0 0) s m args below meth cd (MQ below (zQv D cid B res n0 0) args s 0 0 (fun q => B ≤ q)) D cid B 7 0 0 c 3 [(0, .ref x0), (1, .ref x1), (2, .int x2), (3, .int x3), (4, .int x4)] [] := by
  unfold f_Finder_spread_3 at h
  obtain ⟨b, eb, h⟩ := zb h
  refine zlp_ok (P := fun a : Nat × Nat × Int32 × Int32 × Int32 × Zc => Zz p l e (zRm 0 0 0 0) s m args below meth cd _ D cid B 7 0 0 a.2.2.2.2.2 3 [(0, .ref a.1), (1, .ref a.2.1), (2, .int a.2.2.1), (3, .int a.2.2.2.1), (4, .int a.2.2.2.2.1)] []) (G := fun b : Zc => Zz p l e (zRm 0 0 0 0) s m args below meth cd _ D cid B 7 0 0 b 92 [] []) (fun a r ha k0 k1 => u_Finder_spread_3 X H ha k0 k1) nf _ b eb ?_
  obtain rfl := Option.some.inj h
  exact z_vret X H.1 H.2.1 H.2.2.1 dd_Finder_spread_92
set_option maxRecDepth 100000 in
set_option maxHeartbeats 4000000 in
theorem c_Finder_spread (l : Launch) {nf : Nat} {a0 : Nat} {a1 : Nat} {a2 : Int32} {a3 : Int32} {c : Zc} {res : Zc} (h : f_Finder_spread nf a0 a1 a2 a3 c = some res) : zM l yy_Finder_spread ww_Finder_spread 0 0 0 0 [.ref a0, .ref a1, .int a2, .int a3] c (fun D cid B => zQv D cid B res c.length 0) := by
  refine z_met (cc := bb_Finder_spread) (maxL := 7) (ret := none) (by decide +kernel) rfl (Nat.le_of_ble_eq_true rfl) ?_
  intro p e s m args below meth cd D cid B X h1 h2 h3 h4
  have X : zX p s m args cd D cid B bb_Finder_spread 7 rr_Finder zT := X
  have H : zH s meth B c.length none "spread" := ⟨h1, h2, h4, h3⟩
  unfold f_Finder_spread at h
  show Zz p l e (zRm 0 0 0 0) s m args below meth cd _ D cid B 7 0 0 c 0 [(0, .ref a0), (1, .ref a1), (2, .int a2), (3, .int a3)] []
  refine z_iconst (v := 0) X dd_Finder_spread_0 (by decide) ?_
  refine z_istore (lv' := [(4, .int 0), (0, .ref a0), (1, .ref a1), (2, .int a2), (3, .int a3)]) X dd_Finder_spread_1 (by decide) rfl ?_
  refine z_sub [1, 2, 3, 4, 0] rfl ?_
  exact t_Finder_spread_3 X H h
theorem dd_Finder_goOn_0 : decode bb_Finder_goOn 0 = .ok (.aload_n 0, 1) := by decide +kernel
theorem dd_Finder_goOn_1 : decode bb_Finder_goOn 1 = .ok (.getfield 21, 3) := by decide +kernel
theorem dd_Finder_goOn_4 : decode bb_Finder_goOn 4 = .ok (.iconst 0, 1) := by decide +kernel
theorem dd_Finder_goOn_5 : decode bb_Finder_goOn 5 = .ok (.invokestatic 180, 3) := by decide +kernel
theorem dd_Finder_goOn_8 : decode bb_Finder_goOn 8 = .ok (.iconst 0, 1) := by decide +kernel
theorem dd_Finder_goOn_9 : decode bb_Finder_goOn 9 = .ok (.istore_n 2, 1) := by decide +kernel
theorem dd_Finder_goOn_10 : decode bb_Finder_goOn 10 = .ok (.iload_n 2, 1) := by decide +kernel
theorem dd_Finder_goOn_11 : decode bb_Finder_goOn 11 = .ok (.aload_n 1, 1) := by decide +kernel
theorem dd_Finder_goOn_12 : decode bb_Finder_goOn 12 = .ok (.getfield 167, 3) := by decide +kernel
theorem dd_Finder_goOn_15 : decode bb_Finder_goOn 15 = .ok (.if_icmp .ge 35, 3) := by decide +kernel
theorem dd_Finder_goOn_18 : decode bb_Finder_goOn 18 = .ok (.aload_n 0, 1) := by decide +kernel
theorem dd_Finder_goOn_19 : decode bb_Finder_goOn 19 = .ok (.getfield 18, 3) := by decide +kernel
theorem dd_Finder_goOn_22 : decode bb_Finder_goOn 22 = .ok (.iload_n 2, 1) := by decide +kernel
theorem dd_Finder_goOn_23 : decode bb_Finder_goOn 23 = .ok (.iaload, 1) := by decide +kernel
theorem dd_Finder_goOn_24 : decode bb_Finder_goOn 24 = .ok (.ifCond .eq 20, 3) := by decide +kernel
theorem dd_Finder_goOn_27 : decode bb_Finder_goOn 27 = .ok (.aload_n 0, 1) := by decide +kernel
theorem dd_Finder_goOn_28 : decode bb_Finder_goOn 28 = .ok (.aload_n 1, 1) := by decide +kernel
theorem dd_Finder_goOn_29 : decode bb_Finder_goOn 29 = .ok (.aload_n 0, 1) := by decide +kernel
theorem dd_Finder_goOn_30 : decode bb_Finder_goOn 30 = .ok (.getfield 18, 3) := by decide +kernel
theorem dd_Finder_goOn_33 : decode bb_Finder_goOn 33 = .ok (.iload_n 2, 1) := by decide +kernel
theorem dd_Finder_goOn_34 : decode bb_Finder_goOn 34 = .ok (.iaload, 1) := by decide +kernel
theorem dd_Finder_goOn_35 : decode bb_Finder_goOn 35 = .ok (.aload_n 1, 1) := by decide +kernel
theorem dd_Finder_goOn_36 : decode bb_Finder_goOn 36 = .ok (.getfield 186, 3) := by decide +kernel
theorem dd_Finder_goOn_39 : decode bb_Finder_goOn 39 = .ok (.iload_n 2, 1) := by decide +kernel
theorem dd_Finder_goOn_40 : decode bb_Finder_goOn 40 = .ok (.iaload, 1) := by decide +kernel
theorem dd_Finder_goOn_41 : decode bb_Finder_goOn 41 = .ok (.invokevirtual 189, 3) := by decide +kernel
theorem dd_Finder_goOn_44 : decode bb_Finder_goOn 44 = .ok (.iinc 2 1, 3) := by decide +kernel
theorem dd_Finder_goOn_47 : decode bb_Finder_goOn 47 = .ok (.goto (-37), 3) := by decide +kernel
theorem dd_Finder_goOn_50 : decode bb_Finder_goOn 50 = .ok (.iconst 0, 1) := by decide +kernel
theorem dd_Finder_goOn_51 : decode bb_Finder_goOn 51 = .ok (.istore_n 2, 1) := by decide +kernel
theorem dd_Finder_goOn_52 : decode bb_Finder_goOn 52 = .ok (.iconst 0, 1) := by decide +kernel
theorem dd_Finder_goOn_53 : decode bb_Finder_goOn 53 = .ok (.istore_n 3, 1) := by decide +kernel
theorem dd_Finder_goOn_54 : decode bb_Finder_goOn 54 = .ok (.iload_n 3, 1) := by decide +kernel
theorem dd_Finder_goOn_55 : decode bb_Finder_goOn 55 = .ok (.aload_n 1, 1) := by decide +kernel
theorem dd_Finder_goOn_56 : decode bb_Finder_goOn 56 = .ok (.getfield 167, 3) := by decide +kernel
theorem dd_Finder_goOn_59 : decode bb_Finder_goOn 59 = .ok (.if_icmp .ge 54, 3) := by decide +kernel
theorem dd_Finder_goOn_62 : decode bb_Finder_goOn 62 = .ok (.aload_n 0, 1) := by decide +kernel
theorem dd_Finder_goOn_63 : decode bb_Finder_goOn 63 = .ok (.getfield 18, 3) := by decide +kernel
theorem dd_Finder_goOn_66 : decode bb_Finder_goOn 66 = .ok (.iload_n 3, 1) := by decide +kernel
theorem dd_Finder_goOn_67 : decode bb_Finder_goOn 67 = .ok (.aload_n 0, 1) := by decide +kernel
theorem dd_Finder_goOn_68 : decode bb_Finder_goOn 68 = .ok (.getfield 21, 3) := by decide +kernel
theorem dd_Finder_goOn_71 : decode bb_Finder_goOn 71 = .ok (.iload_n 3, 1) := by decide +kernel
theorem dd_Finder_goOn_72 : decode bb_Finder_goOn 72 = .ok (.iaload, 1) := by decide +kernel
theorem dd_Finder_goOn_73 : decode bb_Finder_goOn 73 = .ok (.aload_n 0, 1) := by decide +kernel
theorem dd_Finder_goOn_74 : decode bb_Finder_goOn 74 = .ok (.getfield 24, 3) := by decide +kernel
theorem dd_Finder_goOn_77 : decode bb_Finder_goOn 77 = .ok (.iload_n 3, 1) := by decide +kernel
theorem dd_Finder_goOn_78 : decode bb_Finder_goOn 78 = .ok (.iaload, 1) := by decide +kernel
theorem dd_Finder_goOn_79 : decode bb_Finder_goOn 79 = .ok (.iconst (-1), 1) := by decide +kernel
theorem dd_Finder_goOn_80 : decode bb_Finder_goOn 80 = .ok (.ixor, 1) := by decide +kernel
theorem dd_Finder_goOn_81 : decode bb_Finder_goOn 81 = .ok (.iand, 1) := by decide +kernel
theorem dd_Finder_goOn_82 : decode bb_Finder_goOn 82 = .ok (.iastore, 1) := by decide +kernel
theorem dd_Finder_goOn_83 : decode bb_Finder_goOn 83 = .ok (.aload_n 0, 1) := by decide +kernel
theorem dd_Finder_goOn_84 : decode bb_Finder_goOn 84 = .ok (.getfield 24, 3) := by decide +kernel
theorem dd_Finder_goOn_87 : decode bb_Finder_goOn 87 = .ok (.iload_n 3, 1) := by decide +kernel
theorem dd_Finder_goOn_88 : decode bb_Finder_goOn 88 = .ok (.dup2, 1) := by decide +kernel
theorem dd_Finder_goOn_89 : decode bb_Finder_goOn 89 = .ok (.iaload, 1) := by decide +kernel
theorem dd_Finder_goOn_90 : decode bb_Finder_goOn 90 = .ok (.aload_n 0, 1) := by decide +kernel
theorem dd_Finder_goOn_91 : decode bb_Finder_goOn 91 = .ok (.getfield 18, 3) := by decide +kernel
theorem dd_Finder_goOn_94 : decode bb_Finder_goOn 94 = .ok (.iload_n 3, 1) := by decide +kernel
theorem dd_Finder_goOn_95 : decode bb_Finder_goOn 95 = .ok (.iaload, 1) := by decide +kernel
theorem dd_Finder_goOn_96 : decode bb_Finder_goOn 96 = .ok (.ior, 1) := by decide +kernel
theorem dd_Finder_goOn_97 : decode bb_Finder_goOn 97 = .ok (.iastore, 1) := by decide +kernel
theorem dd_Finder_goOn_98 : decode bb_Finder_goOn 98 = .ok (.iload_n 2, 1) := by decide +kernel
theorem dd_Finder_goOn_99 : decode bb_Finder_goOn 99 = .ok (.aload_n 0, 1) := by decide +kernel
theorem dd_Finder_goOn_100 : decode bb_Finder_goOn 100 = .ok (.getfield 18, 3) := by decide +kernel
theorem dd_Finder_goOn_103 : decode bb_Finder_goOn 103 = .ok (.iload_n 3, 1) := by decide +kernel
theorem dd_Finder_goOn_104 : decode bb_Finder_goOn 104 = .ok (.iaload, 1) := by decide +kernel
theorem dd_Finder_goOn_105 : decode bb_Finder_goOn 105 = .ok (.ior, 1) := by decide +kernel
theorem dd_Finder_goOn_106 : decode bb_Finder_goOn 106 = .ok (.istore_n 2, 1) := by decide +kernel
theorem dd_Finder_goOn_107 : decode bb_Finder_goOn 107 = .ok (.iinc 3 1, 3) := by decide +kernel
theorem dd_Finder_goOn_110 : decode bb_Finder_goOn 110 = .ok (.goto (-56), 3) := by decide +kernel
theorem dd_Finder_goOn_113 : decode bb_Finder_goOn 113 = .ok (.iload_n 2, 1) := by decide +kernel
theorem dd_Finder_goOn_114 : decode bb_Finder_goOn 114 = .ok (.ifCond .eq 7, 3) := by decide +kernel
theorem dd_Finder_goOn_117 : decode bb_Finder_goOn 117 = .ok (.iconst 1, 1) := by decide +kernel
theorem dd_Finder_goOn_118 : decode bb_Finder_goOn 118 = .ok (.goto 4, 3) := by decide +kernel
theorem dd_Finder_goOn_121 : decode bb_Finder_goOn 121 = .ok (.iconst 0, 1) := by decide +kernel
theorem dd_Finder_goOn_122 : decode bb_Finder_goOn 122 = .ok (.ireturn, 1) := by decide +kernel
def f_Finder_goOn_44 (nf : Nat) (x0 : Nat) (x1 : Nat) (x2 : Int32) (c : Zc) : Option ((Nat × Nat × Int32 × Zc) ⊕ (Nat × Nat × Zc)) :=
  some (.inl (x0, x1, (x2 + 1), c))
def g_Finder_goOn_10 (nf : Nat) (x0 : Nat) (x1 : Nat) (x2 : Int32) (c : Zc) : Option ((Nat × Nat × Int32 × Zc) ⊕ (Nat × Nat × Zc)) :=
  (zgi c x1 1 5).bind fun v3 => if v3 ≤ x2 then (some (.inr (x0, x1, c))) else ((zgr c x0 7 5).bind fun v5 => (zai c v5 0 x2).bind fun v6 => if v6 = 0 then (f_Finder_goOn_44 nf x0 x1 x2 c) else ((zgr c x0 7 5).bind fun v8 => (zai c v8 0 x2).bind fun v9 => (zgr c x1 1 7).bind fun v10 => (zai c v10 0 x2).bind fun v11 => (zob c x0 7).bind fun w13 => (f_Finder_spread nf x0 x1 v9 v11 c).bind fun q12 => f_Finder_goOn_44 nf x0 x1 x2 q12))
def g_Finder_goOn_54 (nf : Nat) (x0 : Nat) (x1 : Nat) (x2 : Int32) (x3 : Int32) (c : Zc) : Option ((Nat × Nat × Int32 × Int32 × Zc) ⊕ (Int32 × Zc)) :=
  (zgi c x1 1 5).bind fun v14 => if v14 ≤ x3 then (some (.inr (x2, c))) else ((zgr c x0 7 5).bind fun v16 => (zgr c x0 7 6).bind fun v17 => (zai c v17 0 x3).bind fun v18 => (zgr c x0 7 7).bind fun v19 => (zai c v19 0 x3).bind fun v20 => (zsi c v16 0 x3 (v18 &&& (v20 ^^^ (-1)))).bind fun c21 => (zgr c21 x0 7 7).bind fun v22 => (zai c21 v22 0 x3).bind fun v23 => (zgr c21 x0 7 5).bind fun v24 => (zai c21 v24 0 x3).bind fun v25 => (zsi c21 v22 0 x3 (v23 ||| v25)).bind fun c26 => (zgr c26 x0 7 5).bind fun v27 => (zai c26 v27 0 x3).bind fun v28 => some (.inl (x0, x1, (x2 ||| v28), (x3 + 1), c26)))
def f_Finder_goOn_122 (nf : Nat) (s0 : Int32) (c : Zc) : Option (Int32 × Zc) :=
  zrz s0 c
def f_Finder_goOn_54 (nf : Nat) (x0 : Nat) (x1 : Nat) (x2 : Int32) (x3 : Int32) (c : Zc) : Option (Int32 × Zc) :=
  (zlp (fun a => g_Finder_goOn_54 nf a.1 a.2.1 a.2.2.1 a.2.2.2.1 a.2.2.2.2) nf (x0, x1, x2, x3, c)).bind fun b => if b.1 = 0 then (f_Finder_goOn_122 nf 0 b.2) else (f_Finder_goOn_122 nf 1 b.2)
def f_Finder_goOn_10 (nf : Nat) (x0 : Nat) (x1 : Nat) (x2 : Int32) (c : Zc) : Option (Int32 × Zc) :=
  (zlp (fun a => g_Finder_goOn_10 nf a.1 a.2.1 a.2.2.1 a.2.2.2) nf (x0, x1, x2, c)).bind fun b => f_Finder_goOn_54 nf b.1 b.2.1 0 0 b.2.2
def f_Finder_goOn (nf : Nat) (a0 : Nat) (a1 : Nat) (c : Zc) : Option (Int32 × Zc) :=
  (zgr c a0 7 6).bind fun v1 => (f_Arrays_fill nf v1 0 c).bind fun q2 => f_Finder_goOn_10 nf a0 a1 0 q2
set_option maxRecDepth 100000 in
set_option maxHeartbeats 4000000 in
theorem t_Finder_goOn_44  (X : zX p s m args cd D cid B bb_Finder_goOn 4 rr_Finder zT) (H : zH s meth B n0 (some (.boolean)) "goOn") {nf : Nat} {x0 : Nat} {x1 : Nat} {x2 : Int32} {c : Zc} {r : (Nat × Nat × Int32 × Zc) ⊕ (Nat × Nat × Zc)} (h : f_Finder_goOn_44 nf x0 x1 x2 c = some r) (k0 : ∀ a, r = .inl a → (fun a : Nat × Nat × Int32 × Zc => Zz p l e (zRm 1 26 0 0) s m args below meth cd Q D cid B 4 0 0 a.2.2.2 10 [(0, .ref a.1), (1, .ref a.2.1), (2, .int a.2.2.1)] []) a) (k1 : ∀ b, r = .inr b → (fun b : Nat × Nat × Zc => Zz p l e (zRm 1 26 0 0) s m args below meth cd Q D cid B 4 0 0 b.2.2 50 [(0, .ref b.1), (1, .ref b.2.1)] []) b) : Zz p l e (zRm 1 26 0 0) s m args below meth cd Q D cid B 4 0 0 c 44 [(0, .ref x0), (1, .ref x1), (2, .int x2)] [] := by
  unfold f_Finder_goOn_44 at h
  refine z_iinc (v := (x2 + 1)) (lv' := [(2, .int (x2 + 1)), (0, .ref x0), (1, .ref x1)]) X dd_Finder_goOn_44 2 rfl rfl (by decide) rfl ?_
  refine z_goto (tgt := 10) X dd_Finder_goOn_47 (by decide) ?_
  refine z_sub [1, 2, 0] rfl ?_
  obtain rfl := Option.some.inj h
  exact k0 _ rfl
set_option maxRecDepth 100000 in
set_option maxHeartbeats 4000000 in
theorem u_Finder_goOn_10  (X : zX p s m args cd D cid B bb_Finder_goOn 4 rr_Finder zT) (H : zH s meth B n0 (some (.boolean)) "goOn") {nf : Nat} {x0 : Nat} {x1 : Nat} {x2 : Int32} {c : Zc} {r : (Nat × Nat × Int32 × Zc) ⊕ (Nat × Nat × Zc)} (h : g_Finder_goOn_10 nf x0 x1 x2 c = some r) (k0 : ∀ a, r = .inl a → (fun a : Nat × Nat × Int32 × Zc => Zz p l e (zRm 1 26 0 0) s m args below meth cd Q D cid B 4 0 0 a.2.2.2 10 [(0, .ref a.1), (1, .ref a.2.1), (2, .int a.2.2.1)] []) a) (k1 : ∀ b, r = .inr b → (fun b : Nat × Nat × Zc => Zz p l e (zRm 1 26 0 0) s m args below meth cd Q D cid B 4 0 0 b.2.2 50 [(0, .ref b.1), (1, .ref b.2.1)] []) b) : Zz p l e (zRm 1 26 0 0) s m args below meth cd Q D cid B 4 0 0 c 10 [(0, .ref x0), (1, .ref x1), (2, .int x2)] [] := by
  unfold g_Finder_goOn_10 at h
  refine z_iload_n X dd_Finder_goOn_10 rfl 2 rfl ?_
  refine z_aload_n X dd_Finder_goOn_11 rfl 1 rfl ?_
  obtain ⟨v3, ev3, h⟩ := zb h
  refine z_get (j := 5) X dd_Finder_goOn_12 kc_1 ki_1 (by decide) km_236 (zgi_v ev3) ?_
  refine z_icmp_ge (tgt := 50) X dd_Finder_goOn_15 (by decide) (fun q4 => ?_) (fun q4 => ?_)
  · rw [if_pos q4] at h
    refine z_sub [0, 1] rfl ?_
    obtain rfl := Option.some.inj h
    exact k1 _ rfl
  · rw [if_neg q4] at h
    refine z_aload_n X dd_Finder_goOn_18 rfl 0 rfl ?_
    obtain ⟨v5, ev5, h⟩ := zb h
    refine z_get (j := 5) X dd_Finder_goOn_19 kc_7 ki_7 (by decide) km_590 (zgr_v ev5) ?_
    refine z_iload_n X dd_Finder_goOn_22 rfl 2 rfl ?_
    obtain ⟨v6, ev6, h⟩ := zb h
    refine z_iaload X dd_Finder_goOn_23 rfl ev6 ?_
    refine z_if_eq (tgt := 44) X dd_Finder_goOn_24 (by decide) (fun q7 => ?_) (fun q7 => ?_)
    · rw [if_pos q7] at h
      exact t_Finder_goOn_44 X H h k0 k1
    · rw [if_neg q7] at h
      refine z_aload_n X dd_Finder_goOn_27 rfl 0 rfl ?_
      refine z_aload_n X dd_Finder_goOn_28 rfl 1 rfl ?_
      refine z_aload_n X dd_Finder_goOn_29 rfl 0 rfl ?_
      obtain ⟨v8, ev8, h⟩ := zb h
      refine z_get (j := 5) X dd_Finder_goOn_30 kc_7 ki_7 (by decide) km_590 (zgr_v ev8) ?_
      refine z_iload_n X dd_Finder_goOn_33 rfl 2 rfl ?_
      obtain ⟨v9, ev9, h⟩ := zb h
      refine z_iaload X dd_Finder_goOn_34 rfl ev9 ?_
      refine z_aload_n X dd_Finder_goOn_35 rfl 1 rfl ?_
      obtain ⟨v10, ev10, h⟩ := zb h
      refine z_get (j := 7) X dd_Finder_goOn_36 kc_1 ki_1 (by decide) km_241 (zgr_v ev10) ?_
      refine z_iload_n X dd_Finder_goOn_39 rfl 2 rfl ?_
      obtain ⟨v11, ev11, h⟩ := zb h
      refine z_iaload X dd_Finder_goOn_40 rfl ev11 ?_
      obtain ⟨w13, ew13, h⟩ := zb h
      obtain ⟨q12, eq12, h⟩ := zb h
      refine z_callVv X [.ref x1, .int v9, .int v11] rfl dd_Finder_goOn_41 (c_Finder_spread l eq12) (cwV 3 X.1.2.2.2.2 (zg_V km_1320 km_1322 km_50 km_133 km_1323) rfl rfl rfl (by decide +kernel) ⟨Nat.le_of_ble_eq_true rfl, Nat.le_of_ble_eq_true rfl⟩) (zob_s ew13) kc_7 rfl (Nat.le_of_ble_eq_true rfl) ⟨Nat.le_of_ble_eq_true rfl, Nat.le_of_ble_eq_true rfl⟩ ?_
      exact t_Finder_goOn_44 X H h k0 k1
set_option maxRecDepth 100000 in
set_option maxHeartbeats 4000000 in
theorem u_Finder_goOn_54  (X : zX p s m args cd D cid B bb_Finder_goOn 4 rr_Finder zT) (H : zH s meth B n0 (some (.boolean)) "goOn") {nf : Nat} {x0 : Nat} {x1 : Nat} {x2 : Int32} {x3 : Int32} {c : Zc} {r : (Nat × Nat × Int32 × Int32 × Zc) ⊕ (Int32 × Zc)} (h : g_Finder_goOn_54 nf x0 x1 x2 x3 c = some r) (k0 : ∀ a, r = .inl a → (fun a : Nat × Nat × Int32 × Int32 × Zc => Zz p l e (zRm 1 26 0 0) s m args below meth cd Q D cid B 4 0 0 a.2.2.2.2 54 [(0, .ref a.1), (1, .ref a.2.1), (2, .int a.2.2.1), (3, .int a.2.2.2.1)] []) a) (k1 : ∀ b, r = .inr b → (fun b : Int32 × Zc => Zz p l e (zRm 1 26 0 0) s m args below meth cd Q D cid B 4 0 0 b.2 113 [(2, .int b.1)] []) b) : Zz p l e (zRm 1 26 0 0) s m args below meth cd Q D cid B 4 0 0 c 54 [(0, .ref x0), (1, .ref x1), (2, .int x2), (3, .int x3)] [] := by
  unfold g_Finder_goOn_54 at h
  refine z_iload_n X dd_Finder_goOn_54 rfl 3 rfl ?_
  refine z_aload_n X dd_Finder_goOn_55 rfl 1 rfl ?_
  obtain ⟨v14, ev14, h⟩ := zb h
  refine z_get (j := 5) X dd_Finder_goOn_56 kc_1 ki_1 (by decide) km_236 (zgi_v ev14) ?_
  refine z_icmp_ge (tgt := 113) X dd_Finder_goOn_59 (by decide) (fun q15 => ?_) (fun q15 => ?_)
  · rw [if_pos q15] at h
    refine z_sub [2] rfl ?_
    obtain rfl := Option.some.inj h
    exact k1 _ rfl
  · rw [if_neg q15] at h
    refine z_aload_n X dd_Finder_goOn_62 rfl 0 rfl ?_
    obtain ⟨v16, ev16, h⟩ := zb h
    refine z_get (j := 5) X dd_Finder_goOn_63 kc_7 ki_7 (by decide) km_590 (zgr_v ev16) ?_
    refine z_iload_n X dd_Finder_goOn_66 rfl 3 rfl ?_
    refine z_aload_n X dd_Finder_goOn_67 rfl 0 rfl ?_
    obtain ⟨v17, ev17, h⟩ := zb h
    refine z_get (j := 6) X dd_Finder_goOn_68 kc_7 ki_7 (by decide) km_591 (zgr_v ev17) ?_
    refine z_iload_n X dd_Finder_goOn_71 rfl 3 rfl ?_
    obtain ⟨v18, ev18, h⟩ := zb h
    refine z_iaload X dd_Finder_goOn_72 rfl ev18 ?_
    refine z_aload_n X dd_Finder_goOn_73 rfl 0 rfl ?_
    obtain ⟨v19, ev19, h⟩ := zb h
    refine z_get (j := 7) X dd_Finder_goOn_74 kc_7 ki_7 (by decide) km_592 (zgr_v ev19) ?_
    refine z_iload_n X dd_Finder_goOn_77 rfl 3 rfl ?_
    obtain ⟨v20, ev20, h⟩ := zb h
    refine z_iaload X dd_Finder_goOn_78 rfl ev20 ?_
    refine z_iconst (v := (-1)) X dd_Finder_goOn_79 (by decide) ?_
    refine z_ixor X dd_Finder_goOn_80 ?_
    refine z_iand X dd_Finder_goOn_81 ?_
    obtain ⟨c21, ec21, h⟩ := zb h
    refine z_iastore X dd_Finder_goOn_82 rfl ec21 ?_
    refine z_aload_n X dd_Finder_goOn_83 rfl 0 rfl ?_
    obtain ⟨v22, ev22, h⟩ := zb h
    refine z_get (j := 7) X dd_Finder_goOn_84 kc_7 ki_7 (by decide) km_592 (zgr_v ev22) ?_
    refine z_iload_n X dd_Finder_goOn_87 rfl 3 rfl ?_
    refine z_dup2_11 X dd_Finder_goOn_88 rfl rfl ?_
    obtain ⟨v23, ev23, h⟩ := zb h
    refine z_iaload X dd_Finder_goOn_89 rfl ev23 ?_
    refine z_aload_n X dd_Finder_goOn_90 rfl 0 rfl ?_
    obtain ⟨v24, ev24, h⟩ := zb h
    refine z_get (j := 5) X dd_Finder_goOn_91 kc_7 ki_7 (by decide) km_590 (zgr_v ev24) ?_
    refine z_iload_n X dd_Finder_goOn_94 rfl 3 rfl ?_
    obtain ⟨v25, ev25, h⟩ := zb h
    refine z_iaload X dd_Finder_goOn_95 rfl ev25 ?_
    refine z_ior X dd_Finder_goOn_96 ?_
    obtain ⟨c26, ec26, h⟩ := zb h
    refine z_iastore X dd_Finder_goOn_97 rfl ec26 ?_
    refine z_iload_n X dd_Finder_goOn_98 rfl 2 rfl ?_
    refine z_aload_n X dd_Finder_goOn_99 rfl 0 rfl ?_
    obtain ⟨v27, ev27, h⟩ := zb h
    refine z_get (j := 5) X dd_Finder_goOn_100 kc_7 ki_7 (by decide) km_590 (zgr_v ev27) ?_
    refine z_iload_n X dd_Finder_goOn_103 rfl 3 rfl ?_
    obtain ⟨v28, ev28, h⟩ := zb h
    refine z_iaload X dd_Finder_goOn_104 rfl ev28 ?_
    refine z_ior X dd_Finder_goOn_105 ?_
    refine z_istore_n (lv' := [(2, .int (x2 ||| v28)), (0, .ref x0), (1, .ref x1), (3, .int x3)]) X dd_Finder_goOn_106 rfl (by decide) rfl ?_
    refine z_iinc (v := (x3 + 1)) (lv' := [(3, .int (x3 + 1)), (2, .int (x2 ||| v28)), (0, .ref x0), (1, .ref x1)]) X dd_Finder_goOn_107 3 rfl rfl (by decide) rfl ?_
    refine z_goto (tgt := 54) X dd_Finder_goOn_110 (by decide) ?_
    refine z_sub [2, 3, 1, 0] rfl ?_
    obtain rfl := Option.some.inj h
    exact k0 _ rfl
set_option maxRecDepth 100000 in
set_option maxHeartbeats 4000000 in
theorem t_Finder_goOn_122  (X : zX p s m args cd D cid B bb_Finder_goOn 4 rr_Finder zT) (H : zH s meth B n0 (some (.boolean)) "goOn") {nf : Nat} {s0 : Int32} {c : Zc} {res : Int32 × Zc} (h : f_Finder_goOn_122 nf s0 c = some res) : Zz p l e (zRm 1 26 0 0) s m args below meth cd (MQ below (zQi D cid B res.1 res.2 n0 0) args s 0 0 (fun q => B ≤ q)) D cid B 4 0 0 c 122 [] [.int s0] := by
  unfold f_Finder_goOn_122 at h
  obtain ⟨hz, h⟩ := zrz_s h
  obtain rfl := h
  exact z_zret X H.1 (zn_z hz) H.2.1 H.2.2.1 dd_Finder_goOn_122
set_option maxRecDepth 100000 in
set_option maxHeartbeats 4000000 in
theorem t_Finder_goOn_54  (X : zX p s m args cd D cid B bb_Finder_goOn 4 rr_Finder zT) (H : zH s meth B n0 (some (.boolean)) "goOn") {nf : Nat} {x0 : Nat} {x1 : Nat} {x2 : Int32} {x3 : Int32} {c : Zc} {res : Int32 × Zc} (h : f_Finder_goOn_54 nf x0 x1 x2 x3 c = some res) : Zz p l e (zRm 1 26 0 0) s m args below meth cd (MQ below (zQi D cid B res.1 res.2 n0 0) args s 0 0 (fun q => B ≤ q)) D cid B 4 0 0 c 54 [(0, .ref x0), (1, .ref x1), (2, .int x2), (3, .int x3)] [] := by
  unfold f_Finder_goOn_54 at h
  obtain ⟨b, eb, h⟩ := zb h
  refine zlp_ok (P := fun a : Nat × Nat × Int32 × Int32 × Zc => Zz p l e (zRm 1 26 0 0) s m args below meth cd _ D cid B 4 0 0 a.2.2.2.2 54 [(0, .ref a.1), (1, .ref a.2.1), (2, .int a.2.2.1), (3, .int a.2.2.2.1)] []) (G := fun b : Int32 × Zc => Zz p l e (zRm 1 26 0 0) s m args below meth cd _ D cid B 4 0 0 b.2 113 [(2, .int b.1)] []) (fun a r ha k0 k1 => u_Finder_goOn_54 X H ha k0 k1) nf _ b eb ?_
  refine z_iload_n X dd_Finder_goOn_113 rfl 0 rfl ?_
  refine z_if_eq (tgt := 121) X dd_Finder_goOn_114 (by decide) (fun q29 => ?_) (fun q29 => ?_)
  · rw [if_pos q29] at h
    refine z_iconst (v := 0) X dd_Finder_goOn_121 (by decide) ?_
    refine z_sub [] rfl ?_
    exact t_Finder_goOn_122 X H h
  · rw [if_neg q29] at h
    refine z_iconst (v := 1) X dd_Finder_goOn_117 (by decide) ?_
    refine z_goto (tgt := 122) X dd_Finder_goOn_118 (by decide) ?_
    refine z_sub [] rfl ?_
    exact t_Finder_goOn_122 X H h
set_option maxRecDepth 100000 in
set_option maxHeartbeats 4000000 in
theorem t_Finder_goOn_10  (X : zX p s m args cd D cid B bb_Finder_goOn 4 rr_Finder zT) (H : zH s meth B n0 (some (.boolean)) "goOn") {nf : Nat} {x0 : Nat} {x1 : Nat} {x2 : Int32} {c : Zc} {res : Int32 × Zc} (h : f_Finder_goOn_10 nf x0 x1 x2 c = some res) : Zz p l e (zRm 1 26 0 0) s m args below meth cd (MQ below (zQi D cid B res.1 res.2 n0 0) args s 0 0 (fun q => B ≤ q)) D cid B 4 0 0 c 10 [(0, .ref x0), (1, .ref x1), (2, .int x2)] [] := by
  unfold f_Finder_goOn_10 at h
  obtain ⟨b, eb, h⟩ := zb h
  refine zlp_ok (P := fun a : Nat × Nat × Int32 × Zc => Zz p l e (zRm 1 26 0 0) s m args below meth cd _ D cid B 4 0 0 a.2.2.2 10 [(0, .ref a.1), (1, .ref a.2.1), (2, .int a.2.2.1)] []) (G := fun b : Nat × Nat × Zc => Zz p l e (zRm 1 26 0 0) s m args below meth cd _ D cid B 4 0 0 b.2.2 50 [(0, .ref b.1), (1, .ref b.2.1)] []) (fun a r ha k0 k1 => u_Finder_goOn_10 X H ha k0 k1) nf _ b eb ?_
  refine z_iconst (v := 0) X dd_Finder_goOn_50 (by decide) ?_
  refine z_istore_n (lv' := [(2, .int 0), (0, .ref b.1), (1, .ref b.2.1)]) X dd_Finder_goOn_51 rfl (by decide) rfl ?_
  refine z_iconst (v := 0) X dd_Finder_goOn_52 (by decide) ?_
  refine z_istore_n (lv' := [(3, .int 0), (2, .int 0), (0, .ref b.1), (1, .ref b.2.1)]) X dd_Finder_goOn_53 rfl (by decide) rfl ?_
  refine z_sub [2, 3, 1, 0] rfl ?_
  exact t_Finder_goOn_54 X H h
set_option maxRecDepth 100000 in
set_option maxHeartbeats 4000000 in
theorem c_Finder_goOn (l : Launch) {nf : Nat} {a0 : Nat} {a1 : Nat} {c : Zc} {res : Int32 × Zc} (h : f_Finder_goOn nf a0 a1 c = some res) : zM l yy_Finder_goOn ww_Finder_goOn 1 26 0 0 [.ref a0, .ref a1] c (fun D cid B => zQi D cid B res.1 res.2 c.length 0) := by
  refine z_met (cc := bb_Finder_goOn) (maxL := 4) (ret := (some (.boolean))) (by decide +kernel) rfl (Nat.le_of_ble_eq_true rfl) ?_
  intro p e s m args below meth cd D cid B X h1 h2 h3 h4
  have X : zX p s m args cd D cid B bb_Finder_goOn 4 rr_Finder zT := X
  have H : zH s meth B c.length (some (.boolean)) "goOn" := ⟨h1, h2, h4, h3⟩
  unfold f_Finder_goOn at h
  show Zz p l e (zRm 1 26 0 0) s m args below meth cd _ D cid B 4 0 0 c 0 [(0, .ref a0), (1, .ref a1)] []
  refine z_aload_n X dd_Finder_goOn_0 rfl 0 rfl ?_
  obtain ⟨v1, ev1, h⟩ := zb h
  refine z_get (j := 6) X dd_Finder_goOn_1 kc_7 ki_7 (by decide) km_591 (zgr_v ev1) ?_
  refine z_iconst (v := 0) X dd_Finder_goOn_4 (by decide) ?_
  obtain ⟨q2, eq2, h⟩ := zb h
  refine z_callSv X [.ref v1, .int 0] rfl dd_Finder_goOn_5 (c_Arrays_fill l eq2) (va_cwS 2 X.1.2.2.2.2 (zg_S km_1319 km_162 km_127 km_163) rfl rfl rfl (by decide +kernel) ⟨Nat.le_of_ble_eq_true rfl, Nat.le_of_ble_eq_true rfl⟩) rfl (Nat.le_of_ble_eq_true rfl) ⟨Nat.le_of_ble_eq_true rfl, Nat.le_of_ble_eq_true rfl⟩ ?_
  refine z_iconst (v := 0) X dd_Finder_goOn_8 (by decide) ?_
  refine z_istore_n (lv' := [(2, .int 0), (0, .ref a0), (1, .ref a1)]) X dd_Finder_goOn_9 rfl (by decide) rfl ?_
  refine z_sub [1, 2, 0] rfl ?_
  exact t_Finder_goOn_10 X H h
theorem dd_Finder_measureFrom_0 : decode bb_Finder_measureFrom 0 = .ok (.aload_n 1, 1) := by decide +kernel
theorem dd_Finder_measureFrom_1 : decode bb_Finder_measureFrom 1 = .ok (.getfield 150, 3) := by decide +kernel
theorem dd_Finder_measureFrom_4 : decode bb_Finder_measureFrom 4 = .ok (.ldc2_w 154, 3) := by decide +kernel
theorem dd_Finder_measureFrom_7 : decode bb_Finder_measureFrom 7 = .ok (.land, 1) := by decide +kernel
theorem dd_Finder_measureFrom_8 : decode bb_Finder_measureFrom 8 = .ok (.lconst 0, 1) := by decide +kernel
theorem dd_Finder_measureFrom_9 : decode bb_Finder_measureFrom 9 = .ok (.lcmp, 1) := by decide +kernel
theorem dd_Finder_measureFrom_10 : decode bb_Finder_measureFrom 10 = .ok (.ifCond .eq 12, 3) := by decide +kernel
theorem dd_Finder_measureFrom_13 : decode bb_Finder_measureFrom 13 = .ok (.aload_n 1, 1) := by decide +kernel
theorem dd_Finder_measureFrom_14 : decode bb_Finder_measureFrom 14 = .ok (.iload_n 2, 1) := by decide +kernel
theorem dd_Finder_measureFrom_15 : decode bb_Finder_measureFrom 15 = .ok (.iconst 1, 1) := by decide +kernel
theorem dd_Finder_measureFrom_16 : decode bb_Finder_measureFrom 16 = .ok (.iload_n 2, 1) := by decide +kernel
theorem dd_Finder_measureFrom_17 : decode bb_Finder_measureFrom 17 = .ok (.ishl, 1) := by decide +kernel
theorem dd_Finder_measureFrom_18 : decode bb_Finder_measureFrom 18 = .ok (.iconst 0, 1) := by decide +kernel
theorem dd_Finder_measureFrom_19 : decode bb_Finder_measureFrom 19 = .ok (.invokevirtual 156, 3) := by decide +kernel
theorem dd_Finder_measureFrom_22 : decode bb_Finder_measureFrom 22 = .ok (.aload_n 0, 1) := by decide +kernel
theorem dd_Finder_measureFrom_23 : decode bb_Finder_measureFrom 23 = .ok (.aload_n 1, 1) := by decide +kernel
theorem dd_Finder_measureFrom_24 : decode bb_Finder_measureFrom 24 = .ok (.iload_n 2, 1) := by decide +kernel
theorem dd_Finder_measureFrom_25 : decode bb_Finder_measureFrom 25 = .ok (.invokevirtual 160, 3) := by decide +kernel
theorem dd_Finder_measureFrom_28 : decode bb_Finder_measureFrom 28 = .ok (.istore_n 3, 1) := by decide +kernel
theorem dd_Finder_measureFrom_29 : decode bb_Finder_measureFrom 29 = .ok (.iconst 1, 1) := by decide +kernel
theorem dd_Finder_measureFrom_30 : decode bb_Finder_measureFrom 30 = .ok (.aload_n 0, 1) := by decide +kernel
theorem dd_Finder_measureFrom_31 : decode bb_Finder_measureFrom 31 = .ok (.getfield 27, 3) := by decide +kernel
theorem dd_Finder_measureFrom_34 : decode bb_Finder_measureFrom 34 = .ok (.getfield 143, 3) := by decide +kernel
theorem dd_Finder_measureFrom_37 : decode bb_Finder_measureFrom 37 = .ok (.ishl, 1) := by decide +kernel
theorem dd_Finder_measureFrom_38 : decode bb_Finder_measureFrom 38 = .ok (.iconst 1, 1) := by decide +kernel
theorem dd_Finder_measureFrom_39 : decode bb_Finder_measureFrom 39 = .ok (.isub, 1) := by decide +kernel
theorem dd_Finder_measureFrom_40 : decode bb_Finder_measureFrom 40 = .ok (.istore 4, 2) := by decide +kernel
theorem dd_Finder_measureFrom_42 : decode bb_Finder_measureFrom 42 = .ok (.sipush 256, 3) := by decide +kernel
theorem dd_Finder_measureFrom_45 : decode bb_Finder_measureFrom 45 = .ok (.istore 5, 2) := by decide +kernel
theorem dd_Finder_measureFrom_47 : decode bb_Finder_measureFrom 47 = .ok (.iconst 1, 1) := by decide +kernel
theorem dd_Finder_measureFrom_48 : decode bb_Finder_measureFrom 48 = .ok (.istore 6, 2) := by decide +kernel
theorem dd_Finder_measureFrom_50 : decode bb_Finder_measureFrom 50 = .ok (.iload 6, 2) := by decide +kernel
theorem dd_Finder_measureFrom_52 : decode bb_Finder_measureFrom 52 = .ok (.iload 5, 2) := by decide +kernel
theorem dd_Finder_measureFrom_54 : decode bb_Finder_measureFrom 54 = .ok (.if_icmp .gt 89, 3) := by decide +kernel
theorem dd_Finder_measureFrom_57 : decode bb_Finder_measureFrom 57 = .ok (.iload_n 3, 1) := by decide +kernel
theorem dd_Finder_measureFrom_58 : decode bb_Finder_measureFrom 58 = .ok (.ifCond .eq 85, 3) := by decide +kernel
theorem dd_Finder_measureFrom_61 : decode bb_Finder_measureFrom 61 = .ok (.aload_n 1, 1) := by decide +kernel
theorem dd_Finder_measureFrom_62 : decode bb_Finder_measureFrom 62 = .ok (.getfield 164, 3) := by decide +kernel
theorem dd_Finder_measureFrom_65 : decode bb_Finder_measureFrom 65 = .ok (.iload_n 2, 1) := by decide +kernel
theorem dd_Finder_measureFrom_66 : decode bb_Finder_measureFrom 66 = .ok (.iaload, 1) := by decide +kernel
theorem dd_Finder_measureFrom_67 : decode bb_Finder_measureFrom 67 = .ok (.iload 4, 2) := by decide +kernel
theorem dd_Finder_measureFrom_69 : decode bb_Finder_measureFrom 69 = .ok (.if_icmp .eq 74, 3) := by decide +kernel
theorem dd_Finder_measureFrom_72 : decode bb_Finder_measureFrom 72 = .ok (.iconst 0, 1) := by decide +kernel
theorem dd_Finder_measureFrom_73 : decode bb_Finder_measureFrom 73 = .ok (.istore 7, 2) := by decide +kernel
theorem dd_Finder_measureFrom_75 : decode bb_Finder_measureFrom 75 = .ok (.iconst 0, 1) := by decide +kernel
theorem dd_Finder_measureFrom_76 : decode bb_Finder_measureFrom 76 = .ok (.istore 8, 2) := by decide +kernel
theorem dd_Finder_measureFrom_78 : decode bb_Finder_measureFrom 78 = .ok (.iload 8, 2) := by decide +kernel
theorem dd_Finder_measureFrom_80 : decode bb_Finder_measureFrom 80 = .ok (.aload_n 1, 1) := by decide +kernel
theorem dd_Finder_measureFrom_81 : decode bb_Finder_measureFrom 81 = .ok (.getfield 167, 3) := by decide +kernel
theorem dd_Finder_measureFrom_84 : decode bb_Finder_measureFrom 84 = .ok (.if_icmp .ge 38, 3) := by decide +kernel
theorem dd_Finder_measureFrom_87 : decode bb_Finder_measureFrom 87 = .ok (.aload_n 1, 1) := by decide +kernel
theorem dd_Finder_measureFrom_88 : decode bb_Finder_measureFrom 88 = .ok (.getfield 150, 3) := by decide +kernel
theorem dd_Finder_measureFrom_91 : decode bb_Finder_measureFrom 91 = .ok (.bipush 16, 2) := by decide +kernel
theorem dd_Finder_measureFrom_93 : decode bb_Finder_measureFrom 93 = .ok (.iload 8, 2) := by decide +kernel
theorem dd_Finder_measureFrom_95 : decode bb_Finder_measureFrom 95 = .ok (.iadd, 1) := by decide +kernel
theorem dd_Finder_measureFrom_96 : decode bb_Finder_measureFrom 96 = .ok (.lshr, 1) := by decide +kernel
theorem dd_Finder_measureFrom_97 : decode bb_Finder_measureFrom 97 = .ok (.lconst 1, 1) := by decide +kernel
theorem dd_Finder_measureFrom_98 : decode bb_Finder_measureFrom 98 = .ok (.land, 1) := by decide +kernel
theorem dd_Finder_measureFrom_99 : decode bb_Finder_measureFrom 99 = .ok (.lconst 0, 1) := by decide +kernel
theorem dd_Finder_measureFrom_100 : decode bb_Finder_measureFrom 100 = .ok (.lcmp, 1) := by decide +kernel
theorem dd_Finder_measureFrom_101 : decode bb_Finder_measureFrom 101 = .ok (.ifCond .eq 15, 3) := by decide +kernel
theorem dd_Finder_measureFrom_104 : decode bb_Finder_measureFrom 104 = .ok (.iload 7, 2) := by decide +kernel
theorem dd_Finder_measureFrom_106 : decode bb_Finder_measureFrom 106 = .ok (.aload_n 0, 1) := by decide +kernel
theorem dd_Finder_measureFrom_107 : decode bb_Finder_measureFrom 107 = .ok (.getfield 18, 3) := by decide +kernel
theorem dd_Finder_measureFrom_110 : decode bb_Finder_measureFrom 110 = .ok (.iload 8, 2) := by decide +kernel
theorem dd_Finder_measureFrom_112 : decode bb_Finder_measureFrom 112 = .ok (.iaload, 1) := by decide +kernel
theorem dd_Finder_measureFrom_113 : decode bb_Finder_measureFrom 113 = .ok (.ior, 1) := by decide +kernel
theorem dd_Finder_measureFrom_114 : decode bb_Finder_measureFrom 114 = .ok (.istore 7, 2) := by decide +kernel
theorem dd_Finder_measureFrom_116 : decode bb_Finder_measureFrom 116 = .ok (.iinc 8 1, 3) := by decide +kernel
theorem dd_Finder_measureFrom_119 : decode bb_Finder_measureFrom 119 = .ok (.goto (-41), 3) := by decide +kernel
theorem dd_Finder_measureFrom_122 : decode bb_Finder_measureFrom 122 = .ok (.aload_n 1, 1) := by decide +kernel
theorem dd_Finder_measureFrom_123 : decode bb_Finder_measureFrom 123 = .ok (.iload_n 2, 1) := by decide +kernel
theorem dd_Finder_measureFrom_124 : decode bb_Finder_measureFrom 124 = .ok (.iload 7, 2) := by decide +kernel
theorem dd_Finder_measureFrom_126 : decode bb_Finder_measureFrom 126 = .ok (.iload 6, 2) := by decide +kernel
theorem dd_Finder_measureFrom_128 : decode bb_Finder_measureFrom 128 = .ok (.invokevirtual 156, 3) := by decide +kernel
theorem dd_Finder_measureFrom_131 : decode bb_Finder_measureFrom 131 = .ok (.aload_n 0, 1) := by decide +kernel
theorem dd_Finder_measureFrom_132 : decode bb_Finder_measureFrom 132 = .ok (.aload_n 1, 1) := by decide +kernel
theorem dd_Finder_measureFrom_133 : decode bb_Finder_measureFrom 133 = .ok (.invokevirtual 170, 3) := by decide +kernel
theorem dd_Finder_measureFrom_136 : decode bb_Finder_measureFrom 136 = .ok (.istore_n 3, 1) := by decide +kernel
theorem dd_Finder_measureFrom_137 : decode bb_Finder_measureFrom 137 = .ok (.iinc 6 1, 3) := by decide +kernel
theorem dd_Finder_measureFrom_140 : decode bb_Finder_measureFrom 140 = .ok (.goto (-90), 3) := by decide +kernel
theorem dd_Finder_measureFrom_143 : decode bb_Finder_measureFrom 143 = .ok (.return_, 1) := by decide +kernel
def f_Finder_measureFrom_116 (nf : Nat) (x0 : Nat) (x1 : Nat) (x2 : Int32) (x4 : Int32) (x5 : Int32) (x6 : Int32) (x7 : Int32) (x8 : Int32) (c : Zc) : Option ((Nat × Nat × Int32 × Int32 × Int32 × Int32 × Int32 × Int32 × Zc) ⊕ (Nat × Nat × Int32 × Int32 × Int32 × Int32 × Int32 × Zc)) :=
  some (.inl (x0, x1, x2, x4, x5, x6, x7, (x8 + 1), c))
def g_Finder_measureFrom_78 (nf : Nat) (x0 : Nat) (x1 : Nat) (x2 : Int32) (x4 : Int32) (x5 : Int32) (x6 : Int32) (x7 : Int32) (x8 : Int32) (c : Zc) : Option ((Nat × Nat × Int32 × Int32 × Int32 × Int32 × Int32 × Int32 × Zc) ⊕ (Nat × Nat × Int32 × Int32 × Int32 × Int32 × Int32 × Zc)) :=
  (zgi c x1 1 5).bind fun v12 => if v12 ≤ x8 then (some (.inr (x0, x1, x2, x4, x5, x6, x7, c))) else ((zgl c x1 1 8).bind fun v14 => if (lg_cmp ((v14 >>> (Int32.toInt64 (16 + x8) &&& 63)) &&& 1) 0) = 0 then (f_Finder_measureFrom_116 nf x0 x1 x2 x4 x5 x6 x7 x8 c) else ((zgr c x0 7 5).bind fun v16 => (zai c v16 0 x8).bind fun v17 => f_Finder_measureFrom_116 nf x0 x1 x2 x4 x5 x6 (x7 ||| v17) x8 c))
def f_Finder_measureFrom_78 (nf : Nat) (x0 : Nat) (x1 : Nat) (x2 : Int32) (x4 : Int32) (x5 : Int32) (x6 : Int32) (x7 : Int32) (x8 : Int32) (c : Zc) : Option ((Nat × Nat × Int32 × Int32 × Int32 × Int32 × Int32 × Zc) ⊕ (Zc)) :=
  (zlp (fun a => g_Finder_measureFrom_78 nf a.1 a.2.1 a.2.2.1 a.2.2.2.1 a.2.2.2.2.1 a.2.2.2.2.2.1 a.2.2.2.2.2.2.1 a.2.2.2.2.2.2.2.1 a.2.2.2.2.2.2.2.2) nf (x0, x1, x2, x4, x5, x6, x7, x8, c)).bind fun b => (zob b.2.2.2.2.2.2.2 b.2.1 1).bind fun w19 => (f_Way_arrive nf b.2.1 b.2.2.1 b.2.2.2.2.2.2.1 b.2.2.2.2.2.1 b.2.2.2.2.2.2.2).bind fun q18 => (zob q18 b.1 7).bind fun w21 => (f_Finder_goOn nf b.1 b.2.1 q18).bind fun q20 => some (.inl (b.1, b.2.1, b.2.2.1, q20.1, b.2.2.2.1, b.2.2.2.2.1, (b.2.2.2.2.2.1 + 1), q20.2))
def g_Finder_measureFrom_50 (nf : Nat) (x0 : Nat) (x1 : Nat) (x2 : Int32) (x3 : Int32) (x4 : Int32) (x5 : Int32) (x6 : Int32) (c : Zc) : Option ((Nat × Nat × Int32 × Int32 × Int32 × Int32 × Int32 × Zc) ⊕ (Zc)) :=
  if x5 < x6 then (some (.inr c)) else (if x3 = 0 then (some (.inr c)) else ((zgr c x1 1 14).bind fun v9 => (zai c v9 0 x2).bind fun v10 => if v10 = x4 then (some (.inr c)) else (f_Finder_measureFrom_78 nf x0 x1 x2 x4 x5 x6 0 0 c)))
def f_Finder_measureFrom_143 (nf : Nat)  (c : Zc) : Option (Zc) :=
  some c
def f_Finder_measureFrom_50 (nf : Nat) (x0 : Nat) (x1 : Nat) (x2 : Int32) (x3 : Int32) (x4 : Int32) (x5 : Int32) (x6 : Int32) (c : Zc) : Option (Zc) :=
  (zlp (fun a => g_Finder_measureFrom_50 nf a.1 a.2.1 a.2.2.1 a.2.2.2.1 a.2.2.2.2.1 a.2.2.2.2.2.1 a.2.2.2.2.2.2.1 a.2.2.2.2.2.2.2) nf (x0, x1, x2, x3, x4, x5, x6, c)).bind fun b => f_Finder_measureFrom_143 nf  b
def f_Finder_measureFrom_22 (nf : Nat) (x0 : Nat) (x1 : Nat) (x2 : Int32) (c : Zc) : Option (Zc) :=
  (zob c x0 7).bind fun w4 => (f_Finder_goFirst nf x0 x1 x2 c).bind fun q3 => (zgr q3.2 x0 7 1).bind fun v5 => (zgi q3.2 v5 0 7).bind fun v6 => f_Finder_measureFrom_50 nf x0 x1 x2 q3.1 ((1 <<< (v6 &&& 31)) - 1) 256 1 q3.2
def f_Finder_measureFrom (nf : Nat) (a0 : Nat) (a1 : Nat) (a2 : Int32) (c : Zc) : Option (Zc) :=
  (zgl c a1 1 8).bind fun v1 => if (lg_cmp (v1 &&& 4294967296) 0) = 0 then (f_Finder_measureFrom_22 nf a0 a1 a2 c) else ((zob c a1 1).bind fun w23 => (f_Way_arrive nf a1 a2 (1 <<< (a2 &&& 31)) 0 c).bind fun q22 => f_Finder_measureFrom_22 nf a0 a1 a2 q22)
set_option maxRecDepth 100000 in
set_option maxHeartbeats 4000000 in
theorem t_Finder_measureFrom_116  (X : zX p s m args cd D cid B bb_Finder_measureFrom 9 rr_Finder zT) (H : zH s meth B n0 none "measureFrom") {nf : Nat} {x0 : Nat} {x1 : Nat} {x2 : Int32} {x4 : Int32} {x5 : Int32} {x6 : Int32} {x7 : Int32} {x8 : Int32} {c : Zc} {r : (Nat × Nat × Int32 × Int32 × Int32 × Int32 × Int32 × Int32 × Zc) ⊕ (Nat × Nat × Int32 × Int32 × Int32 × Int32 × Int32 × Zc)} (h : f_Finder_measureFrom_116 nf x0 x1 x2 x4 x5 x6 x7 x8 c = some r) (k0 : ∀ a, r = .inl a → (fun a : Nat × Nat × Int32 × Int32 × Int32 × Int32 × Int32 × Int32 × Zc => Zz p l e (zRm 2 49 0 0) s m args below meth cd Q D cid B 9 0 0 a.2.2.2.2.2.2.2.2 78 [(0, .ref a.1), (1, .ref a.2.1), (2, .int a.2.2.1), (4, .int a.2.2.2.1), (5, .int a.2.2.2.2.1), (6, .int a.2.2.2.2.2.1), (7, .int a.2.2.2.2.2.2.1), (8, .int a.2.2.2.2.2.2.2.1)] []) a) (k1 : ∀ b, r = .inr b → (fun b : Nat × Nat × Int32 × Int32 × Int32 × Int32 × Int32 × Zc => Zz p l e (zRm 2 49 0 0) s m args below meth cd Q D cid B 9 0 0 b.2.2.2.2.2.2.2 122 [(0, .ref b.1), (1, .ref b.2.1), (2, .int b.2.2.1), (4, .int b.2.2.2.1), (5, .int b.2.2.2.2.1), (6, .int b.2.2.2.2.2.1), (7, .int b.2.2.2.2.2.2.1)] []) b) : Zz p l e (zRm 2 49 0 0) s m args below meth cd Q D cid B 9 0 0 c 116 [(0, .ref x0), (1, .ref x1), (2, .int x2), (4, .int x4), (5, .int x5), (6, .int x6), (7, .int x7), (8, .int x8)] [] := by
  unfold f_Finder_measureFrom_116 at h
  refine z_iinc (v := (x8 + 1)) (lv' := [(8, .int (x8 + 1)), (0, .ref x0), (1, .ref x1), (2, .int x2), (4, .int x4), (5, .int x5), (6, .int x6), (7, .int x7)]) X dd_Finder_measureFrom_116 7 rfl rfl (by decide) rfl ?_
  refine z_goto (tgt := 78) X dd_Finder_measureFrom_119 (by decide) ?_
  refine z_sub [1, 2, 3, 4, 5, 6, 7, 0] rfl ?_
  obtain rfl := Option.some.inj h
  exact k0 _ rfl
set_option maxRecDepth 100000 in
set_option maxHeartbeats 4000000 in
theorem u_Finder_measureFrom_78  (X : zX p s m args cd D cid B bb_Finder_measureFrom 9 rr_Finder zT) (H : zH s meth B n0 none "measureFrom") {nf : Nat} {x0 : Nat} {x1 : Nat} {x2 : Int32} {x4 : Int32} {x5 : Int32} {x6 : Int32} {x7 : Int32} {x8 : Int32} {c : Zc} {r : (Nat × Nat × Int32 × Int32 × Int32 × Int32 × Int32 × Int32 × Zc) ⊕ (Nat × Nat × Int32 × Int32 × Int32 × Int32 × Int32 × Zc)} (h : g_Finder_measureFrom_78 nf x0 x1 x2 x4 x5 x6 x7 x8 c = some r) (k0 : ∀ a, r = .inl a → (fun a : Nat × Nat × Int32 × Int32 × Int32 × Int32 × Int32 × Int32 × Zc => Zz p l e (zRm 2 49 0 0) s m args below meth cd Q D cid B 9 0 0 a.2.2.2.2.2.2.2.2 78 [(0, .ref a.1), (1, .ref a.2.1), (2, .int a.2.2.1), (4, .int a.2.2.2.1), (5, .int a.2.2.2.2.1), (6, .int a.2.2.2.2.2.1), (7, .int a.2.2.2.2.2.2.1), (8, .int a.2.2.2.2.2.2.2.1)] []) a) (k1 : ∀ b, r = .inr b → (fun b : Nat × Nat × Int32 × Int32 × Int32 × Int32 × Int32 × Zc => Zz p l e (zRm 2 49 0 0) s m args below meth cd Q D cid B 9 0 0 b.2.2.2.2.2.2.2 122 [(0, .ref b.1), (1, .ref b.2.1), (2, .int b.2.2.1), (4, .int b.2.2.2.1), (5, .int b.2.2.2.2.1), (6, .int b.2.2.2.2.2.1), (7, .int b.2.2.2.2.2.2.1)] []) b) : Zz p l e (zRm 2 49 0 0) s m args below meth cd Q D cid B 9 0 0 c 78 [(0, .ref x0), (1, .ref x1), (2, .int x2), (4, .int x4), (5, .int x5), (6, .int x6), (7, .int x7), (8, .int x8)] [] := by
  unfold g_Finder_measureFrom_78 at h
  refine z_iload X dd_Finder_measureFrom_78 7 rfl ?_
  refine z_aload_n X dd_Finder_measureFrom_80 rfl 1 rfl ?_
  obtain ⟨v12, ev12, h⟩ := zb h
  refine z_get (j := 5) X dd_Finder_measureFrom_81 kc_1 ki_1 (by decide) km_236 (zgi_v ev12) ?_
  refine z_icmp_ge (tgt := 122) X dd_Finder_measureFrom_84 (by decide) (fun q13 => ?_) (fun q13 => ?_)
  · rw [if_pos q13] at h
    refine z_sub [0, 1, 2, 3, 4, 5, 6] rfl ?_
    obtain rfl := Option.some.inj h
    exact k1 _ rfl
  · rw [if_neg q13] at h
    refine z_aload_n X dd_Finder_measureFrom_87 rfl 1 rfl ?_
    obtain ⟨v14, ev14, h⟩ := zb h
    refine z_get (j := 8) X dd_Finder_measureFrom_88 kc_1 ki_1 (by decide) km_243 (zgl_v ev14) ?_
    refine z_bipush (v := 16) X dd_Finder_measureFrom_91 (by decide) ?_
    refine z_iload X dd_Finder_measureFrom_93 7 rfl ?_
    refine z_iadd X dd_Finder_measureFrom_95 ?_
    refine z_lshr X dd_Finder_measureFrom_96 ?_
    refine z_lconst (v := 1) X dd_Finder_measureFrom_97 (by decide) ?_
    refine z_land X dd_Finder_measureFrom_98 ?_
    refine z_lconst (v := 0) X dd_Finder_measureFrom_99 (by decide) ?_
    refine z_lcmp X dd_Finder_measureFrom_100 ?_
    refine z_if_eq (tgt := 116) X dd_Finder_measureFrom_101 (by decide) (fun q15 => ?_) (fun q15 => ?_)
    · rw [if_pos q15] at h
      exact t_Finder_measureFrom_116 X H h k0 k1
    · rw [if_neg q15] at h
      refine z_iload X dd_Finder_measureFrom_104 6 rfl ?_
      refine z_aload_n X dd_Finder_measureFrom_106 rfl 0 rfl ?_
      obtain ⟨v16, ev16, h⟩ := zb h
      refine z_get (j := 5) X dd_Finder_measureFrom_107 kc_7 ki_7 (by decide) km_590 (zgr_v ev16) ?_
      refine z_iload X dd_Finder_measureFrom_110 7 rfl ?_
      obtain ⟨v17, ev17, h⟩ := zb h
      refine z_iaload X dd_Finder_measureFrom_112 rfl ev17 ?_
      refine z_ior X dd_Finder_measureFrom_113 ?_
      refine z_istore (lv' := [(7, .int (x7 ||| v17)), (0, .ref x0), (1, .ref x1), (2, .int x2), (4, .int x4), (5, .int x5), (6, .int x6), (8, .int x8)]) X dd_Finder_measureFrom_114 (by decide) rfl ?_
      refine z_sub [1, 2, 3, 4, 5, 6, 0, 7] rfl ?_
      exact t_Finder_measureFrom_116 X H h k0 k1
set_option maxRecDepth 100000 in
set_option maxHeartbeats 4000000 in
theorem t_Finder_measureFrom_78  (X : zX p s m args cd D cid B bb_Finder_measureFrom 9 rr_Finder zT) (H : zH s meth B n0 none "measureFrom") {nf : Nat} {x0 : Nat} {x1 : Nat} {x2 : Int32} {x4 : Int32} {x5 : Int32} {x6 : Int32} {x7 : Int32} {x8 : Int32} {c : Zc} {r : (Nat × Nat × Int32 × Int32 × Int32 × Int32 × Int32 × Zc) ⊕ (Zc)} (h : f_Finder_measureFrom_78 nf x0 x1 x2 x4 x5 x6 x7 x8 c = some r) (k0 : ∀ a, r = .inl a → (fun a : Nat × Nat × Int32 × Int32 × Int32 × Int32 × Int32 × Zc => Zz p l e (zRm 2 49 0 0) s m args below meth cd Q D cid B 9 0 0 a.2.2.2.2.2.2.2 50 [(0, .ref a.1), (1, .ref a.2.1), (2, .int a.2.2.1), (3, .int a.2.2.2.1), (4, .int a.2.2.2.2.1), (5, .int a.2.2.2.2.2.1), (6, .int a.2.2.2.2.2.2.1)] []) a) (k1 : ∀ b, r = .inr b → (fun b : Zc => Zz p l e (zRm 2 49 0 0) s m args below meth cd Q D cid B 9 0 0 b 143 [] []) b) : Zz p l e (zRm 2 49 0 0) s m args below meth cd Q D cid B 9 0 0 c 78 [(0, .ref x0), (1, .ref x1), (2, .int x2), (4, .int x4), (5, .int x5), (6, .int x6), (7, .int x7), (8, .int x8)] [] := by
  unfold f_Finder_measureFrom_78 at h
  obtain ⟨b, eb, h⟩ := zb h
  refine zlp_ok (P := fun a : Nat × Nat × Int32 × Int32 × Int32 × Int32 × Int32 × Int32 × Zc => Zz p l e (zRm 2 49 0 0) s m args below meth cd _ D cid B 9 0 0 a.2.2.2.2.2.2.2.2 78 [(0, .ref a.1), (1, .ref a.2.1), (2, .int a.2.2.1), (4, .int a.2.2.2.1), (5, .int a.2.2.2.2.1), (6, .int a.2.2.2.2.2.1), (7, .int a.2.2.2.2.2.2.1), (8, .int a.2.2.2.2.2.2.2.1)] []) (G := fun b : Nat × Nat × Int32 × Int32 × Int32 × Int32 × Int32 × Zc => Zz p l e (zRm 2 49 0 0) s m args below meth cd _ D cid B 9 0 0 b.2.2.2.2.2.2.2 122 [(0, .ref b.1), (1, .ref b.2.1), (2, .int b.2.2.1), (4, .int b.2.2.2.1), (5, .int b.2.2.2.2.1), (6, .int b.2.2.2.2.2.1), (7, .int b.2.2.2.2.2.2.1)] []) (fun a r ha k0 k1 => u_Finder_measureFrom_78 X H ha k0 k1) nf _ b eb ?_
  refine z_aload_n X dd_Finder_measureFrom_122 rfl 1 rfl ?_
  refine z_iload_n X dd_Finder_measureFrom_123 rfl 2 rfl ?_
  refine z_iload X dd_Finder_measureFrom_124 6 rfl ?_
  refine z_iload X dd_Finder_measureFrom_126 5 rfl ?_
  obtain ⟨w19, ew19, h⟩ := zb h
  obtain ⟨q18, eq18, h⟩ := zb h
  refine z_callVv X [.int b.2.2.1, .int b.2.2.2.2.2.2.1, .int b.2.2.2.2.2.1] rfl dd_Finder_measureFrom_128 (c_Way_arrive l eq18) (cwV 3 X.1.2.2.2.2 (zg_V km_1307 km_1308 km_1309 km_129 km_1310) rfl rfl rfl (by decide +kernel) ⟨Nat.le_of_ble_eq_true rfl, Nat.le_of_ble_eq_true rfl⟩) (zob_s ew19) kc_1 rfl (Nat.le_of_ble_eq_true rfl) ⟨Nat.le_of_ble_eq_true rfl, Nat.le_of_ble_eq_true rfl⟩ ?_
  refine z_aload_n X dd_Finder_measureFrom_131 rfl 0 rfl ?_
  refine z_aload_n X dd_Finder_measureFrom_132 rfl 1 rfl ?_
  obtain ⟨w21, ew21, h⟩ := zb h
  obtain ⟨q20, eq20, h⟩ := zb h
  refine z_callVi X [.ref b.2.1] rfl dd_Finder_measureFrom_133 (c_Finder_goOn l eq20) (cwV 1 X.1.2.2.2.2 (zg_V km_1315 km_1317 km_49 km_133 km_1318) rfl rfl rfl (by decide +kernel) ⟨Nat.le_of_ble_eq_true rfl, Nat.le_of_ble_eq_true rfl⟩) (zob_s ew21) kc_7 rfl (Nat.le_of_ble_eq_true rfl) ⟨Nat.le_of_ble_eq_true rfl, Nat.le_of_ble_eq_true rfl⟩ ?_
  refine z_istore_n (lv' := [(3, .int q20.1), (0, .ref b.1), (1, .ref b.2.1), (2, .int b.2.2.1), (4, .int b.2.2.2.1), (5, .int b.2.2.2.2.1), (6, .int b.2.2.2.2.2.1), (7, .int b.2.2.2.2.2.2.1)]) X dd_Finder_measureFrom_136 rfl (by decide) rfl ?_
  refine z_iinc (v := (b.2.2.2.2.2.1 + 1)) (lv' := [(6, .int (b.2.2.2.2.2.1 + 1)), (3, .int q20.1), (0, .ref b.1), (1, .ref b.2.1), (2, .int b.2.2.1), (4, .int b.2.2.2.1), (5, .int b.2.2.2.2.1), (7, .int b.2.2.2.2.2.2.1)]) X dd_Finder_measureFrom_137 6 rfl rfl (by decide) rfl ?_
  refine z_goto (tgt := 50) X dd_Finder_measureFrom_140 (by decide) ?_
  refine z_sub [2, 3, 4, 1, 5, 6, 0] rfl ?_
  obtain rfl := Option.some.inj h
  exact k0 _ rfl
set_option maxRecDepth 100000 in
set_option maxHeartbeats 4000000 in
theorem u_Finder_measureFrom_50  (X : zX p s m args cd D cid B bb_Finder_measureFrom 9 rr_Finder zT) (H : zH s meth B n0 none "measureFrom") {nf : Nat} {x0 : Nat} {x1 : Nat} {x2 : Int32} {x3 : Int32} {x4 : Int32} {x5 : Int32} {x6 : Int32} {c : Zc} {r : (Nat × Nat × Int32 × Int32 × Int32 × Int32 × Int32 × Zc) ⊕ (Zc)} (h : g_Finder_measureFrom_50 nf x0 x1 x2 x3 x4 x5 x6 c = some r) (k0 : ∀ a, r = .inl a → (fun a : Nat × Nat × Int32 × Int32 × Int32 × Int32 × Int32 × Zc => Zz p l e (zRm 2 49 0 0) s m args below meth cd Q D cid B 9 0 0 a.2.2.2.2.2.2.2 50 [(0, .ref a.1), (1, .ref a.2.1), (2, .int a.2.2.1), (3, .int a.2.2.2.1), (4, .int a.2.2.2.2.1), (5, .int a.2.2.2.2.2.1), (6, .int a.2.2.2.2.2.2.1)] []) a) (k1 : ∀ b, r = .inr b → (fun b : Zc => Zz p l e (zRm 2 49 0 0) s m args below meth cd Q D cid B 9 0 0 b 143 [] []) b) : Zz p l e (zRm 2 49 0 0) s m args below meth cd Q D cid B 9 0 0 c 50 [(0, .ref x0), (1, .ref x1), (2, .int x2), (3, .int x3), (4, .int x4), (5, .int x5), (6, .int x6)] [] := by
  unfold g_Finder_measureFrom_50 at h
  refine z_iload X dd_Finder_measureFrom_50 6 rfl ?_
  refine z_iload X dd_Finder_measureFrom_52 5 rfl ?_
  refine z_icmp_gt (tgt := 143) X dd_Finder_measureFrom_54 (by decide) (fun q7 => ?_) (fun q7 => ?_)
  · rw [if_pos q7] at h
    refine z_sub [] rfl ?_
    obtain rfl := Option.some.inj h
    exact k1 _ rfl
  · rw [if_neg q7] at h
    refine z_iload_n X dd_Finder_measureFrom_57 rfl 3 rfl ?_
    refine z_if_eq (tgt := 143) X dd_Finder_measureFrom_58 (by decide) (fun q8 => ?_) (fun q8 => ?_)
    · rw [if_pos q8] at h
      refine z_sub [] rfl ?_
      obtain rfl := Option.some.inj h
      exact k1 _ rfl
    · rw [if_neg q8] at h
      refine z_aload_n X dd_Finder_measureFrom_61 rfl 1 rfl ?_
      obtain ⟨v9, ev9, h⟩ := zb h
      refine z_get (j := 14) X dd_Finder_measureFrom_62 kc_1 ki_1 (by decide) km_252 (zgr_v ev9) ?_
      refine z_iload_n X dd_Finder_measureFrom_65 rfl 2 rfl ?_
      obtain ⟨v10, ev10, h⟩ := zb h
      refine z_iaload X dd_Finder_measureFrom_66 rfl ev10 ?_
      refine z_iload X dd_Finder_measureFrom_67 4 rfl ?_
      refine z_icmp_eq (tgt := 143) X dd_Finder_measureFrom_69 (by decide) (fun q11 => ?_) (fun q11 => ?_)
      · rw [if_pos q11] at h
        refine z_sub [] rfl ?_
        obtain rfl := Option.some.inj h
        exact k1 _ rfl
      · rw [if_neg q11] at h
        refine z_iconst (v := 0) X dd_Finder_measureFrom_72 (by decide) ?_
        refine z_istore (lv' := [(7, .int 0), (0, .ref x0), (1, .ref x1), (2, .int x2), (3, .int x3), (4, .int x4), (5, .int x5), (6, .int x6)]) X dd_Finder_measureFrom_73 (by decide) rfl ?_
        refine z_iconst (v := 0) X dd_Finder_measureFrom_75 (by decide) ?_
        refine z_istore (lv' := [(8, .int 0), (7, .int 0), (0, .ref x0), (1, .ref x1), (2, .int x2), (3, .int x3), (4, .int x4), (5, .int x5), (6, .int x6)]) X dd_Finder_measureFrom_76 (by decide) rfl ?_
        refine z_sub [2, 3, 4, 6, 7, 8, 1, 0] rfl ?_
        exact t_Finder_measureFrom_78 X H h k0 k1
set_option maxRecDepth 100000 in
set_option maxHeartbeats 4000000 in
theorem t_Finder_measureFrom_143  (X : zX p s m args cd D cid B bb_Finder_measureFrom 9 rr_Finder zT) (H : zH s meth B n0 none "measureFrom") {nf : Nat}  {c : Zc} {res : Zc} (h : f_Finder_measureFrom_143 nf  c = some res) : Zz p l e (zRm 2 49 0 0) s m args below meth cd (MQ below (zQv D cid B res n0 0) args s 0 0 (fun q => B ≤ q)) D cid B 9 0 0 c 143 [] [] := by
  unfold f_Finder_measureFrom_143 at h
  obtain rfl := Option.some.inj h
  exact z_vret X H.1 H.2.1 H.2.2.1 dd_Finder_measureFrom_143
set_option maxRecDepth 100000 in
set_option maxHeartbeats 4000000 in
theorem t_Finder_measureFrom_50  (X : zX p s m args cd D cid B bb_Finder_measureFrom 9 rr_Finder zT) (H : zH s meth B n0 none "measureFrom") {nf : Nat} {x0 : Nat} {x1 : Nat} {x2 : Int32} {x3 : Int32} {x4 : Int32} {x5 : Int32} {x6 : Int32} {c : Zc} {res : Zc} (h : f_Finder_measureFrom_50 nf x0 x1 x2 x3 x4 x5 x6 c = some res) : Zz p l e (zRm 2 49 0 0) s m args below meth cd (MQ below (zQv D cid B res n0 0) args s 0 0 (fun q => B ≤ q)) D cid B 9 0 0 c 50 [(0, .ref x0), (1, .ref x1), (2, .int x2), (3, .int x3), (4, .int x4), (5, .int x5), (6, .int x6)] [] := by
  unfold f_Finder_measureFrom_50 at h
  obtain ⟨b, eb, h⟩ := zb h
  refine zlp_ok (P := fun a : Nat × Nat × Int32 × Int32 × Int32 × Int32 × Int32 × Zc => Zz p l e (zRm 2 49 0 0) s m args below meth cd _ D cid B 9 0 0 a.2.2.2.2.2.2.2 50 [(0, .ref a.1), (1, .ref a.2.1), (2, .int a.2.2.1), (3, .int a.2.2.2.1), (4, .int a.2.2.2.2.1), (5, .int a.2.2.2.2.2.1), (6, .int a.2.2.2.2.2.2.1)] []) (G := fun b : Zc => Zz p l e (zRm 2 49 0 0) s m args below meth cd _ D cid B 9 0 0 b 143 [] []) (fun a r ha k0 k1 => u_Finder_measureFrom_50 X H ha k0 k1) nf _ b eb ?_
  exact t_Finder_measureFrom_143 X H h
set_option maxRecDepth 100000 in
set_option maxHeartbeats 4000000 in
theorem t_Finder_measureFrom_22  (X : zX p s m args cd D cid B bb_Finder_measureFrom 9 rr_Finder zT) (H : zH s meth B n0 none "measureFrom") {nf : Nat} {x0 : Nat} {x1 : Nat} {x2 : Int32} {c : Zc} {res : Zc} (h : f_Finder_measureFrom_22 nf x0 x1 x2 c = some res) : Zz p l e (zRm 2 49 0 0) s m args below meth cd (MQ below (zQv D cid B res n0 0) args s 0 0 (fun q => B ≤ q)) D cid B 9 0 0 c 22 [(0, .ref x0), (1, .ref x1), (2, .int x2)] [] := by
  unfold f_Finder_measureFrom_22 at h
  refine z_aload_n X dd_Finder_measureFrom_22 rfl 0 rfl ?_
  refine z_aload_n X dd_Finder_measureFrom_23 rfl 1 rfl ?_
  refine z_iload_n X dd_Finder_measureFrom_24 rfl 2 rfl ?_
  obtain ⟨w4, ew4, h⟩ := zb h
  obtain ⟨q3, eq3, h⟩ := zb h
  refine z_callVi X [.ref x1, .int x2] rfl dd_Finder_measureFrom_25 (c_Finder_goFirst l eq3) (cwV 2 X.1.2.2.2.2 (zg_V km_1311 km_1313 km_48 km_133 km_1314) rfl rfl rfl (by decide +kernel) ⟨Nat.le_of_ble_eq_true rfl, Nat.le_of_ble_eq_true rfl⟩) (zob_s ew4) kc_7 rfl (Nat.le_of_ble_eq_true rfl) ⟨Nat.le_of_ble_eq_true rfl, Nat.le_of_ble_eq_true rfl⟩ ?_
  refine z_istore_n (lv' := [(3, .int q3.1), (0, .ref x0), (1, .ref x1), (2, .int x2)]) X dd_Finder_measureFrom_28 rfl (by decide) rfl ?_
  refine z_iconst (v := 1) X dd_Finder_measureFrom_29 (by decide) ?_
  refine z_aload_n X dd_Finder_measureFrom_30 rfl 1 rfl ?_
  obtain ⟨v5, ev5, h⟩ := zb h
  refine z_get (j := 1) X dd_Finder_measureFrom_31 kc_7 ki_7 (by decide) km_586 (zgr_v ev5) ?_
  obtain ⟨v6, ev6, h⟩ := zb h
  refine z_get (j := 7) X dd_Finder_measureFrom_34 kc_0 ki_0 (by decide) km_176 (zgi_v ev6) ?_
  refine z_ishl X dd_Finder_measureFrom_37 ?_
  refine z_iconst (v := 1) X dd_Finder_measureFrom_38 (by decide) ?_
  refine z_isub X dd_Finder_measureFrom_39 ?_
  refine z_istore (lv' := [(4, .int ((1 <<< (v6 &&& 31)) - 1)), (3, .int q3.1), (0, .ref x0), (1, .ref x1), (2, .int x2)]) X dd_Finder_measureFrom_40 (by decide) rfl ?_
  refine z_sipush (v := 256) X dd_Finder_measureFrom_42 (by decide) ?_
  refine z_istore (lv' := [(5, .int 256), (4, .int ((1 <<< (v6 &&& 31)) - 1)), (3, .int q3.1), (0, .ref x0), (1, .ref x1), (2, .int x2)]) X dd_Finder_measureFrom_45 (by decide) rfl ?_
  refine z_iconst (v := 1) X dd_Finder_measureFrom_47 (by decide) ?_
  refine z_istore (lv' := [(6, .int 1), (5, .int 256), (4, .int ((1 <<< (v6 &&& 31)) - 1)), (3, .int q3.1), (0, .ref x0), (1, .ref x1), (2, .int x2)]) X dd_Finder_measureFrom_48 (by decide) rfl ?_
  refine z_sub [4, 5, 6, 3, 2, 1, 0] rfl ?_
  exact t_Finder_measureFrom_50 X H h
set_option maxRecDepth 100000 in
set_option maxHeartbeats 4000000 in
theorem c_Finder_measureFrom (l : Launch) {nf : Nat} {a0 : Nat} {a1 : Nat} {a2 : Int32} {c : Zc} {res : Zc} (h : f_Finder_measureFrom nf a0 a1 a2 c = some res) : zM l yy_Finder_measureFrom ww_Finder_measureFrom 2 49 0 0 [.ref a0, .ref a1, .int a2] c (fun D cid B => zQv D cid B res c.length 0) := by
  refine z_met (cc := bb_Finder_measureFrom) (maxL := 9) (ret := none) (by decide +kernel) rfl (Nat.le_of_ble_eq_true rfl) ?_
  intro p e s m args below meth cd D cid B X h1 h2 h3 h4
  have X : zX p s m args cd D cid B bb_Finder_measureFrom 9 rr_Finder zT := X
  have H : zH s meth B c.length none "measureFrom" := ⟨h1, h2, h4, h3⟩
  unfold f_Finder_measureFrom at h
  show Zz p l e (zRm 2 49 0 0) s m args below meth cd _ D cid B 9 0 0 c 0 [(0, .ref a0), (1, .ref a1), (2, .int a2)] []
  refine z_aload_n X dd_Finder_measureFrom_0 rfl 1 rfl ?_
  obtain ⟨v1, ev1, h⟩ := zb h
  refine z_get (j := 8) X dd_Finder_measureFrom_1 kc_1 ki_1 (by decide) km_243 (zgl_v ev1) ?_
  refine z_ldc2 (v := 4294967296) X dd_Finder_measureFrom_4 km_1306 ?_
  refine z_land X dd_Finder_measureFrom_7 ?_
  refine z_lconst (v := 0) X dd_Finder_measureFrom_8 (by decide) ?_
  refine z_lcmp X dd_Finder_measureFrom_9 ?_
  refine z_if_eq (tgt := 22) X dd_Finder_measureFrom_10 (by decide) (fun q2 => ?_) (fun q2 => ?_)
  · rw [if_pos q2] at h
    exact t_Finder_measureFrom_22 X H h
  · rw [if_neg q2] at h
    refine z_aload_n X dd_Finder_measureFrom_13 rfl 1 rfl ?_
    refine z_iload_n X dd_Finder_measureFrom_14 rfl 2 rfl ?_
    refine z_iconst (v := 1) X dd_Finder_measureFrom_15 (by decide) ?_
    refine z_iload_n X dd_Finder_measureFrom_16 rfl 2 rfl ?_
    refine z_ishl X dd_Finder_measureFrom_17 ?_
    refine z_iconst (v := 0) X dd_Finder_measureFrom_18 (by decide) ?_
    obtain ⟨w23, ew23, h⟩ := zb h
    obtain ⟨q22, eq22, h⟩ := zb h
    refine z_callVv X [.int a2, .int (1 <<< (a2 &&& 31)), .int 0] rfl dd_Finder_measureFrom_19 (c_Way_arrive l eq22) (cwV 3 X.1.2.2.2.2 (zg_V km_1307 km_1308 km_1309 km_129 km_1310) rfl rfl rfl (by decide +kernel) ⟨Nat.le_of_ble_eq_true rfl, Nat.le_of_ble_eq_true rfl⟩) (zob_s ew23) kc_1 rfl (Nat.le_of_ble_eq_true rfl) ⟨Nat.le_of_ble_eq_true rfl, Nat.le_of_ble_eq_true rfl⟩ ?_
    exact t_Finder_measureFrom_22 X H h
theorem dd_Finder_bringUpToDate_0 : decode bb_Finder_bringUpToDate 0 = .ok (.aload_n 1, 1) := by decide +kernel
theorem dd_Finder_bringUpToDate_1 : decode bb_Finder_bringUpToDate 1 = .ok (.getfield 134, 3) := by decide +kernel
theorem dd_Finder_bringUpToDate_4 : decode bb_Finder_bringUpToDate 4 = .ok (.aload_n 0, 1) := by decide +kernel
theorem dd_Finder_bringUpToDate_5 : decode bb_Finder_bringUpToDate 5 = .ok (.getfield 27, 3) := by decide +kernel
theorem dd_Finder_bringUpToDate_8 : decode bb_Finder_bringUpToDate 8 = .ok (.getfield 137, 3) := by decide +kernel
theorem dd_Finder_bringUpToDate_11 : decode bb_Finder_bringUpToDate 11 = .ok (.if_icmp .ne 4, 3) := by decide +kernel
theorem dd_Finder_bringUpToDate_14 : decode bb_Finder_bringUpToDate 14 = .ok (.return_, 1) := by decide +kernel
theorem dd_Finder_bringUpToDate_15 : decode bb_Finder_bringUpToDate 15 = .ok (.aload_n 1, 1) := by decide +kernel
theorem dd_Finder_bringUpToDate_16 : decode bb_Finder_bringUpToDate 16 = .ok (.aload_n 0, 1) := by decide +kernel
theorem dd_Finder_bringUpToDate_17 : decode bb_Finder_bringUpToDate 17 = .ok (.getfield 27, 3) := by decide +kernel
theorem dd_Finder_bringUpToDate_20 : decode bb_Finder_bringUpToDate 20 = .ok (.getfield 137, 3) := by decide +kernel
theorem dd_Finder_bringUpToDate_23 : decode bb_Finder_bringUpToDate 23 = .ok (.putfield 134, 3) := by decide +kernel
theorem dd_Finder_bringUpToDate_26 : decode bb_Finder_bringUpToDate 26 = .ok (.aload_n 1, 1) := by decide +kernel
theorem dd_Finder_bringUpToDate_27 : decode bb_Finder_bringUpToDate 27 = .ok (.invokevirtual 140, 3) := by decide +kernel
theorem dd_Finder_bringUpToDate_30 : decode bb_Finder_bringUpToDate 30 = .ok (.iconst 0, 1) := by decide +kernel
theorem dd_Finder_bringUpToDate_31 : decode bb_Finder_bringUpToDate 31 = .ok (.istore_n 2, 1) := by decide +kernel
theorem dd_Finder_bringUpToDate_32 : decode bb_Finder_bringUpToDate 32 = .ok (.iload_n 2, 1) := by decide +kernel
theorem dd_Finder_bringUpToDate_33 : decode bb_Finder_bringUpToDate 33 = .ok (.aload_n 0, 1) := by decide +kernel
theorem dd_Finder_bringUpToDate_34 : decode bb_Finder_bringUpToDate 34 = .ok (.getfield 27, 3) := by decide +kernel
theorem dd_Finder_bringUpToDate_37 : decode bb_Finder_bringUpToDate 37 = .ok (.getfield 143, 3) := by decide +kernel
theorem dd_Finder_bringUpToDate_40 : decode bb_Finder_bringUpToDate 40 = .ok (.if_icmp .ge 15, 3) := by decide +kernel
theorem dd_Finder_bringUpToDate_43 : decode bb_Finder_bringUpToDate 43 = .ok (.aload_n 0, 1) := by decide +kernel
theorem dd_Finder_bringUpToDate_44 : decode bb_Finder_bringUpToDate 44 = .ok (.aload_n 1, 1) := by decide +kernel
theorem dd_Finder_bringUpToDate_45 : decode bb_Finder_bringUpToDate 45 = .ok (.iload_n 2, 1) := by decide +kernel
theorem dd_Finder_bringUpToDate_46 : decode bb_Finder_bringUpToDate 46 = .ok (.invokevirtual 146, 3) := by decide +kernel
theorem dd_Finder_bringUpToDate_49 : decode bb_Finder_bringUpToDate 49 = .ok (.iinc 2 1, 3) := by decide +kernel
theorem dd_Finder_bringUpToDate_52 : decode bb_Finder_bringUpToDate 52 = .ok (.goto (-20), 3) := by decide +kernel
theorem dd_Finder_bringUpToDate_55 : decode bb_Finder_bringUpToDate 55 = .ok (.return_, 1) := by decide +kernel
def g_Finder_bringUpToDate_32 (nf : Nat) (x0 : Nat) (x1 : Nat) (x2 : Int32) (c : Zc) : Option ((Nat × Nat × Int32 × Zc) ⊕ (Zc)) :=
  (zgr c x0 7 1).bind fun v10 => (zgi c v10 0 7).bind fun v11 => if v11 ≤ x2 then (some (.inr c)) else ((zob c x0 7).bind fun w14 => (f_Finder_measureFrom nf x0 x1 x2 c).bind fun q13 => some (.inl (x0, x1, (x2 + 1), q13)))
def f_Finder_bringUpToDate_32 (nf : Nat) (x0 : Nat) (x1 : Nat) (x2 : Int32) (c : Zc) : Option (Zc) :=
  (zlp (fun a => g_Finder_bringUpToDate_32 nf a.1 a.2.1 a.2.2.1 a.2.2.2) nf (x0, x1, x2, c)).bind fun b => some b
def f_Finder_bringUpToDate (nf : Nat) (a0 : Nat) (a1 : Nat) (c : Zc) : Option (Zc) :=
  (zgi c a1 1 17).bind fun v1 => (zgr c a0 7 1).bind fun v2 => (zgi c v2 0 9).bind fun v3 => if v1 = v3 then (some c) else ((zgr c a0 7 1).bind fun v5 => (zgi c v5 0 9).bind fun v6 => (zpv c a1 1 17 (.int v6)).bind fun c7 => (zob c7 a1 1).bind fun w9 => (f_Way_forgetArcs nf a1 c7).bind fun q8 => f_Finder_bringUpToDate_32 nf a0 a1 0 q8)
set_option maxRecDepth 100000 in
set_option maxHeartbeats 4000000 in
theorem u_Finder_bringUpToDate_32  (X : zX p s m args cd D cid B bb_Finder_bringUpToDate 3 rr_Finder zT) (H : zH s meth B n0 none "bringUpToDate") {nf : Nat} {x0 : Nat} {x1 : Nat} {x2 : Int32} {c : Zc} {r : (Nat × Nat × Int32 × Zc) ⊕ (Zc)} (h : g_Finder_bringUpToDate_32 nf x0 x1 x2 c = some r) (k0 : ∀ a, r = .inl a → (fun a : Nat × Nat × Int32 × Zc => Zz p l e (zRm 3 77 0 0) s m args below meth cd Q D cid B 3 0 0 a.2.2.2 32 [(0, .ref a.1), (1, .ref a.2.1), (2, .int a.2.2.1)] []) a) (k1 : ∀ b, r = .inr b → (fun b : Zc => Zz p l e (zRm 3 77 0 0) s m args below meth cd Q D cid B 3 0 0 b 55 [] []) b) : Zz p l e (zRm 3 77 0 0) s m args below meth cd Q D cid B 3 0 0 c 32 [(0, .ref x0), (1, .ref x1), (2, .int x2)] [] := by
  unfold g_Finder_bringUpToDate_32 at h
  refine z_iload_n X dd_Finder_bringUpToDate_32 rfl 2 rfl ?_
  refine z_aload_n X dd_Finder_bringUpToDate_33 rfl 0 rfl ?_
  obtain ⟨v10, ev10, h⟩ := zb h
  refine z_get (j := 1) X dd_Finder_bringUpToDate_34 kc_7 ki_7 (by decide) km_586 (zgr_v ev10) ?_
  obtain ⟨v11, ev11, h⟩ := zb h
  refine z_get (j := 7) X dd_Finder_bringUpToDate_37 kc_0 ki_0 (by decide) km_176 (zgi_v ev11) ?_
  refine z_icmp_ge (tgt := 55) X dd_Finder_bringUpToDate_40 (by decide) (fun q12 => ?_) (fun q12 => ?_)
  · rw [if_pos q12] at h
    refine z_sub [] rfl ?_
    obtain rfl := Option.some.inj h
    exact k1 _ rfl
  · rw [if_neg q12] at h
    refine z_aload_n X dd_Finder_bringUpToDate_43 rfl 0 rfl ?_
    refine z_aload_n X dd_Finder_bringUpToDate_44 rfl 1 rfl ?_
    refine z_iload_n X dd_Finder_bringUpToDate_45 rfl 2 rfl ?_
    obtain ⟨w14, ew14, h⟩ := zb h
    obtain ⟨q13, eq13, h⟩ := zb h
    refine z_callVv X [.ref x1, .int x2] rfl dd_Finder_bringUpToDate_46 (c_Finder_measureFrom l eq13) (cwV 2 X.1.2.2.2.2 (zg_V km_1302 km_1304 km_47 km_133 km_1305) rfl rfl rfl (by decide +kernel) ⟨Nat.le_of_ble_eq_true rfl, Nat.le_of_ble_eq_true rfl⟩) (zob_s ew14) kc_7 rfl (Nat.le_of_ble_eq_true rfl) ⟨Nat.le_of_ble_eq_true rfl, Nat.le_of_ble_eq_true rfl⟩ ?_
    refine z_iinc (v := (x2 + 1)) (lv' := [(2, .int (x2 + 1)), (0, .ref x0), (1, .ref x1)]) X dd_Finder_bringUpToDate_49 2 rfl rfl (by decide) rfl ?_
    refine z_goto (tgt := 32) X dd_Finder_bringUpToDate_52 (by decide) ?_
    refine z_sub [1, 2, 0] rfl ?_
    obtain rfl := Option.some.inj h
    exact k0 _ rfl
set_option maxRecDepth 100000 in
set_option maxHeartbeats 4000000 in
theorem t_Finder_bringUpToDate_32  (X : zX p s m args cd D cid B bb_Finder_bringUpToDate 3 rr_Finder zT) (H : zH s meth B n0 none "bringUpToDate") {nf : Nat} {x0 : Nat} {x1 : Nat} {x2 : Int32} {c : Zc} {res : Zc} (h : f_Finder_bringUpToDate_32 nf x0 x1 x2 c = some res) : Zz p l e (zRm 3 77 0 0) s m args below meth cd (MQ below (zQv D cid B res n0 0) args s 0 0 (fun q => B ≤ q)) D cid B 3 0 0 c 32 [(0, .ref x0), (1, .ref x1), (2, .int x2)] [] := by
  unfold f_Finder_bringUpToDate_32 at h
  obtain ⟨b, eb, h⟩ := zb h
  refine zlp_ok (P := fun a : Nat × Nat × Int32 × Zc => Zz p l e (zRm 3 77 0 0) s m args below meth cd _ D cid B 3 0 0 a.2.2.2 32 [(0, .ref a.1), (1, .ref a.2.1), (2, .int a.2.2.1)] []) (G := fun b : Zc => Zz p l e (zRm 3 77 0 0) s m args below meth cd _ D cid B 3 0 0 b 55 [] []) (fun a r ha k0 k1 => u_Finder_bringUpToDate_32 X H ha k0 k1) nf _ b eb ?_
  obtain rfl := Option.some.inj h
  exact z_vret X H.1 H.2.1 H.2.2.1 dd_Finder_bringUpToDate_55
set_option maxRecDepth 100000 in
set_option maxHeartbeats 4000000 in
theorem c_Finder_bringUpToDate (l : Launch) {nf : Nat} {a0 : Nat} {a1 : Nat} {c : Zc} {res : Zc} (h : f_Finder_bringUpToDate nf a0 a1 c = some res) : zM l yy_Finder_bringUpToDate ww_Finder_bringUpToDate 3 77 0 0 [.ref a0, .ref a1] c (fun D cid B => zQv D cid B res c.length 0) := by
  refine z_met (cc := bb_Finder_bringUpToDate) (maxL := 3) (ret := none) (by decide +kernel) rfl (Nat.le_of_ble_eq_true rfl) ?_
  intro p e s m args below meth cd D cid B X h1 h2 h3 h4
  have X : zX p s m args cd D cid B bb_Finder_bringUpToDate 3 rr_Finder zT := X
  have H : zH s meth B c.length none "bringUpToDate" := ⟨h1, h2, h4, h3⟩
  unfold f_Finder_bringUpToDate at h
  show Zz p l e (zRm 3 77 0 0) s m args below meth cd _ D cid B 3 0 0 c 0 [(0, .ref a0), (1, .ref a1)] []
  refine z_aload_n X dd_Finder_bringUpToDate_0 rfl 1 rfl ?_
  obtain ⟨v1, ev1, h⟩ := zb h
  refine z_get (j := 17) X dd_Finder_bringUpToDate_1 kc_1 ki_1 (by decide) km_258 (zgi_v ev1) ?_
  refine z_aload_n X dd_Finder_bringUpToDate_4 rfl 0 rfl ?_
  obtain ⟨v2, ev2, h⟩ := zb h
  refine z_get (j := 1) X dd_Finder_bringUpToDate_5 kc_7 ki_7 (by decide) km_586 (zgr_v ev2) ?_
  obtain ⟨v3, ev3, h⟩ := zb h
  refine z_get (j := 9) X dd_Finder_bringUpToDate_8 kc_0 ki_0 (by decide) km_182 (zgi_v ev3) ?_
  refine z_icmp_ne (tgt := 15) X dd_Finder_bringUpToDate_11 (by decide) (fun q4 => ?_) (fun q4 => ?_)
  · rw [if_neg q4] at h
    refine z_aload_n X dd_Finder_bringUpToDate_15 rfl 1 rfl ?_
    refine z_aload_n X dd_Finder_bringUpToDate_16 rfl 0 rfl ?_
    obtain ⟨v5, ev5, h⟩ := zb h
    refine z_get (j := 1) X dd_Finder_bringUpToDate_17 kc_7 ki_7 (by decide) km_586 (zgr_v ev5) ?_
    obtain ⟨v6, ev6, h⟩ := zb h
    refine z_get (j := 9) X dd_Finder_bringUpToDate_20 kc_0 ki_0 (by decide) km_182 (zgi_v ev6) ?_
    obtain ⟨c7, ec7, h⟩ := zb h
    refine z_put (j := 17) X dd_Finder_bringUpToDate_23 kc_1 ki_1 tt_Way tk_Way nn_Way (by decide) km_258 rfl (tk_Way 17 (by decide)) rfl rfl ec7 ?_
    refine z_aload_n X dd_Finder_bringUpToDate_26 rfl 1 rfl ?_
    obtain ⟨w9, ew9, h⟩ := zb h
    obtain ⟨q8, eq8, h⟩ := zb h
    refine z_callVv X [] rfl dd_Finder_bringUpToDate_27 (c_Way_forgetArcs l eq8) (cwV 0 X.1.2.2.2.2 (zg_V km_1297 km_1298 km_1299 km_129 km_1300) rfl rfl rfl (by decide +kernel) ⟨Nat.le_of_ble_eq_true rfl, Nat.le_of_ble_eq_true rfl⟩) (zob_s ew9) kc_1 rfl (Nat.le_of_ble_eq_true rfl) ⟨Nat.le_of_ble_eq_true rfl, Nat.le_of_ble_eq_true rfl⟩ ?_
    refine z_iconst (v := 0) X dd_Finder_bringUpToDate_30 (by decide) ?_
    refine z_istore_n (lv' := [(2, .int 0), (0, .ref a0), (1, .ref a1)]) X dd_Finder_bringUpToDate_31 rfl (by decide) rfl ?_
    refine z_sub [1, 2, 0] rfl ?_
    exact t_Finder_bringUpToDate_32 X H h
  · rw [if_pos q4] at h
    obtain rfl := Option.some.inj h
    exact z_vret X H.1 H.2.1 H.2.2.1 dd_Finder_bringUpToDate_14
theorem dd_Finder_start_0 : decode bb_Finder_start 0 = .ok (.aload_n 0, 1) := by decide +kernel
theorem dd_Finder_start_1 : decode bb_Finder_start 1 = .ok (.aload_n 1, 1) := by decide +kernel
theorem dd_Finder_start_2 : decode bb_Finder_start 2 = .ok (.putfield 31, 3) := by decide +kernel
theorem dd_Finder_start_5 : decode bb_Finder_start 5 = .ok (.iconst 0, 1) := by decide +kernel
theorem dd_Finder_start_6 : decode bb_Finder_start 6 = .ok (.istore_n 2, 1) := by decide +kernel
theorem dd_Finder_start_7 : decode bb_Finder_start 7 = .ok (.iload_n 2, 1) := by decide +kernel
theorem dd_Finder_start_8 : decode bb_Finder_start 8 = .ok (.aload_n 0, 1) := by decide +kernel
theorem dd_Finder_start_9 : decode bb_Finder_start 9 = .ok (.getfield 31, 3) := by decide +kernel
theorem dd_Finder_start_12 : decode bb_Finder_start 12 = .ok (.getfield 47, 3) := by decide +kernel
theorem dd_Finder_start_15 : decode bb_Finder_start 15 = .ok (.if_icmp .ge 22, 3) := by decide +kernel
theorem dd_Finder_start_18 : decode bb_Finder_start 18 = .ok (.aload_n 0, 1) := by decide +kernel
theorem dd_Finder_start_19 : decode bb_Finder_start 19 = .ok (.aload_n 0, 1) := by decide +kernel
theorem dd_Finder_start_20 : decode bb_Finder_start 20 = .ok (.getfield 31, 3) := by decide +kernel
theorem dd_Finder_start_23 : decode bb_Finder_start 23 = .ok (.getfield 53, 3) := by decide +kernel
theorem dd_Finder_start_26 : decode bb_Finder_start 26 = .ok (.iload_n 2, 1) := by decide +kernel
theorem dd_Finder_start_27 : decode bb_Finder_start 27 = .ok (.aaload, 1) := by decide +kernel
theorem dd_Finder_start_28 : decode bb_Finder_start 28 = .ok (.invokevirtual 57, 3) := by decide +kernel
theorem dd_Finder_start_31 : decode bb_Finder_start 31 = .ok (.iinc 2 1, 3) := by decide +kernel
theorem dd_Finder_start_34 : decode bb_Finder_start 34 = .ok (.goto (-27), 3) := by decide +kernel
theorem dd_Finder_start_37 : decode bb_Finder_start 37 = .ok (.iconst 0, 1) := by decide +kernel
theorem dd_Finder_start_38 : decode bb_Finder_start 38 = .ok (.istore_n 2, 1) := by decide +kernel
theorem dd_Finder_start_39 : decode bb_Finder_start 39 = .ok (.iload_n 2, 1) := by decide +kernel
theorem dd_Finder_start_40 : decode bb_Finder_start 40 = .ok (.aload_n 0, 1) := by decide +kernel
theorem dd_Finder_start_41 : decode bb_Finder_start 41 = .ok (.getfield 31, 3) := by decide +kernel
theorem dd_Finder_start_44 : decode bb_Finder_start 44 = .ok (.getfield 61, 3) := by decide +kernel
theorem dd_Finder_start_47 : decode bb_Finder_start 47 = .ok (.if_icmp .ge 38, 3) := by decide +kernel
theorem dd_Finder_start_50 : decode bb_Finder_start 50 = .ok (.aload_n 0, 1) := by decide +kernel
theorem dd_Finder_start_51 : decode bb_Finder_start 51 = .ok (.getfield 31, 3) := by decide +kernel
theorem dd_Finder_start_54 : decode bb_Finder_start 54 = .ok (.getfield 64, 3) := by decide +kernel
theorem dd_Finder_start_57 : decode bb_Finder_start 57 = .ok (.iload_n 2, 1) := by decide +kernel
theorem dd_Finder_start_58 : decode bb_Finder_start 58 = .ok (.aload_n 0, 1) := by decide +kernel
theorem dd_Finder_start_59 : decode bb_Finder_start 59 = .ok (.getfield 27, 3) := by decide +kernel
theorem dd_Finder_start_62 : decode bb_Finder_start 62 = .ok (.aload_n 0, 1) := by decide +kernel
theorem dd_Finder_start_63 : decode bb_Finder_start 63 = .ok (.getfield 31, 3) := by decide +kernel
theorem dd_Finder_start_66 : decode bb_Finder_start 66 = .ok (.getfield 67, 3) := by decide +kernel
theorem dd_Finder_start_69 : decode bb_Finder_start 69 = .ok (.iload_n 2, 1) := by decide +kernel
theorem dd_Finder_start_70 : decode bb_Finder_start 70 = .ok (.iaload, 1) := by decide +kernel
theorem dd_Finder_start_71 : decode bb_Finder_start 71 = .ok (.sipush 256, 3) := by decide +kernel
theorem dd_Finder_start_74 : decode bb_Finder_start 74 = .ok (.irem, 1) := by decide +kernel
theorem dd_Finder_start_75 : decode bb_Finder_start 75 = .ok (.invokevirtual 70, 3) := by decide +kernel
theorem dd_Finder_start_78 : decode bb_Finder_start 78 = .ok (.iastore, 1) := by decide +kernel
theorem dd_Finder_start_79 : decode bb_Finder_start 79 = .ok (.iinc 2 1, 3) := by decide +kernel
theorem dd_Finder_start_82 : decode bb_Finder_start 82 = .ok (.goto (-43), 3) := by decide +kernel
theorem dd_Finder_start_85 : decode bb_Finder_start 85 = .ok (.aload_n 0, 1) := by decide +kernel
theorem dd_Finder_start_86 : decode bb_Finder_start 86 = .ok (.getfield 40, 3) := by decide +kernel
theorem dd_Finder_start_89 : decode bb_Finder_start 89 = .ok (.aload_n 0, 1) := by decide +kernel
theorem dd_Finder_start_90 : decode bb_Finder_start 90 = .ok (.getfield 31, 3) := by decide +kernel
theorem dd_Finder_start_93 : decode bb_Finder_start 93 = .ok (.iconst 0, 1) := by decide +kernel
theorem dd_Finder_start_94 : decode bb_Finder_start 94 = .ok (.invokevirtual 76, 3) := by decide +kernel
theorem dd_Finder_start_97 : decode bb_Finder_start 97 = .ok (.return_, 1) := by decide +kernel
def g_Finder_start_7 (nf : Nat) (x0 : Nat) (x2 : Int32) (c : Zc) : Option ((Nat × Int32 × Zc) ⊕ (Nat × Zc)) :=
  (zgr c x0 7 8).bind fun v2 => (zgi c v2 2 3).bind fun v3 => if v3 ≤ x2 then (some (.inr (x0, c))) else ((zgr c x0 7 8).bind fun v5 => (zgr c v5 2 4).bind fun v6 => (zar c v6 3 x2).bind fun v7 => (zob c x0 7).bind fun w9 => (f_Finder_bringUpToDate nf x0 v7 c).bind fun q8 => some (.inl (x0, (x2 + 1), q8)))
def g_Finder_start_39 (nf : Nat) (x0 : Nat) (x2 : Int32) (c : Zc) : Option ((Nat × Int32 × Zc) ⊕ (Nat × Zc)) :=
  (zgr c x0 7 8).bind fun v10 => (zgi c v10 2 5).bind fun v11 => if v11 ≤ x2 then (some (.inr (x0, c))) else ((zgr c x0 7 8).bind fun v13 => (zgr c v13 2 7).bind fun v14 => (zgr c x0 7 1).bind fun v15 => (zgr c x0 7 8).bind fun v16 => (zgr c v16 2 6).bind fun v17 => (zai c v17 0 x2).bind fun v18 => (zob c v15 0).bind fun w21 => (f_Graph_nodesWith nf v15 (v18 - v18 / 256 * 256) c).bind fun q20 => (zsi q20.2 v14 0 x2 q20.1).bind fun c22 => some (.inl (x0, (x2 + 1), c22)))
def f_Finder_start_39 (nf : Nat) (x0 : Nat) (x2 : Int32) (c : Zc) : Option (Zc) :=
  (zlp (fun a => g_Finder_start_39 nf a.1 a.2.1 a.2.2) nf (x0, x2, c)).bind fun b => (zgr b.2 b.1 7 2).bind fun v23 => (zgr b.2 b.1 7 8).bind fun v24 => (zob b.2 v23 6).bind fun w26 => (f_Search_begin nf v23 v24 0 b.2).bind fun q25 => some q25
def f_Finder_start_7 (nf : Nat) (x0 : Nat) (x2 : Int32) (c : Zc) : Option (Zc) :=
  (zlp (fun a => g_Finder_start_7 nf a.1 a.2.1 a.2.2) nf (x0, x2, c)).bind fun b => f_Finder_start_39 nf b.1 0 b.2
def f_Finder_start (nf : Nat) (a0 : Nat) (a1 : Nat) (c : Zc) : Option (Zc) :=
  (zpv c a0 7 8 (.ref a1)).bind fun c1 => f_Finder_start_7 nf a0 0 c1
set_option maxRecDepth 100000 in
set_option maxHeartbeats 4000000 in
theorem u_Finder_start_7  (X : zX p s m args cd D cid B bb_Finder_start 3 rr_Finder zT) (H : zH s meth B n0 none "start") {nf : Nat} {x0 : Nat} {x2 : Int32} {c : Zc} {r : (Nat × Int32 × Zc) ⊕ (Nat × Zc)} (h : g_Finder_start_7 nf x0 x2 c = some r) (k0 : ∀ a, r = .inl a → (fun a : Nat × Int32 × Zc => Zz p l e (zRm 4 99 0 0) s m args below meth cd Q D cid B 3 0 0 a.2.2 7 [(0, .ref a.1), (2, .int a.2.1)] []) a) (k1 : ∀ b, r = .inr b → (fun b : Nat × Zc => Zz p l e (zRm 4 99 0 0) s m args below meth cd Q D cid B 3 0 0 b.2 37 [(0, .ref b.1)] []) b) : Zz p l e (zRm 4 99 0 0) s m args below meth cd Q D cid B 3 0 0 c 7 [(0, .ref x0), (2, .int x2)] [] := by
  unfold g_Finder_start_7 at h
  refine z_iload_n X dd_Finder_start_7 rfl 1 rfl ?_
  refine z_aload_n X dd_Finder_start_8 rfl 0 rfl ?_
  obtain ⟨v2, ev2, h⟩ := zb h
  refine z_get (j := 8) X dd_Finder_start_9 kc_7 ki_7 (by decide) km_593 (zgr_v ev2) ?_
  obtain ⟨v3, ev3, h⟩ := zb h
  refine z_get (j := 3) X dd_Finder_start_12 kc_2 ki_2 (by decide) km_309 (zgi_v ev3) ?_
  refine z_icmp_ge (tgt := 37) X dd_Finder_start_15 (by decide) (fun q4 => ?_) (fun q4 => ?_)
  · rw [if_pos q4] at h
    refine z_sub [0] rfl ?_
    obtain rfl := Option.some.inj h
    exact k1 _ rfl
  · rw [if_neg q4] at h
    refine z_aload_n X dd_Finder_start_18 rfl 0 rfl ?_
    refine z_aload_n X dd_Finder_start_19 rfl 0 rfl ?_
    obtain ⟨v5, ev5, h⟩ := zb h
    refine z_get (j := 8) X dd_Finder_start_20 kc_7 ki_7 (by decide) km_593 (zgr_v ev5) ?_
    obtain ⟨v6, ev6, h⟩ := zb h
    refine z_get (j := 4) X dd_Finder_start_23 kc_2 ki_2 (by decide) km_315 (zgr_v ev6) ?_
    refine z_iload_n X dd_Finder_start_26 rfl 1 rfl ?_
    obtain ⟨v7, ev7, h⟩ := zb h
    refine z_aaload X dd_Finder_start_27 rfl ev7 ?_
    obtain ⟨w9, ew9, h⟩ := zb h
    obtain ⟨q8, eq8, h⟩ := zb h
    refine z_callVv X [.ref v7] rfl dd_Finder_start_28 (c_Finder_bringUpToDate l eq8) (cwV 1 X.1.2.2.2.2 (zg_V km_1293 km_1294 km_1295 km_133 km_1296) rfl rfl rfl (by decide +kernel) ⟨Nat.le_of_ble_eq_true rfl, Nat.le_of_ble_eq_true rfl⟩) (zob_s ew9) kc_7 rfl (Nat.le_of_ble_eq_true rfl) ⟨Nat.le_of_ble_eq_true rfl, Nat.le_of_ble_eq_true rfl⟩ ?_
    refine z_iinc (v := (x2 + 1)) (lv' := [(2, .int (x2 + 1)), (0, .ref x0)]) X dd_Finder_start_31 1 rfl rfl (by decide) rfl ?_
    refine z_goto (tgt := 7) X dd_Finder_start_34 (by decide) ?_
    refine z_sub [1, 0] rfl ?_
    obtain rfl := Option.some.inj h
    exact k0 _ rfl
set_option maxRecDepth 100000 in
set_option maxHeartbeats 4000000 in
theorem u_Finder_start_39  (X : zX p s m args cd D cid B bb_Finder_start 3 rr_Finder zT) (H : zH s meth B n0 none "start") {nf : Nat} {x0 : Nat} {x2 : Int32} {c : Zc} {r : (Nat × Int32 × Zc) ⊕ (Nat × Zc)} (h : g_Finder_start_39 nf x0 x2 c = some r) (k0 : ∀ a, r = .inl a → (fun a : Nat × Int32 × Zc => Zz p l e (zRm 4 99 0 0) s m args below meth cd Q D cid B 3 0 0 a.2.2 39 [(0, .ref a.1), (2, .int a.2.1)] []) a) (k1 : ∀ b, r = .inr b → (fun b : Nat × Zc => Zz p l e (zRm 4 99 0 0) s m args below meth cd Q D cid B 3 0 0 b.2 85 [(0, .ref b.1)] []) b) : Zz p l e (zRm 4 99 0 0) s m args below meth cd Q D cid B 3 0 0 c 39 [(0, .ref x0), (2, .int x2)] [] := by
  unfold g_Finder_start_39 at h
  refine z_iload_n X dd_Finder_start_39 rfl 1 rfl ?_
  refine z_aload_n X dd_Finder_start_40 rfl 0 rfl ?_
  obtain ⟨v10, ev10, h⟩ := zb h
  refine z_get (j := 8) X dd_Finder_start_41 kc_7 ki_7 (by decide) km_593 (zgr_v ev10) ?_
  obtain ⟨v11, ev11, h⟩ := zb h
  refine z_get (j := 5) X dd_Finder_start_44 kc_2 ki_2 (by decide) km_320 (zgi_v ev11) ?_
  refine z_icmp_ge (tgt := 85) X dd_Finder_start_47 (by decide) (fun q12 => ?_) (fun q12 => ?_)
  · rw [if_pos q12] at h
    refine z_sub [0] rfl ?_
    obtain rfl := Option.some.inj h
    exact k1 _ rfl
  · rw [if_neg q12] at h
    refine z_aload_n X dd_Finder_start_50 rfl 0 rfl ?_
    obtain ⟨v13, ev13, h⟩ := zb h
    refine z_get (j := 8) X dd_Finder_start_51 kc_7 ki_7 (by decide) km_593 (zgr_v ev13) ?_
    obtain ⟨v14, ev14, h⟩ := zb h
    refine z_get (j := 7) X dd_Finder_start_54 kc_2 ki_2 (by decide) km_325 (zgr_v ev14) ?_
    refine z_iload_n X dd_Finder_start_57 rfl 1 rfl ?_
    refine z_aload_n X dd_Finder_start_58 rfl 0 rfl ?_
    obtain ⟨v15, ev15, h⟩ := zb h
    refine z_get (j := 1) X dd_Finder_start_59 kc_7 ki_7 (by decide) km_586 (zgr_v ev15) ?_
    refine z_aload_n X dd_Finder_start_62 rfl 0 rfl ?_
    obtain ⟨v16, ev16, h⟩ := zb h
    refine z_get (j := 8) X dd_Finder_start_63 kc_7 ki_7 (by decide) km_593 (zgr_v ev16) ?_
    obtain ⟨v17, ev17, h⟩ := zb h
    refine z_get (j := 6) X dd_Finder_start_66 kc_2 ki_2 (by decide) km_322 (zgr_v ev17) ?_
    refine z_iload_n X dd_Finder_start_69 rfl 1 rfl ?_
    obtain ⟨v18, ev18, h⟩ := zb h
    refine z_iaload X dd_Finder_start_70 rfl ev18 ?_
    refine z_sipush (v := 256) X dd_Finder_start_71 (by decide) ?_
    refine z_irem X dd_Finder_start_74 (by decide) ?_
    obtain ⟨w21, ew21, h⟩ := zb h
    obtain ⟨q20, eq20, h⟩ := zb h
    refine z_callVi X [.int (v18 - v18 / 256 * 256)] rfl dd_Finder_start_75 (c_Graph_nodesWith l eq20) (cwV 1 X.1.2.2.2.2 (zg_V km_1324 km_1325 km_1326 km_126 km_1327) rfl rfl rfl (by decide +kernel) ⟨Nat.le_of_ble_eq_true rfl, Nat.le_of_ble_eq_true rfl⟩) (zob_s ew21) kc_0 rfl (Nat.le_of_ble_eq_true rfl) ⟨Nat.le_of_ble_eq_true rfl, Nat.le_of_ble_eq_true rfl⟩ ?_
    obtain ⟨c22, ec22, h⟩ := zb h
    refine z_iastore X dd_Finder_start_78 rfl ec22 ?_
    refine z_iinc (v := (x2 + 1)) (lv' := [(2, .int (x2 + 1)), (0, .ref x0)]) X dd_Finder_start_79 1 rfl rfl (by decide) rfl ?_
    refine z_goto (tgt := 39) X dd_Finder_start_82 (by decide) ?_
    refine z_sub [1, 0] rfl ?_
    obtain rfl := Option.some.inj h
    exact k0 _ rfl
set_option maxRecDepth 100000 in
set_option maxHeartbeats 4000000 in
theorem t_Finder_start_39  (X : zX p s m args cd D cid B bb_Finder_start 3 rr_Finder zT) (H : zH s meth B n0 none "start") {nf : Nat} {x0 : Nat} {x2 : Int32} {c : Zc} {res : Zc} (h : f_Finder_start_39 nf x0 x2 c = some res) : Zz p l e (zRm 4 99 0 0) s m args below meth cd (MQ below (zQv D cid B res n0 0) args s 0 0 (fun q => B ≤ q)) D cid B 3 0 0 c 39 [(0, .ref x0), (2, .int x2)] [] := by
  unfold f_Finder_start_39 at h
  obtain ⟨b, eb, h⟩ := zb h
  refine zlp_ok (P := fun a : Nat × Int32 × Zc => Zz p l e (zRm 4 99 0 0) s m args below meth cd _ D cid B 3 0 0 a.2.2 39 [(0, .ref a.1), (2, .int a.2.1)] []) (G := fun b : Nat × Zc => Zz p l e (zRm 4 99 0 0) s m args below meth cd _ D cid B 3 0 0 b.2 85 [(0, .ref b.1)] []) (fun a r ha k0 k1 => u_Finder_start_39 X H ha k0 k1) nf _ b eb ?_
  refine z_aload_n X dd_Finder_start_85 rfl 0 rfl ?_
  obtain ⟨v23, ev23, h⟩ := zb h
  refine z_get (j := 2) X dd_Finder_start_86 kc_7 ki_7 (by decide) km_587 (zgr_v ev23) ?_
  refine z_aload_n X dd_Finder_start_89 rfl 0 rfl ?_
  obtain ⟨v24, ev24, h⟩ := zb h
  refine z_get (j := 8) X dd_Finder_start_90 kc_7 ki_7 (by decide) km_593 (zgr_v ev24) ?_
  refine z_iconst (v := 0) X dd_Finder_start_93 (by decide) ?_
  obtain ⟨w26, ew26, h⟩ := zb h
  obtain ⟨q25, eq25, h⟩ := zb h
  refine z_callVv X [.ref v24, .int 0] rfl dd_Finder_start_94 (c_Search_begin l eq25) (cwV 2 X.1.2.2.2.2 (zg_V km_1328 km_1329 km_1330 km_134 km_1331) rfl rfl rfl (by decide +kernel) ⟨Nat.le_of_ble_eq_true rfl, Nat.le_of_ble_eq_true rfl⟩) (zob_s ew26) kc_6 rfl (Nat.le_of_ble_eq_true rfl) ⟨Nat.le_of_ble_eq_true rfl, Nat.le_of_ble_eq_true rfl⟩ ?_
  obtain rfl := Option.some.inj h
  exact z_vret X H.1 H.2.1 H.2.2.1 dd_Finder_start_97
set_option maxRecDepth 100000 in
set_option maxHeartbeats 4000000 in
theorem t_Finder_start_7  (X : zX p s m args cd D cid B bb_Finder_start 3 rr_Finder zT) (H : zH s meth B n0 none "start") {nf : Nat} {x0 : Nat} {x2 : Int32} {c : Zc} {res : Zc} (h : f_Finder_start_7 nf x0 x2 c = some res) : Zz p l e (zRm 4 99 0 0) s m args below meth cd (MQ below (zQv D cid B res n0 0) args s 0 0 (fun q => B ≤ q)) D cid B 3 0 0 c 7 [(0, .ref x0), (2, .int x2)] [] := by
  unfold f_Finder_start_7 at h
  obtain ⟨b, eb, h⟩ := zb h
  refine zlp_ok (P := fun a : Nat × Int32 × Zc => Zz p l e (zRm 4 99 0 0) s m args below meth cd _ D cid B 3 0 0 a.2.2 7 [(0, .ref a.1), (2, .int a.2.1)] []) (G := fun b : Nat × Zc => Zz p l e (zRm 4 99 0 0) s m args below meth cd _ D cid B 3 0 0 b.2 37 [(0, .ref b.1)] []) (fun a r ha k0 k1 => u_Finder_start_7 X H ha k0 k1) nf _ b eb ?_
  refine z_iconst (v := 0) X dd_Finder_start_37 (by decide) ?_
  refine z_istore_n (lv' := [(2, .int 0), (0, .ref b.1)]) X dd_Finder_start_38 rfl (by decide) rfl ?_
  refine z_sub [1, 0] rfl ?_
  exact t_Finder_start_39 X H h
set_option maxRecDepth 100000 in
set_option maxHeartbeats 4000000 in
theorem c_Finder_start (l : Launch) {nf : Nat} {a0 : Nat} {a1 : Nat} {c : Zc} {res : Zc} (h : f_Finder_start nf a0 a1 c = some res) : zM l yy_Finder_start ww_Finder_start 4 99 0 0 [.ref a0, .ref a1] c (fun D cid B => zQv D cid B res c.length 0) := by
  refine z_met (cc := bb_Finder_start) (maxL := 3) (ret := none) (by decide +kernel) rfl (Nat.le_of_ble_eq_true rfl) ?_
  intro p e s m args below meth cd D cid B X h1 h2 h3 h4
  have X : zX p s m args cd D cid B bb_Finder_start 3 rr_Finder zT := X
  have H : zH s meth B c.length none "start" := ⟨h1, h2, h4, h3⟩
  unfold f_Finder_start at h
  show Zz p l e (zRm 4 99 0 0) s m args below meth cd _ D cid B 3 0 0 c 0 [(0, .ref a0), (1, .ref a1)] []
  refine z_aload_n X dd_Finder_start_0 rfl 0 rfl ?_
  refine z_aload_n X dd_Finder_start_1 rfl 1 rfl ?_
  obtain ⟨c1, ec1, h⟩ := zb h
  refine z_put (j := 8) X dd_Finder_start_2 kc_7 ki_7 tt_Finder tk_Finder nn_Finder (by decide) km_593 rfl (tk_Finder 8 (by decide)) rfl rfl ec1 ?_
  refine z_iconst (v := 0) X dd_Finder_start_5 (by decide) ?_
  refine z_istore_n (lv' := [(2, .int 0), (0, .ref a0), (1, .ref a1)]) X dd_Finder_start_6 rfl (by decide) rfl ?_
  refine z_sub [1, 0] rfl ?_
  exact t_Finder_start_7 X H h
end ZzM
