section ZzL
variable {p : Program} {l : Launch} {e : Env} {s : State} {m : MethodId} {args : Array Value} {below : List Frame} {meth : Method} {cd : Code} {Q : State → Prop} {D : va_G} {cid : Nat → ClassId} {B n0 : Nat} {L : Nat} {xs : Nat → Int32}
def f_Law_law_684 (nf L : Nat) (xs : Nat → Int32) (x1 : Nat) (x2 : Nat) (x3 : Int32) (kk : Nat) (nn : Nat) (c : Zc) : Option ((Nat × Nat × Int32 × Nat × Nat × Zc) ⊕ ((Nat × Nat × Zc) ⊕ (Nat × Nat × Zc))) :=
  some (.inl (x1, x2, (x3 + 6), kk, nn, c))
def f_Law_law_518 (nf L : Nat) (xs : Nat → Int32) (x1 : Nat) (x2 : Nat) (x3 : Int32) (s0 : Int32) (kk : Nat) (nn : Nat) (c : Zc) : Option ((Nat × Nat × Int32 × Nat × Nat × Zc) ⊕ ((Nat × Nat × Zc) ⊕ (Nat × Nat × Zc))) :=
  (zxs L xs (x3 + 1)).bind fun v121 => (zob c x2 12).bind fun w123 => (f_Mo_ask nf x2 v121 c).bind fun q122 => f_Law_law_684 nf L xs x1 x2 x3 kk nn q122.2
def g_Law_law_18 (nf L : Nat) (xs : Nat → Int32) (x1 : Nat) (x2 : Nat) (x3 : Int32) (kk : Nat) (nn : Nat) (c : Zc) : Option ((Nat × Nat × Int32 × Nat × Nat × Zc) ⊕ ((Nat × Nat × Zc) ⊕ (Nat × Nat × Zc))) :=
  if ((Int32.ofNat L) - 6) < x3 then (some (.inr (.inr (kk, nn, c)))) else ((zxs L xs x3).bind fun v6 => if (v6 &&& 31) = 0 then ((zxs L xs (x3 + 1)).bind fun v8 => (zxs L xs (x3 + 2)).bind fun v9 => (zxs L xs (x3 + 3)).bind fun v10 => (zxs L xs (x3 + 4)).bind fun v11 => (zxs L xs (x3 + 5)).bind fun v12 => (zob c x1 11).bind fun w14 => (f_PQ_feed nf x1 v8 v9 v10 v11 v12 c).bind fun q13 => (zxs L xs (x3 + 1)).bind fun v15 => (zxs L xs (x3 + 2)).bind fun v16 => (zxs L xs (x3 + 3)).bind fun v17 => (zxs L xs (x3 + 4)).bind fun v18 => (zxs L xs (x3 + 5)).bind fun v19 => (zob q13.2 x2 12).bind fun w21 => (f_Mo_feed nf x2 v15 v16 v17 v18 v19 q13.2).bind fun q20 => f_Law_law_684 nf L xs x1 x2 x3 kk nn q20.2) else if (v6 &&& 31) = 1 then ((zxs L xs (x3 + 1)).bind fun v23 => (zob c x1 11).bind fun w25 => (f_PQ_cut nf x1 v23 c).bind fun q24 => (zxs L xs (x3 + 1)).bind fun v26 => (zob q24.2 x2 12).bind fun w28 => (f_Mo_cut nf x2 v26 q24.2).bind fun q27 => f_Law_law_684 nf L xs x1 x2 x3 kk nn q27.2) else if (v6 &&& 31) = 2 then ((zxs L xs (x3 + 1)).bind fun v30 => (zob c x1 11).bind fun w32 => (f_PQ_node nf x1 v30 c).bind fun q31 => (zxs L xs (x3 + 1)).bind fun v33 => (zob q31.2 x2 12).bind fun w35 => (f_Mo_node nf x2 v33 q31.2).bind fun q34 => f_Law_law_684 nf L xs x1 x2 x3 kk nn q34.2) else if (v6 &&& 31) = 3 then ((zxs L xs (x3 + 1)).bind fun v37 => (zxs L xs (x3 + 2)).bind fun v38 => (zob c x1 11).bind fun w40 => (f_PQ_mark nf x1 v37 v38 c).bind fun q39 => (zxs L xs (x3 + 1)).bind fun v41 => (zxs L xs (x3 + 2)).bind fun v42 => (zob q39.2 x2 12).bind fun w44 => (f_Mo_mark nf x2 v41 v42 q39.2).bind fun q43 => f_Law_law_684 nf L xs x1 x2 x3 kk nn q43.2) else if (v6 &&& 31) = 4 then ((zxs L xs (x3 + 1)).bind fun v46 => (zxs L xs (x3 + 2)).bind fun v47 => (zxs L xs (x3 + 3)).bind fun v48 => (zob c x1 11).bind fun w50 => (f_PQ_put nf x1 v46 v47 v48 c).bind fun q49 => (zxs L xs (x3 + 1)).bind fun v51 => (zxs L xs (x3 + 2)).bind fun v52 => (zxs L xs (x3 + 3)).bind fun v53 => (zob q49.2 x2 12).bind fun w55 => (f_Mo_put nf x2 v51 v52 v53 q49.2).bind fun q54 => f_Law_law_684 nf L xs x1 x2 x3 kk nn q54.2) else if (v6 &&& 31) = 5 then ((zxs L xs (x3 + 1)).bind fun v57 => (zxs L xs (x3 + 2)).bind fun v58 => (zxs L xs (x3 + 3)).bind fun v59 => (zxs L xs (x3 + 4)).bind fun v60 => (zob c x1 11).bind fun w62 => (f_PQ_arc nf x1 v57 v58 v59 v60 c).bind fun q61 => (zxs L xs (x3 + 1)).bind fun v63 => (zxs L xs (x3 + 2)).bind fun v64 => (zxs L xs (x3 + 3)).bind fun v65 => (zxs L xs (x3 + 4)).bind fun v66 => (zob q61.2 x2 12).bind fun w68 => (f_Mo_arc nf x2 v63 v64 v65 v66 q61.2).bind fun q67 => f_Law_law_684 nf L xs x1 x2 x3 kk nn q67.2) else if (v6 &&& 31) = 6 then ((zxs L xs (x3 + 1)).bind fun v70 => (zob c x1 11).bind fun w72 => (f_PQ_drop nf x1 v70 c).bind fun q71 => (zxs L xs (x3 + 1)).bind fun v73 => (zob q71.2 x2 12).bind fun w75 => (f_Mo_drop nf x2 v73 q71.2).bind fun q74 => f_Law_law_684 nf L xs x1 x2 x3 kk nn q74.2) else if (v6 &&& 31) = 7 then ((zxs L xs (x3 + 1)).bind fun v77 => (zxs L xs (x3 + 2)).bind fun v78 => (zob c x1 11).bind fun w80 => (f_PQ_told nf x1 v77 v78 c).bind fun q79 => (zxs L xs (x3 + 1)).bind fun v81 => (zxs L xs (x3 + 2)).bind fun v82 => (zob q79.2 x2 12).bind fun w84 => (f_Mo_told nf x2 v81 v82 q79.2).bind fun q83 => f_Law_law_684 nf L xs x1 x2 x3 kk nn q83.2) else if (v6 &&& 31) = 8 then ((zxs L xs (x3 + 1)).bind fun v86 => (zob c x1 11).bind fun w88 => (f_PQ_bare nf x1 v86 c).bind fun q87 => (zxs L xs (x3 + 1)).bind fun v89 => (zob q87.2 x2 12).bind fun w91 => (f_Mo_bare nf x2 v89 q87.2).bind fun q90 => if q87.1 = q90.1 then (f_Law_law_684 nf L xs x1 x2 x3 kk nn q90.2) else (some (.inr (.inl (kk, nn, q90.2))))) else if (v6 &&& 31) = 9 then ((zxs L xs (x3 + 1)).bind fun v94 => (zob c x1 11).bind fun w96 => (f_PQ_question nf x1 v94 c).bind fun q95 => (zxs L xs (x3 + 1)).bind fun v97 => (zob q95.2 x2 12).bind fun w99 => (f_Mo_question nf x2 v97 q95.2).bind fun q98 => f_Law_law_684 nf L xs x1 x2 x3 kk nn q98.2) else if (v6 &&& 31) = 10 then ((zob c x1 11).bind fun w102 => (f_PQ_rule nf x1 c).bind fun q101 => (zob q101.2 x2 12).bind fun w104 => (f_Mo_rule nf x2 q101.2).bind fun q103 => f_Law_law_684 nf L xs x1 x2 x3 kk nn q103.2) else if (v6 &&& 31) = 11 then ((zxs L xs (x3 + 1)).bind fun v106 => (zob c x1 11).bind fun w108 => (f_PQ_forget nf x1 v106 c).bind fun q107 => (zxs L xs (x3 + 1)).bind fun v109 => (zob q107.2 x2 12).bind fun w111 => (f_Mo_forget nf x2 v109 q107.2).bind fun q110 => f_Law_law_684 nf L xs x1 x2 x3 kk nn q110.2) else if (v6 &&& 31) = 12 then ((zob c x1 11).bind fun w114 => (f_PQ_place nf x1 c).bind fun q113 => (zob q113.2 x2 12).bind fun w116 => (f_Mo_place nf x2 q113.2).bind fun q115 => f_Law_law_684 nf L xs x1 x2 x3 kk nn q115.2) else if (v6 &&& 31) = 13 then ((zxs L xs (x3 + 1)).bind fun v118 => (zob c x1 11).bind fun w120 => (f_PQ_ask nf x1 v118 c).bind fun q119 => f_Law_law_518 nf L xs x1 x2 x3 q119.2.2.1 (kk + q119.1) (nn + q119.2.1) q119.2.2.2) else if (v6 &&& 31) = 14 then ((zxs L xs (x3 + 1)).bind fun v125 => (zxs L xs (x3 + 2)).bind fun v126 => (zxs L xs (x3 + 3)).bind fun v127 => (zob c x1 11).bind fun w129 => (f_PQ_answer nf x1 v125 v126 v127 c).bind fun q128 => (zxs L xs (x3 + 1)).bind fun v130 => (zxs L xs (x3 + 2)).bind fun v131 => (zxs L xs (x3 + 3)).bind fun v132 => (zob q128.2 x2 12).bind fun w134 => (f_Mo_answer nf x2 v130 v131 v132 q128.2).bind fun q133 => f_Law_law_684 nf L xs x1 x2 x3 kk nn q133.2) else if (v6 &&& 31) = 15 then ((zxs L xs (x3 + 1)).bind fun v136 => (zxs L xs (x3 + 2)).bind fun v137 => (zxs L xs (x3 + 3)).bind fun v138 => (zob c x1 11).bind fun w140 => (f_PQ_leads nf x1 v136 v137 v138 c).bind fun q139 => (zxs L xs (x3 + 1)).bind fun v141 => (zxs L xs (x3 + 2)).bind fun v142 => (zxs L xs (x3 + 3)).bind fun v143 => (zob q139.2 x2 12).bind fun w145 => (f_Mo_leads nf x2 v141 v142 v143 q139.2).bind fun q144 => f_Law_law_684 nf L xs x1 x2 x3 kk nn q144.2) else if (v6 &&& 31) = 16 then ((zxs L xs (x3 + 1)).bind fun v147 => (zob c x1 11).bind fun w149 => (f_PQ_pairs nf x1 v147 c).bind fun q148 => (zxs L xs (x3 + 1)).bind fun v150 => (zob q148.2 x2 12).bind fun w152 => (f_Mo_pairs nf x2 v150 q148.2).bind fun q151 => f_Law_law_684 nf L xs x1 x2 x3 kk nn q151.2) else if (v6 &&& 31) = 17 then ((zxs L xs (x3 + 1)).bind fun v154 => (zxs L xs (x3 + 2)).bind fun v155 => (zxs L xs (x3 + 3)).bind fun v156 => (zob c x1 11).bind fun w158 => (f_PQ_least nf x1 v154 v155 v156 c).bind fun q157 => (zxs L xs (x3 + 1)).bind fun v159 => (zxs L xs (x3 + 2)).bind fun v160 => (zxs L xs (x3 + 3)).bind fun v161 => (zob q157.2 x2 12).bind fun w163 => (f_Mo_least nf x2 v159 v160 v161 q157.2).bind fun q162 => f_Law_law_684 nf L xs x1 x2 x3 kk nn q162.2) else (f_Law_law_684 nf L xs x1 x2 x3 kk nn c))
def f_Law_law_18 (nf L : Nat) (xs : Nat → Int32) (x1 : Nat) (x2 : Nat) (x3 : Int32) (kk : Nat) (nn : Nat) (c : Zc) : Option (Nat × Nat × Zc) :=
  (zlp (fun a => g_Law_law_18 nf L xs a.1 a.2.1 a.2.2.1 a.2.2.2.1 a.2.2.2.2.1 a.2.2.2.2.2) nf (x1, x2, x3, kk, nn, c)).bind fun b => Sum.elim (fun b => none) (fun b => some (b.1, b.2.1, b.2.2)) b
def f_Law_law_15 (nf L : Nat) (xs : Nat → Int32) (x1 : Nat) (s0 : Nat) (kk : Nat) (nn : Nat) (c : Zc) : Option (Nat × Nat × Zc) :=
  f_Law_law_18 nf L xs x1 s0 0 kk nn c
def f_Law_law_11 (nf L : Nat) (xs : Nat → Int32) (x1 : Nat) (s0 : Nat) (kk : Nat) (nn : Nat) (c : Zc) : Option (Nat × Nat × Zc) :=
  (f_Mo_init nf 70 1039190 s0 c).bind fun q4 => f_Law_law_15 nf L xs x1 s0 (kk + 70) (nn + 1039190) q4
def f_Law_law_7 (nf L : Nat) (xs : Nat → Int32) (s0 : Nat) (kk : Nat) (nn : Nat) (c : Zc) : Option (Nat × Nat × Zc) :=
  (znw c (.inr (12, [.int 0, .null, .null, .null, .null, .null, .null, .null, .int 0, .null, .int 0, .int 0, .null, .int 0, .null, .null, .null, .int 0, .int 0, .int 0, .int 0, .int 0, .null, .null, .int 0, .int 0, .null, .null, .null, .null, .null, .null, .null, .null, .null, .null, .null, .null, .null, .null, .null, .null, .null, .null, .null, .null, .null, .null, .null, .null, .null, .null, .int 0, .int 0, .null, .null, .int 0, .int 0, .null, .null, .null, .null, .null, .null, .null, .int 0, .null, .null, .null, .int 0, .null, .null, .null, .null, .null, .null, .null, .null, .null, .null, .null, .int 0, .null, .null, .null, .null, .null, .int 0, .null, .null]))).bind fun c3 => f_Law_law_11 nf L xs s0 (List.length c) (kk + 1) (nn + 90) c3
def f_Law_law_3 (nf L : Nat) (xs : Nat → Int32) (s0 : Nat) (kk : Nat) (nn : Nat) (c : Zc) : Option (Nat × Nat × Zc) :=
  (f_PQ_init nf 876 42052 s0 c).bind fun q2 => f_Law_law_7 nf L xs s0 (kk + 876) (nn + 42052) q2
def f_Law_law (nf L : Nat) (xs : Nat → Int32) (c : Zc) : Option (Nat × Nat × Zc) :=
  (znw c (.inr (11, [.null, .null, .null, .null, .null, .null, .null, .null, .null, .null, .int 0]))).bind fun c1 => f_Law_law_3 nf L xs (List.length c) (0 + 1) (0 + 11) c1
set_option maxRecDepth 100000 in
set_option maxHeartbeats 4000000 in
theorem t_Law_law_684  (X : zX p s m args cd D cid B code 4 R_law zT) (H : zHL s meth B L xs cid args) {nf : Nat} {x1 : Nat} {x2 : Nat} {x3 : Int32} {kk : Nat} {nn : Nat} {c : Zc} {r : (Nat × Nat × Int32 × Nat × Nat × Zc) ⊕ ((Nat × Nat × Zc) ⊕ (Nat × Nat × Zc))} (h : f_Law_law_684 nf L xs x1 x2 x3 kk nn c = some r) (k0 : ∀ a, r = .inl a → (fun a : Nat × Nat × Int32 × Nat × Nat × Zc => ((a.2.2.2.1 ≤ 600000 ∧ a.2.2.2.2.1 ≤ 7302249) ∧ Zz p l e (zRm 18 704 600000 7302249) s m args below meth cd Q D cid B 4 a.2.2.2.1 a.2.2.2.2.1 a.2.2.2.2.2 18 [(0,  .retAddr 90), (1, .ref a.1), (2, .ref a.2.1), (3, .int a.2.2.1)] [])) a) (k1 : ∀ b, r = .inr b → (fun b : (Nat × Nat × Zc) ⊕ (Nat × Nat × Zc) => Sum.elim (fun b => ((b.1 ≤ 600000 ∧ b.2.1 ≤ 7302249) ∧ Zz p l e (zRm 18 704 600000 7302249) s m args below meth cd Q D cid B 4 b.1 b.2.1 b.2.2 435 [] [])) (fun b => ((b.1 ≤ 600000 ∧ b.2.1 ≤ 7302249) ∧ Zz p l e (zRm 18 704 600000 7302249) s m args below meth cd Q D cid B 4 b.1 b.2.1 b.2.2 690 [] [])) b) b) : ((kk ≤ 600000 ∧ nn ≤ 7302249) ∧ Zz p l e (zRm 18 704 600000 7302249) s m args below meth cd Q D cid B 4 kk nn c 684 [(0,  .retAddr 90), (1, .ref x1), (2, .ref x2), (3, .int x3)] []) := by
  unfold f_Law_law_684 at h
  refine zpr (z_iinc (v := (x3 + 6)) (lv' := [(3, .int (x3 + 6)), (0,  .retAddr 90), (1, .ref x1), (2, .ref x2)]) X dd_law_684 3 rfl rfl (by decide) rfl) ?_
  refine zpr (z_goto (tgt := 18) X dd_law_687 (by decide)) ?_
  refine zpr (z_sub [1, 2, 3, 0] rfl) ?_
  obtain rfl := Option.some.inj h
  exact k0 _ rfl
set_option maxRecDepth 100000 in
set_option maxHeartbeats 4000000 in
theorem t_Law_law_518  (X : zX p s m args cd D cid B code 4 R_law zT) (H : zHL s meth B L xs cid args) {nf : Nat} {x1 : Nat} {x2 : Nat} {x3 : Int32} {s0 : Int32} {kk : Nat} {nn : Nat} {c : Zc} {r : (Nat × Nat × Int32 × Nat × Nat × Zc) ⊕ ((Nat × Nat × Zc) ⊕ (Nat × Nat × Zc))} (h : f_Law_law_518 nf L xs x1 x2 x3 s0 kk nn c = some r) (k0 : ∀ a, r = .inl a → (fun a : Nat × Nat × Int32 × Nat × Nat × Zc => ((a.2.2.2.1 ≤ 600000 ∧ a.2.2.2.2.1 ≤ 7302249) ∧ Zz p l e (zRm 18 704 600000 7302249) s m args below meth cd Q D cid B 4 a.2.2.2.1 a.2.2.2.2.1 a.2.2.2.2.2 18 [(0,  .retAddr 90), (1, .ref a.1), (2, .ref a.2.1), (3, .int a.2.2.1)] [])) a) (k1 : ∀ b, r = .inr b → (fun b : (Nat × Nat × Zc) ⊕ (Nat × Nat × Zc) => Sum.elim (fun b => ((b.1 ≤ 600000 ∧ b.2.1 ≤ 7302249) ∧ Zz p l e (zRm 18 704 600000 7302249) s m args below meth cd Q D cid B 4 b.1 b.2.1 b.2.2 435 [] [])) (fun b => ((b.1 ≤ 600000 ∧ b.2.1 ≤ 7302249) ∧ Zz p l e (zRm 18 704 600000 7302249) s m args below meth cd Q D cid B 4 b.1 b.2.1 b.2.2 690 [] [])) b) b) : ((kk ≤ 600000 ∧ nn ≤ 7302249) ∧ Zz p l e (zRm 18 704 600000 7302249) s m args below meth cd Q D cid B 4 kk nn c 518 [(0,  .retAddr 90), (1, .ref x1), (2, .ref x2), (3, .int x3)] [.int s0]) := by
  unfold f_Law_law_518 at h
  refine zpr (z_pop X dd_law_518 rfl) ?_
  refine zpr (z_aload_n X dd_law_519 rfl 2 rfl) ?_
  refine zpr (z_aloadX_n X dd_law_520 rfl 0 rfl) ?_
  refine zpr (z_iload_n X dd_law_521 rfl 3 rfl) ?_
  refine zpr (z_iconst (v := 1) X dd_law_522 (by decide)) ?_
  refine zpr (z_iadd X dd_law_523) ?_
  obtain ⟨v121, ev121, h⟩ := zb h
  refine zpr (z_sld X H dd_law_524 ev121) ?_
  obtain ⟨w123, ew123, h⟩ := zb h
  obtain ⟨q122, eq122, h⟩ := zb h
  refine zpc (fun hm => z_callVi X [.int v121] rfl dd_law_525 (c_Mo_ask l eq122) (cwV 1 X.1.2.2.2.2 (zg_V km_2067 km_2068 km_2069 km_138 km_2070) rfl rfl rfl (by decide +kernel) ⟨Nat.le_of_ble_eq_true rfl, Nat.le_of_ble_eq_true rfl⟩) (zob_s ew123) kc_12 rfl (Nat.le_of_ble_eq_true rfl) hm) ?_
  refine zpr (z_pop X dd_law_528 rfl) ?_
  refine zpr (z_goto (tgt := 684) X dd_law_529 (by decide)) ?_
  exact t_Law_law_684 X H h k0 k1
set_option maxRecDepth 100000 in
set_option maxHeartbeats 4000000 in
theorem u_Law_law_18  (X : zX p s m args cd D cid B code 4 R_law zT) (H : zHL s meth B L xs cid args) {nf : Nat} {x1 : Nat} {x2 : Nat} {x3 : Int32} {kk : Nat} {nn : Nat} {c : Zc} {r : (Nat × Nat × Int32 × Nat × Nat × Zc) ⊕ ((Nat × Nat × Zc) ⊕ (Nat × Nat × Zc))} (h : g_Law_law_18 nf L xs x1 x2 x3 kk nn c = some r) (k0 : ∀ a, r = .inl a → (fun a : Nat × Nat × Int32 × Nat × Nat × Zc => ((a.2.2.2.1 ≤ 600000 ∧ a.2.2.2.2.1 ≤ 7302249) ∧ Zz p l e (zRm 18 704 600000 7302249) s m args below meth cd Q D cid B 4 a.2.2.2.1 a.2.2.2.2.1 a.2.2.2.2.2 18 [(0,  .retAddr 90), (1, .ref a.1), (2, .ref a.2.1), (3, .int a.2.2.1)] [])) a) (k1 : ∀ b, r = .inr b → (fun b : (Nat × Nat × Zc) ⊕ (Nat × Nat × Zc) => Sum.elim (fun b => ((b.1 ≤ 600000 ∧ b.2.1 ≤ 7302249) ∧ Zz p l e (zRm 18 704 600000 7302249) s m args below meth cd Q D cid B 4 b.1 b.2.1 b.2.2 435 [] [])) (fun b => ((b.1 ≤ 600000 ∧ b.2.1 ≤ 7302249) ∧ Zz p l e (zRm 18 704 600000 7302249) s m args below meth cd Q D cid B 4 b.1 b.2.1 b.2.2 690 [] [])) b) b) : ((kk ≤ 600000 ∧ nn ≤ 7302249) ∧ Zz p l e (zRm 18 704 600000 7302249) s m args below meth cd Q D cid B 4 kk nn c 18 [(0,  .retAddr 90), (1, .ref x1), (2, .ref x2), (3, .int x3)] []) := by
  unfold g_Law_law_18 at h
  refine zpr (z_iload_n X dd_law_18 rfl 3 rfl) ?_
  refine zpr (z_aloadX_n X dd_law_19 rfl 0 rfl) ?_
  refine zpr (z_slen X H dd_law_20) ?_
  refine zpr (z_bipush (v := 6) X dd_law_21 (by decide)) ?_
  refine zpr (z_isub X dd_law_23) ?_
  refine zpr2 (z_icmp_gt (tgt := 690) X dd_law_24 (by decide)) (fun q5 => ?_) (fun q5 => ?_)
  · rw [if_pos q5] at h
    refine zpr (z_sub [] rfl) ?_
    obtain rfl := Option.some.inj h
    exact k1 _ rfl
  · rw [if_neg q5] at h
    refine zpr (z_aloadX_n X dd_law_27 rfl 0 rfl) ?_
    refine zpr (z_iload_n X dd_law_28 rfl 3 rfl) ?_
    obtain ⟨v6, ev6, h⟩ := zb h
    refine zpr (z_sld X H dd_law_29 ev6) ?_
    refine zpr (z_bipush (v := 31) X dd_law_30 (by decide)) ?_
    refine zpr (z_iand X dd_law_32) ?_
    by_cases q7 : (v6 &&& 31) = 0
    · rw [if_pos q7] at h
      refine zpr (z_tableIn (tgt := 120) (off := 87) X dd_law_33 (by rw [q7]; decide) (by rw [q7]; decide) (by rw [q7]; rfl) (by decide)) ?_
      refine zpr (z_aload_n X dd_law_120 rfl 1 rfl) ?_
      refine zpr (z_aloadX_n X dd_law_121 rfl 0 rfl) ?_
      refine zpr (z_iload_n X dd_law_122 rfl 3 rfl) ?_
      refine zpr (z_iconst (v := 1) X dd_law_123 (by decide)) ?_
      refine zpr (z_iadd X dd_law_124) ?_
      obtain ⟨v8, ev8, h⟩ := zb h
      refine zpr (z_sld X H dd_law_125 ev8) ?_
      refine zpr (z_aloadX_n X dd_law_126 rfl 0 rfl) ?_
      refine zpr (z_iload_n X dd_law_127 rfl 3 rfl) ?_
      refine zpr (z_iconst (v := 2) X dd_law_128 (by decide)) ?_
      refine zpr (z_iadd X dd_law_129) ?_
      obtain ⟨v9, ev9, h⟩ := zb h
      refine zpr (z_sld X H dd_law_130 ev9) ?_
      refine zpr (z_aloadX_n X dd_law_131 rfl 0 rfl) ?_
      refine zpr (z_iload_n X dd_law_132 rfl 3 rfl) ?_
      refine zpr (z_iconst (v := 3) X dd_law_133 (by decide)) ?_
      refine zpr (z_iadd X dd_law_134) ?_
      obtain ⟨v10, ev10, h⟩ := zb h
      refine zpr (z_sld X H dd_law_135 ev10) ?_
      refine zpr (z_aloadX_n X dd_law_136 rfl 0 rfl) ?_
      refine zpr (z_iload_n X dd_law_137 rfl 3 rfl) ?_
      refine zpr (z_iconst (v := 4) X dd_law_138 (by decide)) ?_
      refine zpr (z_iadd X dd_law_139) ?_
      obtain ⟨v11, ev11, h⟩ := zb h
      refine zpr (z_sld X H dd_law_140 ev11) ?_
      refine zpr (z_aloadX_n X dd_law_141 rfl 0 rfl) ?_
      refine zpr (z_iload_n X dd_law_142 rfl 3 rfl) ?_
      refine zpr (z_iconst (v := 5) X dd_law_143 (by decide)) ?_
      refine zpr (z_iadd X dd_law_144) ?_
      obtain ⟨v12, ev12, h⟩ := zb h
      refine zpr (z_sld X H dd_law_145 ev12) ?_
      obtain ⟨w14, ew14, h⟩ := zb h
      obtain ⟨q13, eq13, h⟩ := zb h
      refine zpc (fun hm => z_callVi X [.int v8, .int v9, .int v10, .int v11, .int v12] rfl dd_law_146 (c_PQ_feed l eq13) (cwV 5 X.1.2.2.2.2 (zg_V km_723 km_724 km_725 km_125 km_726) rfl rfl rfl (by decide +kernel) ⟨Nat.le_of_ble_eq_true rfl, Nat.le_of_ble_eq_true rfl⟩) (zob_s ew14) kc_11 rfl (Nat.le_of_ble_eq_true rfl) hm) ?_
      refine zpr (z_pop X dd_law_149 rfl) ?_
      refine zpr (z_aload_n X dd_law_150 rfl 2 rfl) ?_
      refine zpr (z_aloadX_n X dd_law_151 rfl 0 rfl) ?_
      refine zpr (z_iload_n X dd_law_152 rfl 3 rfl) ?_
      refine zpr (z_iconst (v := 1) X dd_law_153 (by decide)) ?_
      refine zpr (z_iadd X dd_law_154) ?_
      obtain ⟨v15, ev15, h⟩ := zb h
      refine zpr (z_sld X H dd_law_155 ev15) ?_
      refine zpr (z_aloadX_n X dd_law_156 rfl 0 rfl) ?_
      refine zpr (z_iload_n X dd_law_157 rfl 3 rfl) ?_
      refine zpr (z_iconst (v := 2) X dd_law_158 (by decide)) ?_
      refine zpr (z_iadd X dd_law_159) ?_
      obtain ⟨v16, ev16, h⟩ := zb h
      refine zpr (z_sld X H dd_law_160 ev16) ?_
      refine zpr (z_aloadX_n X dd_law_161 rfl 0 rfl) ?_
      refine zpr (z_iload_n X dd_law_162 rfl 3 rfl) ?_
      refine zpr (z_iconst (v := 3) X dd_law_163 (by decide)) ?_
      refine zpr (z_iadd X dd_law_164) ?_
      obtain ⟨v17, ev17, h⟩ := zb h
      refine zpr (z_sld X H dd_law_165 ev17) ?_
      refine zpr (z_aloadX_n X dd_law_166 rfl 0 rfl) ?_
      refine zpr (z_iload_n X dd_law_167 rfl 3 rfl) ?_
      refine zpr (z_iconst (v := 4) X dd_law_168 (by decide)) ?_
      refine zpr (z_iadd X dd_law_169) ?_
      obtain ⟨v18, ev18, h⟩ := zb h
      refine zpr (z_sld X H dd_law_170 ev18) ?_
      refine zpr (z_aloadX_n X dd_law_171 rfl 0 rfl) ?_
      refine zpr (z_iload_n X dd_law_172 rfl 3 rfl) ?_
      refine zpr (z_iconst (v := 5) X dd_law_173 (by decide)) ?_
      refine zpr (z_iadd X dd_law_174) ?_
      obtain ⟨v19, ev19, h⟩ := zb h
      refine zpr (z_sld X H dd_law_175 ev19) ?_
      obtain ⟨w21, ew21, h⟩ := zb h
      obtain ⟨q20, eq20, h⟩ := zb h
      refine zpc (fun hm => z_callVi X [.int v15, .int v16, .int v17, .int v18, .int v19] rfl dd_law_176 (c_Mo_feed l eq20) (cwV 5 X.1.2.2.2.2 (zg_V km_1793 km_1794 km_1795 km_138 km_1796) rfl rfl rfl (by decide +kernel) ⟨Nat.le_of_ble_eq_true rfl, Nat.le_of_ble_eq_true rfl⟩) (zob_s ew21) kc_12 rfl (Nat.le_of_ble_eq_true rfl) hm) ?_
      refine zpr (z_pop X dd_law_179 rfl) ?_
      refine zpr (z_goto (tgt := 684) X dd_law_180 (by decide)) ?_
      exact t_Law_law_684 X H h k0 k1
    rw [if_neg q7] at h
    by_cases q22 : (v6 &&& 31) = 1
    · rw [if_pos q22] at h
      refine zpr (z_tableIn (tgt := 183) (off := 150) X dd_law_33 (by rw [q22]; decide) (by rw [q22]; decide) (by rw [q22]; rfl) (by decide)) ?_
      refine zpr (z_aload_n X dd_law_183 rfl 1 rfl) ?_
      refine zpr (z_aloadX_n X dd_law_184 rfl 0 rfl) ?_
      refine zpr (z_iload_n X dd_law_185 rfl 3 rfl) ?_
      refine zpr (z_iconst (v := 1) X dd_law_186 (by decide)) ?_
      refine zpr (z_iadd X dd_law_187) ?_
      obtain ⟨v23, ev23, h⟩ := zb h
      refine zpr (z_sld X H dd_law_188 ev23) ?_
      obtain ⟨w25, ew25, h⟩ := zb h
      obtain ⟨q24, eq24, h⟩ := zb h
      refine zpc (fun hm => z_callVi X [.int v23] rfl dd_law_189 (c_PQ_cut l eq24) (cwV 1 X.1.2.2.2.2 (zg_V km_731 km_732 km_733 km_125 km_734) rfl rfl rfl (by decide +kernel) ⟨Nat.le_of_ble_eq_true rfl, Nat.le_of_ble_eq_true rfl⟩) (zob_s ew25) kc_11 rfl (Nat.le_of_ble_eq_true rfl) hm) ?_
      refine zpr (z_pop X dd_law_192 rfl) ?_
      refine zpr (z_aload_n X dd_law_193 rfl 2 rfl) ?_
      refine zpr (z_aloadX_n X dd_law_194 rfl 0 rfl) ?_
      refine zpr (z_iload_n X dd_law_195 rfl 3 rfl) ?_
      refine zpr (z_iconst (v := 1) X dd_law_196 (by decide)) ?_
      refine zpr (z_iadd X dd_law_197) ?_
      obtain ⟨v26, ev26, h⟩ := zb h
      refine zpr (z_sld X H dd_law_198 ev26) ?_
      obtain ⟨w28, ew28, h⟩ := zb h
      obtain ⟨q27, eq27, h⟩ := zb h
      refine zpc (fun hm => z_callVi X [.int v26] rfl dd_law_199 (c_Mo_cut l eq27) (cwV 1 X.1.2.2.2.2 (zg_V km_1801 km_1802 km_1803 km_138 km_1804) rfl rfl rfl (by decide +kernel) ⟨Nat.le_of_ble_eq_true rfl, Nat.le_of_ble_eq_true rfl⟩) (zob_s ew28) kc_12 rfl (Nat.le_of_ble_eq_true rfl) hm) ?_
      refine zpr (z_pop X dd_law_202 rfl) ?_
      refine zpr (z_goto (tgt := 684) X dd_law_203 (by decide)) ?_
      exact t_Law_law_684 X H h k0 k1
    rw [if_neg q22] at h
    by_cases q29 : (v6 &&& 31) = 2
    · rw [if_pos q29] at h
      refine zpr (z_tableIn (tgt := 206) (off := 173) X dd_law_33 (by rw [q29]; decide) (by rw [q29]; decide) (by rw [q29]; rfl) (by decide)) ?_
      refine zpr (z_aload_n X dd_law_206 rfl 1 rfl) ?_
      refine zpr (z_aloadX_n X dd_law_207 rfl 0 rfl) ?_
      refine zpr (z_iload_n X dd_law_208 rfl 3 rfl) ?_
      refine zpr (z_iconst (v := 1) X dd_law_209 (by decide)) ?_
      refine zpr (z_iadd X dd_law_210) ?_
      obtain ⟨v30, ev30, h⟩ := zb h
      refine zpr (z_sld X H dd_law_211 ev30) ?_
      obtain ⟨w32, ew32, h⟩ := zb h
      obtain ⟨q31, eq31, h⟩ := zb h
      refine zpc (fun hm => z_callVi X [.int v30] rfl dd_law_212 (c_PQ_node l eq31) (cwV 1 X.1.2.2.2.2 (zg_V km_735 km_736 km_737 km_125 km_738) rfl rfl rfl (by decide +kernel) ⟨Nat.le_of_ble_eq_true rfl, Nat.le_of_ble_eq_true rfl⟩) (zob_s ew32) kc_11 rfl (Nat.le_of_ble_eq_true rfl) hm) ?_
      refine zpr (z_pop X dd_law_215 rfl) ?_
      refine zpr (z_aload_n X dd_law_216 rfl 2 rfl) ?_
      refine zpr (z_aloadX_n X dd_law_217 rfl 0 rfl) ?_
      refine zpr (z_iload_n X dd_law_218 rfl 3 rfl) ?_
      refine zpr (z_iconst (v := 1) X dd_law_219 (by decide)) ?_
      refine zpr (z_iadd X dd_law_220) ?_
      obtain ⟨v33, ev33, h⟩ := zb h
      refine zpr (z_sld X H dd_law_221 ev33) ?_
      obtain ⟨w35, ew35, h⟩ := zb h
      obtain ⟨q34, eq34, h⟩ := zb h
      refine zpc (fun hm => z_callVi X [.int v33] rfl dd_law_222 (c_Mo_node l eq34) (cwV 1 X.1.2.2.2.2 (zg_V km_1805 km_1806 km_1807 km_138 km_1808) rfl rfl rfl (by decide +kernel) ⟨Nat.le_of_ble_eq_true rfl, Nat.le_of_ble_eq_true rfl⟩) (zob_s ew35) kc_12 rfl (Nat.le_of_ble_eq_true rfl) hm) ?_
      refine zpr (z_pop X dd_law_225 rfl) ?_
      refine zpr (z_goto (tgt := 684) X dd_law_226 (by decide)) ?_
      exact t_Law_law_684 X H h k0 k1
    rw [if_neg q29] at h
    by_cases q36 : (v6 &&& 31) = 3
    · rw [if_pos q36] at h
      refine zpr (z_tableIn (tgt := 229) (off := 196) X dd_law_33 (by rw [q36]; decide) (by rw [q36]; decide) (by rw [q36]; rfl) (by decide)) ?_
      refine zpr (z_aload_n X dd_law_229 rfl 1 rfl) ?_
      refine zpr (z_aloadX_n X dd_law_230 rfl 0 rfl) ?_
      refine zpr (z_iload_n X dd_law_231 rfl 3 rfl) ?_
      refine zpr (z_iconst (v := 1) X dd_law_232 (by decide)) ?_
      refine zpr (z_iadd X dd_law_233) ?_
      obtain ⟨v37, ev37, h⟩ := zb h
      refine zpr (z_sld X H dd_law_234 ev37) ?_
      refine zpr (z_aloadX_n X dd_law_235 rfl 0 rfl) ?_
      refine zpr (z_iload_n X dd_law_236 rfl 3 rfl) ?_
      refine zpr (z_iconst (v := 2) X dd_law_237 (by decide)) ?_
      refine zpr (z_iadd X dd_law_238) ?_
      obtain ⟨v38, ev38, h⟩ := zb h
      refine zpr (z_sld X H dd_law_239 ev38) ?_
      obtain ⟨w40, ew40, h⟩ := zb h
      obtain ⟨q39, eq39, h⟩ := zb h
      refine zpc (fun hm => z_callVi X [.int v37, .int v38] rfl dd_law_240 (c_PQ_mark l eq39) (cwV 2 X.1.2.2.2.2 (zg_V km_743 km_744 km_745 km_125 km_746) rfl rfl rfl (by decide +kernel) ⟨Nat.le_of_ble_eq_true rfl, Nat.le_of_ble_eq_true rfl⟩) (zob_s ew40) kc_11 rfl (Nat.le_of_ble_eq_true rfl) hm) ?_
      refine zpr (z_pop X dd_law_243 rfl) ?_
      refine zpr (z_aload_n X dd_law_244 rfl 2 rfl) ?_
      refine zpr (z_aloadX_n X dd_law_245 rfl 0 rfl) ?_
      refine zpr (z_iload_n X dd_law_246 rfl 3 rfl) ?_
      refine zpr (z_iconst (v := 1) X dd_law_247 (by decide)) ?_
      refine zpr (z_iadd X dd_law_248) ?_
      obtain ⟨v41, ev41, h⟩ := zb h
      refine zpr (z_sld X H dd_law_249 ev41) ?_
      refine zpr (z_aloadX_n X dd_law_250 rfl 0 rfl) ?_
      refine zpr (z_iload_n X dd_law_251 rfl 3 rfl) ?_
      refine zpr (z_iconst (v := 2) X dd_law_252 (by decide)) ?_
      refine zpr (z_iadd X dd_law_253) ?_
      obtain ⟨v42, ev42, h⟩ := zb h
      refine zpr (z_sld X H dd_law_254 ev42) ?_
      obtain ⟨w44, ew44, h⟩ := zb h
      obtain ⟨q43, eq43, h⟩ := zb h
      refine zpc (fun hm => z_callVi X [.int v41, .int v42] rfl dd_law_255 (c_Mo_mark l eq43) (cwV 2 X.1.2.2.2.2 (zg_V km_1816 km_1817 km_1818 km_138 km_1819) rfl rfl rfl (by decide +kernel) ⟨Nat.le_of_ble_eq_true rfl, Nat.le_of_ble_eq_true rfl⟩) (zob_s ew44) kc_12 rfl (Nat.le_of_ble_eq_true rfl) hm) ?_
      refine zpr (z_pop X dd_law_258 rfl) ?_
      refine zpr (z_goto (tgt := 684) X dd_law_259 (by decide)) ?_
      exact t_Law_law_684 X H h k0 k1
    rw [if_neg q36] at h
    by_cases q45 : (v6 &&& 31) = 4
    · rw [if_pos q45] at h
      refine zpr (z_tableIn (tgt := 262) (off := 229) X dd_law_33 (by rw [q45]; decide) (by rw [q45]; decide) (by rw [q45]; rfl) (by decide)) ?_
      refine zpr (z_aload_n X dd_law_262 rfl 1 rfl) ?_
      refine zpr (z_aloadX_n X dd_law_263 rfl 0 rfl) ?_
      refine zpr (z_iload_n X dd_law_264 rfl 3 rfl) ?_
      refine zpr (z_iconst (v := 1) X dd_law_265 (by decide)) ?_
      refine zpr (z_iadd X dd_law_266) ?_
      obtain ⟨v46, ev46, h⟩ := zb h
      refine zpr (z_sld X H dd_law_267 ev46) ?_
      refine zpr (z_aloadX_n X dd_law_268 rfl 0 rfl) ?_
      refine zpr (z_iload_n X dd_law_269 rfl 3 rfl) ?_
      refine zpr (z_iconst (v := 2) X dd_law_270 (by decide)) ?_
      refine zpr (z_iadd X dd_law_271) ?_
      obtain ⟨v47, ev47, h⟩ := zb h
      refine zpr (z_sld X H dd_law_272 ev47) ?_
      refine zpr (z_aloadX_n X dd_law_273 rfl 0 rfl) ?_
      refine zpr (z_iload_n X dd_law_274 rfl 3 rfl) ?_
      refine zpr (z_iconst (v := 3) X dd_law_275 (by decide)) ?_
      refine zpr (z_iadd X dd_law_276) ?_
      obtain ⟨v48, ev48, h⟩ := zb h
      refine zpr (z_sld X H dd_law_277 ev48) ?_
      obtain ⟨w50, ew50, h⟩ := zb h
      obtain ⟨q49, eq49, h⟩ := zb h
      refine zpc (fun hm => z_callVi X [.int v46, .int v47, .int v48] rfl dd_law_278 (c_PQ_put l eq49) (cwV 3 X.1.2.2.2.2 (zg_V km_755 km_756 km_757 km_125 km_758) rfl rfl rfl (by decide +kernel) ⟨Nat.le_of_ble_eq_true rfl, Nat.le_of_ble_eq_true rfl⟩) (zob_s ew50) kc_11 rfl (Nat.le_of_ble_eq_true rfl) hm) ?_
      refine zpr (z_pop X dd_law_281 rfl) ?_
      refine zpr (z_aload_n X dd_law_282 rfl 2 rfl) ?_
      refine zpr (z_aloadX_n X dd_law_283 rfl 0 rfl) ?_
      refine zpr (z_iload_n X dd_law_284 rfl 3 rfl) ?_
      refine zpr (z_iconst (v := 1) X dd_law_285 (by decide)) ?_
      refine zpr (z_iadd X dd_law_286) ?_
      obtain ⟨v51, ev51, h⟩ := zb h
      refine zpr (z_sld X H dd_law_287 ev51) ?_
      refine zpr (z_aloadX_n X dd_law_288 rfl 0 rfl) ?_
      refine zpr (z_iload_n X dd_law_289 rfl 3 rfl) ?_
      refine zpr (z_iconst (v := 2) X dd_law_290 (by decide)) ?_
      refine zpr (z_iadd X dd_law_291) ?_
      obtain ⟨v52, ev52, h⟩ := zb h
      refine zpr (z_sld X H dd_law_292 ev52) ?_
      refine zpr (z_aloadX_n X dd_law_293 rfl 0 rfl) ?_
      refine zpr (z_iload_n X dd_law_294 rfl 3 rfl) ?_
      refine zpr (z_iconst (v := 3) X dd_law_295 (by decide)) ?_
      refine zpr (z_iadd X dd_law_296) ?_
      obtain ⟨v53, ev53, h⟩ := zb h
      refine zpr (z_sld X H dd_law_297 ev53) ?_
      obtain ⟨w55, ew55, h⟩ := zb h
      obtain ⟨q54, eq54, h⟩ := zb h
      refine zpc (fun hm => z_callVi X [.int v51, .int v52, .int v53] rfl dd_law_298 (c_Mo_put l eq54) (cwV 3 X.1.2.2.2.2 (zg_V km_1820 km_1821 km_1822 km_138 km_1823) rfl rfl rfl (by decide +kernel) ⟨Nat.le_of_ble_eq_true rfl, Nat.le_of_ble_eq_true rfl⟩) (zob_s ew55) kc_12 rfl (Nat.le_of_ble_eq_true rfl) hm) ?_
      refine zpr (z_pop X dd_law_301 rfl) ?_
      refine zpr (z_goto (tgt := 684) X dd_law_302 (by decide)) ?_
      exact t_Law_law_684 X H h k0 k1
    rw [if_neg q45] at h
    by_cases q56 : (v6 &&& 31) = 5
    · rw [if_pos q56] at h
      refine zpr (z_tableIn (tgt := 305) (off := 272) X dd_law_33 (by rw [q56]; decide) (by rw [q56]; decide) (by rw [q56]; rfl) (by decide)) ?_
      refine zpr (z_aload_n X dd_law_305 rfl 1 rfl) ?_
      refine zpr (z_aloadX_n X dd_law_306 rfl 0 rfl) ?_
      refine zpr (z_iload_n X dd_law_307 rfl 3 rfl) ?_
      refine zpr (z_iconst (v := 1) X dd_law_308 (by decide)) ?_
      refine zpr (z_iadd X dd_law_309) ?_
      obtain ⟨v57, ev57, h⟩ := zb h
      refine zpr (z_sld X H dd_law_310 ev57) ?_
      refine zpr (z_aloadX_n X dd_law_311 rfl 0 rfl) ?_
      refine zpr (z_iload_n X dd_law_312 rfl 3 rfl) ?_
      refine zpr (z_iconst (v := 2) X dd_law_313 (by decide)) ?_
      refine zpr (z_iadd X dd_law_314) ?_
      obtain ⟨v58, ev58, h⟩ := zb h
      refine zpr (z_sld X H dd_law_315 ev58) ?_
      refine zpr (z_aloadX_n X dd_law_316 rfl 0 rfl) ?_
      refine zpr (z_iload_n X dd_law_317 rfl 3 rfl) ?_
      refine zpr (z_iconst (v := 3) X dd_law_318 (by decide)) ?_
      refine zpr (z_iadd X dd_law_319) ?_
      obtain ⟨v59, ev59, h⟩ := zb h
      refine zpr (z_sld X H dd_law_320 ev59) ?_
      refine zpr (z_aloadX_n X dd_law_321 rfl 0 rfl) ?_
      refine zpr (z_iload_n X dd_law_322 rfl 3 rfl) ?_
      refine zpr (z_iconst (v := 4) X dd_law_323 (by decide)) ?_
      refine zpr (z_iadd X dd_law_324) ?_
      obtain ⟨v60, ev60, h⟩ := zb h
      refine zpr (z_sld X H dd_law_325 ev60) ?_
      obtain ⟨w62, ew62, h⟩ := zb h
      obtain ⟨q61, eq61, h⟩ := zb h
      refine zpc (fun hm => z_callVi X [.int v57, .int v58, .int v59, .int v60] rfl dd_law_326 (c_PQ_arc l eq61) (cwV 4 X.1.2.2.2.2 (zg_V km_763 km_764 km_765 km_125 km_766) rfl rfl rfl (by decide +kernel) ⟨Nat.le_of_ble_eq_true rfl, Nat.le_of_ble_eq_true rfl⟩) (zob_s ew62) kc_11 rfl (Nat.le_of_ble_eq_true rfl) hm) ?_
      refine zpr (z_pop X dd_law_329 rfl) ?_
      refine zpr (z_aload_n X dd_law_330 rfl 2 rfl) ?_
      refine zpr (z_aloadX_n X dd_law_331 rfl 0 rfl) ?_
      refine zpr (z_iload_n X dd_law_332 rfl 3 rfl) ?_
      refine zpr (z_iconst (v := 1) X dd_law_333 (by decide)) ?_
      refine zpr (z_iadd X dd_law_334) ?_
      obtain ⟨v63, ev63, h⟩ := zb h
      refine zpr (z_sld X H dd_law_335 ev63) ?_
      refine zpr (z_aloadX_n X dd_law_336 rfl 0 rfl) ?_
      refine zpr (z_iload_n X dd_law_337 rfl 3 rfl) ?_
      refine zpr (z_iconst (v := 2) X dd_law_338 (by decide)) ?_
      refine zpr (z_iadd X dd_law_339) ?_
      obtain ⟨v64, ev64, h⟩ := zb h
      refine zpr (z_sld X H dd_law_340 ev64) ?_
      refine zpr (z_aloadX_n X dd_law_341 rfl 0 rfl) ?_
      refine zpr (z_iload_n X dd_law_342 rfl 3 rfl) ?_
      refine zpr (z_iconst (v := 3) X dd_law_343 (by decide)) ?_
      refine zpr (z_iadd X dd_law_344) ?_
      obtain ⟨v65, ev65, h⟩ := zb h
      refine zpr (z_sld X H dd_law_345 ev65) ?_
      refine zpr (z_aloadX_n X dd_law_346 rfl 0 rfl) ?_
      refine zpr (z_iload_n X dd_law_347 rfl 3 rfl) ?_
      refine zpr (z_iconst (v := 4) X dd_law_348 (by decide)) ?_
      refine zpr (z_iadd X dd_law_349) ?_
      obtain ⟨v66, ev66, h⟩ := zb h
      refine zpr (z_sld X H dd_law_350 ev66) ?_
      obtain ⟨w68, ew68, h⟩ := zb h
      obtain ⟨q67, eq67, h⟩ := zb h
      refine zpc (fun hm => z_callVi X [.int v63, .int v64, .int v65, .int v66] rfl dd_law_351 (c_Mo_arc l eq67) (cwV 4 X.1.2.2.2.2 (zg_V km_1824 km_1825 km_1826 km_138 km_1827) rfl rfl rfl (by decide +kernel) ⟨Nat.le_of_ble_eq_true rfl, Nat.le_of_ble_eq_true rfl⟩) (zob_s ew68) kc_12 rfl (Nat.le_of_ble_eq_true rfl) hm) ?_
      refine zpr (z_pop X dd_law_354 rfl) ?_
      refine zpr (z_goto (tgt := 684) X dd_law_355 (by decide)) ?_
      exact t_Law_law_684 X H h k0 k1
    rw [if_neg q56] at h
    by_cases q69 : (v6 &&& 31) = 6
    · rw [if_pos q69] at h
      refine zpr (z_tableIn (tgt := 358) (off := 325) X dd_law_33 (by rw [q69]; decide) (by rw [q69]; decide) (by rw [q69]; rfl) (by decide)) ?_
      refine zpr (z_aload_n X dd_law_358 rfl 1 rfl) ?_
      refine zpr (z_aloadX_n X dd_law_359 rfl 0 rfl) ?_
      refine zpr (z_iload_n X dd_law_360 rfl 3 rfl) ?_
      refine zpr (z_iconst (v := 1) X dd_law_361 (by decide)) ?_
      refine zpr (z_iadd X dd_law_362) ?_
      obtain ⟨v70, ev70, h⟩ := zb h
      refine zpr (z_sld X H dd_law_363 ev70) ?_
      obtain ⟨w72, ew72, h⟩ := zb h
      obtain ⟨q71, eq71, h⟩ := zb h
      refine zpc (fun hm => z_callVi X [.int v70] rfl dd_law_364 (c_PQ_drop l eq71) (cwV 1 X.1.2.2.2.2 (zg_V km_771 km_772 km_773 km_125 km_774) rfl rfl rfl (by decide +kernel) ⟨Nat.le_of_ble_eq_true rfl, Nat.le_of_ble_eq_true rfl⟩) (zob_s ew72) kc_11 rfl (Nat.le_of_ble_eq_true rfl) hm) ?_
      refine zpr (z_pop X dd_law_367 rfl) ?_
      refine zpr (z_aload_n X dd_law_368 rfl 2 rfl) ?_
      refine zpr (z_aloadX_n X dd_law_369 rfl 0 rfl) ?_
      refine zpr (z_iload_n X dd_law_370 rfl 3 rfl) ?_
      refine zpr (z_iconst (v := 1) X dd_law_371 (by decide)) ?_
      refine zpr (z_iadd X dd_law_372) ?_
      obtain ⟨v73, ev73, h⟩ := zb h
      refine zpr (z_sld X H dd_law_373 ev73) ?_
      obtain ⟨w75, ew75, h⟩ := zb h
      obtain ⟨q74, eq74, h⟩ := zb h
      refine zpc (fun hm => z_callVi X [.int v73] rfl dd_law_374 (c_Mo_drop l eq74) (cwV 1 X.1.2.2.2.2 (zg_V km_1828 km_1829 km_1830 km_138 km_1831) rfl rfl rfl (by decide +kernel) ⟨Nat.le_of_ble_eq_true rfl, Nat.le_of_ble_eq_true rfl⟩) (zob_s ew75) kc_12 rfl (Nat.le_of_ble_eq_true rfl) hm) ?_
      refine zpr (z_pop X dd_law_377 rfl) ?_
      refine zpr (z_goto (tgt := 684) X dd_law_378 (by decide)) ?_
      exact t_Law_law_684 X H h k0 k1
    rw [if_neg q69] at h
    by_cases q76 : (v6 &&& 31) = 7
    · rw [if_pos q76] at h
      refine zpr (z_tableIn (tgt := 381) (off := 348) X dd_law_33 (by rw [q76]; decide) (by rw [q76]; decide) (by rw [q76]; rfl) (by decide)) ?_
      refine zpr (z_aload_n X dd_law_381 rfl 1 rfl) ?_
      refine zpr (z_aloadX_n X dd_law_382 rfl 0 rfl) ?_
      refine zpr (z_iload_n X dd_law_383 rfl 3 rfl) ?_
      refine zpr (z_iconst (v := 1) X dd_law_384 (by decide)) ?_
      refine zpr (z_iadd X dd_law_385) ?_
      obtain ⟨v77, ev77, h⟩ := zb h
      refine zpr (z_sld X H dd_law_386 ev77) ?_
      refine zpr (z_aloadX_n X dd_law_387 rfl 0 rfl) ?_
      refine zpr (z_iload_n X dd_law_388 rfl 3 rfl) ?_
      refine zpr (z_iconst (v := 2) X dd_law_389 (by decide)) ?_
      refine zpr (z_iadd X dd_law_390) ?_
      obtain ⟨v78, ev78, h⟩ := zb h
      refine zpr (z_sld X H dd_law_391 ev78) ?_
      obtain ⟨w80, ew80, h⟩ := zb h
      obtain ⟨q79, eq79, h⟩ := zb h
      refine zpc (fun hm => z_callVi X [.int v77, .int v78] rfl dd_law_392 (c_PQ_told l eq79) (cwV 2 X.1.2.2.2.2 (zg_V km_783 km_784 km_785 km_125 km_786) rfl rfl rfl (by decide +kernel) ⟨Nat.le_of_ble_eq_true rfl, Nat.le_of_ble_eq_true rfl⟩) (zob_s ew80) kc_11 rfl (Nat.le_of_ble_eq_true rfl) hm) ?_
      refine zpr (z_pop X dd_law_395 rfl) ?_
      refine zpr (z_aload_n X dd_law_396 rfl 2 rfl) ?_
      refine zpr (z_aloadX_n X dd_law_397 rfl 0 rfl) ?_
      refine zpr (z_iload_n X dd_law_398 rfl 3 rfl) ?_
      refine zpr (z_iconst (v := 1) X dd_law_399 (by decide)) ?_
      refine zpr (z_iadd X dd_law_400) ?_
      obtain ⟨v81, ev81, h⟩ := zb h
      refine zpr (z_sld X H dd_law_401 ev81) ?_
      refine zpr (z_aloadX_n X dd_law_402 rfl 0 rfl) ?_
      refine zpr (z_iload_n X dd_law_403 rfl 3 rfl) ?_
      refine zpr (z_iconst (v := 2) X dd_law_404 (by decide)) ?_
      refine zpr (z_iadd X dd_law_405) ?_
      obtain ⟨v82, ev82, h⟩ := zb h
      refine zpr (z_sld X H dd_law_406 ev82) ?_
      obtain ⟨w84, ew84, h⟩ := zb h
      obtain ⟨q83, eq83, h⟩ := zb h
      refine zpc (fun hm => z_callVi X [.int v81, .int v82] rfl dd_law_407 (c_Mo_told l eq83) (cwV 2 X.1.2.2.2.2 (zg_V km_1832 km_1833 km_1834 km_138 km_1835) rfl rfl rfl (by decide +kernel) ⟨Nat.le_of_ble_eq_true rfl, Nat.le_of_ble_eq_true rfl⟩) (zob_s ew84) kc_12 rfl (Nat.le_of_ble_eq_true rfl) hm) ?_
      refine zpr (z_pop X dd_law_410 rfl) ?_
      refine zpr (z_goto (tgt := 684) X dd_law_411 (by decide)) ?_
      exact t_Law_law_684 X H h k0 k1
    rw [if_neg q76] at h
    by_cases q85 : (v6 &&& 31) = 8
    · rw [if_pos q85] at h
      refine zpr (z_tableIn (tgt := 414) (off := 381) X dd_law_33 (by rw [q85]; decide) (by rw [q85]; decide) (by rw [q85]; rfl) (by decide)) ?_
      refine zpr (z_aload_n X dd_law_414 rfl 1 rfl) ?_
      refine zpr (z_aloadX_n X dd_law_415 rfl 0 rfl) ?_
      refine zpr (z_iload_n X dd_law_416 rfl 3 rfl) ?_
      refine zpr (z_iconst (v := 1) X dd_law_417 (by decide)) ?_
      refine zpr (z_iadd X dd_law_418) ?_
      obtain ⟨v86, ev86, h⟩ := zb h
      refine zpr (z_sld X H dd_law_419 ev86) ?_
      obtain ⟨w88, ew88, h⟩ := zb h
      obtain ⟨q87, eq87, h⟩ := zb h
      refine zpc (fun hm => z_callVi X [.int v86] rfl dd_law_420 (c_PQ_bare l eq87) (cwV 1 X.1.2.2.2.2 (zg_V km_799 km_800 km_801 km_125 km_802) rfl rfl rfl (by decide +kernel) ⟨Nat.le_of_ble_eq_true rfl, Nat.le_of_ble_eq_true rfl⟩) (zob_s ew88) kc_11 rfl (Nat.le_of_ble_eq_true rfl) hm) ?_
      refine zpr (z_aload_n X dd_law_423 rfl 2 rfl) ?_
      refine zpr (z_aloadX_n X dd_law_424 rfl 0 rfl) ?_
      refine zpr (z_iload_n X dd_law_425 rfl 3 rfl) ?_
      refine zpr (z_iconst (v := 1) X dd_law_426 (by decide)) ?_
      refine zpr (z_iadd X dd_law_427) ?_
      obtain ⟨v89, ev89, h⟩ := zb h
      refine zpr (z_sld X H dd_law_428 ev89) ?_
      obtain ⟨w91, ew91, h⟩ := zb h
      obtain ⟨q90, eq90, h⟩ := zb h
      refine zpc (fun hm => z_callVi X [.int v89] rfl dd_law_429 (c_Mo_bare l eq90) (cwV 1 X.1.2.2.2.2 (zg_V km_1840 km_1841 km_1842 km_138 km_1843) rfl rfl rfl (by decide +kernel) ⟨Nat.le_of_ble_eq_true rfl, Nat.le_of_ble_eq_true rfl⟩) (zob_s ew91) kc_12 rfl (Nat.le_of_ble_eq_true rfl) hm) ?_
      refine zpr2 (z_icmp_eq (tgt := 684) X dd_law_432 (by decide)) (fun q92 => ?_) (fun q92 => ?_)
      · rw [if_pos q92] at h
        exact t_Law_law_684 X H h k0 k1
      · rw [if_neg q92] at h
        refine zpr (z_sub [] rfl) ?_
        obtain rfl := Option.some.inj h
        exact k1 _ rfl
    rw [if_neg q85] at h
    by_cases q93 : (v6 &&& 31) = 9
    · rw [if_pos q93] at h
      refine zpr (z_tableIn (tgt := 437) (off := 404) X dd_law_33 (by rw [q93]; decide) (by rw [q93]; decide) (by rw [q93]; rfl) (by decide)) ?_
      refine zpr (z_aload_n X dd_law_437 rfl 1 rfl) ?_
      refine zpr (z_aloadX_n X dd_law_438 rfl 0 rfl) ?_
      refine zpr (z_iload_n X dd_law_439 rfl 3 rfl) ?_
      refine zpr (z_iconst (v := 1) X dd_law_440 (by decide)) ?_
      refine zpr (z_iadd X dd_law_441) ?_
      obtain ⟨v94, ev94, h⟩ := zb h
      refine zpr (z_sld X H dd_law_442 ev94) ?_
      obtain ⟨w96, ew96, h⟩ := zb h
      obtain ⟨q95, eq95, h⟩ := zb h
      refine zpc (fun hm => z_callVi X [.int v94] rfl dd_law_443 (c_PQ_question l eq95) (cwV 1 X.1.2.2.2.2 (zg_V km_808 km_809 km_810 km_125 km_811) rfl rfl rfl (by decide +kernel) ⟨Nat.le_of_ble_eq_true rfl, Nat.le_of_ble_eq_true rfl⟩) (zob_s ew96) kc_11 rfl (Nat.le_of_ble_eq_true rfl) hm) ?_
      refine zpr (z_pop X dd_law_446 rfl) ?_
      refine zpr (z_aload_n X dd_law_447 rfl 2 rfl) ?_
      refine zpr (z_aloadX_n X dd_law_448 rfl 0 rfl) ?_
      refine zpr (z_iload_n X dd_law_449 rfl 3 rfl) ?_
      refine zpr (z_iconst (v := 1) X dd_law_450 (by decide)) ?_
      refine zpr (z_iadd X dd_law_451) ?_
      obtain ⟨v97, ev97, h⟩ := zb h
      refine zpr (z_sld X H dd_law_452 ev97) ?_
      obtain ⟨w99, ew99, h⟩ := zb h
      obtain ⟨q98, eq98, h⟩ := zb h
      refine zpc (fun hm => z_callVi X [.int v97] rfl dd_law_453 (c_Mo_question l eq98) (cwV 1 X.1.2.2.2.2 (zg_V km_1844 km_1845 km_1846 km_138 km_1847) rfl rfl rfl (by decide +kernel) ⟨Nat.le_of_ble_eq_true rfl, Nat.le_of_ble_eq_true rfl⟩) (zob_s ew99) kc_12 rfl (Nat.le_of_ble_eq_true rfl) hm) ?_
      refine zpr (z_pop X dd_law_456 rfl) ?_
      refine zpr (z_goto (tgt := 684) X dd_law_457 (by decide)) ?_
      exact t_Law_law_684 X H h k0 k1
    rw [if_neg q93] at h
    by_cases q100 : (v6 &&& 31) = 10
    · rw [if_pos q100] at h
      refine zpr (z_tableIn (tgt := 460) (off := 427) X dd_law_33 (by rw [q100]; decide) (by rw [q100]; decide) (by rw [q100]; rfl) (by decide)) ?_
      refine zpr (z_aload_n X dd_law_460 rfl 1 rfl) ?_
      obtain ⟨w102, ew102, h⟩ := zb h
      obtain ⟨q101, eq101, h⟩ := zb h
      refine zpc (fun hm => z_callVi X [] rfl dd_law_461 (c_PQ_rule l eq101) (cwV 0 X.1.2.2.2.2 (zg_V km_1230 km_1231 km_1232 km_125 km_1233) rfl rfl rfl (by decide +kernel) ⟨Nat.le_of_ble_eq_true rfl, Nat.le_of_ble_eq_true rfl⟩) (zob_s ew102) kc_11 rfl (Nat.le_of_ble_eq_true rfl) hm) ?_
      refine zpr (z_pop X dd_law_464 rfl) ?_
      refine zpr (z_aload_n X dd_law_465 rfl 2 rfl) ?_
      obtain ⟨w104, ew104, h⟩ := zb h
      obtain ⟨q103, eq103, h⟩ := zb h
      refine zpc (fun hm => z_callVi X [] rfl dd_law_466 (c_Mo_rule l eq103) (cwV 0 X.1.2.2.2.2 (zg_V km_2047 km_2048 km_2049 km_138 km_2050) rfl rfl rfl (by decide +kernel) ⟨Nat.le_of_ble_eq_true rfl, Nat.le_of_ble_eq_true rfl⟩) (zob_s ew104) kc_12 rfl (Nat.le_of_ble_eq_true rfl) hm) ?_
      refine zpr (z_pop X dd_law_469 rfl) ?_
      refine zpr (z_goto (tgt := 684) X dd_law_470 (by decide)) ?_
      exact t_Law_law_684 X H h k0 k1
    rw [if_neg q100] at h
    by_cases q105 : (v6 &&& 31) = 11
    · rw [if_pos q105] at h
      refine zpr (z_tableIn (tgt := 473) (off := 440) X dd_law_33 (by rw [q105]; decide) (by rw [q105]; decide) (by rw [q105]; rfl) (by decide)) ?_
      refine zpr (z_aload_n X dd_law_473 rfl 1 rfl) ?_
      refine zpr (z_aloadX_n X dd_law_474 rfl 0 rfl) ?_
      refine zpr (z_iload_n X dd_law_475 rfl 3 rfl) ?_
      refine zpr (z_iconst (v := 1) X dd_law_476 (by decide)) ?_
      refine zpr (z_iadd X dd_law_477) ?_
      obtain ⟨v106, ev106, h⟩ := zb h
      refine zpr (z_sld X H dd_law_478 ev106) ?_
      obtain ⟨w108, ew108, h⟩ := zb h
      obtain ⟨q107, eq107, h⟩ := zb h
      refine zpc (fun hm => z_callVi X [.int v106] rfl dd_law_479 (c_PQ_forget l eq107) (cwV 1 X.1.2.2.2.2 (zg_V km_1238 km_1239 km_1240 km_125 km_1241) rfl rfl rfl (by decide +kernel) ⟨Nat.le_of_ble_eq_true rfl, Nat.le_of_ble_eq_true rfl⟩) (zob_s ew108) kc_11 rfl (Nat.le_of_ble_eq_true rfl) hm) ?_
      refine zpr (z_pop X dd_law_482 rfl) ?_
      refine zpr (z_aload_n X dd_law_483 rfl 2 rfl) ?_
      refine zpr (z_aloadX_n X dd_law_484 rfl 0 rfl) ?_
      refine zpr (z_iload_n X dd_law_485 rfl 3 rfl) ?_
      refine zpr (z_iconst (v := 1) X dd_law_486 (by decide)) ?_
      refine zpr (z_iadd X dd_law_487) ?_
      obtain ⟨v109, ev109, h⟩ := zb h
      refine zpr (z_sld X H dd_law_488 ev109) ?_
      obtain ⟨w111, ew111, h⟩ := zb h
      obtain ⟨q110, eq110, h⟩ := zb h
      refine zpc (fun hm => z_callVi X [.int v109] rfl dd_law_489 (c_Mo_forget l eq110) (cwV 1 X.1.2.2.2.2 (zg_V km_2059 km_2060 km_2061 km_138 km_2062) rfl rfl rfl (by decide +kernel) ⟨Nat.le_of_ble_eq_true rfl, Nat.le_of_ble_eq_true rfl⟩) (zob_s ew111) kc_12 rfl (Nat.le_of_ble_eq_true rfl) hm) ?_
      refine zpr (z_pop X dd_law_492 rfl) ?_
      refine zpr (z_goto (tgt := 684) X dd_law_493 (by decide)) ?_
      exact t_Law_law_684 X H h k0 k1
    rw [if_neg q105] at h
    by_cases q112 : (v6 &&& 31) = 12
    · rw [if_pos q112] at h
      refine zpr (z_tableIn (tgt := 496) (off := 463) X dd_law_33 (by rw [q112]; decide) (by rw [q112]; decide) (by rw [q112]; rfl) (by decide)) ?_
      refine zpr (z_aload_n X dd_law_496 rfl 1 rfl) ?_
      obtain ⟨w114, ew114, h⟩ := zb h
      obtain ⟨q113, eq113, h⟩ := zb h
      refine zpc (fun hm => z_callVi X [] rfl dd_law_497 (c_PQ_place l eq113) (cwV 0 X.1.2.2.2.2 (zg_V km_1246 km_1247 km_1248 km_125 km_1249) rfl rfl rfl (by decide +kernel) ⟨Nat.le_of_ble_eq_true rfl, Nat.le_of_ble_eq_true rfl⟩) (zob_s ew114) kc_11 rfl (Nat.le_of_ble_eq_true rfl) hm) ?_
      refine zpr (z_pop X dd_law_500 rfl) ?_
      refine zpr (z_aload_n X dd_law_501 rfl 2 rfl) ?_
      obtain ⟨w116, ew116, h⟩ := zb h
      obtain ⟨q115, eq115, h⟩ := zb h
      refine zpc (fun hm => z_callVi X [] rfl dd_law_502 (c_Mo_place l eq115) (cwV 0 X.1.2.2.2.2 (zg_V km_2063 km_2064 km_2065 km_138 km_2066) rfl rfl rfl (by decide +kernel) ⟨Nat.le_of_ble_eq_true rfl, Nat.le_of_ble_eq_true rfl⟩) (zob_s ew116) kc_12 rfl (Nat.le_of_ble_eq_true rfl) hm) ?_
      refine zpr (z_pop X dd_law_505 rfl) ?_
      refine zpr (z_goto (tgt := 684) X dd_law_506 (by decide)) ?_
      exact t_Law_law_684 X H h k0 k1
    rw [if_neg q112] at h
    by_cases q117 : (v6 &&& 31) = 13
    · rw [if_pos q117] at h
      refine zpr (z_tableIn (tgt := 509) (off := 476) X dd_law_33 (by rw [q117]; decide) (by rw [q117]; decide) (by rw [q117]; rfl) (by decide)) ?_
      refine zpr (z_aload_n X dd_law_509 rfl 1 rfl) ?_
      refine zpr (z_aloadX_n X dd_law_510 rfl 0 rfl) ?_
      refine zpr (z_iload_n X dd_law_511 rfl 3 rfl) ?_
      refine zpr (z_iconst (v := 1) X dd_law_512 (by decide)) ?_
      refine zpr (z_iadd X dd_law_513) ?_
      obtain ⟨v118, ev118, h⟩ := zb h
      refine zpr (z_sld X H dd_law_514 ev118) ?_
      obtain ⟨w120, ew120, h⟩ := zb h
      obtain ⟨q119, eq119, h⟩ := zb h
      obtain ⟨hl9, hz9⟩ := t_Law_law_518 X H h k0 k1
      exact ⟨⟨by have := hl9.1; omega, by have := hl9.2; omega⟩, z_callVi X [.int v118] rfl dd_law_515 (c_PQ_ask l eq119) (cwV 1 X.1.2.2.2.2 (zg_V km_1250 km_1251 km_1252 km_125 km_1253) rfl rfl rfl (by decide +kernel) ⟨Nat.le_of_ble_eq_true rfl, Nat.le_of_ble_eq_true rfl⟩) (zob_s ew120) kc_11 rfl (Nat.le_of_ble_eq_true rfl) hl9 hz9⟩
    rw [if_neg q117] at h
    by_cases q124 : (v6 &&& 31) = 14
    · rw [if_pos q124] at h
      refine zpr (z_tableIn (tgt := 532) (off := 499) X dd_law_33 (by rw [q124]; decide) (by rw [q124]; decide) (by rw [q124]; rfl) (by decide)) ?_
      refine zpr (z_aload_n X dd_law_532 rfl 1 rfl) ?_
      refine zpr (z_aloadX_n X dd_law_533 rfl 0 rfl) ?_
      refine zpr (z_iload_n X dd_law_534 rfl 3 rfl) ?_
      refine zpr (z_iconst (v := 1) X dd_law_535 (by decide)) ?_
      refine zpr (z_iadd X dd_law_536) ?_
      obtain ⟨v125, ev125, h⟩ := zb h
      refine zpr (z_sld X H dd_law_537 ev125) ?_
      refine zpr (z_aloadX_n X dd_law_538 rfl 0 rfl) ?_
      refine zpr (z_iload_n X dd_law_539 rfl 3 rfl) ?_
      refine zpr (z_iconst (v := 2) X dd_law_540 (by decide)) ?_
      refine zpr (z_iadd X dd_law_541) ?_
      obtain ⟨v126, ev126, h⟩ := zb h
      refine zpr (z_sld X H dd_law_542 ev126) ?_
      refine zpr (z_aloadX_n X dd_law_543 rfl 0 rfl) ?_
      refine zpr (z_iload_n X dd_law_544 rfl 3 rfl) ?_
      refine zpr (z_iconst (v := 3) X dd_law_545 (by decide)) ?_
      refine zpr (z_iadd X dd_law_546) ?_
      obtain ⟨v127, ev127, h⟩ := zb h
      refine zpr (z_sld X H dd_law_547 ev127) ?_
      obtain ⟨w129, ew129, h⟩ := zb h
      obtain ⟨q128, eq128, h⟩ := zb h
      refine zpc (fun hm => z_callVi X [.int v125, .int v126, .int v127] rfl dd_law_548 (c_PQ_answer l eq128) (cwV 3 X.1.2.2.2.2 (zg_V km_1482 km_1483 km_1484 km_125 km_1485) rfl rfl rfl (by decide +kernel) ⟨Nat.le_of_ble_eq_true rfl, Nat.le_of_ble_eq_true rfl⟩) (zob_s ew129) kc_11 rfl (Nat.le_of_ble_eq_true rfl) hm) ?_
      refine zpr (z_pop X dd_law_551 rfl) ?_
      refine zpr (z_aload_n X dd_law_552 rfl 2 rfl) ?_
      refine zpr (z_aloadX_n X dd_law_553 rfl 0 rfl) ?_
      refine zpr (z_iload_n X dd_law_554 rfl 3 rfl) ?_
      refine zpr (z_iconst (v := 1) X dd_law_555 (by decide)) ?_
      refine zpr (z_iadd X dd_law_556) ?_
      obtain ⟨v130, ev130, h⟩ := zb h
      refine zpr (z_sld X H dd_law_557 ev130) ?_
      refine zpr (z_aloadX_n X dd_law_558 rfl 0 rfl) ?_
      refine zpr (z_iload_n X dd_law_559 rfl 3 rfl) ?_
      refine zpr (z_iconst (v := 2) X dd_law_560 (by decide)) ?_
      refine zpr (z_iadd X dd_law_561) ?_
      obtain ⟨v131, ev131, h⟩ := zb h
      refine zpr (z_sld X H dd_law_562 ev131) ?_
      refine zpr (z_aloadX_n X dd_law_563 rfl 0 rfl) ?_
      refine zpr (z_iload_n X dd_law_564 rfl 3 rfl) ?_
      refine zpr (z_iconst (v := 3) X dd_law_565 (by decide)) ?_
      refine zpr (z_iadd X dd_law_566) ?_
      obtain ⟨v132, ev132, h⟩ := zb h
      refine zpr (z_sld X H dd_law_567 ev132) ?_
      obtain ⟨w134, ew134, h⟩ := zb h
      obtain ⟨q133, eq133, h⟩ := zb h
      refine zpc (fun hm => z_callVi X [.int v130, .int v131, .int v132] rfl dd_law_568 (c_Mo_answer l eq133) (cwV 3 X.1.2.2.2.2 (zg_V km_2159 km_2160 km_2161 km_138 km_2162) rfl rfl rfl (by decide +kernel) ⟨Nat.le_of_ble_eq_true rfl, Nat.le_of_ble_eq_true rfl⟩) (zob_s ew134) kc_12 rfl (Nat.le_of_ble_eq_true rfl) hm) ?_
      refine zpr (z_pop X dd_law_571 rfl) ?_
      refine zpr (z_goto (tgt := 684) X dd_law_572 (by decide)) ?_
      exact t_Law_law_684 X H h k0 k1
    rw [if_neg q124] at h
    by_cases q135 : (v6 &&& 31) = 15
    · rw [if_pos q135] at h
      refine zpr (z_tableIn (tgt := 575) (off := 542) X dd_law_33 (by rw [q135]; decide) (by rw [q135]; decide) (by rw [q135]; rfl) (by decide)) ?_
      refine zpr (z_aload_n X dd_law_575 rfl 1 rfl) ?_
      refine zpr (z_aloadX_n X dd_law_576 rfl 0 rfl) ?_
      refine zpr (z_iload_n X dd_law_577 rfl 3 rfl) ?_
      refine zpr (z_iconst (v := 1) X dd_law_578 (by decide)) ?_
      refine zpr (z_iadd X dd_law_579) ?_
      obtain ⟨v136, ev136, h⟩ := zb h
      refine zpr (z_sld X H dd_law_580 ev136) ?_
      refine zpr (z_aloadX_n X dd_law_581 rfl 0 rfl) ?_
      refine zpr (z_iload_n X dd_law_582 rfl 3 rfl) ?_
      refine zpr (z_iconst (v := 2) X dd_law_583 (by decide)) ?_
      refine zpr (z_iadd X dd_law_584) ?_
      obtain ⟨v137, ev137, h⟩ := zb h
      refine zpr (z_sld X H dd_law_585 ev137) ?_
      refine zpr (z_aloadX_n X dd_law_586 rfl 0 rfl) ?_
      refine zpr (z_iload_n X dd_law_587 rfl 3 rfl) ?_
      refine zpr (z_iconst (v := 3) X dd_law_588 (by decide)) ?_
      refine zpr (z_iadd X dd_law_589) ?_
      obtain ⟨v138, ev138, h⟩ := zb h
      refine zpr (z_sld X H dd_law_590 ev138) ?_
      obtain ⟨w140, ew140, h⟩ := zb h
      obtain ⟨q139, eq139, h⟩ := zb h
      refine zpc (fun hm => z_callVi X [.int v136, .int v137, .int v138] rfl dd_law_591 (c_PQ_leads l eq139) (cwV 3 X.1.2.2.2.2 (zg_V km_1488 km_1489 km_1490 km_125 km_1491) rfl rfl rfl (by decide +kernel) ⟨Nat.le_of_ble_eq_true rfl, Nat.le_of_ble_eq_true rfl⟩) (zob_s ew140) kc_11 rfl (Nat.le_of_ble_eq_true rfl) hm) ?_
      refine zpr (z_pop X dd_law_594 rfl) ?_
      refine zpr (z_aload_n X dd_law_595 rfl 2 rfl) ?_
      refine zpr (z_aloadX_n X dd_law_596 rfl 0 rfl) ?_
      refine zpr (z_iload_n X dd_law_597 rfl 3 rfl) ?_
      refine zpr (z_iconst (v := 1) X dd_law_598 (by decide)) ?_
      refine zpr (z_iadd X dd_law_599) ?_
      obtain ⟨v141, ev141, h⟩ := zb h
      refine zpr (z_sld X H dd_law_600 ev141) ?_
      refine zpr (z_aloadX_n X dd_law_601 rfl 0 rfl) ?_
      refine zpr (z_iload_n X dd_law_602 rfl 3 rfl) ?_
      refine zpr (z_iconst (v := 2) X dd_law_603 (by decide)) ?_
      refine zpr (z_iadd X dd_law_604) ?_
      obtain ⟨v142, ev142, h⟩ := zb h
      refine zpr (z_sld X H dd_law_605 ev142) ?_
      refine zpr (z_aloadX_n X dd_law_606 rfl 0 rfl) ?_
      refine zpr (z_iload_n X dd_law_607 rfl 3 rfl) ?_
      refine zpr (z_iconst (v := 3) X dd_law_608 (by decide)) ?_
      refine zpr (z_iadd X dd_law_609) ?_
      obtain ⟨v143, ev143, h⟩ := zb h
      refine zpr (z_sld X H dd_law_610 ev143) ?_
      obtain ⟨w145, ew145, h⟩ := zb h
      obtain ⟨q144, eq144, h⟩ := zb h
      refine zpc (fun hm => z_callVi X [.int v141, .int v142, .int v143] rfl dd_law_611 (c_Mo_leads l eq144) (cwV 3 X.1.2.2.2.2 (zg_V km_2164 km_2165 km_2166 km_138 km_2167) rfl rfl rfl (by decide +kernel) ⟨Nat.le_of_ble_eq_true rfl, Nat.le_of_ble_eq_true rfl⟩) (zob_s ew145) kc_12 rfl (Nat.le_of_ble_eq_true rfl) hm) ?_
      refine zpr (z_pop X dd_law_614 rfl) ?_
      refine zpr (z_goto (tgt := 684) X dd_law_615 (by decide)) ?_
      exact t_Law_law_684 X H h k0 k1
    rw [if_neg q135] at h
    by_cases q146 : (v6 &&& 31) = 16
    · rw [if_pos q146] at h
      refine zpr (z_tableIn (tgt := 618) (off := 585) X dd_law_33 (by rw [q146]; decide) (by rw [q146]; decide) (by rw [q146]; rfl) (by decide)) ?_
      refine zpr (z_aload_n X dd_law_618 rfl 1 rfl) ?_
      refine zpr (z_aloadX_n X dd_law_619 rfl 0 rfl) ?_
      refine zpr (z_iload_n X dd_law_620 rfl 3 rfl) ?_
      refine zpr (z_iconst (v := 1) X dd_law_621 (by decide)) ?_
      refine zpr (z_iadd X dd_law_622) ?_
      obtain ⟨v147, ev147, h⟩ := zb h
      refine zpr (z_sld X H dd_law_623 ev147) ?_
      obtain ⟨w149, ew149, h⟩ := zb h
      obtain ⟨q148, eq148, h⟩ := zb h
      refine zpc (fun hm => z_callVi X [.int v147] rfl dd_law_624 (c_PQ_pairs l eq148) (cwV 1 X.1.2.2.2.2 (zg_V km_1497 km_1498 km_1499 km_125 km_1500) rfl rfl rfl (by decide +kernel) ⟨Nat.le_of_ble_eq_true rfl, Nat.le_of_ble_eq_true rfl⟩) (zob_s ew149) kc_11 rfl (Nat.le_of_ble_eq_true rfl) hm) ?_
      refine zpr (z_pop X dd_law_627 rfl) ?_
      refine zpr (z_aload_n X dd_law_628 rfl 2 rfl) ?_
      refine zpr (z_aloadX_n X dd_law_629 rfl 0 rfl) ?_
      refine zpr (z_iload_n X dd_law_630 rfl 3 rfl) ?_
      refine zpr (z_iconst (v := 1) X dd_law_631 (by decide)) ?_
      refine zpr (z_iadd X dd_law_632) ?_
      obtain ⟨v150, ev150, h⟩ := zb h
      refine zpr (z_sld X H dd_law_633 ev150) ?_
      obtain ⟨w152, ew152, h⟩ := zb h
      obtain ⟨q151, eq151, h⟩ := zb h
      refine zpc (fun hm => z_callVi X [.int v150] rfl dd_law_634 (c_Mo_pairs l eq151) (cwV 1 X.1.2.2.2.2 (zg_V km_2168 km_2169 km_2170 km_138 km_2171) rfl rfl rfl (by decide +kernel) ⟨Nat.le_of_ble_eq_true rfl, Nat.le_of_ble_eq_true rfl⟩) (zob_s ew152) kc_12 rfl (Nat.le_of_ble_eq_true rfl) hm) ?_
      refine zpr (z_pop X dd_law_637 rfl) ?_
      refine zpr (z_goto (tgt := 684) X dd_law_638 (by decide)) ?_
      exact t_Law_law_684 X H h k0 k1
    rw [if_neg q146] at h
    by_cases q153 : (v6 &&& 31) = 17
    · rw [if_pos q153] at h
      refine zpr (z_tableIn (tgt := 641) (off := 608) X dd_law_33 (by rw [q153]; decide) (by rw [q153]; decide) (by rw [q153]; rfl) (by decide)) ?_
      refine zpr (z_aload_n X dd_law_641 rfl 1 rfl) ?_
      refine zpr (z_aloadX_n X dd_law_642 rfl 0 rfl) ?_
      refine zpr (z_iload_n X dd_law_643 rfl 3 rfl) ?_
      refine zpr (z_iconst (v := 1) X dd_law_644 (by decide)) ?_
      refine zpr (z_iadd X dd_law_645) ?_
      obtain ⟨v154, ev154, h⟩ := zb h
      refine zpr (z_sld X H dd_law_646 ev154) ?_
      refine zpr (z_aloadX_n X dd_law_647 rfl 0 rfl) ?_
      refine zpr (z_iload_n X dd_law_648 rfl 3 rfl) ?_
      refine zpr (z_iconst (v := 2) X dd_law_649 (by decide)) ?_
      refine zpr (z_iadd X dd_law_650) ?_
      obtain ⟨v155, ev155, h⟩ := zb h
      refine zpr (z_sld X H dd_law_651 ev155) ?_
      refine zpr (z_aloadX_n X dd_law_652 rfl 0 rfl) ?_
      refine zpr (z_iload_n X dd_law_653 rfl 3 rfl) ?_
      refine zpr (z_iconst (v := 3) X dd_law_654 (by decide)) ?_
      refine zpr (z_iadd X dd_law_655) ?_
      obtain ⟨v156, ev156, h⟩ := zb h
      refine zpr (z_sld X H dd_law_656 ev156) ?_
      obtain ⟨w158, ew158, h⟩ := zb h
      obtain ⟨q157, eq157, h⟩ := zb h
      refine zpc (fun hm => z_callVi X [.int v154, .int v155, .int v156] rfl dd_law_657 (c_PQ_least l eq157) (cwV 3 X.1.2.2.2.2 (zg_V km_1507 km_1508 km_1509 km_125 km_1510) rfl rfl rfl (by decide +kernel) ⟨Nat.le_of_ble_eq_true rfl, Nat.le_of_ble_eq_true rfl⟩) (zob_s ew158) kc_11 rfl (Nat.le_of_ble_eq_true rfl) hm) ?_
      refine zpr (z_pop X dd_law_660 rfl) ?_
      refine zpr (z_aload_n X dd_law_661 rfl 2 rfl) ?_
      refine zpr (z_aloadX_n X dd_law_662 rfl 0 rfl) ?_
      refine zpr (z_iload_n X dd_law_663 rfl 3 rfl) ?_
      refine zpr (z_iconst (v := 1) X dd_law_664 (by decide)) ?_
      refine zpr (z_iadd X dd_law_665) ?_
      obtain ⟨v159, ev159, h⟩ := zb h
      refine zpr (z_sld X H dd_law_666 ev159) ?_
      refine zpr (z_aloadX_n X dd_law_667 rfl 0 rfl) ?_
      refine zpr (z_iload_n X dd_law_668 rfl 3 rfl) ?_
      refine zpr (z_iconst (v := 2) X dd_law_669 (by decide)) ?_
      refine zpr (z_iadd X dd_law_670) ?_
      obtain ⟨v160, ev160, h⟩ := zb h
      refine zpr (z_sld X H dd_law_671 ev160) ?_
      refine zpr (z_aloadX_n X dd_law_672 rfl 0 rfl) ?_
      refine zpr (z_iload_n X dd_law_673 rfl 3 rfl) ?_
      refine zpr (z_iconst (v := 3) X dd_law_674 (by decide)) ?_
      refine zpr (z_iadd X dd_law_675) ?_
      obtain ⟨v161, ev161, h⟩ := zb h
      refine zpr (z_sld X H dd_law_676 ev161) ?_
      obtain ⟨w163, ew163, h⟩ := zb h
      obtain ⟨q162, eq162, h⟩ := zb h
      refine zpc (fun hm => z_callVi X [.int v159, .int v160, .int v161] rfl dd_law_677 (c_Mo_least l eq162) (cwV 3 X.1.2.2.2.2 (zg_V km_2172 km_2173 km_2174 km_138 km_2175) rfl rfl rfl (by decide +kernel) ⟨Nat.le_of_ble_eq_true rfl, Nat.le_of_ble_eq_true rfl⟩) (zob_s ew163) kc_12 rfl (Nat.le_of_ble_eq_true rfl) hm) ?_
      refine zpr (z_pop X dd_law_680 rfl) ?_
      refine zpr (z_goto (tgt := 684) X dd_law_681 (by decide)) ?_
      exact t_Law_law_684 X H h k0 k1
    rw [if_neg q153] at h
    refine zpr (z_tableOut (tgt := 684) X dd_law_33 (by have yq7 := lv_neT q7 (a := 0) (by decide); have yq22 := lv_neT q22 (a := 1) (by decide); have yq29 := lv_neT q29 (a := 2) (by decide); have yq36 := lv_neT q36 (a := 3) (by decide); have yq45 := lv_neT q45 (a := 4) (by decide); have yq56 := lv_neT q56 (a := 5) (by decide); have yq69 := lv_neT q69 (a := 6) (by decide); have yq76 := lv_neT q76 (a := 7) (by decide); have yq85 := lv_neT q85 (a := 8) (by decide); have yq93 := lv_neT q93 (a := 9) (by decide); have yq100 := lv_neT q100 (a := 10) (by decide); have yq105 := lv_neT q105 (a := 11) (by decide); have yq112 := lv_neT q112 (a := 12) (by decide); have yq117 := lv_neT q117 (a := 13) (by decide); have yq124 := lv_neT q124 (a := 14) (by decide); have yq135 := lv_neT q135 (a := 15) (by decide); have yq146 := lv_neT q146 (a := 16) (by decide); have yq153 := lv_neT q153 (a := 17) (by decide); omega) (by decide)) ?_
    exact t_Law_law_684 X H h k0 k1
set_option maxRecDepth 100000 in
set_option maxHeartbeats 4000000 in
theorem t_Law_law_18  (X : zX p s m args cd D cid B code 4 R_law zT) (H : zHL s meth B L xs cid args) {nf : Nat} {x1 : Nat} {x2 : Nat} {x3 : Int32} {kk : Nat} {nn : Nat} {c : Zc} {res : Nat × Nat × Zc} (h : f_Law_law_18 nf L xs x1 x2 x3 kk nn c = some res) (hlim : res.1 ≤ 600000 ∧ res.2.1 ≤ 7302249) : ((kk ≤ 600000 ∧ nn ≤ 7302249) ∧ Zz p l e (zRm 18 704 600000 7302249) s m args below meth cd (lw_Z below args s) D cid B 4 kk nn c 18 [(0,  .retAddr 90), (1, .ref x1), (2, .ref x2), (3, .int x3)] []) := by
  unfold f_Law_law_18 at h
  obtain ⟨b, eb, h⟩ := zb h
  refine zlp_ok (P := fun a : Nat × Nat × Int32 × Nat × Nat × Zc => ((a.2.2.2.1 ≤ 600000 ∧ a.2.2.2.2.1 ≤ 7302249) ∧ Zz p l e (zRm 18 704 600000 7302249) s m args below meth cd _ D cid B 4 a.2.2.2.1 a.2.2.2.2.1 a.2.2.2.2.2 18 [(0,  .retAddr 90), (1, .ref a.1), (2, .ref a.2.1), (3, .int a.2.2.1)] [])) (G := fun b : (Nat × Nat × Zc) ⊕ (Nat × Nat × Zc) => Sum.elim (fun b => ((b.1 ≤ 600000 ∧ b.2.1 ≤ 7302249) ∧ Zz p l e (zRm 18 704 600000 7302249) s m args below meth cd _ D cid B 4 b.1 b.2.1 b.2.2 435 [] [])) (fun b => ((b.1 ≤ 600000 ∧ b.2.1 ≤ 7302249) ∧ Zz p l e (zRm 18 704 600000 7302249) s m args below meth cd _ D cid B 4 b.1 b.2.1 b.2.2 690 [] [])) b) (fun a r ha k0 k1 => u_Law_law_18 X H ha k0 k1) nf _ b eb ?_
  rcases b with b | b
  · simp only [Sum.elim_inl] at h ⊢
    refine zpr (z_iconst (v := 0) X dd_law_435 (by decide)) ?_
    cases h
  · simp only [Sum.elim_inr] at h ⊢
    refine zpr (z_iconst (v := 1) X dd_law_690 (by decide)) ?_
    obtain rfl := Option.some.inj h
    exact ⟨hlim, z_lawret X H dd_law_691 hlim.1 hlim.2⟩
set_option maxRecDepth 100000 in
set_option maxHeartbeats 4000000 in
theorem t_Law_law_15  (X : zX p s m args cd D cid B code 4 R_law zT) (H : zHL s meth B L xs cid args) {nf : Nat} {x1 : Nat} {s0 : Nat} {kk : Nat} {nn : Nat} {c : Zc} {res : Nat × Nat × Zc} (h : f_Law_law_15 nf L xs x1 s0 kk nn c = some res) (hlim : res.1 ≤ 600000 ∧ res.2.1 ≤ 7302249) : ((kk ≤ 600000 ∧ nn ≤ 7302249) ∧ Zz p l e (zRm 18 704 600000 7302249) s m args below meth cd (lw_Z below args s) D cid B 4 kk nn c 15 [(0,  .retAddr 90), (1, .ref x1)] [.ref s0]) := by
  unfold f_Law_law_15 at h
  refine zpr (z_astore_n (lv' := [(2, .ref s0), (0,  .retAddr 90), (1, .ref x1)]) X dd_law_15 rfl (by decide) rfl) ?_
  refine zpr (z_iconst (v := 0) X dd_law_16 (by decide)) ?_
  refine zpr (z_istore_n (lv' := [(3, .int 0), (2, .ref s0), (0,  .retAddr 90), (1, .ref x1)]) X dd_law_17 rfl (by decide) rfl) ?_
  refine zpr (z_sub [2, 3, 1, 0] rfl) ?_
  exact t_Law_law_18 X H h hlim
set_option maxRecDepth 100000 in
set_option maxHeartbeats 4000000 in
theorem t_Law_law_11  (X : zX p s m args cd D cid B code 4 R_law zT) (H : zHL s meth B L xs cid args) {nf : Nat} {x1 : Nat} {s0 : Nat} {kk : Nat} {nn : Nat} {c : Zc} {res : Nat × Nat × Zc} (h : f_Law_law_11 nf L xs x1 s0 kk nn c = some res) (hlim : res.1 ≤ 600000 ∧ res.2.1 ≤ 7302249) : ((kk ≤ 600000 ∧ nn ≤ 7302249) ∧ Zz p l e (zRm 18 704 600000 7302249) s m args below meth cd (lw_Z below args s) D cid B 4 kk nn c 11 [(0,  .retAddr 90), (1, .ref x1)] [.ref s0]) := by
  unfold f_Law_law_11 at h
  refine zpr (z_dup X dd_law_11 rfl) ?_
  obtain ⟨q4, eq4, h⟩ := zb h
  obtain ⟨hl9, hz9⟩ := t_Law_law_15 X H h hlim
  exact ⟨⟨by have := hl9.1; omega, by have := hl9.2; omega⟩, z_callIv (ret := none) X [] rfl dd_law_12 (c_Mo_init l eq4) (cwI 0 X.1.2.2.2.2 (zg_I km_1517) rfl rfl rfl (X.1.2.2.2.2 _ km_138) (X.1.2.2.2.2 _ km_1515) (X.1.2.2.2.2 _ km_1516) rfl (by decide +kernel) ⟨Nat.le_of_ble_eq_true rfl, Nat.le_of_ble_eq_true rfl⟩) rfl (Nat.le_of_ble_eq_true rfl) hl9 hz9⟩
set_option maxRecDepth 100000 in
set_option maxHeartbeats 4000000 in
theorem t_Law_law_7  (X : zX p s m args cd D cid B code 4 R_law zT) (H : zHL s meth B L xs cid args) {nf : Nat} {s0 : Nat} {kk : Nat} {nn : Nat} {c : Zc} {res : Nat × Nat × Zc} (h : f_Law_law_7 nf L xs s0 kk nn c = some res) (hlim : res.1 ≤ 600000 ∧ res.2.1 ≤ 7302249) : ((kk ≤ 600000 ∧ nn ≤ 7302249) ∧ Zz p l e (zRm 18 704 600000 7302249) s m args below meth cd (lw_Z below args s) D cid B 4 kk nn c 7 [(0,  .retAddr 90)] [.ref s0]) := by
  unfold f_Law_law_7 at h
  refine zpr (z_astore_n (lv' := [(1, .ref s0), (0,  .retAddr 90)]) X dd_law_7 rfl (by decide) rfl) ?_
  obtain ⟨c3, ec3, h⟩ := zb h
  obtain ⟨hl9, hz9⟩ := t_Law_law_11 X H h hlim
  exact ⟨⟨by have := hl9.1; omega, by have := hl9.2; omega⟩, z_newC X dd_law_8 kc_12 ki_12 tt_Mo tk_Mo km_1513 km_1514 km_138 (by decide +kernel) (fun _ _ => rfl) hl9.1 hl9.2 ec3 (z_sub [1, 0] rfl hz9)⟩
set_option maxRecDepth 100000 in
set_option maxHeartbeats 4000000 in
theorem t_Law_law_3  (X : zX p s m args cd D cid B code 4 R_law zT) (H : zHL s meth B L xs cid args) {nf : Nat} {s0 : Nat} {kk : Nat} {nn : Nat} {c : Zc} {res : Nat × Nat × Zc} (h : f_Law_law_3 nf L xs s0 kk nn c = some res) (hlim : res.1 ≤ 600000 ∧ res.2.1 ≤ 7302249) : ((kk ≤ 600000 ∧ nn ≤ 7302249) ∧ Zz p l e (zRm 18 704 600000 7302249) s m args below meth cd (lw_Z below args s) D cid B 4 kk nn c 3 [(0,  .retAddr 90)] [.ref s0]) := by
  unfold f_Law_law_3 at h
  refine zpr (z_dup X dd_law_3 rfl) ?_
  obtain ⟨q2, eq2, h⟩ := zb h
  obtain ⟨hl9, hz9⟩ := t_Law_law_7 X H h hlim
  exact ⟨⟨by have := hl9.1; omega, by have := hl9.2; omega⟩, z_callIv (ret := none) X [] rfl dd_law_4 (c_PQ_init l eq2) (cwI 0 X.1.2.2.2.2 (zg_I km_151) rfl rfl rfl (X.1.2.2.2.2 _ km_125) (X.1.2.2.2.2 _ km_149) (X.1.2.2.2.2 _ km_150) rfl (by decide +kernel) ⟨Nat.le_of_ble_eq_true rfl, Nat.le_of_ble_eq_true rfl⟩) rfl (Nat.le_of_ble_eq_true rfl) hl9 hz9⟩
set_option maxRecDepth 100000 in
set_option maxHeartbeats 4000000 in
theorem w_law (X : zX p s m args cd D cid B code 4 R_law zT) (H : zHL s meth B L xs cid args) {nf : Nat} {c : Zc} {res : Nat × Nat × Zc} (h : f_Law_law nf L xs c = some res) (hlim : res.1 ≤ 600000 ∧ res.2.1 ≤ 7302249) : ((0 ≤ 600000 ∧ 0 ≤ 7302249) ∧ Zz p l e (zRm 18 704 600000 7302249) s m args below meth cd (lw_Z below args s) D cid B 4 0 0 c 0 [(0, .retAddr 90)] []) := by
  unfold f_Law_law at h
  obtain ⟨c1, ec1, h⟩ := zb h
  obtain ⟨hl9, hz9⟩ := t_Law_law_3 X H h hlim
  exact ⟨⟨by have := hl9.1; omega, by have := hl9.2; omega⟩, z_newC X dd_law_0 kc_11 ki_11 tt_PQ tk_PQ km_147 km_148 km_125 (by decide +kernel) (fun _ _ => rfl) hl9.1 hl9.2 ec1 hz9⟩
end ZzL
