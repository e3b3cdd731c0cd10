section ZzT
set_option maxRecDepth 100000 in
set_option maxHeartbeats 4000000 in
theorem lc_0 {nf : Nat} (hn : 8589934592 ≤ nf) {L : Nat} {xs : Nat → Int32} (hL : L ≤ 3072) {x1 x2 : Nat} {x3 : Int32} {kk nn : Nat} {G : List Nat} {c : Zc} (h : LWd G c x1 x2 kk nn) (h0 : 0 ≤ x3.toInt) (h6 : x3.toInt + 6 ≤ L) : ∃ r, ((zxs L xs (x3 + 1)).bind fun v8 => (zxs L xs (x3 + 2)).bind fun v9 => (zxs L xs (x3 + 3)).bind fun v10 => (zxs L xs (x3 + 4)).bind fun v11 => (zxs L xs (x3 + 5)).bind fun v12 => (zob c x1 11).bind fun w14 => (f_PQ_feed nf x1 v8 v9 v10 v11 v12 c).bind fun q13 => (zxs L xs (x3 + 1)).bind fun v15 => (zxs L xs (x3 + 2)).bind fun v16 => (zxs L xs (x3 + 3)).bind fun v17 => (zxs L xs (x3 + 4)).bind fun v18 => (zxs L xs (x3 + 5)).bind fun v19 => (zob q13.2 x2 12).bind fun w21 => (f_Mo_feed nf x2 v15 v16 v17 v18 v19 q13.2).bind fun q20 => f_Law_law_684 nf L xs x1 x2 x3 kk nn q20.2) = some r ∧ LPo L x1 x2 x3 r := by
  have l0 : (0 : Int32).toInt = 0 := by decide
  have l1 : (1 : Int32).toInt = 1 := by decide
  have l2 : (2 : Int32).toInt = 2 := by decide
  have l3 : (3 : Int32).toInt = 3 := by decide
  have l4 : (4 : Int32).toInt = 4 := by decide
  have l5 : (5 : Int32).toInt = 5 := by decide
  have l6 : (6 : Int32).toInt = 6 := by decide
  obtain ⟨W9, t1, t2, P9, g9, k9, ⟨na, en9, ha9⟩, ta, tb, ea9, eb9, htt, gp, eg9, tg, gc9⟩ := h
  obtain ⟨ya, za, la, ua⟩ := gf_14_10 W9 t1
  rw [ea9] at za; cases za
  obtain ⟨yb, zb, lb, ub⟩ := gf_64_13 W9 t2
  rw [eb9] at zb; cases zb
  obtain ⟨yn, zn, ln, un⟩ := gf_64_8 W9 t2
  rw [en9] at zn; cases zn
  have := i_add (a := x3) (b := 1) (by omega) (by omega)
  obtain ⟨v8, ev8⟩ : ∃ v, zxs L xs (x3 + 1) = some v := ⟨_, zx_ok (by omega) (by omega)⟩
  refine wb ev8 ?_
  have := i_add (a := x3) (b := 2) (by omega) (by omega)
  obtain ⟨v9, ev9⟩ : ∃ v, zxs L xs (x3 + 2) = some v := ⟨_, zx_ok (by omega) (by omega)⟩
  refine wb ev9 ?_
  have := i_add (a := x3) (b := 3) (by omega) (by omega)
  obtain ⟨v10, ev10⟩ : ∃ v, zxs L xs (x3 + 3) = some v := ⟨_, zx_ok (by omega) (by omega)⟩
  refine wb ev10 ?_
  have := i_add (a := x3) (b := 4) (by omega) (by omega)
  obtain ⟨v11, ev11⟩ : ∃ v, zxs L xs (x3 + 4) = some v := ⟨_, zx_ok (by omega) (by omega)⟩
  refine wb ev11 ?_
  have := i_add (a := x3) (b := 5) (by omega) (by omega)
  obtain ⟨v12, ev12⟩ : ∃ v, zxs L xs (x3 + 5) = some v := ⟨_, zx_ok (by omega) (by omega)⟩
  refine wb ev12 ?_
  obtain ⟨w14, ew14⟩ := go_14 W9 t1
  refine wb ew14 ?_
  obtain ⟨q13, eq13, Wq13, fq13, nq13, mq13, pq13⟩ := p_PQ_feed__t hn W9 (a1 := v8) (a2 := v9) (a3 := v10) (a4 := v11) (a5 := v12) t1 (by omega) (by omega) ea9
  refine wb eq13 ?_
  have P1 := PQk_fr P9 fq13 t1 (by decide)
  have g2 := GtW_fr g9 fq13 t2 W9 (by decide)
  have k3 := TkN_fr k9 fq13 t2 W9 (by decide)
  have en4 := (Zfr.gi fq13 t2 (by decide)).trans en9
  have ha5 := AcN_fr ha9 fq13 t2 W9 (by decide)
  have eb6 := (Zfr.gi fq13 t2 (by decide)).trans eb9
  have eg7 := (Zfr.gr fq13 t1 (by decide)).trans eg9
  have gc8 := GCo_s gc9 (GSg_fr fq13 tg W9 (by decide)) (GSm_fr fq13 t2 W9 (by decide))
  refine wb ev8 ?_
  refine wb ev9 ?_
  refine wb ev10 ?_
  refine wb ev11 ?_
  refine wb ev12 ?_
  obtain ⟨w21, ew21⟩ := go_64 Wq13 t2
  refine wb ew21 ?_
  obtain ⟨q20, eq20, Wq20, fq20, nq20, mq20, pq20⟩ := p_Mo_feed hn Wq13 (a1 := v8) (a2 := v9) (a3 := v10) (a4 := v11) (a5 := v12) t2 (by omega) (by omega) eb6
  refine wb eq20 ?_
  have P9 := PQk_fr P1 fq20 t1 (by decide)
  have g10 := GtW_fr g2 fq20 t2 Wq13 (by decide)
  have k11 := TkN_fr k3 fq20 t2 Wq13 (by decide)
  have en12 := (Zfr.gi fq20 t2 (by decide)).trans en4
  have ha13 := AcN_fr ha5 fq20 t2 Wq13 (by decide)
  have ea14 := (Zfr.gi fq20 t1 (by decide)).trans mq13
  have eg15 := (Zfr.gr fq20 t1 (by decide)).trans eg7
  have gc16 := GCo_s gc8 (GSg_fr fq20 tg Wq13 (by decide)) (GSm_fr fq20 t2 Wq13 (by decide))
  unfold f_Law_law_684
  exact lp_in (G := _) ⟨Wq20, t1, t2, P9, g10, k11, ⟨na, en12, ha13⟩, nq13, nq20, ea14, mq20, by omega, gp, eg15, tg, gc16⟩ hL h0 h6
set_option maxRecDepth 100000 in
set_option maxHeartbeats 4000000 in
theorem lc_1 {nf : Nat} (hn : 8589934592 ≤ nf) {L : Nat} {xs : Nat → Int32} (hL : L ≤ 3072) {x1 x2 : Nat} {x3 : Int32} {kk nn : Nat} {G : List Nat} {c : Zc} (h : LWd G c x1 x2 kk nn) (h0 : 0 ≤ x3.toInt) (h6 : x3.toInt + 6 ≤ L) : ∃ r, ((zxs L xs (x3 + 1)).bind fun v23 => (zob c x1 11).bind fun w25 => (f_PQ_cut nf x1 v23 c).bind fun q24 => (zxs L xs (x3 + 1)).bind fun v26 => (zob q24.2 x2 12).bind fun w28 => (f_Mo_cut nf x2 v26 q24.2).bind fun q27 => f_Law_law_684 nf L xs x1 x2 x3 kk nn q27.2) = some r ∧ LPo L x1 x2 x3 r := by
  have l0 : (0 : Int32).toInt = 0 := by decide
  have l1 : (1 : Int32).toInt = 1 := by decide
  have l2 : (2 : Int32).toInt = 2 := by decide
  have l3 : (3 : Int32).toInt = 3 := by decide
  have l4 : (4 : Int32).toInt = 4 := by decide
  have l5 : (5 : Int32).toInt = 5 := by decide
  have l6 : (6 : Int32).toInt = 6 := by decide
  obtain ⟨W9, t1, t2, P9, g9, k9, ⟨na, en9, ha9⟩, ta, tb, ea9, eb9, htt, gp, eg9, tg, gc9⟩ := h
  obtain ⟨ya, za, la, ua⟩ := gf_14_10 W9 t1
  rw [ea9] at za; cases za
  obtain ⟨yb, zb, lb, ub⟩ := gf_64_13 W9 t2
  rw [eb9] at zb; cases zb
  obtain ⟨yn, zn, ln, un⟩ := gf_64_8 W9 t2
  rw [en9] at zn; cases zn
  have := i_add (a := x3) (b := 1) (by omega) (by omega)
  obtain ⟨v23, ev23⟩ : ∃ v, zxs L xs (x3 + 1) = some v := ⟨_, zx_ok (by omega) (by omega)⟩
  refine wb ev23 ?_
  obtain ⟨w25, ew25⟩ := go_14 W9 t1
  refine wb ew25 ?_
  obtain ⟨q24, eq24, Wq24, fq24, nq24, mq24, pq24⟩ := p_PQ_cut__t hn W9 (a1 := v23) t1 (by omega) (by omega) ea9
  refine wb eq24 ?_
  have P17 := PQk_fr P9 fq24 t1 (by decide)
  have g18 := GtW_fr g9 fq24 t2 W9 (by decide)
  have k19 := TkN_fr k9 fq24 t2 W9 (by decide)
  have en20 := (Zfr.gi fq24 t2 (by decide)).trans en9
  have ha21 := AcN_fr ha9 fq24 t2 W9 (by decide)
  have eb22 := (Zfr.gi fq24 t2 (by decide)).trans eb9
  have eg23 := (Zfr.gr fq24 t1 (by decide)).trans eg9
  have gc24 := GCo_s gc9 (GSg_fr fq24 tg W9 (by decide)) (GSm_fr fq24 t2 W9 (by decide))
  refine wb ev23 ?_
  obtain ⟨w28, ew28⟩ := go_64 Wq24 t2
  refine wb ew28 ?_
  obtain ⟨q27, eq27, Wq27, fq27, nq27, mq27, pq27⟩ := p_Mo_cut hn Wq24 (a1 := v23) t2 (by omega) (by omega) eb22
  refine wb eq27 ?_
  have P25 := PQk_fr P17 fq27 t1 (by decide)
  have g26 := GtW_fr g18 fq27 t2 Wq24 (by decide)
  have k27 := TkN_fr k19 fq27 t2 Wq24 (by decide)
  have en28 := (Zfr.gi fq27 t2 (by decide)).trans en20
  have ha29 := AcN_fr ha21 fq27 t2 Wq24 (by decide)
  have ea30 := (Zfr.gi fq27 t1 (by decide)).trans mq24
  have eg31 := (Zfr.gr fq27 t1 (by decide)).trans eg23
  have gc32 := GCo_s gc24 (GSg_fr fq27 tg Wq24 (by decide)) (GSm_fr fq27 t2 Wq24 (by decide))
  unfold f_Law_law_684
  exact lp_in (G := _) ⟨Wq27, t1, t2, P25, g26, k27, ⟨na, en28, ha29⟩, nq24, nq27, ea30, mq27, by omega, gp, eg31, tg, gc32⟩ hL h0 h6
set_option maxRecDepth 100000 in
set_option maxHeartbeats 4000000 in
theorem lc_2 {nf : Nat} (hn : 8589934592 ≤ nf) {L : Nat} {xs : Nat → Int32} (hL : L ≤ 3072) {x1 x2 : Nat} {x3 : Int32} {kk nn : Nat} {G : List Nat} {c : Zc} (h : LWd G c x1 x2 kk nn) (h0 : 0 ≤ x3.toInt) (h6 : x3.toInt + 6 ≤ L) : ∃ r, ((zxs L xs (x3 + 1)).bind fun v30 => (zob c x1 11).bind fun w32 => (f_PQ_node nf x1 v30 c).bind fun q31 => (zxs L xs (x3 + 1)).bind fun v33 => (zob q31.2 x2 12).bind fun w35 => (f_Mo_node nf x2 v33 q31.2).bind fun q34 => f_Law_law_684 nf L xs x1 x2 x3 kk nn q34.2) = some r ∧ LPo L x1 x2 x3 r := by
  have l0 : (0 : Int32).toInt = 0 := by decide
  have l1 : (1 : Int32).toInt = 1 := by decide
  have l2 : (2 : Int32).toInt = 2 := by decide
  have l3 : (3 : Int32).toInt = 3 := by decide
  have l4 : (4 : Int32).toInt = 4 := by decide
  have l5 : (5 : Int32).toInt = 5 := by decide
  have l6 : (6 : Int32).toInt = 6 := by decide
  obtain ⟨W9, t1, t2, P9, g9, k9, ⟨na, en9, ha9⟩, ta, tb, ea9, eb9, htt, gp, eg9, tg, gc9⟩ := h
  obtain ⟨ya, za, la, ua⟩ := gf_14_10 W9 t1
  rw [ea9] at za; cases za
  obtain ⟨yb, zb, lb, ub⟩ := gf_64_13 W9 t2
  rw [eb9] at zb; cases zb
  obtain ⟨yn, zn, ln, un⟩ := gf_64_8 W9 t2
  rw [en9] at zn; cases zn
  have := i_add (a := x3) (b := 1) (by omega) (by omega)
  obtain ⟨v30, ev30⟩ : ∃ v, zxs L xs (x3 + 1) = some v := ⟨_, zx_ok (by omega) (by omega)⟩
  refine wb ev30 ?_
  obtain ⟨w32, ew32⟩ := go_14 W9 t1
  refine wb ew32 ?_
  obtain ⟨nd, end9, lnd, und⟩ := gf_1_7 W9 tg
  have hnd := gfi_e end9
  obtain ⟨q31, eq31, Wq31, fq31, sq31, nq31, mq31, pq31, _, _⟩ := p_PQ_node__g hn W9 (a1 := v30) t1 (by omega) (by omega) eg9 end9
  refine wb eq31 ?_
  have P33 := PQk_fr P9 fq31 t1 (by decide)
  have g34 := GtW_fr g9 fq31 t2 W9 (by decide)
  have k35 := TkN_fr k9 fq31 t2 W9 (by decide)
  have en36 := (Zfr.gi fq31 t2 (by decide)).trans en9
  have ha37 := AcN_fr ha9 fq31 t2 W9 (by decide)
  have ea38 := (Zfr.gi fq31 t1 (by decide)).trans ea9
  have eb39 := (Zfr.gi fq31 t2 (by decide)).trans eb9
  have eg40 := (Zfr.gr fq31 t1 (by decide)).trans eg9
  refine wb ev30 ?_
  obtain ⟨w35, ew35⟩ := go_64 Wq31 t2
  refine wb ew35 ?_
  have ht := GSm_fr fq31 t2 W9 (by decide)
  obtain ⟨nd2, e29, _, _⟩ := gf_64_0 Wq31 t2
  have hEq : nd2 = nd := Int32.toInt_inj.mp (by have a_ := vfi_e e29; have b_ := ht.1; have d_ := gc9.1; omega)
  subst hEq
  obtain ⟨q34, eq34, Wq34, fq34, sq34, s2q34, nq34, mq34, pq34, _, _⟩ := p_Mo_node__g hn Wq31 (a1 := v30) t2 (by omega) (by omega) e29
  refine wb eq34 ?_
  have hs := GSg_fr fq34 tg Wq31 (by decide)
  have gcn := GCo_node gc9 hnd (by omega) sq31 (gaf_fr fq31 tg (gf_1_1 W9 tg) (by decide) (by decide)) ht sq34 s2q34 hs (by rw [gfi_e mq31, vfi_e mq34]; omega)
  have P41 := PQk_fr P33 fq34 t1 (by decide)
  have g42 := GtW_fr g34 fq34 t2 Wq31 (by decide)
  have k43 := TkN_fr k35 fq34 t2 Wq31 (by decide)
  have en44 := (Zfr.gi fq34 t2 (by decide)).trans en36
  have ha45 := AcN_fr ha37 fq34 t2 Wq31 (by decide)
  have ea46 := (Zfr.gi fq34 t1 (by decide)).trans ea38
  have eb47 := (Zfr.gi fq34 t2 (by decide)).trans eb39
  have eg48 := (Zfr.gr fq34 t1 (by decide)).trans eg40
  unfold f_Law_law_684
  exact lp_in (G := _) ⟨Wq34, t1, t2, P41, g42, k43, ⟨na, en44, ha45⟩, ta, tb, ea46, eb47, by omega, gp, eg48, tg, gcn⟩ hL h0 h6
set_option maxRecDepth 100000 in
set_option maxHeartbeats 4000000 in
theorem lc_3 {nf : Nat} (hn : 8589934592 ≤ nf) {L : Nat} {xs : Nat → Int32} (hL : L ≤ 3072) {x1 x2 : Nat} {x3 : Int32} {kk nn : Nat} {G : List Nat} {c : Zc} (h : LWd G c x1 x2 kk nn) (h0 : 0 ≤ x3.toInt) (h6 : x3.toInt + 6 ≤ L) : ∃ r, ((zxs L xs (x3 + 1)).bind fun v37 => (zxs L xs (x3 + 2)).bind fun v38 => (zob c x1 11).bind fun w40 => (f_PQ_mark nf x1 v37 v38 c).bind fun q39 => (zxs L xs (x3 + 1)).bind fun v41 => (zxs L xs (x3 + 2)).bind fun v42 => (zob q39.2 x2 12).bind fun w44 => (f_Mo_mark nf x2 v41 v42 q39.2).bind fun q43 => f_Law_law_684 nf L xs x1 x2 x3 kk nn q43.2) = some r ∧ LPo L x1 x2 x3 r := by
  have l0 : (0 : Int32).toInt = 0 := by decide
  have l1 : (1 : Int32).toInt = 1 := by decide
  have l2 : (2 : Int32).toInt = 2 := by decide
  have l3 : (3 : Int32).toInt = 3 := by decide
  have l4 : (4 : Int32).toInt = 4 := by decide
  have l5 : (5 : Int32).toInt = 5 := by decide
  have l6 : (6 : Int32).toInt = 6 := by decide
  obtain ⟨W9, t1, t2, P9, g9, k9, ⟨na, en9, ha9⟩, ta, tb, ea9, eb9, htt, gp, eg9, tg, gc9⟩ := h
  obtain ⟨ya, za, la, ua⟩ := gf_14_10 W9 t1
  rw [ea9] at za; cases za
  obtain ⟨yb, zb, lb, ub⟩ := gf_64_13 W9 t2
  rw [eb9] at zb; cases zb
  obtain ⟨yn, zn, ln, un⟩ := gf_64_8 W9 t2
  rw [en9] at zn; cases zn
  have := i_add (a := x3) (b := 1) (by omega) (by omega)
  obtain ⟨v37, ev37⟩ : ∃ v, zxs L xs (x3 + 1) = some v := ⟨_, zx_ok (by omega) (by omega)⟩
  refine wb ev37 ?_
  have := i_add (a := x3) (b := 2) (by omega) (by omega)
  obtain ⟨v38, ev38⟩ : ∃ v, zxs L xs (x3 + 2) = some v := ⟨_, zx_ok (by omega) (by omega)⟩
  refine wb ev38 ?_
  obtain ⟨w40, ew40⟩ := go_14 W9 t1
  refine wb ew40 ?_
  obtain ⟨nd, end9, lnd, und⟩ := gf_1_7 W9 tg
  have hnd := gfi_e end9
  obtain ⟨q39, eq39, Wq39, fq39, sq39⟩ := p_PQ_mark__g hn W9 (a1 := v37) (a2 := v38) t1 (by omega) (by omega) eg9 end9
  refine wb eq39 ?_
  have P49 := PQk_fr P9 fq39 t1 (by decide)
  have g50 := GtW_fr g9 fq39 t2 W9 (by decide)
  have k51 := TkN_fr k9 fq39 t2 W9 (by decide)
  have en52 := (Zfr.gi fq39 t2 (by decide)).trans en9
  have ha53 := AcN_fr ha9 fq39 t2 W9 (by decide)
  have ea54 := (Zfr.gi fq39 t1 (by decide)).trans ea9
  have eb55 := (Zfr.gi fq39 t2 (by decide)).trans eb9
  have eg56 := (Zfr.gr fq39 t1 (by decide)).trans eg9
  refine wb ev37 ?_
  refine wb ev38 ?_
  obtain ⟨w44, ew44⟩ := go_64 Wq39 t2
  refine wb ew44 ?_
  have ht := GSm_fr fq39 t2 W9 (by decide)
  obtain ⟨nd2, e29, _, _⟩ := gf_64_0 Wq39 t2
  have hEq : nd2 = nd := Int32.toInt_inj.mp (by have a_ := vfi_e e29; have b_ := ht.1; have d_ := gc9.1; omega)
  subst hEq
  obtain ⟨q43, eq43, Wq43, fq43, sq43⟩ := p_Mo_mark__g hn Wq39 (a1 := v37) (a2 := v38) t2 (by omega) (by omega) e29
  refine wb eq43 ?_
  have hs := GSg_fr fq43 tg Wq39 (by decide)
  obtain ⟨gcn, hr⟩ := GCo_mark gc9 hnd (by omega) sq39 (gfi_fr fq39 tg (by decide)) (gaf_fr fq39 tg (gf_1_1 W9 tg) (by decide) (by decide)) ht sq43 (vfi_fr fq43 t2 (by decide)) (vaf_fr fq43 t2 (gf_64_2 Wq39 t2) (by decide) (by decide)) hs
  have P57 := PQk_fr P49 fq43 t1 (by decide)
  have g58 := GtW_fr g50 fq43 t2 Wq39 (by decide)
  have k59 := TkN_fr k51 fq43 t2 Wq39 (by decide)
  have en60 := (Zfr.gi fq43 t2 (by decide)).trans en52
  have ha61 := AcN_fr ha53 fq43 t2 Wq39 (by decide)
  have ea62 := (Zfr.gi fq43 t1 (by decide)).trans ea54
  have eb63 := (Zfr.gi fq43 t2 (by decide)).trans eb55
  have eg64 := (Zfr.gr fq43 t1 (by decide)).trans eg56
  unfold f_Law_law_684
  exact lp_in (G := _) ⟨Wq43, t1, t2, P57, g58, k59, ⟨na, en60, ha61⟩, ta, tb, ea62, eb63, by omega, gp, eg64, tg, gcn⟩ hL h0 h6
set_option maxRecDepth 100000 in
set_option maxHeartbeats 4000000 in
theorem lc_4 {nf : Nat} (hn : 8589934592 ≤ nf) {L : Nat} {xs : Nat → Int32} (hL : L ≤ 3072) {x1 x2 : Nat} {x3 : Int32} {kk nn : Nat} {G : List Nat} {c : Zc} (h : LWd G c x1 x2 kk nn) (h0 : 0 ≤ x3.toInt) (h6 : x3.toInt + 6 ≤ L) : ∃ r, ((zxs L xs (x3 + 1)).bind fun v46 => (zxs L xs (x3 + 2)).bind fun v47 => (zxs L xs (x3 + 3)).bind fun v48 => (zob c x1 11).bind fun w50 => (f_PQ_put nf x1 v46 v47 v48 c).bind fun q49 => (zxs L xs (x3 + 1)).bind fun v51 => (zxs L xs (x3 + 2)).bind fun v52 => (zxs L xs (x3 + 3)).bind fun v53 => (zob q49.2 x2 12).bind fun w55 => (f_Mo_put nf x2 v51 v52 v53 q49.2).bind fun q54 => if q49.1 = q54.1 then (f_Law_law_684 nf L xs x1 x2 x3 kk nn q54.2) else (some (.inr (.inl (kk, nn, q54.2))))) = some r ∧ LPo L x1 x2 x3 r := by
  have l0 : (0 : Int32).toInt = 0 := by decide
  have l1 : (1 : Int32).toInt = 1 := by decide
  have l2 : (2 : Int32).toInt = 2 := by decide
  have l3 : (3 : Int32).toInt = 3 := by decide
  have l4 : (4 : Int32).toInt = 4 := by decide
  have l5 : (5 : Int32).toInt = 5 := by decide
  have l6 : (6 : Int32).toInt = 6 := by decide
  obtain ⟨W9, t1, t2, P9, g9, k9, ⟨na, en9, ha9⟩, ta, tb, ea9, eb9, htt, gp, eg9, tg, gc9⟩ := h
  obtain ⟨ya, za, la, ua⟩ := gf_14_10 W9 t1
  rw [ea9] at za; cases za
  obtain ⟨yb, zb, lb, ub⟩ := gf_64_13 W9 t2
  rw [eb9] at zb; cases zb
  obtain ⟨yn, zn, ln, un⟩ := gf_64_8 W9 t2
  rw [en9] at zn; cases zn
  have := i_add (a := x3) (b := 1) (by omega) (by omega)
  obtain ⟨v46, ev46⟩ : ∃ v, zxs L xs (x3 + 1) = some v := ⟨_, zx_ok (by omega) (by omega)⟩
  refine wb ev46 ?_
  have := i_add (a := x3) (b := 2) (by omega) (by omega)
  obtain ⟨v47, ev47⟩ : ∃ v, zxs L xs (x3 + 2) = some v := ⟨_, zx_ok (by omega) (by omega)⟩
  refine wb ev47 ?_
  have := i_add (a := x3) (b := 3) (by omega) (by omega)
  obtain ⟨v48, ev48⟩ : ∃ v, zxs L xs (x3 + 3) = some v := ⟨_, zx_ok (by omega) (by omega)⟩
  refine wb ev48 ?_
  obtain ⟨w50, ew50⟩ := go_14 W9 t1
  refine wb ew50 ?_
  obtain ⟨nd, end9, lnd, und⟩ := gf_1_7 W9 tg
  have hnd := gfi_e end9
  obtain ⟨q49, eq49, Wq49, fq49, sq49⟩ := p_PQ_put__g hn W9 (a1 := v46) (a2 := v47) (a3 := v48) t1 (by omega) (by omega) eg9 end9
  refine wb eq49 ?_
  have P65 := PQk_fr P9 fq49 t1 (by decide)
  have g66 := GtW_fr g9 fq49 t2 W9 (by decide)
  have k67 := TkN_fr k9 fq49 t2 W9 (by decide)
  have en68 := (Zfr.gi fq49 t2 (by decide)).trans en9
  have ha69 := AcN_fr ha9 fq49 t2 W9 (by decide)
  have ea70 := (Zfr.gi fq49 t1 (by decide)).trans ea9
  have eb71 := (Zfr.gi fq49 t2 (by decide)).trans eb9
  have eg72 := (Zfr.gr fq49 t1 (by decide)).trans eg9
  refine wb ev46 ?_
  refine wb ev47 ?_
  refine wb ev48 ?_
  obtain ⟨w55, ew55⟩ := go_64 Wq49 t2
  refine wb ew55 ?_
  have ht := GSm_fr fq49 t2 W9 (by decide)
  obtain ⟨nd2, e29, _, _⟩ := gf_64_0 Wq49 t2
  have hEq : nd2 = nd := Int32.toInt_inj.mp (by have a_ := vfi_e e29; have b_ := ht.1; have d_ := gc9.1; omega)
  subst hEq
  obtain ⟨q54, eq54, Wq54, fq54, sq54⟩ := p_Mo_put__g hn Wq49 (a1 := v46) (a2 := v47) (a3 := v48) t2 (by omega) (by omega) e29
  refine wb eq54 ?_
  have hs := GSg_fr fq54 tg Wq49 (by decide)
  obtain ⟨gcn, hr⟩ := GCo_put gc9 hnd (by omega) sq49 (gfi_fr fq49 tg (by decide)) (gaf_fr fq49 tg (gf_1_0 W9 tg) (by decide) (by decide)) ht sq54 (vfi_fr fq54 t2 (by decide)) (vaf_fr fq54 t2 (gf_64_1 Wq49 t2) (by decide) (by decide)) hs
  have P73 := PQk_fr P65 fq54 t1 (by decide)
  have g74 := GtW_fr g66 fq54 t2 Wq49 (by decide)
  have k75 := TkN_fr k67 fq54 t2 Wq49 (by decide)
  have en76 := (Zfr.gi fq54 t2 (by decide)).trans en68
  have ha77 := AcN_fr ha69 fq54 t2 Wq49 (by decide)
  have ea78 := (Zfr.gi fq54 t1 (by decide)).trans ea70
  have eb79 := (Zfr.gi fq54 t2 (by decide)).trans eb71
  have eg80 := (Zfr.gr fq54 t1 (by decide)).trans eg72
  refine wi (fun hq => ?_) (fun hq => ?_)
  · unfold f_Law_law_684
    exact lp_in (G := _) ⟨Wq54, t1, t2, P73, g74, k75, ⟨na, en76, ha77⟩, ta, tb, ea78, eb79, by omega, gp, eg80, tg, gcn⟩ hL h0 h6
  · exact absurd (Int32.toInt_inj.mp (by omega)) hq
set_option maxRecDepth 100000 in
set_option maxHeartbeats 4000000 in
theorem lc_5 {nf : Nat} (hn : 8589934592 ≤ nf) {L : Nat} {xs : Nat → Int32} (hL : L ≤ 3072) {x1 x2 : Nat} {x3 : Int32} {kk nn : Nat} {G : List Nat} {c : Zc} (h : LWd G c x1 x2 kk nn) (h0 : 0 ≤ x3.toInt) (h6 : x3.toInt + 6 ≤ L) : ∃ r, ((zxs L xs (x3 + 1)).bind fun v58 => (zxs L xs (x3 + 2)).bind fun v59 => (zxs L xs (x3 + 3)).bind fun v60 => (zxs L xs (x3 + 4)).bind fun v61 => (zob c x1 11).bind fun w63 => (f_PQ_arc nf x1 v58 v59 v60 v61 c).bind fun q62 => (zxs L xs (x3 + 1)).bind fun v64 => (zxs L xs (x3 + 2)).bind fun v65 => (zxs L xs (x3 + 3)).bind fun v66 => (zxs L xs (x3 + 4)).bind fun v67 => (zob q62.2 x2 12).bind fun w69 => (f_Mo_arc nf x2 v64 v65 v66 v67 q62.2).bind fun q68 => f_Law_law_684 nf L xs x1 x2 x3 kk nn q68.2) = some r ∧ LPo L x1 x2 x3 r := by
  have l0 : (0 : Int32).toInt = 0 := by decide
  have l1 : (1 : Int32).toInt = 1 := by decide
  have l2 : (2 : Int32).toInt = 2 := by decide
  have l3 : (3 : Int32).toInt = 3 := by decide
  have l4 : (4 : Int32).toInt = 4 := by decide
  have l5 : (5 : Int32).toInt = 5 := by decide
  have l6 : (6 : Int32).toInt = 6 := by decide
  obtain ⟨W9, t1, t2, P9, g9, k9, ⟨na, en9, ha9⟩, ta, tb, ea9, eb9, htt, gp, eg9, tg, gc9⟩ := h
  obtain ⟨ya, za, la, ua⟩ := gf_14_10 W9 t1
  rw [ea9] at za; cases za
  obtain ⟨yb, zb, lb, ub⟩ := gf_64_13 W9 t2
  rw [eb9] at zb; cases zb
  obtain ⟨yn, zn, ln, un⟩ := gf_64_8 W9 t2
  rw [en9] at zn; cases zn
  have := i_add (a := x3) (b := 1) (by omega) (by omega)
  obtain ⟨v58, ev58⟩ : ∃ v, zxs L xs (x3 + 1) = some v := ⟨_, zx_ok (by omega) (by omega)⟩
  refine wb ev58 ?_
  have := i_add (a := x3) (b := 2) (by omega) (by omega)
  obtain ⟨v59, ev59⟩ : ∃ v, zxs L xs (x3 + 2) = some v := ⟨_, zx_ok (by omega) (by omega)⟩
  refine wb ev59 ?_
  have := i_add (a := x3) (b := 3) (by omega) (by omega)
  obtain ⟨v60, ev60⟩ : ∃ v, zxs L xs (x3 + 3) = some v := ⟨_, zx_ok (by omega) (by omega)⟩
  refine wb ev60 ?_
  have := i_add (a := x3) (b := 4) (by omega) (by omega)
  obtain ⟨v61, ev61⟩ : ∃ v, zxs L xs (x3 + 4) = some v := ⟨_, zx_ok (by omega) (by omega)⟩
  refine wb ev61 ?_
  obtain ⟨w63, ew63⟩ := go_14 W9 t1
  refine wb ew63 ?_
  obtain ⟨q62, eq62, Wq62, fq62⟩ := p_PQ_arc hn W9 (a1 := v58) (a2 := v59) (a3 := v60) (a4 := v61) t1
  refine wb eq62 ?_
  have P81 := PQk_fr P9 fq62 t1 (by decide)
  have g82 := GtW_fr g9 fq62 t2 W9 (by decide)
  have k83 := TkN_fr k9 fq62 t2 W9 (by decide)
  have en84 := (Zfr.gi fq62 t2 (by decide)).trans en9
  have ha85 := AcN_fr ha9 fq62 t2 W9 (by decide)
  have ea86 := (Zfr.gi fq62 t1 (by decide)).trans ea9
  have eb87 := (Zfr.gi fq62 t2 (by decide)).trans eb9
  have eg88 := (Zfr.gr fq62 t1 (by decide)).trans eg9
  have gc89 := GCo_s gc9 (GSg_fr fq62 tg W9 (by decide)) (GSm_fr fq62 t2 W9 (by decide))
  refine wb ev58 ?_
  refine wb ev59 ?_
  refine wb ev60 ?_
  refine wb ev61 ?_
  obtain ⟨w69, ew69⟩ := go_64 Wq62 t2
  refine wb ew69 ?_
  obtain ⟨q68, eq68, Wq68, fq68, nq68, mq68, _, _, pq68⟩ := p_Mo_arc hn Wq62 (a1 := v58) (a2 := v59) (a3 := v60) (a4 := v61) t2 ⟨na, en84, by omega, by omega, ha85⟩
  refine wb eq68 ?_
  have P90 := PQk_fr P81 fq68 t1 (by decide)
  have g91 := GtW_fr g82 fq68 t2 Wq62 (by decide)
  have k92 := TkN_fr k83 fq68 t2 Wq62 (by decide)
  have ea93 := (Zfr.gi fq68 t1 (by decide)).trans ea86
  have eb94 := (Zfr.gi fq68 t2 (by decide)).trans eb87
  have eg95 := (Zfr.gr fq68 t1 (by decide)).trans eg88
  have gc96 := GCo_s gc89 (GSg_fr fq68 tg Wq62 (by decide)) (GSm_fr fq68 t2 Wq62 (by decide))
  unfold f_Law_law_684
  exact lp_in (G := _) ⟨Wq68, t1, t2, P90, g91, k92, ⟨nq68, mq68, pq68⟩, ta, tb, ea93, eb94, by omega, gp, eg95, tg, gc96⟩ hL h0 h6
end ZzT
