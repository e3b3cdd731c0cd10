section ZzT
set_option maxRecDepth 100000 in
set_option maxHeartbeats 4000000 in
theorem lc_0 {nf : Nat} (hn : 8589934592 ≤ nf) {L : Nat} {xs : Nat → Int32} (hL : L ≤ 3072) {x1 x2 : Nat} {x3 : Int32} {kk nn : Nat} {G : List Nat} {c : Zc} (h : LWd G c x1 x2 kk nn) (h0 : 0 ≤ x3.toInt) (h6 : x3.toInt + 6 ≤ L) : ∃ r, ((zxs L xs (x3 + 1)).bind fun v8 => (zxs L xs (x3 + 2)).bind fun v9 => (zxs L xs (x3 + 3)).bind fun v10 => (zxs L xs (x3 + 4)).bind fun v11 => (zxs L xs (x3 + 5)).bind fun v12 => (zob c x1 11).bind fun w14 => (f_PQ_feed nf x1 v8 v9 v10 v11 v12 c).bind fun q13 => (zxs L xs (x3 + 1)).bind fun v15 => (zxs L xs (x3 + 2)).bind fun v16 => (zxs L xs (x3 + 3)).bind fun v17 => (zxs L xs (x3 + 4)).bind fun v18 => (zxs L xs (x3 + 5)).bind fun v19 => (zob q13.2 x2 12).bind fun w21 => (f_Mo_feed nf x2 v15 v16 v17 v18 v19 q13.2).bind fun q20 => f_Law_law_684 nf L xs x1 x2 x3 kk nn q20.2) = some r ∧ LPo L x1 x2 x3 r := by
  have l0 : (0 : Int32).toInt = 0 := by decide
  have l1 : (1 : Int32).toInt = 1 := by decide
  have l2 : (2 : Int32).toInt = 2 := by decide
  have l3 : (3 : Int32).toInt = 3 := by decide
  have l4 : (4 : Int32).toInt = 4 := by decide
  have l5 : (5 : Int32).toInt = 5 := by decide
  have l6 : (6 : Int32).toInt = 6 := by decide
  obtain ⟨W9, t1, t2, P9, g9, k9, ⟨na, en9, ha9⟩, ta, tb, ea9, eb9, htt, gp, eg9, tg, gc9, ga9⟩ := h
  obtain ⟨ya, za, la, ua⟩ := gf_14_10 W9 t1
  rw [ea9] at za; cases za
  obtain ⟨yb, zb, lb, ub⟩ := gf_64_13 W9 t2
  rw [eb9] at zb; cases zb
  obtain ⟨yn, zn, ln, un⟩ := gf_64_8 W9 t2
  rw [en9] at zn; cases zn
  have := i_add (a := x3) (b := 1) (by omega) (by omega)
  obtain ⟨v8, ev8⟩ : ∃ v, zxs L xs (x3 + 1) = some v := ⟨_, zx_ok (by omega) (by omega)⟩
  refine wb ev8 ?_
  have := i_add (a := x3) (b := 2) (by omega) (by omega)
  obtain ⟨v9, ev9⟩ : ∃ v, zxs L xs (x3 + 2) = some v := ⟨_, zx_ok (by omega) (by omega)⟩
  refine wb ev9 ?_
  have := i_add (a := x3) (b := 3) (by omega) (by omega)
  obtain ⟨v10, ev10⟩ : ∃ v, zxs L xs (x3 + 3) = some v := ⟨_, zx_ok (by omega) (by omega)⟩
  refine wb ev10 ?_
  have := i_add (a := x3) (b := 4) (by omega) (by omega)
  obtain ⟨v11, ev11⟩ : ∃ v, zxs L xs (x3 + 4) = some v := ⟨_, zx_ok (by omega) (by omega)⟩
  refine wb ev11 ?_
  have := i_add (a := x3) (b := 5) (by omega) (by omega)
  obtain ⟨v12, ev12⟩ : ∃ v, zxs L xs (x3 + 5) = some v := ⟨_, zx_ok (by omega) (by omega)⟩
  refine wb ev12 ?_
  obtain ⟨w14, ew14⟩ := go_14 W9 t1
  refine wb ew14 ?_
  obtain ⟨q13, eq13, Wq13, fq13, nq13, mq13, pq13⟩ := p_PQ_feed__t hn W9 (a1 := v8) (a2 := v9) (a3 := v10) (a4 := v11) (a5 := v12) t1 (by omega) (by omega) ea9
  refine wb eq13 ?_
  have P1 := PQk_fr P9 fq13 t1 (by decide)
  have g2 := GtW_fr g9 fq13 t2 W9 (by decide)
  have k3 := TkN_fr k9 fq13 t2 W9 (by decide)
  have en4 := (Zfr.gi fq13 t2 (by decide)).trans en9
  have ha5 := AcN_fr ha9 fq13 t2 W9 (by decide)
  have eb6 := (Zfr.gi fq13 t2 (by decide)).trans eb9
  have eg7 := (Zfr.gr fq13 t1 (by decide)).trans eg9
  have gc8 := GCo_s gc9 (GSg_fr fq13 tg W9 (by decide)) (GSm_fr fq13 t2 W9 (by decide))
  have ga9 := GAr_s ga9 (GSa_fr fq13 tg W9 (by decide)) (GSb_fr fq13 t2 W9 (by decide))
  refine wb ev8 ?_
  refine wb ev9 ?_
  refine wb ev10 ?_
  refine wb ev11 ?_
  refine wb ev12 ?_
  obtain ⟨w21, ew21⟩ := go_64 Wq13 t2
  refine wb ew21 ?_
  obtain ⟨q20, eq20, Wq20, fq20, nq20, mq20, pq20⟩ := p_Mo_feed hn Wq13 (a1 := v8) (a2 := v9) (a3 := v10) (a4 := v11) (a5 := v12) t2 (by omega) (by omega) eb6
  refine wb eq20 ?_
  have P10 := PQk_fr P1 fq20 t1 (by decide)
  have g11 := GtW_fr g2 fq20 t2 Wq13 (by decide)
  have k12 := TkN_fr k3 fq20 t2 Wq13 (by decide)
  have en13 := (Zfr.gi fq20 t2 (by decide)).trans en4
  have ha14 := AcN_fr ha5 fq20 t2 Wq13 (by decide)
  have ea15 := (Zfr.gi fq20 t1 (by decide)).trans mq13
  have eg16 := (Zfr.gr fq20 t1 (by decide)).trans eg7
  have gc17 := GCo_s gc8 (GSg_fr fq20 tg Wq13 (by decide)) (GSm_fr fq20 t2 Wq13 (by decide))
  have ga18 := GAr_s ga9 (GSa_fr fq20 tg Wq13 (by decide)) (GSb_fr fq20 t2 Wq13 (by decide))
  unfold f_Law_law_684
  exact lp_in (G := _) ⟨Wq20, t1, t2, P10, g11, k12, ⟨na, en13, ha14⟩, nq13, nq20, ea15, mq20, by omega, gp, eg16, tg, gc17, ga18⟩ hL h0 h6
set_option maxRecDepth 100000 in
set_option maxHeartbeats 4000000 in
theorem lc_1 {nf : Nat} (hn : 8589934592 ≤ nf) {L : Nat} {xs : Nat → Int32} (hL : L ≤ 3072) {x1 x2 : Nat} {x3 : Int32} {kk nn : Nat} {G : List Nat} {c : Zc} (h : LWd G c x1 x2 kk nn) (h0 : 0 ≤ x3.toInt) (h6 : x3.toInt + 6 ≤ L) : ∃ r, ((zxs L xs (x3 + 1)).bind fun v23 => (zob c x1 11).bind fun w25 => (f_PQ_cut nf x1 v23 c).bind fun q24 => (zxs L xs (x3 + 1)).bind fun v26 => (zob q24.2 x2 12).bind fun w28 => (f_Mo_cut nf x2 v26 q24.2).bind fun q27 => f_Law_law_684 nf L xs x1 x2 x3 kk nn q27.2) = some r ∧ LPo L x1 x2 x3 r := by
  have l0 : (0 : Int32).toInt = 0 := by decide
  have l1 : (1 : Int32).toInt = 1 := by decide
  have l2 : (2 : Int32).toInt = 2 := by decide
  have l3 : (3 : Int32).toInt = 3 := by decide
  have l4 : (4 : Int32).toInt = 4 := by decide
  have l5 : (5 : Int32).toInt = 5 := by decide
  have l6 : (6 : Int32).toInt = 6 := by decide
  obtain ⟨W9, t1, t2, P9, g9, k9, ⟨na, en9, ha9⟩, ta, tb, ea9, eb9, htt, gp, eg9, tg, gc9, ga9⟩ := h
  obtain ⟨ya, za, la, ua⟩ := gf_14_10 W9 t1
  rw [ea9] at za; cases za
  obtain ⟨yb, zb, lb, ub⟩ := gf_64_13 W9 t2
  rw [eb9] at zb; cases zb
  obtain ⟨yn, zn, ln, un⟩ := gf_64_8 W9 t2
  rw [en9] at zn; cases zn
  have := i_add (a := x3) (b := 1) (by omega) (by omega)
  obtain ⟨v23, ev23⟩ : ∃ v, zxs L xs (x3 + 1) = some v := ⟨_, zx_ok (by omega) (by omega)⟩
  refine wb ev23 ?_
  obtain ⟨w25, ew25⟩ := go_14 W9 t1
  refine wb ew25 ?_
  obtain ⟨q24, eq24, Wq24, fq24, nq24, mq24, pq24⟩ := p_PQ_cut__t hn W9 (a1 := v23) t1 (by omega) (by omega) ea9
  refine wb eq24 ?_
  have P19 := PQk_fr P9 fq24 t1 (by decide)
  have g20 := GtW_fr g9 fq24 t2 W9 (by decide)
  have k21 := TkN_fr k9 fq24 t2 W9 (by decide)
  have en22 := (Zfr.gi fq24 t2 (by decide)).trans en9
  have ha23 := AcN_fr ha9 fq24 t2 W9 (by decide)
  have eb24 := (Zfr.gi fq24 t2 (by decide)).trans eb9
  have eg25 := (Zfr.gr fq24 t1 (by decide)).trans eg9
  have gc26 := GCo_s gc9 (GSg_fr fq24 tg W9 (by decide)) (GSm_fr fq24 t2 W9 (by decide))
  have ga27 := GAr_s ga9 (GSa_fr fq24 tg W9 (by decide)) (GSb_fr fq24 t2 W9 (by decide))
  refine wb ev23 ?_
  obtain ⟨w28, ew28⟩ := go_64 Wq24 t2
  refine wb ew28 ?_
  obtain ⟨q27, eq27, Wq27, fq27, nq27, mq27, pq27⟩ := p_Mo_cut hn Wq24 (a1 := v23) t2 (by omega) (by omega) eb24
  refine wb eq27 ?_
  have P28 := PQk_fr P19 fq27 t1 (by decide)
  have g29 := GtW_fr g20 fq27 t2 Wq24 (by decide)
  have k30 := TkN_fr k21 fq27 t2 Wq24 (by decide)
  have en31 := (Zfr.gi fq27 t2 (by decide)).trans en22
  have ha32 := AcN_fr ha23 fq27 t2 Wq24 (by decide)
  have ea33 := (Zfr.gi fq27 t1 (by decide)).trans mq24
  have eg34 := (Zfr.gr fq27 t1 (by decide)).trans eg25
  have gc35 := GCo_s gc26 (GSg_fr fq27 tg Wq24 (by decide)) (GSm_fr fq27 t2 Wq24 (by decide))
  have ga36 := GAr_s ga27 (GSa_fr fq27 tg Wq24 (by decide)) (GSb_fr fq27 t2 Wq24 (by decide))
  unfold f_Law_law_684
  exact lp_in (G := _) ⟨Wq27, t1, t2, P28, g29, k30, ⟨na, en31, ha32⟩, nq24, nq27, ea33, mq27, by omega, gp, eg34, tg, gc35, ga36⟩ hL h0 h6
set_option maxRecDepth 100000 in
set_option maxHeartbeats 4000000 in
theorem lc_2 {nf : Nat} (hn : 8589934592 ≤ nf) {L : Nat} {xs : Nat → Int32} (hL : L ≤ 3072) {x1 x2 : Nat} {x3 : Int32} {kk nn : Nat} {G : List Nat} {c : Zc} (h : LWd G c x1 x2 kk nn) (h0 : 0 ≤ x3.toInt) (h6 : x3.toInt + 6 ≤ L) : ∃ r, ((zxs L xs (x3 + 1)).bind fun v30 => (zob c x1 11).bind fun w32 => (f_PQ_node nf x1 v30 c).bind fun q31 => (zxs L xs (x3 + 1)).bind fun v33 => (zob q31.2 x2 12).bind fun w35 => (f_Mo_node nf x2 v33 q31.2).bind fun q34 => f_Law_law_684 nf L xs x1 x2 x3 kk nn q34.2) = some r ∧ LPo L x1 x2 x3 r := by
  have l0 : (0 : Int32).toInt = 0 := by decide
  have l1 : (1 : Int32).toInt = 1 := by decide
  have l2 : (2 : Int32).toInt = 2 := by decide
  have l3 : (3 : Int32).toInt = 3 := by decide
  have l4 : (4 : Int32).toInt = 4 := by decide
  have l5 : (5 : Int32).toInt = 5 := by decide
  have l6 : (6 : Int32).toInt = 6 := by decide
  obtain ⟨W9, t1, t2, P9, g9, k9, ⟨na, en9, ha9⟩, ta, tb, ea9, eb9, htt, gp, eg9, tg, gc9, ga9⟩ := h
  obtain ⟨ya, za, la, ua⟩ := gf_14_10 W9 t1
  rw [ea9] at za; cases za
  obtain ⟨yb, zb, lb, ub⟩ := gf_64_13 W9 t2
  rw [eb9] at zb; cases zb
  obtain ⟨yn, zn, ln, un⟩ := gf_64_8 W9 t2
  rw [en9] at zn; cases zn
  have := i_add (a := x3) (b := 1) (by omega) (by omega)
  obtain ⟨v30, ev30⟩ : ∃ v, zxs L xs (x3 + 1) = some v := ⟨_, zx_ok (by omega) (by omega)⟩
  refine wb ev30 ?_
  obtain ⟨w32, ew32⟩ := go_14 W9 t1
  refine wb ew32 ?_
  obtain ⟨nd, end9, lnd, und⟩ := gf_1_7 W9 tg
  have hnd := gfi_e end9
  obtain ⟨q31, eq31, Wq31, fq31, sq31, nq31, mq31, pq31, _, _⟩ := p_PQ_node__g hn W9 (a1 := v30) t1 (by omega) (by omega) eg9 end9
  refine wb eq31 ?_
  have P37 := PQk_fr P9 fq31 t1 (by decide)
  have g38 := GtW_fr g9 fq31 t2 W9 (by decide)
  have k39 := TkN_fr k9 fq31 t2 W9 (by decide)
  have en40 := (Zfr.gi fq31 t2 (by decide)).trans en9
  have ha41 := AcN_fr ha9 fq31 t2 W9 (by decide)
  have ea42 := (Zfr.gi fq31 t1 (by decide)).trans ea9
  have eb43 := (Zfr.gi fq31 t2 (by decide)).trans eb9
  have eg44 := (Zfr.gr fq31 t1 (by decide)).trans eg9
  have ga45 := GAr_s ga9 (GSa_fr fq31 tg W9 (by decide)) (GSb_fr fq31 t2 W9 (by decide))
  refine wb ev30 ?_
  obtain ⟨w35, ew35⟩ := go_64 Wq31 t2
  refine wb ew35 ?_
  have ht := GSm_fr fq31 t2 W9 (by decide)
  obtain ⟨nd2, e29, _, _⟩ := gf_64_0 Wq31 t2
  have hEq : nd2 = nd := Int32.toInt_inj.mp (by have a_ := vfi_e e29; have b_ := ht.1; have d_ := gc9.1; omega)
  subst hEq
  obtain ⟨q34, eq34, Wq34, fq34, sq34, s2q34, nq34, mq34, pq34, _, _⟩ := p_Mo_node__g hn Wq31 (a1 := v30) t2 (by omega) (by omega) e29
  refine wb eq34 ?_
  have hs := GSg_fr fq34 tg Wq31 (by decide)
  have gcn := GCo_node gc9 hnd (by omega) sq31 (gaf_fr fq31 tg (gf_1_1 W9 tg) (by decide) (by decide)) ht sq34 s2q34 hs (by rw [gfi_e mq31, vfi_e mq34]; omega)
  have P46 := PQk_fr P37 fq34 t1 (by decide)
  have g47 := GtW_fr g38 fq34 t2 Wq31 (by decide)
  have k48 := TkN_fr k39 fq34 t2 Wq31 (by decide)
  have en49 := (Zfr.gi fq34 t2 (by decide)).trans en40
  have ha50 := AcN_fr ha41 fq34 t2 Wq31 (by decide)
  have ea51 := (Zfr.gi fq34 t1 (by decide)).trans ea42
  have eb52 := (Zfr.gi fq34 t2 (by decide)).trans eb43
  have eg53 := (Zfr.gr fq34 t1 (by decide)).trans eg44
  have ga54 := GAr_s ga45 (GSa_fr fq34 tg Wq31 (by decide)) (GSb_fr fq34 t2 Wq31 (by decide))
  unfold f_Law_law_684
  exact lp_in (G := _) ⟨Wq34, t1, t2, P46, g47, k48, ⟨na, en49, ha50⟩, ta, tb, ea51, eb52, by omega, gp, eg53, tg, gcn, ga54⟩ hL h0 h6
set_option maxRecDepth 100000 in
set_option maxHeartbeats 4000000 in
theorem lc_3 {nf : Nat} (hn : 8589934592 ≤ nf) {L : Nat} {xs : Nat → Int32} (hL : L ≤ 3072) {x1 x2 : Nat} {x3 : Int32} {kk nn : Nat} {G : List Nat} {c : Zc} (h : LWd G c x1 x2 kk nn) (h0 : 0 ≤ x3.toInt) (h6 : x3.toInt + 6 ≤ L) : ∃ r, ((zxs L xs (x3 + 1)).bind fun v37 => (zxs L xs (x3 + 2)).bind fun v38 => (zob c x1 11).bind fun w40 => (f_PQ_mark nf x1 v37 v38 c).bind fun q39 => (zxs L xs (x3 + 1)).bind fun v41 => (zxs L xs (x3 + 2)).bind fun v42 => (zob q39.2 x2 12).bind fun w44 => (f_Mo_mark nf x2 v41 v42 q39.2).bind fun q43 => f_Law_law_684 nf L xs x1 x2 x3 kk nn q43.2) = some r ∧ LPo L x1 x2 x3 r := by
  have l0 : (0 : Int32).toInt = 0 := by decide
  have l1 : (1 : Int32).toInt = 1 := by decide
  have l2 : (2 : Int32).toInt = 2 := by decide
  have l3 : (3 : Int32).toInt = 3 := by decide
  have l4 : (4 : Int32).toInt = 4 := by decide
  have l5 : (5 : Int32).toInt = 5 := by decide
  have l6 : (6 : Int32).toInt = 6 := by decide
  obtain ⟨W9, t1, t2, P9, g9, k9, ⟨na, en9, ha9⟩, ta, tb, ea9, eb9, htt, gp, eg9, tg, gc9, ga9⟩ := h
  obtain ⟨ya, za, la, ua⟩ := gf_14_10 W9 t1
  rw [ea9] at za; cases za
  obtain ⟨yb, zb, lb, ub⟩ := gf_64_13 W9 t2
  rw [eb9] at zb; cases zb
  obtain ⟨yn, zn, ln, un⟩ := gf_64_8 W9 t2
  rw [en9] at zn; cases zn
  have := i_add (a := x3) (b := 1) (by omega) (by omega)
  obtain ⟨v37, ev37⟩ : ∃ v, zxs L xs (x3 + 1) = some v := ⟨_, zx_ok (by omega) (by omega)⟩
  refine wb ev37 ?_
  have := i_add (a := x3) (b := 2) (by omega) (by omega)
  obtain ⟨v38, ev38⟩ : ∃ v, zxs L xs (x3 + 2) = some v := ⟨_, zx_ok (by omega) (by omega)⟩
  refine wb ev38 ?_
  obtain ⟨w40, ew40⟩ := go_14 W9 t1
  refine wb ew40 ?_
  obtain ⟨nd, end9, lnd, und⟩ := gf_1_7 W9 tg
  have hnd := gfi_e end9
  obtain ⟨q39, eq39, Wq39, fq39, sq39⟩ := p_PQ_mark__g hn W9 (a1 := v37) (a2 := v38) t1 (by omega) (by omega) eg9 end9
  refine wb eq39 ?_
  have P55 := PQk_fr P9 fq39 t1 (by decide)
  have g56 := GtW_fr g9 fq39 t2 W9 (by decide)
  have k57 := TkN_fr k9 fq39 t2 W9 (by decide)
  have en58 := (Zfr.gi fq39 t2 (by decide)).trans en9
  have ha59 := AcN_fr ha9 fq39 t2 W9 (by decide)
  have ea60 := (Zfr.gi fq39 t1 (by decide)).trans ea9
  have eb61 := (Zfr.gi fq39 t2 (by decide)).trans eb9
  have eg62 := (Zfr.gr fq39 t1 (by decide)).trans eg9
  have ga63 := GAr_s ga9 (GSa_fr fq39 tg W9 (by decide)) (GSb_fr fq39 t2 W9 (by decide))
  refine wb ev37 ?_
  refine wb ev38 ?_
  obtain ⟨w44, ew44⟩ := go_64 Wq39 t2
  refine wb ew44 ?_
  have ht := GSm_fr fq39 t2 W9 (by decide)
  obtain ⟨nd2, e29, _, _⟩ := gf_64_0 Wq39 t2
  have hEq : nd2 = nd := Int32.toInt_inj.mp (by have a_ := vfi_e e29; have b_ := ht.1; have d_ := gc9.1; omega)
  subst hEq
  obtain ⟨q43, eq43, Wq43, fq43, sq43⟩ := p_Mo_mark__g hn Wq39 (a1 := v37) (a2 := v38) t2 (by omega) (by omega) e29
  refine wb eq43 ?_
  have hs := GSg_fr fq43 tg Wq39 (by decide)
  obtain ⟨gcn, hr⟩ := GCo_mark gc9 hnd (by omega) sq39 (gfi_fr fq39 tg (by decide)) (gaf_fr fq39 tg (gf_1_1 W9 tg) (by decide) (by decide)) ht sq43 (vfi_fr fq43 t2 (by decide)) (vaf_fr fq43 t2 (gf_64_2 Wq39 t2) (by decide) (by decide)) hs
  have P64 := PQk_fr P55 fq43 t1 (by decide)
  have g65 := GtW_fr g56 fq43 t2 Wq39 (by decide)
  have k66 := TkN_fr k57 fq43 t2 Wq39 (by decide)
  have en67 := (Zfr.gi fq43 t2 (by decide)).trans en58
  have ha68 := AcN_fr ha59 fq43 t2 Wq39 (by decide)
  have ea69 := (Zfr.gi fq43 t1 (by decide)).trans ea60
  have eb70 := (Zfr.gi fq43 t2 (by decide)).trans eb61
  have eg71 := (Zfr.gr fq43 t1 (by decide)).trans eg62
  have ga72 := GAr_s ga63 (GSa_fr fq43 tg Wq39 (by decide)) (GSb_fr fq43 t2 Wq39 (by decide))
  unfold f_Law_law_684
  exact lp_in (G := _) ⟨Wq43, t1, t2, P64, g65, k66, ⟨na, en67, ha68⟩, ta, tb, ea69, eb70, by omega, gp, eg71, tg, gcn, ga72⟩ hL h0 h6
set_option maxRecDepth 100000 in
set_option maxHeartbeats 4000000 in
theorem lc_4 {nf : Nat} (hn : 8589934592 ≤ nf) {L : Nat} {xs : Nat → Int32} (hL : L ≤ 3072) {x1 x2 : Nat} {x3 : Int32} {kk nn : Nat} {G : List Nat} {c : Zc} (h : LWd G c x1 x2 kk nn) (h0 : 0 ≤ x3.toInt) (h6 : x3.toInt + 6 ≤ L) : ∃ r, ((zxs L xs (x3 + 1)).bind fun v46 => (zxs L xs (x3 + 2)).bind fun v47 => (zxs L xs (x3 + 3)).bind fun v48 => (zob c x1 11).bind fun w50 => (f_PQ_put nf x1 v46 v47 v48 c).bind fun q49 => (zxs L xs (x3 + 1)).bind fun v51 => (zxs L xs (x3 + 2)).bind fun v52 => (zxs L xs (x3 + 3)).bind fun v53 => (zob q49.2 x2 12).bind fun w55 => (f_Mo_put nf x2 v51 v52 v53 q49.2).bind fun q54 => f_Law_law_684 nf L xs x1 x2 x3 kk nn q54.2) = some r ∧ LPo L x1 x2 x3 r := by
  have l0 : (0 : Int32).toInt = 0 := by decide
  have l1 : (1 : Int32).toInt = 1 := by decide
  have l2 : (2 : Int32).toInt = 2 := by decide
  have l3 : (3 : Int32).toInt = 3 := by decide
  have l4 : (4 : Int32).toInt = 4 := by decide
  have l5 : (5 : Int32).toInt = 5 := by decide
  have l6 : (6 : Int32).toInt = 6 := by decide
  obtain ⟨W9, t1, t2, P9, g9, k9, ⟨na, en9, ha9⟩, ta, tb, ea9, eb9, htt, gp, eg9, tg, gc9, ga9⟩ := h
  obtain ⟨ya, za, la, ua⟩ := gf_14_10 W9 t1
  rw [ea9] at za; cases za
  obtain ⟨yb, zb, lb, ub⟩ := gf_64_13 W9 t2
  rw [eb9] at zb; cases zb
  obtain ⟨yn, zn, ln, un⟩ := gf_64_8 W9 t2
  rw [en9] at zn; cases zn
  have := i_add (a := x3) (b := 1) (by omega) (by omega)
  obtain ⟨v46, ev46⟩ : ∃ v, zxs L xs (x3 + 1) = some v := ⟨_, zx_ok (by omega) (by omega)⟩
  refine wb ev46 ?_
  have := i_add (a := x3) (b := 2) (by omega) (by omega)
  obtain ⟨v47, ev47⟩ : ∃ v, zxs L xs (x3 + 2) = some v := ⟨_, zx_ok (by omega) (by omega)⟩
  refine wb ev47 ?_
  have := i_add (a := x3) (b := 3) (by omega) (by omega)
  obtain ⟨v48, ev48⟩ : ∃ v, zxs L xs (x3 + 3) = some v := ⟨_, zx_ok (by omega) (by omega)⟩
  refine wb ev48 ?_
  obtain ⟨w50, ew50⟩ := go_14 W9 t1
  refine wb ew50 ?_
  obtain ⟨nd, end9, lnd, und⟩ := gf_1_7 W9 tg
  have hnd := gfi_e end9
  obtain ⟨q49, eq49, Wq49, fq49, sq49⟩ := p_PQ_put__g hn W9 (a1 := v46) (a2 := v47) (a3 := v48) t1 (by omega) (by omega) eg9 end9
  refine wb eq49 ?_
  have P73 := PQk_fr P9 fq49 t1 (by decide)
  have g74 := GtW_fr g9 fq49 t2 W9 (by decide)
  have k75 := TkN_fr k9 fq49 t2 W9 (by decide)
  have en76 := (Zfr.gi fq49 t2 (by decide)).trans en9
  have ha77 := AcN_fr ha9 fq49 t2 W9 (by decide)
  have ea78 := (Zfr.gi fq49 t1 (by decide)).trans ea9
  have eb79 := (Zfr.gi fq49 t2 (by decide)).trans eb9
  have eg80 := (Zfr.gr fq49 t1 (by decide)).trans eg9
  have ga81 := GAr_s ga9 (GSa_fr fq49 tg W9 (by decide)) (GSb_fr fq49 t2 W9 (by decide))
  refine wb ev46 ?_
  refine wb ev47 ?_
  refine wb ev48 ?_
  obtain ⟨w55, ew55⟩ := go_64 Wq49 t2
  refine wb ew55 ?_
  have ht := GSm_fr fq49 t2 W9 (by decide)
  obtain ⟨nd2, e29, _, _⟩ := gf_64_0 Wq49 t2
  have hEq : nd2 = nd := Int32.toInt_inj.mp (by have a_ := vfi_e e29; have b_ := ht.1; have d_ := gc9.1; omega)
  subst hEq
  obtain ⟨q54, eq54, Wq54, fq54, sq54⟩ := p_Mo_put__g hn Wq49 (a1 := v46) (a2 := v47) (a3 := v48) t2 (by omega) (by omega) e29
  refine wb eq54 ?_
  have hs := GSg_fr fq54 tg Wq49 (by decide)
  obtain ⟨gcn, hr⟩ := GCo_put gc9 hnd (by omega) sq49 (gfi_fr fq49 tg (by decide)) (gaf_fr fq49 tg (gf_1_0 W9 tg) (by decide) (by decide)) ht sq54 (vfi_fr fq54 t2 (by decide)) (vaf_fr fq54 t2 (gf_64_1 Wq49 t2) (by decide) (by decide)) hs
  have P82 := PQk_fr P73 fq54 t1 (by decide)
  have g83 := GtW_fr g74 fq54 t2 Wq49 (by decide)
  have k84 := TkN_fr k75 fq54 t2 Wq49 (by decide)
  have en85 := (Zfr.gi fq54 t2 (by decide)).trans en76
  have ha86 := AcN_fr ha77 fq54 t2 Wq49 (by decide)
  have ea87 := (Zfr.gi fq54 t1 (by decide)).trans ea78
  have eb88 := (Zfr.gi fq54 t2 (by decide)).trans eb79
  have eg89 := (Zfr.gr fq54 t1 (by decide)).trans eg80
  have ga90 := GAr_s ga81 (GSa_fr fq54 tg Wq49 (by decide)) (GSb_fr fq54 t2 Wq49 (by decide))
  unfold f_Law_law_684
  exact lp_in (G := _) ⟨Wq54, t1, t2, P82, g83, k84, ⟨na, en85, ha86⟩, ta, tb, ea87, eb88, by omega, gp, eg89, tg, gcn, ga90⟩ hL h0 h6
set_option maxRecDepth 100000 in
set_option maxHeartbeats 4000000 in
theorem lc_5 {nf : Nat} (hn : 8589934592 ≤ nf) {L : Nat} {xs : Nat → Int32} (hL : L ≤ 3072) {x1 x2 : Nat} {x3 : Int32} {kk nn : Nat} {G : List Nat} {c : Zc} (h : LWd G c x1 x2 kk nn) (h0 : 0 ≤ x3.toInt) (h6 : x3.toInt + 6 ≤ L) : ∃ r, ((zxs L xs (x3 + 1)).bind fun v57 => (zxs L xs (x3 + 2)).bind fun v58 => (zxs L xs (x3 + 3)).bind fun v59 => (zxs L xs (x3 + 4)).bind fun v60 => (zob c x1 11).bind fun w62 => (f_PQ_arc nf x1 v57 v58 v59 v60 c).bind fun q61 => (zxs L xs (x3 + 1)).bind fun v63 => (zxs L xs (x3 + 2)).bind fun v64 => (zxs L xs (x3 + 3)).bind fun v65 => (zxs L xs (x3 + 4)).bind fun v66 => (zob q61.2 x2 12).bind fun w68 => (f_Mo_arc nf x2 v63 v64 v65 v66 q61.2).bind fun q67 => f_Law_law_684 nf L xs x1 x2 x3 kk nn q67.2) = some r ∧ LPo L x1 x2 x3 r := by
  have l0 : (0 : Int32).toInt = 0 := by decide
  have l1 : (1 : Int32).toInt = 1 := by decide
  have l2 : (2 : Int32).toInt = 2 := by decide
  have l3 : (3 : Int32).toInt = 3 := by decide
  have l4 : (4 : Int32).toInt = 4 := by decide
  have l5 : (5 : Int32).toInt = 5 := by decide
  have l6 : (6 : Int32).toInt = 6 := by decide
  obtain ⟨W9, t1, t2, P9, g9, k9, ⟨na, en9, ha9⟩, ta, tb, ea9, eb9, htt, gp, eg9, tg, gc9, ga9⟩ := h
  obtain ⟨ya, za, la, ua⟩ := gf_14_10 W9 t1
  rw [ea9] at za; cases za
  obtain ⟨yb, zb, lb, ub⟩ := gf_64_13 W9 t2
  rw [eb9] at zb; cases zb
  obtain ⟨yn, zn, ln, un⟩ := gf_64_8 W9 t2
  rw [en9] at zn; cases zn
  have := i_add (a := x3) (b := 1) (by omega) (by omega)
  obtain ⟨v57, ev57⟩ : ∃ v, zxs L xs (x3 + 1) = some v := ⟨_, zx_ok (by omega) (by omega)⟩
  refine wb ev57 ?_
  have := i_add (a := x3) (b := 2) (by omega) (by omega)
  obtain ⟨v58, ev58⟩ : ∃ v, zxs L xs (x3 + 2) = some v := ⟨_, zx_ok (by omega) (by omega)⟩
  refine wb ev58 ?_
  have := i_add (a := x3) (b := 3) (by omega) (by omega)
  obtain ⟨v59, ev59⟩ : ∃ v, zxs L xs (x3 + 3) = some v := ⟨_, zx_ok (by omega) (by omega)⟩
  refine wb ev59 ?_
  have := i_add (a := x3) (b := 4) (by omega) (by omega)
  obtain ⟨v60, ev60⟩ : ∃ v, zxs L xs (x3 + 4) = some v := ⟨_, zx_ok (by omega) (by omega)⟩
  refine wb ev60 ?_
  obtain ⟨w62, ew62⟩ := go_14 W9 t1
  refine wb ew62 ?_
  obtain ⟨ac, eac9, _⟩ := gf_1_8 W9 tg
  have hac := gfi_e eac9
  have hacr : 0 ≤ ac.toInt ∧ ac.toInt ≤ 100 := by have a_ := vfi_e en9; have b_ := ga9.1; omega
  obtain ⟨nd, end9, lnd, und⟩ := gf_1_7 W9 tg
  have hnd := gfi_e end9
  obtain ⟨q61, eq61, Wq61, fq61, hq61⟩ := p_PQ_arc__g hn W9 (a1 := v57) (a2 := v58) (a3 := v59) (a4 := v60) t1 (by omega) (by omega) (by omega) (by omega) eg9 end9 eac9
  refine wb eq61 ?_
  have P91 := PQk_fr P9 fq61 t1 (by decide)
  have g92 := GtW_fr g9 fq61 t2 W9 (by decide)
  have k93 := TkN_fr k9 fq61 t2 W9 (by decide)
  have en94 := (Zfr.gi fq61 t2 (by decide)).trans en9
  have ha95 := AcN_fr ha9 fq61 t2 W9 (by decide)
  have ea96 := (Zfr.gi fq61 t1 (by decide)).trans ea9
  have eb97 := (Zfr.gi fq61 t2 (by decide)).trans eb9
  have eg98 := (Zfr.gr fq61 t1 (by decide)).trans eg9
  have gc99 := GCo_s gc9 (GSg_fr fq61 tg W9 (by decide)) (GSm_fr fq61 t2 W9 (by decide))
  refine wb ev57 ?_
  refine wb ev58 ?_
  refine wb ev59 ?_
  refine wb ev60 ?_
  obtain ⟨w68, ew68⟩ := go_64 Wq61 t2
  refine wb ew68 ?_
  have hb := GSb_fr fq61 t2 W9 (by decide)
  have hEq : na = ac := Int32.toInt_inj.mp (by have a_ := vfi_e en9; have d_ := ga9.1; omega)
  have ht := GSm_fr fq61 t2 W9 (by decide)
  obtain ⟨nd2, e29, _, _⟩ := gf_64_0 Wq61 t2
  have hEq2 : nd2 = nd := Int32.toInt_inj.mp (by have a_ := vfi_e e29; have b_ := ht.1; have d_ := gc9.1; omega)
  subst hEq2
  subst hEq
  obtain ⟨q67, eq67, Wq67, fq67, hq67, nq67, mq67, _, _, pq67⟩ := p_Mo_arc__g hn Wq61 (a1 := v57) (a2 := v58) (a3 := v59) (a4 := v60) t2 (by omega) (by omega) (by omega) (by omega) e29 en94 ⟨en94, by omega, by omega, ha95⟩
  refine wb eq67 ?_
  have hsa := GSa_fr fq67 tg Wq61 (by decide)
  obtain ⟨gan, hr⟩ := GAr_arc ga9 hac ha9 (fun z_ => by omega) hq61 hb hq67 nb_1 hsa
  have P100 := PQk_fr P91 fq67 t1 (by decide)
  have g101 := GtW_fr g92 fq67 t2 Wq61 (by decide)
  have k102 := TkN_fr k93 fq67 t2 Wq61 (by decide)
  have ea103 := (Zfr.gi fq67 t1 (by decide)).trans ea96
  have eb104 := (Zfr.gi fq67 t2 (by decide)).trans eb97
  have eg105 := (Zfr.gr fq67 t1 (by decide)).trans eg98
  have gc106 := GCo_s gc99 (GSg_fr fq67 tg Wq61 (by decide)) (GSm_fr fq67 t2 Wq61 (by decide))
  unfold f_Law_law_684
  exact lp_in (G := _) ⟨Wq67, t1, t2, P100, g101, k102, ⟨nq67, mq67, pq67⟩, ta, tb, ea103, eb104, by omega, gp, eg105, tg, gc106, gan⟩ hL h0 h6
end ZzT
