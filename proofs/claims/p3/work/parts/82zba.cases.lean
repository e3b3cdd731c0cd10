section ZzT
set_option maxRecDepth 100000 in
set_option maxHeartbeats 4000000 in
theorem lc_0 {nf : Nat} (hn : 8589934592 ≤ nf) {L : Nat} {xs : Nat → Int32} (hL : L ≤ 3072) {x1 x2 : Nat} {x3 : Int32} {kk nn : Nat} {G : List Nat} {c : Zc} (h : LWd G c x1 x2 kk nn) (h0 : 0 ≤ x3.toInt) (h6 : x3.toInt + 6 ≤ L) : ∃ r, ((zxs L xs (x3 + 1)).bind fun v8 => (zxs L xs (x3 + 2)).bind fun v9 => (zxs L xs (x3 + 3)).bind fun v10 => (zxs L xs (x3 + 4)).bind fun v11 => (zxs L xs (x3 + 5)).bind fun v12 => (zob c x1 11).bind fun w14 => (f_PQ_feed nf x1 v8 v9 v10 v11 v12 c).bind fun q13 => (zxs L xs (x3 + 1)).bind fun v15 => (zxs L xs (x3 + 2)).bind fun v16 => (zxs L xs (x3 + 3)).bind fun v17 => (zxs L xs (x3 + 4)).bind fun v18 => (zxs L xs (x3 + 5)).bind fun v19 => (zob q13.2 x2 12).bind fun w21 => (f_Mo_feed nf x2 v15 v16 v17 v18 v19 q13.2).bind fun q20 => f_Law_law_684 nf L xs x1 x2 x3 kk nn q20.2) = some r ∧ LPo L x1 x2 x3 r := by
  have l0 : (0 : Int32).toInt = 0 := by decide
  have l1 : (1 : Int32).toInt = 1 := by decide
  have l2 : (2 : Int32).toInt = 2 := by decide
  have l3 : (3 : Int32).toInt = 3 := by decide
  have l4 : (4 : Int32).toInt = 4 := by decide
  have l5 : (5 : Int32).toInt = 5 := by decide
  have l6 : (6 : Int32).toInt = 6 := by decide
  obtain ⟨W9, t1, t2, P9, g9, k9, ⟨na, en9, ha9⟩, ta, tb, ea9, eb9, htt⟩ := h
  obtain ⟨ya, za, la, ua⟩ := gf_14_10 W9 t1
  rw [ea9] at za; cases za
  obtain ⟨yb, zb, lb, ub⟩ := gf_64_13 W9 t2
  rw [eb9] at zb; cases zb
  obtain ⟨yn, zn, ln, un⟩ := gf_64_8 W9 t2
  rw [en9] at zn; cases zn
  have := i_add (a := x3) (b := 1) (by omega) (by omega)
  obtain ⟨v8, ev8⟩ : ∃ v, zxs L xs (x3 + 1) = some v := ⟨_, zx_ok (by omega) (by omega)⟩
  refine wb ev8 ?_
  have := i_add (a := x3) (b := 2) (by omega) (by omega)
  obtain ⟨v9, ev9⟩ : ∃ v, zxs L xs (x3 + 2) = some v := ⟨_, zx_ok (by omega) (by omega)⟩
  refine wb ev9 ?_
  have := i_add (a := x3) (b := 3) (by omega) (by omega)
  obtain ⟨v10, ev10⟩ : ∃ v, zxs L xs (x3 + 3) = some v := ⟨_, zx_ok (by omega) (by omega)⟩
  refine wb ev10 ?_
  have := i_add (a := x3) (b := 4) (by omega) (by omega)
  obtain ⟨v11, ev11⟩ : ∃ v, zxs L xs (x3 + 4) = some v := ⟨_, zx_ok (by omega) (by omega)⟩
  refine wb ev11 ?_
  have := i_add (a := x3) (b := 5) (by omega) (by omega)
  obtain ⟨v12, ev12⟩ : ∃ v, zxs L xs (x3 + 5) = some v := ⟨_, zx_ok (by omega) (by omega)⟩
  refine wb ev12 ?_
  obtain ⟨w14, ew14⟩ := go_14 W9 t1
  refine wb ew14 ?_
  obtain ⟨q13, eq13, Wq13, fq13, nq13, mq13, pq13⟩ := p_PQ_feed__t hn W9 (a1 := v8) (a2 := v9) (a3 := v10) (a4 := v11) (a5 := v12) t1 (by omega) (by omega) ea9
  refine wb eq13 ?_
  have P1 := PQk_fr P9 fq13 t1 (by decide)
  have g2 := GtW_fr g9 fq13 t2 W9 (by decide)
  have k3 := TkN_fr k9 fq13 t2 W9 (by decide)
  have en4 := (Zfr.gi fq13 t2 (by decide)).trans en9
  have ha5 := AcN_fr ha9 fq13 t2 W9 (by decide)
  have eb6 := (Zfr.gi fq13 t2 (by decide)).trans eb9
  refine wb ev8 ?_
  refine wb ev9 ?_
  refine wb ev10 ?_
  refine wb ev11 ?_
  refine wb ev12 ?_
  obtain ⟨w21, ew21⟩ := go_64 Wq13 t2
  refine wb ew21 ?_
  obtain ⟨q20, eq20, Wq20, fq20, nq20, mq20, pq20⟩ := p_Mo_feed hn Wq13 (a1 := v8) (a2 := v9) (a3 := v10) (a4 := v11) (a5 := v12) t2 (by omega) (by omega) eb6
  refine wb eq20 ?_
  have P7 := PQk_fr P1 fq20 t1 (by decide)
  have g8 := GtW_fr g2 fq20 t2 Wq13 (by decide)
  have k9 := TkN_fr k3 fq20 t2 Wq13 (by decide)
  have en10 := (Zfr.gi fq20 t2 (by decide)).trans en4
  have ha11 := AcN_fr ha5 fq20 t2 Wq13 (by decide)
  have ea12 := (Zfr.gi fq20 t1 (by decide)).trans mq13
  unfold f_Law_law_684
  exact lp_in (G := _) ⟨Wq20, t1, t2, P7, g8, k9, ⟨na, en10, ha11⟩, nq13, nq20, ea12, mq20, by omega⟩ hL h0 h6
set_option maxRecDepth 100000 in
set_option maxHeartbeats 4000000 in
theorem lc_1 {nf : Nat} (hn : 8589934592 ≤ nf) {L : Nat} {xs : Nat → Int32} (hL : L ≤ 3072) {x1 x2 : Nat} {x3 : Int32} {kk nn : Nat} {G : List Nat} {c : Zc} (h : LWd G c x1 x2 kk nn) (h0 : 0 ≤ x3.toInt) (h6 : x3.toInt + 6 ≤ L) : ∃ r, ((zxs L xs (x3 + 1)).bind fun v23 => (zob c x1 11).bind fun w25 => (f_PQ_cut nf x1 v23 c).bind fun q24 => (zxs L xs (x3 + 1)).bind fun v26 => (zob q24.2 x2 12).bind fun w28 => (f_Mo_cut nf x2 v26 q24.2).bind fun q27 => if q24.1 = q27.1 then (f_Law_law_684 nf L xs x1 x2 x3 kk nn q27.2) else (some (.inr (.inl (kk, nn, q27.2))))) = some r ∧ LPo L x1 x2 x3 r := by
  have l0 : (0 : Int32).toInt = 0 := by decide
  have l1 : (1 : Int32).toInt = 1 := by decide
  have l2 : (2 : Int32).toInt = 2 := by decide
  have l3 : (3 : Int32).toInt = 3 := by decide
  have l4 : (4 : Int32).toInt = 4 := by decide
  have l5 : (5 : Int32).toInt = 5 := by decide
  have l6 : (6 : Int32).toInt = 6 := by decide
  obtain ⟨W9, t1, t2, P9, g9, k9, ⟨na, en9, ha9⟩, ta, tb, ea9, eb9, htt⟩ := h
  obtain ⟨ya, za, la, ua⟩ := gf_14_10 W9 t1
  rw [ea9] at za; cases za
  obtain ⟨yb, zb, lb, ub⟩ := gf_64_13 W9 t2
  rw [eb9] at zb; cases zb
  obtain ⟨yn, zn, ln, un⟩ := gf_64_8 W9 t2
  rw [en9] at zn; cases zn
  have := i_add (a := x3) (b := 1) (by omega) (by omega)
  obtain ⟨v23, ev23⟩ : ∃ v, zxs L xs (x3 + 1) = some v := ⟨_, zx_ok (by omega) (by omega)⟩
  refine wb ev23 ?_
  obtain ⟨w25, ew25⟩ := go_14 W9 t1
  refine wb ew25 ?_
  obtain ⟨q24, eq24, Wq24, fq24, nq24, mq24, pq24⟩ := p_PQ_cut__t hn W9 (a1 := v23) t1 (by omega) (by omega) ea9
  refine wb eq24 ?_
  have P13 := PQk_fr P9 fq24 t1 (by decide)
  have g14 := GtW_fr g9 fq24 t2 W9 (by decide)
  have k15 := TkN_fr k9 fq24 t2 W9 (by decide)
  have en16 := (Zfr.gi fq24 t2 (by decide)).trans en9
  have ha17 := AcN_fr ha9 fq24 t2 W9 (by decide)
  have eb18 := (Zfr.gi fq24 t2 (by decide)).trans eb9
  refine wb ev23 ?_
  obtain ⟨w28, ew28⟩ := go_64 Wq24 t2
  refine wb ew28 ?_
  obtain ⟨q27, eq27, Wq27, fq27, nq27, mq27, pq27⟩ := p_Mo_cut hn Wq24 (a1 := v23) t2 (by omega) (by omega) eb18
  refine wb eq27 ?_
  have P19 := PQk_fr P13 fq27 t1 (by decide)
  have g20 := GtW_fr g14 fq27 t2 Wq24 (by decide)
  have k21 := TkN_fr k15 fq27 t2 Wq24 (by decide)
  have en22 := (Zfr.gi fq27 t2 (by decide)).trans en16
  have ha23 := AcN_fr ha17 fq27 t2 Wq24 (by decide)
  have ea24 := (Zfr.gi fq27 t1 (by decide)).trans mq24
  refine wi (fun hq => ?_) (fun hq => ?_)
  · unfold f_Law_law_684
    exact lp_in (G := _) ⟨Wq27, t1, t2, P19, g20, k21, ⟨na, en22, ha23⟩, nq24, nq27, ea24, mq27, by omega⟩ hL h0 h6
  · exact absurd (Int32.toInt_inj.mp (by omega)) hq
set_option maxRecDepth 100000 in
set_option maxHeartbeats 4000000 in
theorem lc_2 {nf : Nat} (hn : 8589934592 ≤ nf) {L : Nat} {xs : Nat → Int32} (hL : L ≤ 3072) {x1 x2 : Nat} {x3 : Int32} {kk nn : Nat} {G : List Nat} {c : Zc} (h : LWd G c x1 x2 kk nn) (h0 : 0 ≤ x3.toInt) (h6 : x3.toInt + 6 ≤ L) : ∃ r, ((zxs L xs (x3 + 1)).bind fun v31 => (zob c x1 11).bind fun w33 => (f_PQ_node nf x1 v31 c).bind fun q32 => (zxs L xs (x3 + 1)).bind fun v34 => (zob q32.2 x2 12).bind fun w36 => (f_Mo_node nf x2 v34 q32.2).bind fun q35 => f_Law_law_684 nf L xs x1 x2 x3 kk nn q35.2) = some r ∧ LPo L x1 x2 x3 r := by
  have l0 : (0 : Int32).toInt = 0 := by decide
  have l1 : (1 : Int32).toInt = 1 := by decide
  have l2 : (2 : Int32).toInt = 2 := by decide
  have l3 : (3 : Int32).toInt = 3 := by decide
  have l4 : (4 : Int32).toInt = 4 := by decide
  have l5 : (5 : Int32).toInt = 5 := by decide
  have l6 : (6 : Int32).toInt = 6 := by decide
  obtain ⟨W9, t1, t2, P9, g9, k9, ⟨na, en9, ha9⟩, ta, tb, ea9, eb9, htt⟩ := h
  obtain ⟨ya, za, la, ua⟩ := gf_14_10 W9 t1
  rw [ea9] at za; cases za
  obtain ⟨yb, zb, lb, ub⟩ := gf_64_13 W9 t2
  rw [eb9] at zb; cases zb
  obtain ⟨yn, zn, ln, un⟩ := gf_64_8 W9 t2
  rw [en9] at zn; cases zn
  have := i_add (a := x3) (b := 1) (by omega) (by omega)
  obtain ⟨v31, ev31⟩ : ∃ v, zxs L xs (x3 + 1) = some v := ⟨_, zx_ok (by omega) (by omega)⟩
  refine wb ev31 ?_
  obtain ⟨w33, ew33⟩ := go_14 W9 t1
  refine wb ew33 ?_
  obtain ⟨q32, eq32, Wq32, fq32⟩ := p_PQ_node hn W9 (a1 := v31) t1
  refine wb eq32 ?_
  have P25 := PQk_fr P9 fq32 t1 (by decide)
  have g26 := GtW_fr g9 fq32 t2 W9 (by decide)
  have k27 := TkN_fr k9 fq32 t2 W9 (by decide)
  have en28 := (Zfr.gi fq32 t2 (by decide)).trans en9
  have ha29 := AcN_fr ha9 fq32 t2 W9 (by decide)
  have ea30 := (Zfr.gi fq32 t1 (by decide)).trans ea9
  have eb31 := (Zfr.gi fq32 t2 (by decide)).trans eb9
  refine wb ev31 ?_
  obtain ⟨w36, ew36⟩ := go_64 Wq32 t2
  refine wb ew36 ?_
  obtain ⟨q35, eq35, Wq35, fq35⟩ := p_Mo_node hn Wq32 (a1 := v31) t2
  refine wb eq35 ?_
  have P32 := PQk_fr P25 fq35 t1 (by decide)
  have g33 := GtW_fr g26 fq35 t2 Wq32 (by decide)
  have k34 := TkN_fr k27 fq35 t2 Wq32 (by decide)
  have en35 := (Zfr.gi fq35 t2 (by decide)).trans en28
  have ha36 := AcN_fr ha29 fq35 t2 Wq32 (by decide)
  have ea37 := (Zfr.gi fq35 t1 (by decide)).trans ea30
  have eb38 := (Zfr.gi fq35 t2 (by decide)).trans eb31
  unfold f_Law_law_684
  exact lp_in (G := _) ⟨Wq35, t1, t2, P32, g33, k34, ⟨na, en35, ha36⟩, ta, tb, ea37, eb38, by omega⟩ hL h0 h6
set_option maxRecDepth 100000 in
set_option maxHeartbeats 4000000 in
theorem lc_3 {nf : Nat} (hn : 8589934592 ≤ nf) {L : Nat} {xs : Nat → Int32} (hL : L ≤ 3072) {x1 x2 : Nat} {x3 : Int32} {kk nn : Nat} {G : List Nat} {c : Zc} (h : LWd G c x1 x2 kk nn) (h0 : 0 ≤ x3.toInt) (h6 : x3.toInt + 6 ≤ L) : ∃ r, ((zxs L xs (x3 + 1)).bind fun v38 => (zxs L xs (x3 + 2)).bind fun v39 => (zob c x1 11).bind fun w41 => (f_PQ_mark nf x1 v38 v39 c).bind fun q40 => (zxs L xs (x3 + 1)).bind fun v42 => (zxs L xs (x3 + 2)).bind fun v43 => (zob q40.2 x2 12).bind fun w45 => (f_Mo_mark nf x2 v42 v43 q40.2).bind fun q44 => f_Law_law_684 nf L xs x1 x2 x3 kk nn q44.2) = some r ∧ LPo L x1 x2 x3 r := by
  have l0 : (0 : Int32).toInt = 0 := by decide
  have l1 : (1 : Int32).toInt = 1 := by decide
  have l2 : (2 : Int32).toInt = 2 := by decide
  have l3 : (3 : Int32).toInt = 3 := by decide
  have l4 : (4 : Int32).toInt = 4 := by decide
  have l5 : (5 : Int32).toInt = 5 := by decide
  have l6 : (6 : Int32).toInt = 6 := by decide
  obtain ⟨W9, t1, t2, P9, g9, k9, ⟨na, en9, ha9⟩, ta, tb, ea9, eb9, htt⟩ := h
  obtain ⟨ya, za, la, ua⟩ := gf_14_10 W9 t1
  rw [ea9] at za; cases za
  obtain ⟨yb, zb, lb, ub⟩ := gf_64_13 W9 t2
  rw [eb9] at zb; cases zb
  obtain ⟨yn, zn, ln, un⟩ := gf_64_8 W9 t2
  rw [en9] at zn; cases zn
  have := i_add (a := x3) (b := 1) (by omega) (by omega)
  obtain ⟨v38, ev38⟩ : ∃ v, zxs L xs (x3 + 1) = some v := ⟨_, zx_ok (by omega) (by omega)⟩
  refine wb ev38 ?_
  have := i_add (a := x3) (b := 2) (by omega) (by omega)
  obtain ⟨v39, ev39⟩ : ∃ v, zxs L xs (x3 + 2) = some v := ⟨_, zx_ok (by omega) (by omega)⟩
  refine wb ev39 ?_
  obtain ⟨w41, ew41⟩ := go_14 W9 t1
  refine wb ew41 ?_
  obtain ⟨q40, eq40, Wq40, fq40⟩ := p_PQ_mark hn W9 (a1 := v38) (a2 := v39) t1
  refine wb eq40 ?_
  have P39 := PQk_fr P9 fq40 t1 (by decide)
  have g40 := GtW_fr g9 fq40 t2 W9 (by decide)
  have k41 := TkN_fr k9 fq40 t2 W9 (by decide)
  have en42 := (Zfr.gi fq40 t2 (by decide)).trans en9
  have ha43 := AcN_fr ha9 fq40 t2 W9 (by decide)
  have ea44 := (Zfr.gi fq40 t1 (by decide)).trans ea9
  have eb45 := (Zfr.gi fq40 t2 (by decide)).trans eb9
  refine wb ev38 ?_
  refine wb ev39 ?_
  obtain ⟨w45, ew45⟩ := go_64 Wq40 t2
  refine wb ew45 ?_
  obtain ⟨q44, eq44, Wq44, fq44⟩ := p_Mo_mark hn Wq40 (a1 := v38) (a2 := v39) t2
  refine wb eq44 ?_
  have P46 := PQk_fr P39 fq44 t1 (by decide)
  have g47 := GtW_fr g40 fq44 t2 Wq40 (by decide)
  have k48 := TkN_fr k41 fq44 t2 Wq40 (by decide)
  have en49 := (Zfr.gi fq44 t2 (by decide)).trans en42
  have ha50 := AcN_fr ha43 fq44 t2 Wq40 (by decide)
  have ea51 := (Zfr.gi fq44 t1 (by decide)).trans ea44
  have eb52 := (Zfr.gi fq44 t2 (by decide)).trans eb45
  unfold f_Law_law_684
  exact lp_in (G := _) ⟨Wq44, t1, t2, P46, g47, k48, ⟨na, en49, ha50⟩, ta, tb, ea51, eb52, by omega⟩ hL h0 h6
set_option maxRecDepth 100000 in
set_option maxHeartbeats 4000000 in
theorem lc_4 {nf : Nat} (hn : 8589934592 ≤ nf) {L : Nat} {xs : Nat → Int32} (hL : L ≤ 3072) {x1 x2 : Nat} {x3 : Int32} {kk nn : Nat} {G : List Nat} {c : Zc} (h : LWd G c x1 x2 kk nn) (h0 : 0 ≤ x3.toInt) (h6 : x3.toInt + 6 ≤ L) : ∃ r, ((zxs L xs (x3 + 1)).bind fun v47 => (zxs L xs (x3 + 2)).bind fun v48 => (zxs L xs (x3 + 3)).bind fun v49 => (zob c x1 11).bind fun w51 => (f_PQ_put nf x1 v47 v48 v49 c).bind fun q50 => (zxs L xs (x3 + 1)).bind fun v52 => (zxs L xs (x3 + 2)).bind fun v53 => (zxs L xs (x3 + 3)).bind fun v54 => (zob q50.2 x2 12).bind fun w56 => (f_Mo_put nf x2 v52 v53 v54 q50.2).bind fun q55 => f_Law_law_684 nf L xs x1 x2 x3 kk nn q55.2) = some r ∧ LPo L x1 x2 x3 r := by
  have l0 : (0 : Int32).toInt = 0 := by decide
  have l1 : (1 : Int32).toInt = 1 := by decide
  have l2 : (2 : Int32).toInt = 2 := by decide
  have l3 : (3 : Int32).toInt = 3 := by decide
  have l4 : (4 : Int32).toInt = 4 := by decide
  have l5 : (5 : Int32).toInt = 5 := by decide
  have l6 : (6 : Int32).toInt = 6 := by decide
  obtain ⟨W9, t1, t2, P9, g9, k9, ⟨na, en9, ha9⟩, ta, tb, ea9, eb9, htt⟩ := h
  obtain ⟨ya, za, la, ua⟩ := gf_14_10 W9 t1
  rw [ea9] at za; cases za
  obtain ⟨yb, zb, lb, ub⟩ := gf_64_13 W9 t2
  rw [eb9] at zb; cases zb
  obtain ⟨yn, zn, ln, un⟩ := gf_64_8 W9 t2
  rw [en9] at zn; cases zn
  have := i_add (a := x3) (b := 1) (by omega) (by omega)
  obtain ⟨v47, ev47⟩ : ∃ v, zxs L xs (x3 + 1) = some v := ⟨_, zx_ok (by omega) (by omega)⟩
  refine wb ev47 ?_
  have := i_add (a := x3) (b := 2) (by omega) (by omega)
  obtain ⟨v48, ev48⟩ : ∃ v, zxs L xs (x3 + 2) = some v := ⟨_, zx_ok (by omega) (by omega)⟩
  refine wb ev48 ?_
  have := i_add (a := x3) (b := 3) (by omega) (by omega)
  obtain ⟨v49, ev49⟩ : ∃ v, zxs L xs (x3 + 3) = some v := ⟨_, zx_ok (by omega) (by omega)⟩
  refine wb ev49 ?_
  obtain ⟨w51, ew51⟩ := go_14 W9 t1
  refine wb ew51 ?_
  obtain ⟨q50, eq50, Wq50, fq50⟩ := p_PQ_put hn W9 (a1 := v47) (a2 := v48) (a3 := v49) t1
  refine wb eq50 ?_
  have P53 := PQk_fr P9 fq50 t1 (by decide)
  have g54 := GtW_fr g9 fq50 t2 W9 (by decide)
  have k55 := TkN_fr k9 fq50 t2 W9 (by decide)
  have en56 := (Zfr.gi fq50 t2 (by decide)).trans en9
  have ha57 := AcN_fr ha9 fq50 t2 W9 (by decide)
  have ea58 := (Zfr.gi fq50 t1 (by decide)).trans ea9
  have eb59 := (Zfr.gi fq50 t2 (by decide)).trans eb9
  refine wb ev47 ?_
  refine wb ev48 ?_
  refine wb ev49 ?_
  obtain ⟨w56, ew56⟩ := go_64 Wq50 t2
  refine wb ew56 ?_
  obtain ⟨q55, eq55, Wq55, fq55⟩ := p_Mo_put hn Wq50 (a1 := v47) (a2 := v48) (a3 := v49) t2
  refine wb eq55 ?_
  have P60 := PQk_fr P53 fq55 t1 (by decide)
  have g61 := GtW_fr g54 fq55 t2 Wq50 (by decide)
  have k62 := TkN_fr k55 fq55 t2 Wq50 (by decide)
  have en63 := (Zfr.gi fq55 t2 (by decide)).trans en56
  have ha64 := AcN_fr ha57 fq55 t2 Wq50 (by decide)
  have ea65 := (Zfr.gi fq55 t1 (by decide)).trans ea58
  have eb66 := (Zfr.gi fq55 t2 (by decide)).trans eb59
  unfold f_Law_law_684
  exact lp_in (G := _) ⟨Wq55, t1, t2, P60, g61, k62, ⟨na, en63, ha64⟩, ta, tb, ea65, eb66, by omega⟩ hL h0 h6
set_option maxRecDepth 100000 in
set_option maxHeartbeats 4000000 in
theorem lc_5 {nf : Nat} (hn : 8589934592 ≤ nf) {L : Nat} {xs : Nat → Int32} (hL : L ≤ 3072) {x1 x2 : Nat} {x3 : Int32} {kk nn : Nat} {G : List Nat} {c : Zc} (h : LWd G c x1 x2 kk nn) (h0 : 0 ≤ x3.toInt) (h6 : x3.toInt + 6 ≤ L) : ∃ r, ((zxs L xs (x3 + 1)).bind fun v58 => (zxs L xs (x3 + 2)).bind fun v59 => (zxs L xs (x3 + 3)).bind fun v60 => (zxs L xs (x3 + 4)).bind fun v61 => (zob c x1 11).bind fun w63 => (f_PQ_arc nf x1 v58 v59 v60 v61 c).bind fun q62 => (zxs L xs (x3 + 1)).bind fun v64 => (zxs L xs (x3 + 2)).bind fun v65 => (zxs L xs (x3 + 3)).bind fun v66 => (zxs L xs (x3 + 4)).bind fun v67 => (zob q62.2 x2 12).bind fun w69 => (f_Mo_arc nf x2 v64 v65 v66 v67 q62.2).bind fun q68 => f_Law_law_684 nf L xs x1 x2 x3 kk nn q68.2) = some r ∧ LPo L x1 x2 x3 r := by
  have l0 : (0 : Int32).toInt = 0 := by decide
  have l1 : (1 : Int32).toInt = 1 := by decide
  have l2 : (2 : Int32).toInt = 2 := by decide
  have l3 : (3 : Int32).toInt = 3 := by decide
  have l4 : (4 : Int32).toInt = 4 := by decide
  have l5 : (5 : Int32).toInt = 5 := by decide
  have l6 : (6 : Int32).toInt = 6 := by decide
  obtain ⟨W9, t1, t2, P9, g9, k9, ⟨na, en9, ha9⟩, ta, tb, ea9, eb9, htt⟩ := h
  obtain ⟨ya, za, la, ua⟩ := gf_14_10 W9 t1
  rw [ea9] at za; cases za
  obtain ⟨yb, zb, lb, ub⟩ := gf_64_13 W9 t2
  rw [eb9] at zb; cases zb
  obtain ⟨yn, zn, ln, un⟩ := gf_64_8 W9 t2
  rw [en9] at zn; cases zn
  have := i_add (a := x3) (b := 1) (by omega) (by omega)
  obtain ⟨v58, ev58⟩ : ∃ v, zxs L xs (x3 + 1) = some v := ⟨_, zx_ok (by omega) (by omega)⟩
  refine wb ev58 ?_
  have := i_add (a := x3) (b := 2) (by omega) (by omega)
  obtain ⟨v59, ev59⟩ : ∃ v, zxs L xs (x3 + 2) = some v := ⟨_, zx_ok (by omega) (by omega)⟩
  refine wb ev59 ?_
  have := i_add (a := x3) (b := 3) (by omega) (by omega)
  obtain ⟨v60, ev60⟩ : ∃ v, zxs L xs (x3 + 3) = some v := ⟨_, zx_ok (by omega) (by omega)⟩
  refine wb ev60 ?_
  have := i_add (a := x3) (b := 4) (by omega) (by omega)
  obtain ⟨v61, ev61⟩ : ∃ v, zxs L xs (x3 + 4) = some v := ⟨_, zx_ok (by omega) (by omega)⟩
  refine wb ev61 ?_
  obtain ⟨w63, ew63⟩ := go_14 W9 t1
  refine wb ew63 ?_
  obtain ⟨q62, eq62, Wq62, fq62⟩ := p_PQ_arc hn W9 (a1 := v58) (a2 := v59) (a3 := v60) (a4 := v61) t1
  refine wb eq62 ?_
  have P67 := PQk_fr P9 fq62 t1 (by decide)
  have g68 := GtW_fr g9 fq62 t2 W9 (by decide)
  have k69 := TkN_fr k9 fq62 t2 W9 (by decide)
  have en70 := (Zfr.gi fq62 t2 (by decide)).trans en9
  have ha71 := AcN_fr ha9 fq62 t2 W9 (by decide)
  have ea72 := (Zfr.gi fq62 t1 (by decide)).trans ea9
  have eb73 := (Zfr.gi fq62 t2 (by decide)).trans eb9
  refine wb ev58 ?_
  refine wb ev59 ?_
  refine wb ev60 ?_
  refine wb ev61 ?_
  obtain ⟨w69, ew69⟩ := go_64 Wq62 t2
  refine wb ew69 ?_
  obtain ⟨q68, eq68, Wq68, fq68, nq68, mq68, _, _, pq68⟩ := p_Mo_arc hn Wq62 (a1 := v58) (a2 := v59) (a3 := v60) (a4 := v61) t2 ⟨na, en70, by omega, by omega, ha71⟩
  refine wb eq68 ?_
  have P74 := PQk_fr P67 fq68 t1 (by decide)
  have g75 := GtW_fr g68 fq68 t2 Wq62 (by decide)
  have k76 := TkN_fr k69 fq68 t2 Wq62 (by decide)
  have ea77 := (Zfr.gi fq68 t1 (by decide)).trans ea72
  have eb78 := (Zfr.gi fq68 t2 (by decide)).trans eb73
  unfold f_Law_law_684
  exact lp_in (G := _) ⟨Wq68, t1, t2, P74, g75, k76, ⟨nq68, mq68, pq68⟩, ta, tb, ea77, eb78, by omega⟩ hL h0 h6
end ZzT
