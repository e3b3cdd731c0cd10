section ZzT
set_option maxRecDepth 100000 in
set_option maxHeartbeats 4000000 in
theorem lc_6 {nf : Nat} (hn : 8589934592 ≤ nf) {L : Nat} {xs : Nat → Int32} (hL : L ≤ 3072) {x1 x2 : Nat} {x3 : Int32} {kk nn : Nat} {G : List Nat} {c : Zc} (h : LWd G c x1 x2 kk nn) (h0 : 0 ≤ x3.toInt) (h6 : x3.toInt + 6 ≤ L) : ∃ r, ((zxs L xs (x3 + 1)).bind fun v71 => (zob c x1 11).bind fun w73 => (f_PQ_drop nf x1 v71 c).bind fun q72 => (zxs L xs (x3 + 1)).bind fun v74 => (zob q72.2 x2 12).bind fun w76 => (f_Mo_drop nf x2 v74 q72.2).bind fun q75 => f_Law_law_684 nf L xs x1 x2 x3 kk nn q75.2) = some r ∧ LPo L x1 x2 x3 r := by
  have l0 : (0 : Int32).toInt = 0 := by decide
  have l1 : (1 : Int32).toInt = 1 := by decide
  have l2 : (2 : Int32).toInt = 2 := by decide
  have l3 : (3 : Int32).toInt = 3 := by decide
  have l4 : (4 : Int32).toInt = 4 := by decide
  have l5 : (5 : Int32).toInt = 5 := by decide
  have l6 : (6 : Int32).toInt = 6 := by decide
  obtain ⟨W9, t1, t2, P9, g9, k9, ⟨na, en9, ha9⟩, ta, tb, ea9, eb9, htt⟩ := h
  obtain ⟨ya, za, la, ua⟩ := gf_14_10 W9 t1
  rw [ea9] at za; cases za
  obtain ⟨yb, zb, lb, ub⟩ := gf_64_13 W9 t2
  rw [eb9] at zb; cases zb
  obtain ⟨yn, zn, ln, un⟩ := gf_64_8 W9 t2
  rw [en9] at zn; cases zn
  have := i_add (a := x3) (b := 1) (by omega) (by omega)
  obtain ⟨v71, ev71⟩ : ∃ v, zxs L xs (x3 + 1) = some v := ⟨_, zx_ok (by omega) (by omega)⟩
  refine wb ev71 ?_
  obtain ⟨w73, ew73⟩ := go_14 W9 t1
  refine wb ew73 ?_
  obtain ⟨q72, eq72, Wq72, fq72⟩ := p_PQ_drop hn W9 (a1 := v71) t1
  refine wb eq72 ?_
  have P79 := PQk_fr P9 fq72 t1 (by decide)
  have g80 := GtW_fr g9 fq72 t2 W9 (by decide)
  have k81 := TkN_fr k9 fq72 t2 W9 (by decide)
  have en82 := (Zfr.gi fq72 t2 (by decide)).trans en9
  have ha83 := AcN_fr ha9 fq72 t2 W9 (by decide)
  have ea84 := (Zfr.gi fq72 t1 (by decide)).trans ea9
  have eb85 := (Zfr.gi fq72 t2 (by decide)).trans eb9
  refine wb ev71 ?_
  obtain ⟨w76, ew76⟩ := go_64 Wq72 t2
  refine wb ew76 ?_
  obtain ⟨q75, eq75, Wq75, fq75, nq75, mq75, _, _, pq75⟩ := p_Mo_drop hn Wq72 (a1 := v71) t2 ⟨na, en82, by omega, by omega, ha83⟩
  refine wb eq75 ?_
  have P86 := PQk_fr P79 fq75 t1 (by decide)
  have g87 := GtW_fr g80 fq75 t2 Wq72 (by decide)
  have k88 := TkN_fr k81 fq75 t2 Wq72 (by decide)
  have ea89 := (Zfr.gi fq75 t1 (by decide)).trans ea84
  have eb90 := (Zfr.gi fq75 t2 (by decide)).trans eb85
  unfold f_Law_law_684
  exact lp_in (G := _) ⟨Wq75, t1, t2, P86, g87, k88, ⟨nq75, mq75, pq75⟩, ta, tb, ea89, eb90, by omega⟩ hL h0 h6
set_option maxRecDepth 100000 in
set_option maxHeartbeats 4000000 in
theorem lc_7 {nf : Nat} (hn : 8589934592 ≤ nf) {L : Nat} {xs : Nat → Int32} (hL : L ≤ 3072) {x1 x2 : Nat} {x3 : Int32} {kk nn : Nat} {G : List Nat} {c : Zc} (h : LWd G c x1 x2 kk nn) (h0 : 0 ≤ x3.toInt) (h6 : x3.toInt + 6 ≤ L) : ∃ r, ((zxs L xs (x3 + 1)).bind fun v78 => (zxs L xs (x3 + 2)).bind fun v79 => (zob c x1 11).bind fun w81 => (f_PQ_told nf x1 v78 v79 c).bind fun q80 => (zxs L xs (x3 + 1)).bind fun v82 => (zxs L xs (x3 + 2)).bind fun v83 => (zob q80.2 x2 12).bind fun w85 => (f_Mo_told nf x2 v82 v83 q80.2).bind fun q84 => f_Law_law_684 nf L xs x1 x2 x3 kk nn q84.2) = some r ∧ LPo L x1 x2 x3 r := by
  have l0 : (0 : Int32).toInt = 0 := by decide
  have l1 : (1 : Int32).toInt = 1 := by decide
  have l2 : (2 : Int32).toInt = 2 := by decide
  have l3 : (3 : Int32).toInt = 3 := by decide
  have l4 : (4 : Int32).toInt = 4 := by decide
  have l5 : (5 : Int32).toInt = 5 := by decide
  have l6 : (6 : Int32).toInt = 6 := by decide
  obtain ⟨W9, t1, t2, P9, g9, k9, ⟨na, en9, ha9⟩, ta, tb, ea9, eb9, htt⟩ := h
  obtain ⟨ya, za, la, ua⟩ := gf_14_10 W9 t1
  rw [ea9] at za; cases za
  obtain ⟨yb, zb, lb, ub⟩ := gf_64_13 W9 t2
  rw [eb9] at zb; cases zb
  obtain ⟨yn, zn, ln, un⟩ := gf_64_8 W9 t2
  rw [en9] at zn; cases zn
  have := i_add (a := x3) (b := 1) (by omega) (by omega)
  obtain ⟨v78, ev78⟩ : ∃ v, zxs L xs (x3 + 1) = some v := ⟨_, zx_ok (by omega) (by omega)⟩
  refine wb ev78 ?_
  have := i_add (a := x3) (b := 2) (by omega) (by omega)
  obtain ⟨v79, ev79⟩ : ∃ v, zxs L xs (x3 + 2) = some v := ⟨_, zx_ok (by omega) (by omega)⟩
  refine wb ev79 ?_
  obtain ⟨w81, ew81⟩ := go_14 W9 t1
  refine wb ew81 ?_
  obtain ⟨q80, eq80, Wq80, fq80⟩ := p_PQ_told hn W9 (a1 := v78) (a2 := v79) t1
  refine wb eq80 ?_
  have P91 := PQk_fr P9 fq80 t1 (by decide)
  have g92 := GtW_fr g9 fq80 t2 W9 (by decide)
  have k93 := TkN_fr k9 fq80 t2 W9 (by decide)
  have en94 := (Zfr.gi fq80 t2 (by decide)).trans en9
  have ha95 := AcN_fr ha9 fq80 t2 W9 (by decide)
  have ea96 := (Zfr.gi fq80 t1 (by decide)).trans ea9
  have eb97 := (Zfr.gi fq80 t2 (by decide)).trans eb9
  refine wb ev78 ?_
  refine wb ev79 ?_
  obtain ⟨w85, ew85⟩ := go_64 Wq80 t2
  refine wb ew85 ?_
  obtain ⟨q84, eq84, Wq84, fq84⟩ := p_Mo_told hn Wq80 (a1 := v78) (a2 := v79) t2
  refine wb eq84 ?_
  have P98 := PQk_fr P91 fq84 t1 (by decide)
  have g99 := GtW_fr g92 fq84 t2 Wq80 (by decide)
  have k100 := TkN_fr k93 fq84 t2 Wq80 (by decide)
  have en101 := (Zfr.gi fq84 t2 (by decide)).trans en94
  have ha102 := AcN_fr ha95 fq84 t2 Wq80 (by decide)
  have ea103 := (Zfr.gi fq84 t1 (by decide)).trans ea96
  have eb104 := (Zfr.gi fq84 t2 (by decide)).trans eb97
  unfold f_Law_law_684
  exact lp_in (G := _) ⟨Wq84, t1, t2, P98, g99, k100, ⟨na, en101, ha102⟩, ta, tb, ea103, eb104, by omega⟩ hL h0 h6
set_option maxRecDepth 100000 in
set_option maxHeartbeats 4000000 in
theorem lc_8 {nf : Nat} (hn : 8589934592 ≤ nf) {L : Nat} {xs : Nat → Int32} (hL : L ≤ 3072) {x1 x2 : Nat} {x3 : Int32} {kk nn : Nat} {G : List Nat} {c : Zc} (h : LWd G c x1 x2 kk nn) (h0 : 0 ≤ x3.toInt) (h6 : x3.toInt + 6 ≤ L) : ∃ r, ((zxs L xs (x3 + 1)).bind fun v87 => (zob c x1 11).bind fun w89 => (f_PQ_bare nf x1 v87 c).bind fun q88 => (zxs L xs (x3 + 1)).bind fun v90 => (zob q88.2 x2 12).bind fun w92 => (f_Mo_bare nf x2 v90 q88.2).bind fun q91 => f_Law_law_684 nf L xs x1 x2 x3 kk nn q91.2) = some r ∧ LPo L x1 x2 x3 r := by
  have l0 : (0 : Int32).toInt = 0 := by decide
  have l1 : (1 : Int32).toInt = 1 := by decide
  have l2 : (2 : Int32).toInt = 2 := by decide
  have l3 : (3 : Int32).toInt = 3 := by decide
  have l4 : (4 : Int32).toInt = 4 := by decide
  have l5 : (5 : Int32).toInt = 5 := by decide
  have l6 : (6 : Int32).toInt = 6 := by decide
  obtain ⟨W9, t1, t2, P9, g9, k9, ⟨na, en9, ha9⟩, ta, tb, ea9, eb9, htt⟩ := h
  obtain ⟨ya, za, la, ua⟩ := gf_14_10 W9 t1
  rw [ea9] at za; cases za
  obtain ⟨yb, zb, lb, ub⟩ := gf_64_13 W9 t2
  rw [eb9] at zb; cases zb
  obtain ⟨yn, zn, ln, un⟩ := gf_64_8 W9 t2
  rw [en9] at zn; cases zn
  have := i_add (a := x3) (b := 1) (by omega) (by omega)
  obtain ⟨v87, ev87⟩ : ∃ v, zxs L xs (x3 + 1) = some v := ⟨_, zx_ok (by omega) (by omega)⟩
  refine wb ev87 ?_
  obtain ⟨w89, ew89⟩ := go_14 W9 t1
  refine wb ew89 ?_
  obtain ⟨q88, eq88, Wq88, fq88⟩ := p_PQ_bare hn W9 (a1 := v87) t1
  refine wb eq88 ?_
  have P105 := PQk_fr P9 fq88 t1 (by decide)
  have g106 := GtW_fr g9 fq88 t2 W9 (by decide)
  have k107 := TkN_fr k9 fq88 t2 W9 (by decide)
  have en108 := (Zfr.gi fq88 t2 (by decide)).trans en9
  have ha109 := AcN_fr ha9 fq88 t2 W9 (by decide)
  have ea110 := (Zfr.gi fq88 t1 (by decide)).trans ea9
  have eb111 := (Zfr.gi fq88 t2 (by decide)).trans eb9
  refine wb ev87 ?_
  obtain ⟨w92, ew92⟩ := go_64 Wq88 t2
  refine wb ew92 ?_
  obtain ⟨q91, eq91, Wq91, fq91, nq91, mq91, _, _, pq91⟩ := p_Mo_bare hn Wq88 (a1 := v87) t2 ⟨na, en108, by omega, by omega, ha109⟩
  refine wb eq91 ?_
  have P112 := PQk_fr P105 fq91 t1 (by decide)
  have g113 := GtW_fr g106 fq91 t2 Wq88 (by decide)
  have k114 := TkN_fr k107 fq91 t2 Wq88 (by decide)
  have ea115 := (Zfr.gi fq91 t1 (by decide)).trans ea110
  have eb116 := (Zfr.gi fq91 t2 (by decide)).trans eb111
  unfold f_Law_law_684
  exact lp_in (G := _) ⟨Wq91, t1, t2, P112, g113, k114, ⟨nq91, mq91, pq91⟩, ta, tb, ea115, eb116, by omega⟩ hL h0 h6
set_option maxRecDepth 100000 in
set_option maxHeartbeats 4000000 in
theorem lc_9 {nf : Nat} (hn : 8589934592 ≤ nf) {L : Nat} {xs : Nat → Int32} (hL : L ≤ 3072) {x1 x2 : Nat} {x3 : Int32} {kk nn : Nat} {G : List Nat} {c : Zc} (h : LWd G c x1 x2 kk nn) (h0 : 0 ≤ x3.toInt) (h6 : x3.toInt + 6 ≤ L) : ∃ r, ((zxs L xs (x3 + 1)).bind fun v94 => (zob c x1 11).bind fun w96 => (f_PQ_question nf x1 v94 c).bind fun q95 => (zxs L xs (x3 + 1)).bind fun v97 => (zob q95.2 x2 12).bind fun w99 => (f_Mo_question nf x2 v97 q95.2).bind fun q98 => f_Law_law_684 nf L xs x1 x2 x3 kk nn q98.2) = some r ∧ LPo L x1 x2 x3 r := by
  have l0 : (0 : Int32).toInt = 0 := by decide
  have l1 : (1 : Int32).toInt = 1 := by decide
  have l2 : (2 : Int32).toInt = 2 := by decide
  have l3 : (3 : Int32).toInt = 3 := by decide
  have l4 : (4 : Int32).toInt = 4 := by decide
  have l5 : (5 : Int32).toInt = 5 := by decide
  have l6 : (6 : Int32).toInt = 6 := by decide
  obtain ⟨W9, t1, t2, P9, g9, k9, ⟨na, en9, ha9⟩, ta, tb, ea9, eb9, htt⟩ := h
  obtain ⟨ya, za, la, ua⟩ := gf_14_10 W9 t1
  rw [ea9] at za; cases za
  obtain ⟨yb, zb, lb, ub⟩ := gf_64_13 W9 t2
  rw [eb9] at zb; cases zb
  obtain ⟨yn, zn, ln, un⟩ := gf_64_8 W9 t2
  rw [en9] at zn; cases zn
  have := i_add (a := x3) (b := 1) (by omega) (by omega)
  obtain ⟨v94, ev94⟩ : ∃ v, zxs L xs (x3 + 1) = some v := ⟨_, zx_ok (by omega) (by omega)⟩
  refine wb ev94 ?_
  obtain ⟨w96, ew96⟩ := go_14 W9 t1
  refine wb ew96 ?_
  obtain ⟨q95, eq95, Wq95, fq95, nq95, mq95, pq95⟩ := p_PQ_question__t hn W9 (a1 := v94) t1 (by omega) (by omega) ea9
  refine wb eq95 ?_
  have P117 := PQk_fr P9 fq95 t1 (by decide)
  have g118 := GtW_fr g9 fq95 t2 W9 (by decide)
  have k119 := TkN_fr k9 fq95 t2 W9 (by decide)
  have en120 := (Zfr.gi fq95 t2 (by decide)).trans en9
  have ha121 := AcN_fr ha9 fq95 t2 W9 (by decide)
  have eb122 := (Zfr.gi fq95 t2 (by decide)).trans eb9
  refine wb ev94 ?_
  obtain ⟨w99, ew99⟩ := go_64 Wq95 t2
  refine wb ew99 ?_
  obtain ⟨q98, eq98, Wq98, fq98, ⟨gq98, kq98⟩, nq98, mq98, pq98⟩ := p_Mo_question hn Wq95 (a1 := v94) t2 (by omega) (by omega) eb122 ⟨g118, k119⟩
  refine wb eq98 ?_
  have P123 := PQk_fr P117 fq98 t1 (by decide)
  have en124 := (Zfr.gi fq98 t2 (by decide)).trans en120
  have ha125 := AcN_fr ha121 fq98 t2 Wq95 (by decide)
  have ea126 := (Zfr.gi fq98 t1 (by decide)).trans mq95
  unfold f_Law_law_684
  exact lp_in (G := _) ⟨Wq98, t1, t2, P123, gq98, kq98, ⟨na, en124, ha125⟩, nq95, nq98, ea126, mq98, by omega⟩ hL h0 h6
set_option maxRecDepth 100000 in
set_option maxHeartbeats 4000000 in
theorem lc_10 {nf : Nat} (hn : 8589934592 ≤ nf) {L : Nat} {xs : Nat → Int32} (hL : L ≤ 3072) {x1 x2 : Nat} {x3 : Int32} {kk nn : Nat} {G : List Nat} {c : Zc} (h : LWd G c x1 x2 kk nn) (h0 : 0 ≤ x3.toInt) (h6 : x3.toInt + 6 ≤ L) : ∃ r, ((zob c x1 11).bind fun w102 => (f_PQ_rule nf x1 c).bind fun q101 => (zob q101.2 x2 12).bind fun w104 => (f_Mo_rule nf x2 q101.2).bind fun q103 => f_Law_law_684 nf L xs x1 x2 x3 kk nn q103.2) = some r ∧ LPo L x1 x2 x3 r := by
  have l0 : (0 : Int32).toInt = 0 := by decide
  have l1 : (1 : Int32).toInt = 1 := by decide
  have l2 : (2 : Int32).toInt = 2 := by decide
  have l3 : (3 : Int32).toInt = 3 := by decide
  have l4 : (4 : Int32).toInt = 4 := by decide
  have l5 : (5 : Int32).toInt = 5 := by decide
  have l6 : (6 : Int32).toInt = 6 := by decide
  obtain ⟨W9, t1, t2, P9, g9, k9, ⟨na, en9, ha9⟩, ta, tb, ea9, eb9, htt⟩ := h
  obtain ⟨ya, za, la, ua⟩ := gf_14_10 W9 t1
  rw [ea9] at za; cases za
  obtain ⟨yb, zb, lb, ub⟩ := gf_64_13 W9 t2
  rw [eb9] at zb; cases zb
  obtain ⟨yn, zn, ln, un⟩ := gf_64_8 W9 t2
  rw [en9] at zn; cases zn
  obtain ⟨w102, ew102⟩ := go_14 W9 t1
  refine wb ew102 ?_
  obtain ⟨q101, eq101, Wq101, fq101, nq101, mq101, pq101⟩ := p_PQ_rule__t hn W9  t1 (by omega) (by omega) ea9
  refine wb eq101 ?_
  have P127 := PQk_fr P9 fq101 t1 (by decide)
  have g128 := GtW_fr g9 fq101 t2 W9 (by decide)
  have k129 := TkN_fr k9 fq101 t2 W9 (by decide)
  have en130 := (Zfr.gi fq101 t2 (by decide)).trans en9
  have ha131 := AcN_fr ha9 fq101 t2 W9 (by decide)
  have eb132 := (Zfr.gi fq101 t2 (by decide)).trans eb9
  obtain ⟨w104, ew104⟩ := go_64 Wq101 t2
  refine wb ew104 ?_
  obtain ⟨q103, eq103, Wq103, fq103, ⟨gq103, kq103⟩, nq103, mq103, pq103⟩ := p_Mo_rule hn Wq101  t2  ⟨g128, k129⟩
  refine wb eq103 ?_
  have P133 := PQk_fr P127 fq103 t1 (by decide)
  have en134 := (Zfr.gi fq103 t2 (by decide)).trans en130
  have ha135 := AcN_fr ha131 fq103 t2 Wq101 (by decide)
  have ea136 := (Zfr.gi fq103 t1 (by decide)).trans mq101
  unfold f_Law_law_684
  exact lp_in (G := _) ⟨Wq103, t1, t2, P133, gq103, kq103, ⟨na, en134, ha135⟩, nq101, nq103, ea136, mq103, by omega⟩ hL h0 h6
set_option maxRecDepth 100000 in
set_option maxHeartbeats 4000000 in
theorem lc_11 {nf : Nat} (hn : 8589934592 ≤ nf) {L : Nat} {xs : Nat → Int32} (hL : L ≤ 3072) {x1 x2 : Nat} {x3 : Int32} {kk nn : Nat} {G : List Nat} {c : Zc} (h : LWd G c x1 x2 kk nn) (h0 : 0 ≤ x3.toInt) (h6 : x3.toInt + 6 ≤ L) : ∃ r, ((zxs L xs (x3 + 1)).bind fun v106 => (zob c x1 11).bind fun w108 => (f_PQ_forget nf x1 v106 c).bind fun q107 => (zxs L xs (x3 + 1)).bind fun v109 => (zob q107.2 x2 12).bind fun w111 => (f_Mo_forget nf x2 v109 q107.2).bind fun q110 => f_Law_law_684 nf L xs x1 x2 x3 kk nn q110.2) = some r ∧ LPo L x1 x2 x3 r := by
  have l0 : (0 : Int32).toInt = 0 := by decide
  have l1 : (1 : Int32).toInt = 1 := by decide
  have l2 : (2 : Int32).toInt = 2 := by decide
  have l3 : (3 : Int32).toInt = 3 := by decide
  have l4 : (4 : Int32).toInt = 4 := by decide
  have l5 : (5 : Int32).toInt = 5 := by decide
  have l6 : (6 : Int32).toInt = 6 := by decide
  obtain ⟨W9, t1, t2, P9, g9, k9, ⟨na, en9, ha9⟩, ta, tb, ea9, eb9, htt⟩ := h
  obtain ⟨ya, za, la, ua⟩ := gf_14_10 W9 t1
  rw [ea9] at za; cases za
  obtain ⟨yb, zb, lb, ub⟩ := gf_64_13 W9 t2
  rw [eb9] at zb; cases zb
  obtain ⟨yn, zn, ln, un⟩ := gf_64_8 W9 t2
  rw [en9] at zn; cases zn
  have := i_add (a := x3) (b := 1) (by omega) (by omega)
  obtain ⟨v106, ev106⟩ : ∃ v, zxs L xs (x3 + 1) = some v := ⟨_, zx_ok (by omega) (by omega)⟩
  refine wb ev106 ?_
  obtain ⟨w108, ew108⟩ := go_14 W9 t1
  refine wb ew108 ?_
  obtain ⟨q107, eq107, Wq107, fq107⟩ := p_PQ_forget hn W9 (a1 := v106) t1
  refine wb eq107 ?_
  have P137 := PQk_fr P9 fq107 t1 (by decide)
  have g138 := GtW_fr g9 fq107 t2 W9 (by decide)
  have k139 := TkN_fr k9 fq107 t2 W9 (by decide)
  have en140 := (Zfr.gi fq107 t2 (by decide)).trans en9
  have ha141 := AcN_fr ha9 fq107 t2 W9 (by decide)
  have ea142 := (Zfr.gi fq107 t1 (by decide)).trans ea9
  have eb143 := (Zfr.gi fq107 t2 (by decide)).trans eb9
  refine wb ev106 ?_
  obtain ⟨w111, ew111⟩ := go_64 Wq107 t2
  refine wb ew111 ?_
  obtain ⟨q110, eq110, Wq110, fq110, ⟨gq110, kq110⟩⟩ := p_Mo_forget hn Wq107 (a1 := v106) t2  ⟨g138, k139⟩
  refine wb eq110 ?_
  have P144 := PQk_fr P137 fq110 t1 (by decide)
  have en145 := (Zfr.gi fq110 t2 (by decide)).trans en140
  have ha146 := AcN_fr ha141 fq110 t2 Wq107 (by decide)
  have ea147 := (Zfr.gi fq110 t1 (by decide)).trans ea142
  have eb148 := (Zfr.gi fq110 t2 (by decide)).trans eb143
  unfold f_Law_law_684
  exact lp_in (G := _) ⟨Wq110, t1, t2, P144, gq110, kq110, ⟨na, en145, ha146⟩, ta, tb, ea147, eb148, by omega⟩ hL h0 h6
end ZzT
