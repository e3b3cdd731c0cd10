section ZzT
set_option maxRecDepth 100000 in
set_option maxHeartbeats 4000000 in
theorem lc_6 {nf : Nat} (hn : 8589934592 ≤ nf) {L : Nat} {xs : Nat → Int32} (hL : L ≤ 3072) {x1 x2 : Nat} {x3 : Int32} {kk nn : Nat} {G : List Nat} {c : Zc} (h : LWd G c x1 x2 kk nn) (h0 : 0 ≤ x3.toInt) (h6 : x3.toInt + 6 ≤ L) : ∃ r, ((zxs L xs (x3 + 1)).bind fun v71 => (zob c x1 11).bind fun w73 => (f_PQ_drop nf x1 v71 c).bind fun q72 => (zxs L xs (x3 + 1)).bind fun v74 => (zob q72.2 x2 12).bind fun w76 => (f_Mo_drop nf x2 v74 q72.2).bind fun q75 => f_Law_law_684 nf L xs x1 x2 x3 kk nn q75.2) = some r ∧ LPo L x1 x2 x3 r := by
  have l0 : (0 : Int32).toInt = 0 := by decide
  have l1 : (1 : Int32).toInt = 1 := by decide
  have l2 : (2 : Int32).toInt = 2 := by decide
  have l3 : (3 : Int32).toInt = 3 := by decide
  have l4 : (4 : Int32).toInt = 4 := by decide
  have l5 : (5 : Int32).toInt = 5 := by decide
  have l6 : (6 : Int32).toInt = 6 := by decide
  obtain ⟨W9, t1, t2, P9, g9, k9, ⟨na, en9, ha9⟩, ta, tb, ea9, eb9, htt, gp, eg9, tg, gc9⟩ := h
  obtain ⟨ya, za, la, ua⟩ := gf_14_10 W9 t1
  rw [ea9] at za; cases za
  obtain ⟨yb, zb, lb, ub⟩ := gf_64_13 W9 t2
  rw [eb9] at zb; cases zb
  obtain ⟨yn, zn, ln, un⟩ := gf_64_8 W9 t2
  rw [en9] at zn; cases zn
  have := i_add (a := x3) (b := 1) (by omega) (by omega)
  obtain ⟨v71, ev71⟩ : ∃ v, zxs L xs (x3 + 1) = some v := ⟨_, zx_ok (by omega) (by omega)⟩
  refine wb ev71 ?_
  obtain ⟨w73, ew73⟩ := go_14 W9 t1
  refine wb ew73 ?_
  obtain ⟨q72, eq72, Wq72, fq72⟩ := p_PQ_drop hn W9 (a1 := v71) t1
  refine wb eq72 ?_
  have P97 := PQk_fr P9 fq72 t1 (by decide)
  have g98 := GtW_fr g9 fq72 t2 W9 (by decide)
  have k99 := TkN_fr k9 fq72 t2 W9 (by decide)
  have en100 := (Zfr.gi fq72 t2 (by decide)).trans en9
  have ha101 := AcN_fr ha9 fq72 t2 W9 (by decide)
  have ea102 := (Zfr.gi fq72 t1 (by decide)).trans ea9
  have eb103 := (Zfr.gi fq72 t2 (by decide)).trans eb9
  have eg104 := (Zfr.gr fq72 t1 (by decide)).trans eg9
  have gc105 := GCo_s gc9 (GSg_fr fq72 tg W9 (by decide)) (GSm_fr fq72 t2 W9 (by decide))
  refine wb ev71 ?_
  obtain ⟨w76, ew76⟩ := go_64 Wq72 t2
  refine wb ew76 ?_
  obtain ⟨q75, eq75, Wq75, fq75, nq75, mq75, _, _, pq75⟩ := p_Mo_drop hn Wq72 (a1 := v71) t2 ⟨na, en100, by omega, by omega, ha101⟩
  refine wb eq75 ?_
  have P106 := PQk_fr P97 fq75 t1 (by decide)
  have g107 := GtW_fr g98 fq75 t2 Wq72 (by decide)
  have k108 := TkN_fr k99 fq75 t2 Wq72 (by decide)
  have ea109 := (Zfr.gi fq75 t1 (by decide)).trans ea102
  have eb110 := (Zfr.gi fq75 t2 (by decide)).trans eb103
  have eg111 := (Zfr.gr fq75 t1 (by decide)).trans eg104
  have gc112 := GCo_s gc105 (GSg_fr fq75 tg Wq72 (by decide)) (GSm_fr fq75 t2 Wq72 (by decide))
  unfold f_Law_law_684
  exact lp_in (G := _) ⟨Wq75, t1, t2, P106, g107, k108, ⟨nq75, mq75, pq75⟩, ta, tb, ea109, eb110, by omega, gp, eg111, tg, gc112⟩ hL h0 h6
set_option maxRecDepth 100000 in
set_option maxHeartbeats 4000000 in
theorem lc_7 {nf : Nat} (hn : 8589934592 ≤ nf) {L : Nat} {xs : Nat → Int32} (hL : L ≤ 3072) {x1 x2 : Nat} {x3 : Int32} {kk nn : Nat} {G : List Nat} {c : Zc} (h : LWd G c x1 x2 kk nn) (h0 : 0 ≤ x3.toInt) (h6 : x3.toInt + 6 ≤ L) : ∃ r, ((zxs L xs (x3 + 1)).bind fun v78 => (zxs L xs (x3 + 2)).bind fun v79 => (zob c x1 11).bind fun w81 => (f_PQ_told nf x1 v78 v79 c).bind fun q80 => (zxs L xs (x3 + 1)).bind fun v82 => (zxs L xs (x3 + 2)).bind fun v83 => (zob q80.2 x2 12).bind fun w85 => (f_Mo_told nf x2 v82 v83 q80.2).bind fun q84 => f_Law_law_684 nf L xs x1 x2 x3 kk nn q84.2) = some r ∧ LPo L x1 x2 x3 r := by
  have l0 : (0 : Int32).toInt = 0 := by decide
  have l1 : (1 : Int32).toInt = 1 := by decide
  have l2 : (2 : Int32).toInt = 2 := by decide
  have l3 : (3 : Int32).toInt = 3 := by decide
  have l4 : (4 : Int32).toInt = 4 := by decide
  have l5 : (5 : Int32).toInt = 5 := by decide
  have l6 : (6 : Int32).toInt = 6 := by decide
  obtain ⟨W9, t1, t2, P9, g9, k9, ⟨na, en9, ha9⟩, ta, tb, ea9, eb9, htt, gp, eg9, tg, gc9⟩ := h
  obtain ⟨ya, za, la, ua⟩ := gf_14_10 W9 t1
  rw [ea9] at za; cases za
  obtain ⟨yb, zb, lb, ub⟩ := gf_64_13 W9 t2
  rw [eb9] at zb; cases zb
  obtain ⟨yn, zn, ln, un⟩ := gf_64_8 W9 t2
  rw [en9] at zn; cases zn
  have := i_add (a := x3) (b := 1) (by omega) (by omega)
  obtain ⟨v78, ev78⟩ : ∃ v, zxs L xs (x3 + 1) = some v := ⟨_, zx_ok (by omega) (by omega)⟩
  refine wb ev78 ?_
  have := i_add (a := x3) (b := 2) (by omega) (by omega)
  obtain ⟨v79, ev79⟩ : ∃ v, zxs L xs (x3 + 2) = some v := ⟨_, zx_ok (by omega) (by omega)⟩
  refine wb ev79 ?_
  obtain ⟨w81, ew81⟩ := go_14 W9 t1
  refine wb ew81 ?_
  obtain ⟨q80, eq80, Wq80, fq80⟩ := p_PQ_told hn W9 (a1 := v78) (a2 := v79) t1
  refine wb eq80 ?_
  have P113 := PQk_fr P9 fq80 t1 (by decide)
  have g114 := GtW_fr g9 fq80 t2 W9 (by decide)
  have k115 := TkN_fr k9 fq80 t2 W9 (by decide)
  have en116 := (Zfr.gi fq80 t2 (by decide)).trans en9
  have ha117 := AcN_fr ha9 fq80 t2 W9 (by decide)
  have ea118 := (Zfr.gi fq80 t1 (by decide)).trans ea9
  have eb119 := (Zfr.gi fq80 t2 (by decide)).trans eb9
  have eg120 := (Zfr.gr fq80 t1 (by decide)).trans eg9
  have gc121 := GCo_s gc9 (GSg_fr fq80 tg W9 (by decide)) (GSm_fr fq80 t2 W9 (by decide))
  refine wb ev78 ?_
  refine wb ev79 ?_
  obtain ⟨w85, ew85⟩ := go_64 Wq80 t2
  refine wb ew85 ?_
  obtain ⟨q84, eq84, Wq84, fq84⟩ := p_Mo_told hn Wq80 (a1 := v78) (a2 := v79) t2
  refine wb eq84 ?_
  have P122 := PQk_fr P113 fq84 t1 (by decide)
  have g123 := GtW_fr g114 fq84 t2 Wq80 (by decide)
  have k124 := TkN_fr k115 fq84 t2 Wq80 (by decide)
  have en125 := (Zfr.gi fq84 t2 (by decide)).trans en116
  have ha126 := AcN_fr ha117 fq84 t2 Wq80 (by decide)
  have ea127 := (Zfr.gi fq84 t1 (by decide)).trans ea118
  have eb128 := (Zfr.gi fq84 t2 (by decide)).trans eb119
  have eg129 := (Zfr.gr fq84 t1 (by decide)).trans eg120
  have gc130 := GCo_s gc121 (GSg_fr fq84 tg Wq80 (by decide)) (GSm_fr fq84 t2 Wq80 (by decide))
  unfold f_Law_law_684
  exact lp_in (G := _) ⟨Wq84, t1, t2, P122, g123, k124, ⟨na, en125, ha126⟩, ta, tb, ea127, eb128, by omega, gp, eg129, tg, gc130⟩ hL h0 h6
set_option maxRecDepth 100000 in
set_option maxHeartbeats 4000000 in
theorem lc_8 {nf : Nat} (hn : 8589934592 ≤ nf) {L : Nat} {xs : Nat → Int32} (hL : L ≤ 3072) {x1 x2 : Nat} {x3 : Int32} {kk nn : Nat} {G : List Nat} {c : Zc} (h : LWd G c x1 x2 kk nn) (h0 : 0 ≤ x3.toInt) (h6 : x3.toInt + 6 ≤ L) : ∃ r, ((zxs L xs (x3 + 1)).bind fun v87 => (zob c x1 11).bind fun w89 => (f_PQ_bare nf x1 v87 c).bind fun q88 => (zxs L xs (x3 + 1)).bind fun v90 => (zob q88.2 x2 12).bind fun w92 => (f_Mo_bare nf x2 v90 q88.2).bind fun q91 => f_Law_law_684 nf L xs x1 x2 x3 kk nn q91.2) = some r ∧ LPo L x1 x2 x3 r := by
  have l0 : (0 : Int32).toInt = 0 := by decide
  have l1 : (1 : Int32).toInt = 1 := by decide
  have l2 : (2 : Int32).toInt = 2 := by decide
  have l3 : (3 : Int32).toInt = 3 := by decide
  have l4 : (4 : Int32).toInt = 4 := by decide
  have l5 : (5 : Int32).toInt = 5 := by decide
  have l6 : (6 : Int32).toInt = 6 := by decide
  obtain ⟨W9, t1, t2, P9, g9, k9, ⟨na, en9, ha9⟩, ta, tb, ea9, eb9, htt, gp, eg9, tg, gc9⟩ := h
  obtain ⟨ya, za, la, ua⟩ := gf_14_10 W9 t1
  rw [ea9] at za; cases za
  obtain ⟨yb, zb, lb, ub⟩ := gf_64_13 W9 t2
  rw [eb9] at zb; cases zb
  obtain ⟨yn, zn, ln, un⟩ := gf_64_8 W9 t2
  rw [en9] at zn; cases zn
  have := i_add (a := x3) (b := 1) (by omega) (by omega)
  obtain ⟨v87, ev87⟩ : ∃ v, zxs L xs (x3 + 1) = some v := ⟨_, zx_ok (by omega) (by omega)⟩
  refine wb ev87 ?_
  obtain ⟨w89, ew89⟩ := go_14 W9 t1
  refine wb ew89 ?_
  obtain ⟨nd, end9, lnd, und⟩ := gf_1_7 W9 tg
  have hnd := gfi_e end9
  obtain ⟨q88, eq88, Wq88, fq88, sq88⟩ := p_PQ_bare__g hn W9 (a1 := v87) t1 (by omega) (by omega) eg9 end9
  refine wb eq88 ?_
  have P131 := PQk_fr P9 fq88 t1 (by decide)
  have g132 := GtW_fr g9 fq88 t2 W9 (by decide)
  have k133 := TkN_fr k9 fq88 t2 W9 (by decide)
  have en134 := (Zfr.gi fq88 t2 (by decide)).trans en9
  have ha135 := AcN_fr ha9 fq88 t2 W9 (by decide)
  have ea136 := (Zfr.gi fq88 t1 (by decide)).trans ea9
  have eb137 := (Zfr.gi fq88 t2 (by decide)).trans eb9
  have eg138 := (Zfr.gr fq88 t1 (by decide)).trans eg9
  refine wb ev87 ?_
  obtain ⟨w92, ew92⟩ := go_64 Wq88 t2
  refine wb ew92 ?_
  have ht := GSm_fr fq88 t2 W9 (by decide)
  obtain ⟨nd2, e29, _, _⟩ := gf_64_0 Wq88 t2
  have hEq : nd2 = nd := Int32.toInt_inj.mp (by have a_ := vfi_e e29; have b_ := ht.1; have d_ := gc9.1; omega)
  subst hEq
  obtain ⟨q91, eq91, Wq91, fq91, sq91, nq91, mq91, _, _, pq91⟩ := p_Mo_bare__g hn Wq88 (a1 := v87) t2 (by omega) (by omega) e29 ⟨na, en134, by omega, by omega, ha135⟩
  refine wb eq91 ?_
  have hs := GSg_fr fq91 tg Wq88 (by decide)
  have gcn := GCo_bare gc9 hnd (by omega) sq88 (gfi_fr fq88 tg (by decide)) ht sq91 (vfi_fr fq91 t2 (by decide)) hs
  have P139 := PQk_fr P131 fq91 t1 (by decide)
  have g140 := GtW_fr g132 fq91 t2 Wq88 (by decide)
  have k141 := TkN_fr k133 fq91 t2 Wq88 (by decide)
  have ea142 := (Zfr.gi fq91 t1 (by decide)).trans ea136
  have eb143 := (Zfr.gi fq91 t2 (by decide)).trans eb137
  have eg144 := (Zfr.gr fq91 t1 (by decide)).trans eg138
  unfold f_Law_law_684
  exact lp_in (G := _) ⟨Wq91, t1, t2, P139, g140, k141, ⟨nq91, mq91, pq91⟩, ta, tb, ea142, eb143, by omega, gp, eg144, tg, gcn⟩ hL h0 h6
set_option maxRecDepth 100000 in
set_option maxHeartbeats 4000000 in
theorem lc_9 {nf : Nat} (hn : 8589934592 ≤ nf) {L : Nat} {xs : Nat → Int32} (hL : L ≤ 3072) {x1 x2 : Nat} {x3 : Int32} {kk nn : Nat} {G : List Nat} {c : Zc} (h : LWd G c x1 x2 kk nn) (h0 : 0 ≤ x3.toInt) (h6 : x3.toInt + 6 ≤ L) : ∃ r, ((zxs L xs (x3 + 1)).bind fun v94 => (zob c x1 11).bind fun w96 => (f_PQ_question nf x1 v94 c).bind fun q95 => (zxs L xs (x3 + 1)).bind fun v97 => (zob q95.2 x2 12).bind fun w99 => (f_Mo_question nf x2 v97 q95.2).bind fun q98 => f_Law_law_684 nf L xs x1 x2 x3 kk nn q98.2) = some r ∧ LPo L x1 x2 x3 r := by
  have l0 : (0 : Int32).toInt = 0 := by decide
  have l1 : (1 : Int32).toInt = 1 := by decide
  have l2 : (2 : Int32).toInt = 2 := by decide
  have l3 : (3 : Int32).toInt = 3 := by decide
  have l4 : (4 : Int32).toInt = 4 := by decide
  have l5 : (5 : Int32).toInt = 5 := by decide
  have l6 : (6 : Int32).toInt = 6 := by decide
  obtain ⟨W9, t1, t2, P9, g9, k9, ⟨na, en9, ha9⟩, ta, tb, ea9, eb9, htt, gp, eg9, tg, gc9⟩ := h
  obtain ⟨ya, za, la, ua⟩ := gf_14_10 W9 t1
  rw [ea9] at za; cases za
  obtain ⟨yb, zb, lb, ub⟩ := gf_64_13 W9 t2
  rw [eb9] at zb; cases zb
  obtain ⟨yn, zn, ln, un⟩ := gf_64_8 W9 t2
  rw [en9] at zn; cases zn
  have := i_add (a := x3) (b := 1) (by omega) (by omega)
  obtain ⟨v94, ev94⟩ : ∃ v, zxs L xs (x3 + 1) = some v := ⟨_, zx_ok (by omega) (by omega)⟩
  refine wb ev94 ?_
  obtain ⟨w96, ew96⟩ := go_14 W9 t1
  refine wb ew96 ?_
  obtain ⟨q95, eq95, Wq95, fq95, nq95, mq95, pq95⟩ := p_PQ_question__t hn W9 (a1 := v94) t1 (by omega) (by omega) ea9
  refine wb eq95 ?_
  have P145 := PQk_fr P9 fq95 t1 (by decide)
  have g146 := GtW_fr g9 fq95 t2 W9 (by decide)
  have k147 := TkN_fr k9 fq95 t2 W9 (by decide)
  have en148 := (Zfr.gi fq95 t2 (by decide)).trans en9
  have ha149 := AcN_fr ha9 fq95 t2 W9 (by decide)
  have eb150 := (Zfr.gi fq95 t2 (by decide)).trans eb9
  have eg151 := (Zfr.gr fq95 t1 (by decide)).trans eg9
  have gc152 := GCo_s gc9 (GSg_fr fq95 tg W9 (by decide)) (GSm_fr fq95 t2 W9 (by decide))
  refine wb ev94 ?_
  obtain ⟨w99, ew99⟩ := go_64 Wq95 t2
  refine wb ew99 ?_
  obtain ⟨q98, eq98, Wq98, fq98, ⟨gq98, kq98⟩, nq98, mq98, pq98⟩ := p_Mo_question hn Wq95 (a1 := v94) t2 (by omega) (by omega) eb150 ⟨g146, k147⟩
  refine wb eq98 ?_
  have P153 := PQk_fr P145 fq98 t1 (by decide)
  have en154 := (Zfr.gi fq98 t2 (by decide)).trans en148
  have ha155 := AcN_fr ha149 fq98 t2 Wq95 (by decide)
  have ea156 := (Zfr.gi fq98 t1 (by decide)).trans mq95
  have eg157 := (Zfr.gr fq98 t1 (by decide)).trans eg151
  have gc158 := GCo_s gc152 (GSg_fr fq98 tg Wq95 (by decide)) (GSm_fr fq98 t2 Wq95 (by decide))
  unfold f_Law_law_684
  exact lp_in (G := _) ⟨Wq98, t1, t2, P153, gq98, kq98, ⟨na, en154, ha155⟩, nq95, nq98, ea156, mq98, by omega, gp, eg157, tg, gc158⟩ hL h0 h6
set_option maxRecDepth 100000 in
set_option maxHeartbeats 4000000 in
theorem lc_10 {nf : Nat} (hn : 8589934592 ≤ nf) {L : Nat} {xs : Nat → Int32} (hL : L ≤ 3072) {x1 x2 : Nat} {x3 : Int32} {kk nn : Nat} {G : List Nat} {c : Zc} (h : LWd G c x1 x2 kk nn) (h0 : 0 ≤ x3.toInt) (h6 : x3.toInt + 6 ≤ L) : ∃ r, ((zob c x1 11).bind fun w102 => (f_PQ_rule nf x1 c).bind fun q101 => (zob q101.2 x2 12).bind fun w104 => (f_Mo_rule nf x2 q101.2).bind fun q103 => f_Law_law_684 nf L xs x1 x2 x3 kk nn q103.2) = some r ∧ LPo L x1 x2 x3 r := by
  have l0 : (0 : Int32).toInt = 0 := by decide
  have l1 : (1 : Int32).toInt = 1 := by decide
  have l2 : (2 : Int32).toInt = 2 := by decide
  have l3 : (3 : Int32).toInt = 3 := by decide
  have l4 : (4 : Int32).toInt = 4 := by decide
  have l5 : (5 : Int32).toInt = 5 := by decide
  have l6 : (6 : Int32).toInt = 6 := by decide
  obtain ⟨W9, t1, t2, P9, g9, k9, ⟨na, en9, ha9⟩, ta, tb, ea9, eb9, htt, gp, eg9, tg, gc9⟩ := h
  obtain ⟨ya, za, la, ua⟩ := gf_14_10 W9 t1
  rw [ea9] at za; cases za
  obtain ⟨yb, zb, lb, ub⟩ := gf_64_13 W9 t2
  rw [eb9] at zb; cases zb
  obtain ⟨yn, zn, ln, un⟩ := gf_64_8 W9 t2
  rw [en9] at zn; cases zn
  obtain ⟨w102, ew102⟩ := go_14 W9 t1
  refine wb ew102 ?_
  obtain ⟨q101, eq101, Wq101, fq101, nq101, mq101, pq101⟩ := p_PQ_rule__t hn W9  t1 (by omega) (by omega) ea9
  refine wb eq101 ?_
  have P159 := PQk_fr P9 fq101 t1 (by decide)
  have g160 := GtW_fr g9 fq101 t2 W9 (by decide)
  have k161 := TkN_fr k9 fq101 t2 W9 (by decide)
  have en162 := (Zfr.gi fq101 t2 (by decide)).trans en9
  have ha163 := AcN_fr ha9 fq101 t2 W9 (by decide)
  have eb164 := (Zfr.gi fq101 t2 (by decide)).trans eb9
  have eg165 := (Zfr.gr fq101 t1 (by decide)).trans eg9
  have gc166 := GCo_s gc9 (GSg_fr fq101 tg W9 (by decide)) (GSm_fr fq101 t2 W9 (by decide))
  obtain ⟨w104, ew104⟩ := go_64 Wq101 t2
  refine wb ew104 ?_
  obtain ⟨q103, eq103, Wq103, fq103, ⟨gq103, kq103⟩, nq103, mq103, pq103⟩ := p_Mo_rule hn Wq101  t2  ⟨g160, k161⟩
  refine wb eq103 ?_
  have P167 := PQk_fr P159 fq103 t1 (by decide)
  have en168 := (Zfr.gi fq103 t2 (by decide)).trans en162
  have ha169 := AcN_fr ha163 fq103 t2 Wq101 (by decide)
  have ea170 := (Zfr.gi fq103 t1 (by decide)).trans mq101
  have eg171 := (Zfr.gr fq103 t1 (by decide)).trans eg165
  have gc172 := GCo_s gc166 (GSg_fr fq103 tg Wq101 (by decide)) (GSm_fr fq103 t2 Wq101 (by decide))
  unfold f_Law_law_684
  exact lp_in (G := _) ⟨Wq103, t1, t2, P167, gq103, kq103, ⟨na, en168, ha169⟩, nq101, nq103, ea170, mq103, by omega, gp, eg171, tg, gc172⟩ hL h0 h6
set_option maxRecDepth 100000 in
set_option maxHeartbeats 4000000 in
theorem lc_11 {nf : Nat} (hn : 8589934592 ≤ nf) {L : Nat} {xs : Nat → Int32} (hL : L ≤ 3072) {x1 x2 : Nat} {x3 : Int32} {kk nn : Nat} {G : List Nat} {c : Zc} (h : LWd G c x1 x2 kk nn) (h0 : 0 ≤ x3.toInt) (h6 : x3.toInt + 6 ≤ L) : ∃ r, ((zxs L xs (x3 + 1)).bind fun v106 => (zob c x1 11).bind fun w108 => (f_PQ_forget nf x1 v106 c).bind fun q107 => (zxs L xs (x3 + 1)).bind fun v109 => (zob q107.2 x2 12).bind fun w111 => (f_Mo_forget nf x2 v109 q107.2).bind fun q110 => f_Law_law_684 nf L xs x1 x2 x3 kk nn q110.2) = some r ∧ LPo L x1 x2 x3 r := by
  have l0 : (0 : Int32).toInt = 0 := by decide
  have l1 : (1 : Int32).toInt = 1 := by decide
  have l2 : (2 : Int32).toInt = 2 := by decide
  have l3 : (3 : Int32).toInt = 3 := by decide
  have l4 : (4 : Int32).toInt = 4 := by decide
  have l5 : (5 : Int32).toInt = 5 := by decide
  have l6 : (6 : Int32).toInt = 6 := by decide
  obtain ⟨W9, t1, t2, P9, g9, k9, ⟨na, en9, ha9⟩, ta, tb, ea9, eb9, htt, gp, eg9, tg, gc9⟩ := h
  obtain ⟨ya, za, la, ua⟩ := gf_14_10 W9 t1
  rw [ea9] at za; cases za
  obtain ⟨yb, zb, lb, ub⟩ := gf_64_13 W9 t2
  rw [eb9] at zb; cases zb
  obtain ⟨yn, zn, ln, un⟩ := gf_64_8 W9 t2
  rw [en9] at zn; cases zn
  have := i_add (a := x3) (b := 1) (by omega) (by omega)
  obtain ⟨v106, ev106⟩ : ∃ v, zxs L xs (x3 + 1) = some v := ⟨_, zx_ok (by omega) (by omega)⟩
  refine wb ev106 ?_
  obtain ⟨w108, ew108⟩ := go_14 W9 t1
  refine wb ew108 ?_
  obtain ⟨q107, eq107, Wq107, fq107⟩ := p_PQ_forget hn W9 (a1 := v106) t1
  refine wb eq107 ?_
  have P173 := PQk_fr P9 fq107 t1 (by decide)
  have g174 := GtW_fr g9 fq107 t2 W9 (by decide)
  have k175 := TkN_fr k9 fq107 t2 W9 (by decide)
  have en176 := (Zfr.gi fq107 t2 (by decide)).trans en9
  have ha177 := AcN_fr ha9 fq107 t2 W9 (by decide)
  have ea178 := (Zfr.gi fq107 t1 (by decide)).trans ea9
  have eb179 := (Zfr.gi fq107 t2 (by decide)).trans eb9
  have eg180 := (Zfr.gr fq107 t1 (by decide)).trans eg9
  have gc181 := GCo_s gc9 (GSg_fr fq107 tg W9 (by decide)) (GSm_fr fq107 t2 W9 (by decide))
  refine wb ev106 ?_
  obtain ⟨w111, ew111⟩ := go_64 Wq107 t2
  refine wb ew111 ?_
  obtain ⟨q110, eq110, Wq110, fq110, ⟨gq110, kq110⟩⟩ := p_Mo_forget hn Wq107 (a1 := v106) t2  ⟨g174, k175⟩
  refine wb eq110 ?_
  have P182 := PQk_fr P173 fq110 t1 (by decide)
  have en183 := (Zfr.gi fq110 t2 (by decide)).trans en176
  have ha184 := AcN_fr ha177 fq110 t2 Wq107 (by decide)
  have ea185 := (Zfr.gi fq110 t1 (by decide)).trans ea178
  have eb186 := (Zfr.gi fq110 t2 (by decide)).trans eb179
  have eg187 := (Zfr.gr fq110 t1 (by decide)).trans eg180
  have gc188 := GCo_s gc181 (GSg_fr fq110 tg Wq107 (by decide)) (GSm_fr fq110 t2 Wq107 (by decide))
  unfold f_Law_law_684
  exact lp_in (G := _) ⟨Wq110, t1, t2, P182, gq110, kq110, ⟨na, en183, ha184⟩, ta, tb, ea185, eb186, by omega, gp, eg187, tg, gc188⟩ hL h0 h6
end ZzT
