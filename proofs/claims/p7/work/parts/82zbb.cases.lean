section ZzT
set_option maxRecDepth 100000 in
set_option maxHeartbeats 4000000 in
theorem lc_6 {nf : Nat} (hn : 8589934592 ≤ nf) {L : Nat} {xs : Nat → Int32} (hL : L ≤ 3072) {x1 x2 : Nat} {x3 : Int32} {kk nn : Nat} {G : List Nat} {c : Zc} (h : LWd G c x1 x2 kk nn) (h0 : 0 ≤ x3.toInt) (h6 : x3.toInt + 6 ≤ L) : ∃ r, ((zxs L xs (x3 + 1)).bind fun v71 => (zob c x1 11).bind fun w73 => (f_PQ_drop nf x1 v71 c).bind fun q72 => (zxs L xs (x3 + 1)).bind fun v74 => (zob q72.2 x2 12).bind fun w76 => (f_Mo_drop nf x2 v74 q72.2).bind fun q75 => f_Law_law_684 nf L xs x1 x2 x3 kk nn q75.2) = some r ∧ LPo L x1 x2 x3 r := by
  have l0 : (0 : Int32).toInt = 0 := by decide
  have l1 : (1 : Int32).toInt = 1 := by decide
  have l2 : (2 : Int32).toInt = 2 := by decide
  have l3 : (3 : Int32).toInt = 3 := by decide
  have l4 : (4 : Int32).toInt = 4 := by decide
  have l5 : (5 : Int32).toInt = 5 := by decide
  have l6 : (6 : Int32).toInt = 6 := by decide
  obtain ⟨W9, t1, t2, P9, g9, k9, ⟨na, en9, ha9⟩, ta, tb, ea9, eb9, htt, gp, eg9, tg, gc9, ga9⟩ := h
  obtain ⟨ya, za, la, ua⟩ := gf_14_10 W9 t1
  rw [ea9] at za; cases za
  obtain ⟨yb, zb, lb, ub⟩ := gf_64_13 W9 t2
  rw [eb9] at zb; cases zb
  obtain ⟨yn, zn, ln, un⟩ := gf_64_8 W9 t2
  rw [en9] at zn; cases zn
  have := i_add (a := x3) (b := 1) (by omega) (by omega)
  obtain ⟨v71, ev71⟩ : ∃ v, zxs L xs (x3 + 1) = some v := ⟨_, zx_ok (by omega) (by omega)⟩
  refine wb ev71 ?_
  obtain ⟨w73, ew73⟩ := go_14 W9 t1
  refine wb ew73 ?_
  obtain ⟨ac, eac9, _⟩ := gf_1_8 W9 tg
  have hac := gfi_e eac9
  have hacr : 0 ≤ ac.toInt ∧ ac.toInt ≤ 100 := by have a_ := vfi_e en9; have b_ := ga9.1; omega
  obtain ⟨q72, eq72, Wq72, fq72, hq72⟩ := p_PQ_drop__g hn W9 (a1 := v71) t1 (by omega) (by omega) eg9 eac9
  refine wb eq72 ?_
  have P107 := PQk_fr P9 fq72 t1 (by decide)
  have g108 := GtW_fr g9 fq72 t2 W9 (by decide)
  have k109 := TkN_fr k9 fq72 t2 W9 (by decide)
  have en110 := (Zfr.gi fq72 t2 (by decide)).trans en9
  have ha111 := AcN_fr ha9 fq72 t2 W9 (by decide)
  have ea112 := (Zfr.gi fq72 t1 (by decide)).trans ea9
  have eb113 := (Zfr.gi fq72 t2 (by decide)).trans eb9
  have eg114 := (Zfr.gr fq72 t1 (by decide)).trans eg9
  have gc115 := GCo_s gc9 (GSg_fr fq72 tg W9 (by decide)) (GSm_fr fq72 t2 W9 (by decide))
  refine wb ev71 ?_
  obtain ⟨w76, ew76⟩ := go_64 Wq72 t2
  refine wb ew76 ?_
  have hb := GSb_fr fq72 t2 W9 (by decide)
  have hEq : na = ac := Int32.toInt_inj.mp (by have a_ := vfi_e en9; have d_ := ga9.1; omega)
  subst hEq
  obtain ⟨q75, eq75, Wq75, fq75, hq75, nq75, mq75, _, _, pq75⟩ := p_Mo_drop__g hn Wq72 (a1 := v71) t2 (by omega) (by omega) en110 ⟨en110, by omega, by omega, ha111⟩
  refine wb eq75 ?_
  have hsa := GSa_fr fq75 tg Wq72 (by decide)
  obtain ⟨gan, hr⟩ := GAr_drop ga9 hq72 (gaf_fr fq72 tg (gf_1_2 W9 tg) (by decide) (by decide)) (gaf_fr fq72 tg (gf_1_3 W9 tg) (by decide) (by decide)) hb hq75 nb_0 (vaf_fr fq75 t2 (gf_64_4 Wq72 t2) (by decide) (by decide)) (vaf_fr fq75 t2 (gf_64_5 Wq72 t2) (by decide) (by decide)) hsa
  have P116 := PQk_fr P107 fq75 t1 (by decide)
  have g117 := GtW_fr g108 fq75 t2 Wq72 (by decide)
  have k118 := TkN_fr k109 fq75 t2 Wq72 (by decide)
  have ea119 := (Zfr.gi fq75 t1 (by decide)).trans ea112
  have eb120 := (Zfr.gi fq75 t2 (by decide)).trans eb113
  have eg121 := (Zfr.gr fq75 t1 (by decide)).trans eg114
  have gc122 := GCo_s gc115 (GSg_fr fq75 tg Wq72 (by decide)) (GSm_fr fq75 t2 Wq72 (by decide))
  unfold f_Law_law_684
  exact lp_in (G := _) ⟨Wq75, t1, t2, P116, g117, k118, ⟨nq75, mq75, pq75⟩, ta, tb, ea119, eb120, by omega, gp, eg121, tg, gc122, gan⟩ hL h0 h6
set_option maxRecDepth 100000 in
set_option maxHeartbeats 4000000 in
theorem lc_7 {nf : Nat} (hn : 8589934592 ≤ nf) {L : Nat} {xs : Nat → Int32} (hL : L ≤ 3072) {x1 x2 : Nat} {x3 : Int32} {kk nn : Nat} {G : List Nat} {c : Zc} (h : LWd G c x1 x2 kk nn) (h0 : 0 ≤ x3.toInt) (h6 : x3.toInt + 6 ≤ L) : ∃ r, ((zxs L xs (x3 + 1)).bind fun v78 => (zxs L xs (x3 + 2)).bind fun v79 => (zob c x1 11).bind fun w81 => (f_PQ_told nf x1 v78 v79 c).bind fun q80 => (zxs L xs (x3 + 1)).bind fun v82 => (zxs L xs (x3 + 2)).bind fun v83 => (zob q80.2 x2 12).bind fun w85 => (f_Mo_told nf x2 v82 v83 q80.2).bind fun q84 => f_Law_law_684 nf L xs x1 x2 x3 kk nn q84.2) = some r ∧ LPo L x1 x2 x3 r := by
  have l0 : (0 : Int32).toInt = 0 := by decide
  have l1 : (1 : Int32).toInt = 1 := by decide
  have l2 : (2 : Int32).toInt = 2 := by decide
  have l3 : (3 : Int32).toInt = 3 := by decide
  have l4 : (4 : Int32).toInt = 4 := by decide
  have l5 : (5 : Int32).toInt = 5 := by decide
  have l6 : (6 : Int32).toInt = 6 := by decide
  obtain ⟨W9, t1, t2, P9, g9, k9, ⟨na, en9, ha9⟩, ta, tb, ea9, eb9, htt, gp, eg9, tg, gc9, ga9⟩ := h
  obtain ⟨ya, za, la, ua⟩ := gf_14_10 W9 t1
  rw [ea9] at za; cases za
  obtain ⟨yb, zb, lb, ub⟩ := gf_64_13 W9 t2
  rw [eb9] at zb; cases zb
  obtain ⟨yn, zn, ln, un⟩ := gf_64_8 W9 t2
  rw [en9] at zn; cases zn
  have := i_add (a := x3) (b := 1) (by omega) (by omega)
  obtain ⟨v78, ev78⟩ : ∃ v, zxs L xs (x3 + 1) = some v := ⟨_, zx_ok (by omega) (by omega)⟩
  refine wb ev78 ?_
  have := i_add (a := x3) (b := 2) (by omega) (by omega)
  obtain ⟨v79, ev79⟩ : ∃ v, zxs L xs (x3 + 2) = some v := ⟨_, zx_ok (by omega) (by omega)⟩
  refine wb ev79 ?_
  obtain ⟨w81, ew81⟩ := go_14 W9 t1
  refine wb ew81 ?_
  obtain ⟨q80, eq80, Wq80, fq80⟩ := p_PQ_told hn W9 (a1 := v78) (a2 := v79) t1
  refine wb eq80 ?_
  have P123 := PQk_fr P9 fq80 t1 (by decide)
  have g124 := GtW_fr g9 fq80 t2 W9 (by decide)
  have k125 := TkN_fr k9 fq80 t2 W9 (by decide)
  have en126 := (Zfr.gi fq80 t2 (by decide)).trans en9
  have ha127 := AcN_fr ha9 fq80 t2 W9 (by decide)
  have ea128 := (Zfr.gi fq80 t1 (by decide)).trans ea9
  have eb129 := (Zfr.gi fq80 t2 (by decide)).trans eb9
  have eg130 := (Zfr.gr fq80 t1 (by decide)).trans eg9
  have gc131 := GCo_s gc9 (GSg_fr fq80 tg W9 (by decide)) (GSm_fr fq80 t2 W9 (by decide))
  have ga132 := GAr_s ga9 (GSa_fr fq80 tg W9 (by decide)) (GSb_fr fq80 t2 W9 (by decide))
  refine wb ev78 ?_
  refine wb ev79 ?_
  obtain ⟨w85, ew85⟩ := go_64 Wq80 t2
  refine wb ew85 ?_
  obtain ⟨q84, eq84, Wq84, fq84⟩ := p_Mo_told hn Wq80 (a1 := v78) (a2 := v79) t2
  refine wb eq84 ?_
  have P133 := PQk_fr P123 fq84 t1 (by decide)
  have g134 := GtW_fr g124 fq84 t2 Wq80 (by decide)
  have k135 := TkN_fr k125 fq84 t2 Wq80 (by decide)
  have en136 := (Zfr.gi fq84 t2 (by decide)).trans en126
  have ha137 := AcN_fr ha127 fq84 t2 Wq80 (by decide)
  have ea138 := (Zfr.gi fq84 t1 (by decide)).trans ea128
  have eb139 := (Zfr.gi fq84 t2 (by decide)).trans eb129
  have eg140 := (Zfr.gr fq84 t1 (by decide)).trans eg130
  have gc141 := GCo_s gc131 (GSg_fr fq84 tg Wq80 (by decide)) (GSm_fr fq84 t2 Wq80 (by decide))
  have ga142 := GAr_s ga132 (GSa_fr fq84 tg Wq80 (by decide)) (GSb_fr fq84 t2 Wq80 (by decide))
  unfold f_Law_law_684
  exact lp_in (G := _) ⟨Wq84, t1, t2, P133, g134, k135, ⟨na, en136, ha137⟩, ta, tb, ea138, eb139, by omega, gp, eg140, tg, gc141, ga142⟩ hL h0 h6
set_option maxRecDepth 100000 in
set_option maxHeartbeats 4000000 in
theorem lc_8 {nf : Nat} (hn : 8589934592 ≤ nf) {L : Nat} {xs : Nat → Int32} (hL : L ≤ 3072) {x1 x2 : Nat} {x3 : Int32} {kk nn : Nat} {G : List Nat} {c : Zc} (h : LWd G c x1 x2 kk nn) (h0 : 0 ≤ x3.toInt) (h6 : x3.toInt + 6 ≤ L) : ∃ r, ((zxs L xs (x3 + 1)).bind fun v87 => (zob c x1 11).bind fun w89 => (f_PQ_bare nf x1 v87 c).bind fun q88 => (zxs L xs (x3 + 1)).bind fun v90 => (zob q88.2 x2 12).bind fun w92 => (f_Mo_bare nf x2 v90 q88.2).bind fun q91 => f_Law_law_684 nf L xs x1 x2 x3 kk nn q91.2) = some r ∧ LPo L x1 x2 x3 r := by
  have l0 : (0 : Int32).toInt = 0 := by decide
  have l1 : (1 : Int32).toInt = 1 := by decide
  have l2 : (2 : Int32).toInt = 2 := by decide
  have l3 : (3 : Int32).toInt = 3 := by decide
  have l4 : (4 : Int32).toInt = 4 := by decide
  have l5 : (5 : Int32).toInt = 5 := by decide
  have l6 : (6 : Int32).toInt = 6 := by decide
  obtain ⟨W9, t1, t2, P9, g9, k9, ⟨na, en9, ha9⟩, ta, tb, ea9, eb9, htt, gp, eg9, tg, gc9, ga9⟩ := h
  obtain ⟨ya, za, la, ua⟩ := gf_14_10 W9 t1
  rw [ea9] at za; cases za
  obtain ⟨yb, zb, lb, ub⟩ := gf_64_13 W9 t2
  rw [eb9] at zb; cases zb
  obtain ⟨yn, zn, ln, un⟩ := gf_64_8 W9 t2
  rw [en9] at zn; cases zn
  have := i_add (a := x3) (b := 1) (by omega) (by omega)
  obtain ⟨v87, ev87⟩ : ∃ v, zxs L xs (x3 + 1) = some v := ⟨_, zx_ok (by omega) (by omega)⟩
  refine wb ev87 ?_
  obtain ⟨w89, ew89⟩ := go_14 W9 t1
  refine wb ew89 ?_
  obtain ⟨ac, eac9, _⟩ := gf_1_8 W9 tg
  have hac := gfi_e eac9
  have hacr : 0 ≤ ac.toInt ∧ ac.toInt ≤ 100 := by have a_ := vfi_e en9; have b_ := ga9.1; omega
  obtain ⟨nd, end9, lnd, und⟩ := gf_1_7 W9 tg
  have hnd := gfi_e end9
  obtain ⟨q88, eq88, Wq88, fq88, hq88⟩ := p_PQ_bare__h hn W9 (a1 := v87) t1 (by omega) (by omega) (by omega) (by omega) eg9 end9 eac9
  obtain ⟨yq88, zq88, _, _, sq88⟩ := p_PQ_bare__g hn W9 (a1 := v87) t1 (by omega) (by omega) eg9 end9
  rw [eq88] at zq88; cases zq88
  refine wb eq88 ?_
  have P143 := PQk_fr P9 fq88 t1 (by decide)
  have g144 := GtW_fr g9 fq88 t2 W9 (by decide)
  have k145 := TkN_fr k9 fq88 t2 W9 (by decide)
  have en146 := (Zfr.gi fq88 t2 (by decide)).trans en9
  have ha147 := AcN_fr ha9 fq88 t2 W9 (by decide)
  have ea148 := (Zfr.gi fq88 t1 (by decide)).trans ea9
  have eb149 := (Zfr.gi fq88 t2 (by decide)).trans eb9
  have eg150 := (Zfr.gr fq88 t1 (by decide)).trans eg9
  refine wb ev87 ?_
  obtain ⟨w92, ew92⟩ := go_64 Wq88 t2
  refine wb ew92 ?_
  have hb := GSb_fr fq88 t2 W9 (by decide)
  have hEq : na = ac := Int32.toInt_inj.mp (by have a_ := vfi_e en9; have d_ := ga9.1; omega)
  have ht := GSm_fr fq88 t2 W9 (by decide)
  obtain ⟨nd2, e29, _, _⟩ := gf_64_0 Wq88 t2
  have hEq2 : nd2 = nd := Int32.toInt_inj.mp (by have a_ := vfi_e e29; have b_ := ht.1; have d_ := gc9.1; omega)
  subst hEq2
  subst hEq
  obtain ⟨q91, eq91, Wq91, fq91, hq91, nq91, mq91, _, _, pq91⟩ := p_Mo_bare__h hn Wq88 (a1 := v87) t2 (by omega) (by omega) (by omega) (by omega) e29 en146 ⟨en146, by omega, by omega, ha147⟩
  obtain ⟨yq91, zq91, _, _, sq91, _⟩ := p_Mo_bare__g hn Wq88 (a1 := v87) t2 (by omega) (by omega) e29 ⟨na, en146, by omega, by omega, ha147⟩
  rw [eq91] at zq91; cases zq91
  refine wb eq91 ?_
  have hsa := GSa_fr fq91 tg Wq88 (by decide)
  obtain ⟨gan, hr⟩ := GAr_bare ga9 hq88 (gaf_fr fq88 tg (gf_1_2 W9 tg) (by decide) (by decide)) (gaf_fr fq88 tg (gf_1_3 W9 tg) (by decide) (by decide)) hb hq91 (vaf_fr fq91 t2 (gf_64_4 Wq88 t2) (by decide) (by decide)) (vaf_fr fq91 t2 (gf_64_5 Wq88 t2) (by decide) (by decide)) hsa
  have hs := GSg_fr fq91 tg Wq88 (by decide)
  have gcn := GCo_bare gc9 hnd (by omega) sq88 (gfi_fr fq88 tg (by decide)) ht sq91 (vfi_fr fq91 t2 (by decide)) hs
  have P151 := PQk_fr P143 fq91 t1 (by decide)
  have g152 := GtW_fr g144 fq91 t2 Wq88 (by decide)
  have k153 := TkN_fr k145 fq91 t2 Wq88 (by decide)
  have ea154 := (Zfr.gi fq91 t1 (by decide)).trans ea148
  have eb155 := (Zfr.gi fq91 t2 (by decide)).trans eb149
  have eg156 := (Zfr.gr fq91 t1 (by decide)).trans eg150
  unfold f_Law_law_684
  exact lp_in (G := _) ⟨Wq91, t1, t2, P151, g152, k153, ⟨nq91, mq91, pq91⟩, ta, tb, ea154, eb155, by omega, gp, eg156, tg, gcn, gan⟩ hL h0 h6
set_option maxRecDepth 100000 in
set_option maxHeartbeats 4000000 in
theorem lc_9 {nf : Nat} (hn : 8589934592 ≤ nf) {L : Nat} {xs : Nat → Int32} (hL : L ≤ 3072) {x1 x2 : Nat} {x3 : Int32} {kk nn : Nat} {G : List Nat} {c : Zc} (h : LWd G c x1 x2 kk nn) (h0 : 0 ≤ x3.toInt) (h6 : x3.toInt + 6 ≤ L) : ∃ r, ((zxs L xs (x3 + 1)).bind fun v94 => (zob c x1 11).bind fun w96 => (f_PQ_question nf x1 v94 c).bind fun q95 => (zxs L xs (x3 + 1)).bind fun v97 => (zob q95.2 x2 12).bind fun w99 => (f_Mo_question nf x2 v97 q95.2).bind fun q98 => f_Law_law_684 nf L xs x1 x2 x3 kk nn q98.2) = some r ∧ LPo L x1 x2 x3 r := by
  have l0 : (0 : Int32).toInt = 0 := by decide
  have l1 : (1 : Int32).toInt = 1 := by decide
  have l2 : (2 : Int32).toInt = 2 := by decide
  have l3 : (3 : Int32).toInt = 3 := by decide
  have l4 : (4 : Int32).toInt = 4 := by decide
  have l5 : (5 : Int32).toInt = 5 := by decide
  have l6 : (6 : Int32).toInt = 6 := by decide
  obtain ⟨W9, t1, t2, P9, g9, k9, ⟨na, en9, ha9⟩, ta, tb, ea9, eb9, htt, gp, eg9, tg, gc9, ga9⟩ := h
  obtain ⟨ya, za, la, ua⟩ := gf_14_10 W9 t1
  rw [ea9] at za; cases za
  obtain ⟨yb, zb, lb, ub⟩ := gf_64_13 W9 t2
  rw [eb9] at zb; cases zb
  obtain ⟨yn, zn, ln, un⟩ := gf_64_8 W9 t2
  rw [en9] at zn; cases zn
  have := i_add (a := x3) (b := 1) (by omega) (by omega)
  obtain ⟨v94, ev94⟩ : ∃ v, zxs L xs (x3 + 1) = some v := ⟨_, zx_ok (by omega) (by omega)⟩
  refine wb ev94 ?_
  obtain ⟨w96, ew96⟩ := go_14 W9 t1
  refine wb ew96 ?_
  obtain ⟨q95, eq95, Wq95, fq95, nq95, mq95, pq95⟩ := p_PQ_question__t hn W9 (a1 := v94) t1 (by omega) (by omega) ea9
  refine wb eq95 ?_
  have P157 := PQk_fr P9 fq95 t1 (by decide)
  have g158 := GtW_fr g9 fq95 t2 W9 (by decide)
  have k159 := TkN_fr k9 fq95 t2 W9 (by decide)
  have en160 := (Zfr.gi fq95 t2 (by decide)).trans en9
  have ha161 := AcN_fr ha9 fq95 t2 W9 (by decide)
  have eb162 := (Zfr.gi fq95 t2 (by decide)).trans eb9
  have eg163 := (Zfr.gr fq95 t1 (by decide)).trans eg9
  have gc164 := GCo_s gc9 (GSg_fr fq95 tg W9 (by decide)) (GSm_fr fq95 t2 W9 (by decide))
  have ga165 := GAr_s ga9 (GSa_fr fq95 tg W9 (by decide)) (GSb_fr fq95 t2 W9 (by decide))
  refine wb ev94 ?_
  obtain ⟨w99, ew99⟩ := go_64 Wq95 t2
  refine wb ew99 ?_
  obtain ⟨q98, eq98, Wq98, fq98, ⟨gq98, kq98⟩, nq98, mq98, pq98⟩ := p_Mo_question hn Wq95 (a1 := v94) t2 (by omega) (by omega) eb162 ⟨g158, k159⟩
  refine wb eq98 ?_
  have P166 := PQk_fr P157 fq98 t1 (by decide)
  have en167 := (Zfr.gi fq98 t2 (by decide)).trans en160
  have ha168 := AcN_fr ha161 fq98 t2 Wq95 (by decide)
  have ea169 := (Zfr.gi fq98 t1 (by decide)).trans mq95
  have eg170 := (Zfr.gr fq98 t1 (by decide)).trans eg163
  have gc171 := GCo_s gc164 (GSg_fr fq98 tg Wq95 (by decide)) (GSm_fr fq98 t2 Wq95 (by decide))
  have ga172 := GAr_s ga165 (GSa_fr fq98 tg Wq95 (by decide)) (GSb_fr fq98 t2 Wq95 (by decide))
  unfold f_Law_law_684
  exact lp_in (G := _) ⟨Wq98, t1, t2, P166, gq98, kq98, ⟨na, en167, ha168⟩, nq95, nq98, ea169, mq98, by omega, gp, eg170, tg, gc171, ga172⟩ hL h0 h6
set_option maxRecDepth 100000 in
set_option maxHeartbeats 4000000 in
theorem lc_10 {nf : Nat} (hn : 8589934592 ≤ nf) {L : Nat} {xs : Nat → Int32} (hL : L ≤ 3072) {x1 x2 : Nat} {x3 : Int32} {kk nn : Nat} {G : List Nat} {c : Zc} (h : LWd G c x1 x2 kk nn) (h0 : 0 ≤ x3.toInt) (h6 : x3.toInt + 6 ≤ L) : ∃ r, ((zob c x1 11).bind fun w102 => (f_PQ_rule nf x1 c).bind fun q101 => (zob q101.2 x2 12).bind fun w104 => (f_Mo_rule nf x2 q101.2).bind fun q103 => f_Law_law_684 nf L xs x1 x2 x3 kk nn q103.2) = some r ∧ LPo L x1 x2 x3 r := by
  have l0 : (0 : Int32).toInt = 0 := by decide
  have l1 : (1 : Int32).toInt = 1 := by decide
  have l2 : (2 : Int32).toInt = 2 := by decide
  have l3 : (3 : Int32).toInt = 3 := by decide
  have l4 : (4 : Int32).toInt = 4 := by decide
  have l5 : (5 : Int32).toInt = 5 := by decide
  have l6 : (6 : Int32).toInt = 6 := by decide
  obtain ⟨W9, t1, t2, P9, g9, k9, ⟨na, en9, ha9⟩, ta, tb, ea9, eb9, htt, gp, eg9, tg, gc9, ga9⟩ := h
  obtain ⟨ya, za, la, ua⟩ := gf_14_10 W9 t1
  rw [ea9] at za; cases za
  obtain ⟨yb, zb, lb, ub⟩ := gf_64_13 W9 t2
  rw [eb9] at zb; cases zb
  obtain ⟨yn, zn, ln, un⟩ := gf_64_8 W9 t2
  rw [en9] at zn; cases zn
  obtain ⟨w102, ew102⟩ := go_14 W9 t1
  refine wb ew102 ?_
  obtain ⟨q101, eq101, Wq101, fq101, nq101, mq101, pq101⟩ := p_PQ_rule__t hn W9  t1 (by omega) (by omega) ea9
  refine wb eq101 ?_
  have P173 := PQk_fr P9 fq101 t1 (by decide)
  have g174 := GtW_fr g9 fq101 t2 W9 (by decide)
  have k175 := TkN_fr k9 fq101 t2 W9 (by decide)
  have en176 := (Zfr.gi fq101 t2 (by decide)).trans en9
  have ha177 := AcN_fr ha9 fq101 t2 W9 (by decide)
  have eb178 := (Zfr.gi fq101 t2 (by decide)).trans eb9
  have eg179 := (Zfr.gr fq101 t1 (by decide)).trans eg9
  have gc180 := GCo_s gc9 (GSg_fr fq101 tg W9 (by decide)) (GSm_fr fq101 t2 W9 (by decide))
  have ga181 := GAr_s ga9 (GSa_fr fq101 tg W9 (by decide)) (GSb_fr fq101 t2 W9 (by decide))
  obtain ⟨w104, ew104⟩ := go_64 Wq101 t2
  refine wb ew104 ?_
  obtain ⟨q103, eq103, Wq103, fq103, ⟨gq103, kq103⟩, nq103, mq103, pq103⟩ := p_Mo_rule hn Wq101  t2  ⟨g174, k175⟩
  refine wb eq103 ?_
  have P182 := PQk_fr P173 fq103 t1 (by decide)
  have en183 := (Zfr.gi fq103 t2 (by decide)).trans en176
  have ha184 := AcN_fr ha177 fq103 t2 Wq101 (by decide)
  have ea185 := (Zfr.gi fq103 t1 (by decide)).trans mq101
  have eg186 := (Zfr.gr fq103 t1 (by decide)).trans eg179
  have gc187 := GCo_s gc180 (GSg_fr fq103 tg Wq101 (by decide)) (GSm_fr fq103 t2 Wq101 (by decide))
  have ga188 := GAr_s ga181 (GSa_fr fq103 tg Wq101 (by decide)) (GSb_fr fq103 t2 Wq101 (by decide))
  unfold f_Law_law_684
  exact lp_in (G := _) ⟨Wq103, t1, t2, P182, gq103, kq103, ⟨na, en183, ha184⟩, nq101, nq103, ea185, mq103, by omega, gp, eg186, tg, gc187, ga188⟩ hL h0 h6
set_option maxRecDepth 100000 in
set_option maxHeartbeats 4000000 in
theorem lc_11 {nf : Nat} (hn : 8589934592 ≤ nf) {L : Nat} {xs : Nat → Int32} (hL : L ≤ 3072) {x1 x2 : Nat} {x3 : Int32} {kk nn : Nat} {G : List Nat} {c : Zc} (h : LWd G c x1 x2 kk nn) (h0 : 0 ≤ x3.toInt) (h6 : x3.toInt + 6 ≤ L) : ∃ r, ((zxs L xs (x3 + 1)).bind fun v106 => (zob c x1 11).bind fun w108 => (f_PQ_forget nf x1 v106 c).bind fun q107 => (zxs L xs (x3 + 1)).bind fun v109 => (zob q107.2 x2 12).bind fun w111 => (f_Mo_forget nf x2 v109 q107.2).bind fun q110 => f_Law_law_684 nf L xs x1 x2 x3 kk nn q110.2) = some r ∧ LPo L x1 x2 x3 r := by
  have l0 : (0 : Int32).toInt = 0 := by decide
  have l1 : (1 : Int32).toInt = 1 := by decide
  have l2 : (2 : Int32).toInt = 2 := by decide
  have l3 : (3 : Int32).toInt = 3 := by decide
  have l4 : (4 : Int32).toInt = 4 := by decide
  have l5 : (5 : Int32).toInt = 5 := by decide
  have l6 : (6 : Int32).toInt = 6 := by decide
  obtain ⟨W9, t1, t2, P9, g9, k9, ⟨na, en9, ha9⟩, ta, tb, ea9, eb9, htt, gp, eg9, tg, gc9, ga9⟩ := h
  obtain ⟨ya, za, la, ua⟩ := gf_14_10 W9 t1
  rw [ea9] at za; cases za
  obtain ⟨yb, zb, lb, ub⟩ := gf_64_13 W9 t2
  rw [eb9] at zb; cases zb
  obtain ⟨yn, zn, ln, un⟩ := gf_64_8 W9 t2
  rw [en9] at zn; cases zn
  have := i_add (a := x3) (b := 1) (by omega) (by omega)
  obtain ⟨v106, ev106⟩ : ∃ v, zxs L xs (x3 + 1) = some v := ⟨_, zx_ok (by omega) (by omega)⟩
  refine wb ev106 ?_
  obtain ⟨w108, ew108⟩ := go_14 W9 t1
  refine wb ew108 ?_
  obtain ⟨q107, eq107, Wq107, fq107⟩ := p_PQ_forget hn W9 (a1 := v106) t1
  refine wb eq107 ?_
  have P189 := PQk_fr P9 fq107 t1 (by decide)
  have g190 := GtW_fr g9 fq107 t2 W9 (by decide)
  have k191 := TkN_fr k9 fq107 t2 W9 (by decide)
  have en192 := (Zfr.gi fq107 t2 (by decide)).trans en9
  have ha193 := AcN_fr ha9 fq107 t2 W9 (by decide)
  have ea194 := (Zfr.gi fq107 t1 (by decide)).trans ea9
  have eb195 := (Zfr.gi fq107 t2 (by decide)).trans eb9
  have eg196 := (Zfr.gr fq107 t1 (by decide)).trans eg9
  have gc197 := GCo_s gc9 (GSg_fr fq107 tg W9 (by decide)) (GSm_fr fq107 t2 W9 (by decide))
  have ga198 := GAr_s ga9 (GSa_fr fq107 tg W9 (by decide)) (GSb_fr fq107 t2 W9 (by decide))
  refine wb ev106 ?_
  obtain ⟨w111, ew111⟩ := go_64 Wq107 t2
  refine wb ew111 ?_
  obtain ⟨q110, eq110, Wq110, fq110, ⟨gq110, kq110⟩⟩ := p_Mo_forget hn Wq107 (a1 := v106) t2  ⟨g190, k191⟩
  refine wb eq110 ?_
  have P199 := PQk_fr P189 fq110 t1 (by decide)
  have en200 := (Zfr.gi fq110 t2 (by decide)).trans en192
  have ha201 := AcN_fr ha193 fq110 t2 Wq107 (by decide)
  have ea202 := (Zfr.gi fq110 t1 (by decide)).trans ea194
  have eb203 := (Zfr.gi fq110 t2 (by decide)).trans eb195
  have eg204 := (Zfr.gr fq110 t1 (by decide)).trans eg196
  have gc205 := GCo_s gc197 (GSg_fr fq110 tg Wq107 (by decide)) (GSm_fr fq110 t2 Wq107 (by decide))
  have ga206 := GAr_s ga198 (GSa_fr fq110 tg Wq107 (by decide)) (GSb_fr fq110 t2 Wq107 (by decide))
  unfold f_Law_law_684
  exact lp_in (G := _) ⟨Wq110, t1, t2, P199, gq110, kq110, ⟨na, en200, ha201⟩, ta, tb, ea202, eb203, by omega, gp, eg204, tg, gc205, ga206⟩ hL h0 h6
end ZzT
