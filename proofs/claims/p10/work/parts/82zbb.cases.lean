section ZzT
set_option maxRecDepth 100000 in
set_option maxHeartbeats 4000000 in
theorem lc_6 {nf : Nat} (hn : 8589934592 ≤ nf) {L : Nat} {xs : Nat → Int32} (hL : L ≤ 3072) {x1 x2 : Nat} {x3 : Int32} {kk nn : Nat} {G : List Nat} {c : Zc} (h : LWd G c x1 x2 kk nn) (h0 : 0 ≤ x3.toInt) (h6 : x3.toInt + 6 ≤ L) : ∃ r, ((zxs L xs (x3 + 1)).bind fun v70 => (zob c x1 11).bind fun w72 => (f_PQ_drop nf x1 v70 c).bind fun q71 => (zxs L xs (x3 + 1)).bind fun v73 => (zob q71.2 x2 12).bind fun w75 => (f_Mo_drop nf x2 v73 q71.2).bind fun q74 => f_Law_law_684 nf L xs x1 x2 x3 kk nn q74.2) = some r ∧ LPo L x1 x2 x3 r := by
  have l0 : (0 : Int32).toInt = 0 := by decide
  have l1 : (1 : Int32).toInt = 1 := by decide
  have l2 : (2 : Int32).toInt = 2 := by decide
  have l3 : (3 : Int32).toInt = 3 := by decide
  have l4 : (4 : Int32).toInt = 4 := by decide
  have l5 : (5 : Int32).toInt = 5 := by decide
  have l6 : (6 : Int32).toInt = 6 := by decide
  obtain ⟨W9, t1, t2, P9, g9, k9, ⟨na, en9, ha9⟩, ta, tb, ea9, eb9, htt, gp, eg9, tg, gc9, ga9⟩ := h
  obtain ⟨ya, za, la, ua⟩ := gf_14_10 W9 t1
  rw [ea9] at za; cases za
  obtain ⟨yb, zb, lb, ub⟩ := gf_64_13 W9 t2
  rw [eb9] at zb; cases zb
  obtain ⟨yn, zn, ln, un⟩ := gf_64_8 W9 t2
  rw [en9] at zn; cases zn
  have := i_add (a := x3) (b := 1) (by omega) (by omega)
  obtain ⟨v70, ev70⟩ : ∃ v, zxs L xs (x3 + 1) = some v := ⟨_, zx_ok (by omega) (by omega)⟩
  refine wb ev70 ?_
  obtain ⟨w72, ew72⟩ := go_14 W9 t1
  refine wb ew72 ?_
  obtain ⟨ac, eac9, _⟩ := gf_1_8 W9 tg
  have hac := gfi_e eac9
  have hacr : 0 ≤ ac.toInt ∧ ac.toInt ≤ 100 := by have a_ := vfi_e en9; have b_ := ga9.1; omega
  obtain ⟨q71, eq71, Wq71, fq71, hq71⟩ := p_PQ_drop__g hn W9 (a1 := v70) t1 (by omega) (by omega) eg9 eac9
  refine wb eq71 ?_
  have P107 := PQk_fr P9 fq71 t1 (by decide)
  have g108 := GtW_fr g9 fq71 t2 W9 (by decide)
  have k109 := TkN_fr k9 fq71 t2 W9 (by decide)
  have en110 := (Zfr.gi fq71 t2 (by decide)).trans en9
  have ha111 := AcN_fr ha9 fq71 t2 W9 (by decide)
  have ea112 := (Zfr.gi fq71 t1 (by decide)).trans ea9
  have eb113 := (Zfr.gi fq71 t2 (by decide)).trans eb9
  have eg114 := (Zfr.gr fq71 t1 (by decide)).trans eg9
  have gc115 := GCo_s gc9 (GSg_fr fq71 tg W9 (by decide)) (GSm_fr fq71 t2 W9 (by decide))
  refine wb ev70 ?_
  obtain ⟨w75, ew75⟩ := go_64 Wq71 t2
  refine wb ew75 ?_
  have hb := GSb_fr fq71 t2 W9 (by decide)
  have hEq : na = ac := Int32.toInt_inj.mp (by have a_ := vfi_e en9; have d_ := ga9.1; omega)
  subst hEq
  obtain ⟨q74, eq74, Wq74, fq74, hq74, nq74, mq74, _, _, pq74⟩ := p_Mo_drop__g hn Wq71 (a1 := v70) t2 (by omega) (by omega) en110 ⟨en110, by omega, by omega, ha111⟩
  refine wb eq74 ?_
  have hsa := GSa_fr fq74 tg Wq71 (by decide)
  obtain ⟨gan, hr⟩ := GAr_drop ga9 hq71 (gaf_fr fq71 tg (gf_1_2 W9 tg) (by decide) (by decide)) (gaf_fr fq71 tg (gf_1_3 W9 tg) (by decide) (by decide)) hb hq74 nb_0 (vaf_fr fq74 t2 (gf_64_4 Wq71 t2) (by decide) (by decide)) (vaf_fr fq74 t2 (gf_64_5 Wq71 t2) (by decide) (by decide)) hsa
  have P116 := PQk_fr P107 fq74 t1 (by decide)
  have g117 := GtW_fr g108 fq74 t2 Wq71 (by decide)
  have k118 := TkN_fr k109 fq74 t2 Wq71 (by decide)
  have ea119 := (Zfr.gi fq74 t1 (by decide)).trans ea112
  have eb120 := (Zfr.gi fq74 t2 (by decide)).trans eb113
  have eg121 := (Zfr.gr fq74 t1 (by decide)).trans eg114
  have gc122 := GCo_s gc115 (GSg_fr fq74 tg Wq71 (by decide)) (GSm_fr fq74 t2 Wq71 (by decide))
  unfold f_Law_law_684
  exact lp_in (G := _) ⟨Wq74, t1, t2, P116, g117, k118, ⟨nq74, mq74, pq74⟩, ta, tb, ea119, eb120, by omega, gp, eg121, tg, gc122, gan⟩ hL h0 h6
set_option maxRecDepth 100000 in
set_option maxHeartbeats 4000000 in
theorem lc_7 {nf : Nat} (hn : 8589934592 ≤ nf) {L : Nat} {xs : Nat → Int32} (hL : L ≤ 3072) {x1 x2 : Nat} {x3 : Int32} {kk nn : Nat} {G : List Nat} {c : Zc} (h : LWd G c x1 x2 kk nn) (h0 : 0 ≤ x3.toInt) (h6 : x3.toInt + 6 ≤ L) : ∃ r, ((zxs L xs (x3 + 1)).bind fun v77 => (zxs L xs (x3 + 2)).bind fun v78 => (zob c x1 11).bind fun w80 => (f_PQ_told nf x1 v77 v78 c).bind fun q79 => (zxs L xs (x3 + 1)).bind fun v81 => (zxs L xs (x3 + 2)).bind fun v82 => (zob q79.2 x2 12).bind fun w84 => (f_Mo_told nf x2 v81 v82 q79.2).bind fun q83 => f_Law_law_684 nf L xs x1 x2 x3 kk nn q83.2) = some r ∧ LPo L x1 x2 x3 r := by
  have l0 : (0 : Int32).toInt = 0 := by decide
  have l1 : (1 : Int32).toInt = 1 := by decide
  have l2 : (2 : Int32).toInt = 2 := by decide
  have l3 : (3 : Int32).toInt = 3 := by decide
  have l4 : (4 : Int32).toInt = 4 := by decide
  have l5 : (5 : Int32).toInt = 5 := by decide
  have l6 : (6 : Int32).toInt = 6 := by decide
  obtain ⟨W9, t1, t2, P9, g9, k9, ⟨na, en9, ha9⟩, ta, tb, ea9, eb9, htt, gp, eg9, tg, gc9, ga9⟩ := h
  obtain ⟨ya, za, la, ua⟩ := gf_14_10 W9 t1
  rw [ea9] at za; cases za
  obtain ⟨yb, zb, lb, ub⟩ := gf_64_13 W9 t2
  rw [eb9] at zb; cases zb
  obtain ⟨yn, zn, ln, un⟩ := gf_64_8 W9 t2
  rw [en9] at zn; cases zn
  have := i_add (a := x3) (b := 1) (by omega) (by omega)
  obtain ⟨v77, ev77⟩ : ∃ v, zxs L xs (x3 + 1) = some v := ⟨_, zx_ok (by omega) (by omega)⟩
  refine wb ev77 ?_
  have := i_add (a := x3) (b := 2) (by omega) (by omega)
  obtain ⟨v78, ev78⟩ : ∃ v, zxs L xs (x3 + 2) = some v := ⟨_, zx_ok (by omega) (by omega)⟩
  refine wb ev78 ?_
  obtain ⟨w80, ew80⟩ := go_14 W9 t1
  refine wb ew80 ?_
  obtain ⟨q79, eq79, Wq79, fq79⟩ := p_PQ_told hn W9 (a1 := v77) (a2 := v78) t1
  refine wb eq79 ?_
  have P123 := PQk_fr P9 fq79 t1 (by decide)
  have g124 := GtW_fr g9 fq79 t2 W9 (by decide)
  have k125 := TkN_fr k9 fq79 t2 W9 (by decide)
  have en126 := (Zfr.gi fq79 t2 (by decide)).trans en9
  have ha127 := AcN_fr ha9 fq79 t2 W9 (by decide)
  have ea128 := (Zfr.gi fq79 t1 (by decide)).trans ea9
  have eb129 := (Zfr.gi fq79 t2 (by decide)).trans eb9
  have eg130 := (Zfr.gr fq79 t1 (by decide)).trans eg9
  have gc131 := GCo_s gc9 (GSg_fr fq79 tg W9 (by decide)) (GSm_fr fq79 t2 W9 (by decide))
  have ga132 := GAr_s ga9 (GSa_fr fq79 tg W9 (by decide)) (GSb_fr fq79 t2 W9 (by decide))
  refine wb ev77 ?_
  refine wb ev78 ?_
  obtain ⟨w84, ew84⟩ := go_64 Wq79 t2
  refine wb ew84 ?_
  obtain ⟨q83, eq83, Wq83, fq83⟩ := p_Mo_told hn Wq79 (a1 := v77) (a2 := v78) t2
  refine wb eq83 ?_
  have P133 := PQk_fr P123 fq83 t1 (by decide)
  have g134 := GtW_fr g124 fq83 t2 Wq79 (by decide)
  have k135 := TkN_fr k125 fq83 t2 Wq79 (by decide)
  have en136 := (Zfr.gi fq83 t2 (by decide)).trans en126
  have ha137 := AcN_fr ha127 fq83 t2 Wq79 (by decide)
  have ea138 := (Zfr.gi fq83 t1 (by decide)).trans ea128
  have eb139 := (Zfr.gi fq83 t2 (by decide)).trans eb129
  have eg140 := (Zfr.gr fq83 t1 (by decide)).trans eg130
  have gc141 := GCo_s gc131 (GSg_fr fq83 tg Wq79 (by decide)) (GSm_fr fq83 t2 Wq79 (by decide))
  have ga142 := GAr_s ga132 (GSa_fr fq83 tg Wq79 (by decide)) (GSb_fr fq83 t2 Wq79 (by decide))
  unfold f_Law_law_684
  exact lp_in (G := _) ⟨Wq83, t1, t2, P133, g134, k135, ⟨na, en136, ha137⟩, ta, tb, ea138, eb139, by omega, gp, eg140, tg, gc141, ga142⟩ hL h0 h6
set_option maxRecDepth 100000 in
set_option maxHeartbeats 4000000 in
theorem lc_8 {nf : Nat} (hn : 8589934592 ≤ nf) {L : Nat} {xs : Nat → Int32} (hL : L ≤ 3072) {x1 x2 : Nat} {x3 : Int32} {kk nn : Nat} {G : List Nat} {c : Zc} (h : LWd G c x1 x2 kk nn) (h0 : 0 ≤ x3.toInt) (h6 : x3.toInt + 6 ≤ L) : ∃ r, ((zxs L xs (x3 + 1)).bind fun v86 => (zob c x1 11).bind fun w88 => (f_PQ_bare nf x1 v86 c).bind fun q87 => (zxs L xs (x3 + 1)).bind fun v89 => (zob q87.2 x2 12).bind fun w91 => (f_Mo_bare nf x2 v89 q87.2).bind fun q90 => if q87.1 = q90.1 then (f_Law_law_684 nf L xs x1 x2 x3 kk nn q90.2) else (some (.inr (.inl (kk, nn, q90.2))))) = some r ∧ LPo L x1 x2 x3 r := by
  have l0 : (0 : Int32).toInt = 0 := by decide
  have l1 : (1 : Int32).toInt = 1 := by decide
  have l2 : (2 : Int32).toInt = 2 := by decide
  have l3 : (3 : Int32).toInt = 3 := by decide
  have l4 : (4 : Int32).toInt = 4 := by decide
  have l5 : (5 : Int32).toInt = 5 := by decide
  have l6 : (6 : Int32).toInt = 6 := by decide
  obtain ⟨W9, t1, t2, P9, g9, k9, ⟨na, en9, ha9⟩, ta, tb, ea9, eb9, htt, gp, eg9, tg, gc9, ga9⟩ := h
  obtain ⟨ya, za, la, ua⟩ := gf_14_10 W9 t1
  rw [ea9] at za; cases za
  obtain ⟨yb, zb, lb, ub⟩ := gf_64_13 W9 t2
  rw [eb9] at zb; cases zb
  obtain ⟨yn, zn, ln, un⟩ := gf_64_8 W9 t2
  rw [en9] at zn; cases zn
  have := i_add (a := x3) (b := 1) (by omega) (by omega)
  obtain ⟨v86, ev86⟩ : ∃ v, zxs L xs (x3 + 1) = some v := ⟨_, zx_ok (by omega) (by omega)⟩
  refine wb ev86 ?_
  obtain ⟨w88, ew88⟩ := go_14 W9 t1
  refine wb ew88 ?_
  obtain ⟨ac, eac9, _⟩ := gf_1_8 W9 tg
  have hac := gfi_e eac9
  have hacr : 0 ≤ ac.toInt ∧ ac.toInt ≤ 100 := by have a_ := vfi_e en9; have b_ := ga9.1; omega
  obtain ⟨nd, end9, lnd, und⟩ := gf_1_7 W9 tg
  have hnd := gfi_e end9
  obtain ⟨q87, eq87, Wq87, fq87, hq87⟩ := p_PQ_bare__h hn W9 (a1 := v86) t1 (by omega) (by omega) (by omega) (by omega) eg9 end9 eac9
  obtain ⟨yq87, zq87, _, _, sq87⟩ := p_PQ_bare__g hn W9 (a1 := v86) t1 (by omega) (by omega) eg9 end9
  rw [eq87] at zq87; cases zq87
  refine wb eq87 ?_
  have P143 := PQk_fr P9 fq87 t1 (by decide)
  have g144 := GtW_fr g9 fq87 t2 W9 (by decide)
  have k145 := TkN_fr k9 fq87 t2 W9 (by decide)
  have en146 := (Zfr.gi fq87 t2 (by decide)).trans en9
  have ha147 := AcN_fr ha9 fq87 t2 W9 (by decide)
  have ea148 := (Zfr.gi fq87 t1 (by decide)).trans ea9
  have eb149 := (Zfr.gi fq87 t2 (by decide)).trans eb9
  have eg150 := (Zfr.gr fq87 t1 (by decide)).trans eg9
  refine wb ev86 ?_
  obtain ⟨w91, ew91⟩ := go_64 Wq87 t2
  refine wb ew91 ?_
  have hb := GSb_fr fq87 t2 W9 (by decide)
  have hEq : na = ac := Int32.toInt_inj.mp (by have a_ := vfi_e en9; have d_ := ga9.1; omega)
  have ht := GSm_fr fq87 t2 W9 (by decide)
  obtain ⟨nd2, e29, _, _⟩ := gf_64_0 Wq87 t2
  have hEq2 : nd2 = nd := Int32.toInt_inj.mp (by have a_ := vfi_e e29; have b_ := ht.1; have d_ := gc9.1; omega)
  subst hEq2
  subst hEq
  obtain ⟨q90, eq90, Wq90, fq90, hq90, nq90, mq90, _, _, pq90⟩ := p_Mo_bare__h hn Wq87 (a1 := v86) t2 (by omega) (by omega) (by omega) (by omega) e29 en146 ⟨en146, by omega, by omega, ha147⟩
  obtain ⟨yq90, zq90, _, _, sq90, _⟩ := p_Mo_bare__g hn Wq87 (a1 := v86) t2 (by omega) (by omega) e29 ⟨na, en146, by omega, by omega, ha147⟩
  rw [eq90] at zq90; cases zq90
  refine wb eq90 ?_
  have hsa := GSa_fr fq90 tg Wq87 (by decide)
  obtain ⟨gan, hr⟩ := GAr_bare ga9 hq87 (gaf_fr fq87 tg (gf_1_2 W9 tg) (by decide) (by decide)) (gaf_fr fq87 tg (gf_1_3 W9 tg) (by decide) (by decide)) hb hq90 (vaf_fr fq90 t2 (gf_64_4 Wq87 t2) (by decide) (by decide)) (vaf_fr fq90 t2 (gf_64_5 Wq87 t2) (by decide) (by decide)) hsa
  have hs := GSg_fr fq90 tg Wq87 (by decide)
  have gcn := GCo_bare gc9 hnd (by omega) sq87 (gfi_fr fq87 tg (by decide)) ht sq90 (vfi_fr fq90 t2 (by decide)) hs
  have P151 := PQk_fr P143 fq90 t1 (by decide)
  have g152 := GtW_fr g144 fq90 t2 Wq87 (by decide)
  have k153 := TkN_fr k145 fq90 t2 Wq87 (by decide)
  have ea154 := (Zfr.gi fq90 t1 (by decide)).trans ea148
  have eb155 := (Zfr.gi fq90 t2 (by decide)).trans eb149
  have eg156 := (Zfr.gr fq90 t1 (by decide)).trans eg150
  refine wi (fun hq => ?_) (fun hq => ?_)
  · unfold f_Law_law_684
    exact lp_in (G := _) ⟨Wq90, t1, t2, P151, g152, k153, ⟨nq90, mq90, pq90⟩, ta, tb, ea154, eb155, by omega, gp, eg156, tg, gcn, gan⟩ hL h0 h6
  · exact absurd (Int32.toInt_inj.mp (by omega)) hq
set_option maxRecDepth 100000 in
set_option maxHeartbeats 4000000 in
theorem lc_9 {nf : Nat} (hn : 8589934592 ≤ nf) {L : Nat} {xs : Nat → Int32} (hL : L ≤ 3072) {x1 x2 : Nat} {x3 : Int32} {kk nn : Nat} {G : List Nat} {c : Zc} (h : LWd G c x1 x2 kk nn) (h0 : 0 ≤ x3.toInt) (h6 : x3.toInt + 6 ≤ L) : ∃ r, ((zxs L xs (x3 + 1)).bind fun v94 => (zob c x1 11).bind fun w96 => (f_PQ_question nf x1 v94 c).bind fun q95 => (zxs L xs (x3 + 1)).bind fun v97 => (zob q95.2 x2 12).bind fun w99 => (f_Mo_question nf x2 v97 q95.2).bind fun q98 => f_Law_law_684 nf L xs x1 x2 x3 kk nn q98.2) = some r ∧ LPo L x1 x2 x3 r := by
  have l0 : (0 : Int32).toInt = 0 := by decide
  have l1 : (1 : Int32).toInt = 1 := by decide
  have l2 : (2 : Int32).toInt = 2 := by decide
  have l3 : (3 : Int32).toInt = 3 := by decide
  have l4 : (4 : Int32).toInt = 4 := by decide
  have l5 : (5 : Int32).toInt = 5 := by decide
  have l6 : (6 : Int32).toInt = 6 := by decide
  obtain ⟨W9, t1, t2, P9, g9, k9, ⟨na, en9, ha9⟩, ta, tb, ea9, eb9, htt, gp, eg9, tg, gc9, ga9⟩ := h
  obtain ⟨ya, za, la, ua⟩ := gf_14_10 W9 t1
  rw [ea9] at za; cases za
  obtain ⟨yb, zb, lb, ub⟩ := gf_64_13 W9 t2
  rw [eb9] at zb; cases zb
  obtain ⟨yn, zn, ln, un⟩ := gf_64_8 W9 t2
  rw [en9] at zn; cases zn
  have := i_add (a := x3) (b := 1) (by omega) (by omega)
  obtain ⟨v94, ev94⟩ : ∃ v, zxs L xs (x3 + 1) = some v := ⟨_, zx_ok (by omega) (by omega)⟩
  refine wb ev94 ?_
  obtain ⟨w96, ew96⟩ := go_14 W9 t1
  refine wb ew96 ?_
  obtain ⟨q95, eq95, Wq95, fq95, nq95, mq95, pq95⟩ := p_PQ_question__t hn W9 (a1 := v94) t1 (by omega) (by omega) ea9
  refine wb eq95 ?_
  have P157 := PQk_fr P9 fq95 t1 (by decide)
  have g158 := GtW_fr g9 fq95 t2 W9 (by decide)
  have k159 := TkN_fr k9 fq95 t2 W9 (by decide)
  have en160 := (Zfr.gi fq95 t2 (by decide)).trans en9
  have ha161 := AcN_fr ha9 fq95 t2 W9 (by decide)
  have eb162 := (Zfr.gi fq95 t2 (by decide)).trans eb9
  have eg163 := (Zfr.gr fq95 t1 (by decide)).trans eg9
  have gc164 := GCo_s gc9 (GSg_fr fq95 tg W9 (by decide)) (GSm_fr fq95 t2 W9 (by decide))
  have ga165 := GAr_s ga9 (GSa_fr fq95 tg W9 (by decide)) (GSb_fr fq95 t2 W9 (by decide))
  refine wb ev94 ?_
  obtain ⟨w99, ew99⟩ := go_64 Wq95 t2
  refine wb ew99 ?_
  obtain ⟨q98, eq98, Wq98, fq98, ⟨gq98, kq98⟩, nq98, mq98, pq98⟩ := p_Mo_question hn Wq95 (a1 := v94) t2 (by omega) (by omega) eb162 ⟨g158, k159⟩
  refine wb eq98 ?_
  have P166 := PQk_fr P157 fq98 t1 (by decide)
  have en167 := (Zfr.gi fq98 t2 (by decide)).trans en160
  have ha168 := AcN_fr ha161 fq98 t2 Wq95 (by decide)
  have ea169 := (Zfr.gi fq98 t1 (by decide)).trans mq95
  have eg170 := (Zfr.gr fq98 t1 (by decide)).trans eg163
  have gc171 := GCo_s gc164 (GSg_fr fq98 tg Wq95 (by decide)) (GSm_fr fq98 t2 Wq95 (by decide))
  have ga172 := GAr_s ga165 (GSa_fr fq98 tg Wq95 (by decide)) (GSb_fr fq98 t2 Wq95 (by decide))
  unfold f_Law_law_684
  exact lp_in (G := _) ⟨Wq98, t1, t2, P166, gq98, kq98, ⟨na, en167, ha168⟩, nq95, nq98, ea169, mq98, by omega, gp, eg170, tg, gc171, ga172⟩ hL h0 h6
set_option maxRecDepth 100000 in
set_option maxHeartbeats 4000000 in
theorem lc_10 {nf : Nat} (hn : 8589934592 ≤ nf) {L : Nat} {xs : Nat → Int32} (hL : L ≤ 3072) {x1 x2 : Nat} {x3 : Int32} {kk nn : Nat} {G : List Nat} {c : Zc} (h : LWd G c x1 x2 kk nn) (h0 : 0 ≤ x3.toInt) (h6 : x3.toInt + 6 ≤ L) : ∃ r, ((zob c x1 11).bind fun w102 => (f_PQ_rule nf x1 c).bind fun q101 => (zob q101.2 x2 12).bind fun w104 => (f_Mo_rule nf x2 q101.2).bind fun q103 => f_Law_law_684 nf L xs x1 x2 x3 kk nn q103.2) = some r ∧ LPo L x1 x2 x3 r := by
  have l0 : (0 : Int32).toInt = 0 := by decide
  have l1 : (1 : Int32).toInt = 1 := by decide
  have l2 : (2 : Int32).toInt = 2 := by decide
  have l3 : (3 : Int32).toInt = 3 := by decide
  have l4 : (4 : Int32).toInt = 4 := by decide
  have l5 : (5 : Int32).toInt = 5 := by decide
  have l6 : (6 : Int32).toInt = 6 := by decide
  obtain ⟨W9, t1, t2, P9, g9, k9, ⟨na, en9, ha9⟩, ta, tb, ea9, eb9, htt, gp, eg9, tg, gc9, ga9⟩ := h
  obtain ⟨ya, za, la, ua⟩ := gf_14_10 W9 t1
  rw [ea9] at za; cases za
  obtain ⟨yb, zb, lb, ub⟩ := gf_64_13 W9 t2
  rw [eb9] at zb; cases zb
  obtain ⟨yn, zn, ln, un⟩ := gf_64_8 W9 t2
  rw [en9] at zn; cases zn
  obtain ⟨w102, ew102⟩ := go_14 W9 t1
  refine wb ew102 ?_
  obtain ⟨q101, eq101, Wq101, fq101, nq101, mq101, pq101⟩ := p_PQ_rule__t hn W9  t1 (by omega) (by omega) ea9
  refine wb eq101 ?_
  have P173 := PQk_fr P9 fq101 t1 (by decide)
  have g174 := GtW_fr g9 fq101 t2 W9 (by decide)
  have k175 := TkN_fr k9 fq101 t2 W9 (by decide)
  have en176 := (Zfr.gi fq101 t2 (by decide)).trans en9
  have ha177 := AcN_fr ha9 fq101 t2 W9 (by decide)
  have eb178 := (Zfr.gi fq101 t2 (by decide)).trans eb9
  have eg179 := (Zfr.gr fq101 t1 (by decide)).trans eg9
  have gc180 := GCo_s gc9 (GSg_fr fq101 tg W9 (by decide)) (GSm_fr fq101 t2 W9 (by decide))
  have ga181 := GAr_s ga9 (GSa_fr fq101 tg W9 (by decide)) (GSb_fr fq101 t2 W9 (by decide))
  obtain ⟨w104, ew104⟩ := go_64 Wq101 t2
  refine wb ew104 ?_
  obtain ⟨q103, eq103, Wq103, fq103, ⟨gq103, kq103⟩, nq103, mq103, pq103⟩ := p_Mo_rule hn Wq101  t2  ⟨g174, k175⟩
  refine wb eq103 ?_
  have P182 := PQk_fr P173 fq103 t1 (by decide)
  have en183 := (Zfr.gi fq103 t2 (by decide)).trans en176
  have ha184 := AcN_fr ha177 fq103 t2 Wq101 (by decide)
  have ea185 := (Zfr.gi fq103 t1 (by decide)).trans mq101
  have eg186 := (Zfr.gr fq103 t1 (by decide)).trans eg179
  have gc187 := GCo_s gc180 (GSg_fr fq103 tg Wq101 (by decide)) (GSm_fr fq103 t2 Wq101 (by decide))
  have ga188 := GAr_s ga181 (GSa_fr fq103 tg Wq101 (by decide)) (GSb_fr fq103 t2 Wq101 (by decide))
  unfold f_Law_law_684
  exact lp_in (G := _) ⟨Wq103, t1, t2, P182, gq103, kq103, ⟨na, en183, ha184⟩, nq101, nq103, ea185, mq103, by omega, gp, eg186, tg, gc187, ga188⟩ hL h0 h6
set_option maxRecDepth 100000 in
set_option maxHeartbeats 4000000 in
theorem lc_11 {nf : Nat} (hn : 8589934592 ≤ nf) {L : Nat} {xs : Nat → Int32} (hL : L ≤ 3072) {x1 x2 : Nat} {x3 : Int32} {kk nn : Nat} {G : List Nat} {c : Zc} (h : LWd G c x1 x2 kk nn) (h0 : 0 ≤ x3.toInt) (h6 : x3.toInt + 6 ≤ L) : ∃ r, ((zxs L xs (x3 + 1)).bind fun v106 => (zob c x1 11).bind fun w108 => (f_PQ_forget nf x1 v106 c).bind fun q107 => (zxs L xs (x3 + 1)).bind fun v109 => (zob q107.2 x2 12).bind fun w111 => (f_Mo_forget nf x2 v109 q107.2).bind fun q110 => f_Law_law_684 nf L xs x1 x2 x3 kk nn q110.2) = some r ∧ LPo L x1 x2 x3 r := by
  have l0 : (0 : Int32).toInt = 0 := by decide
  have l1 : (1 : Int32).toInt = 1 := by decide
  have l2 : (2 : Int32).toInt = 2 := by decide
  have l3 : (3 : Int32).toInt = 3 := by decide
  have l4 : (4 : Int32).toInt = 4 := by decide
  have l5 : (5 : Int32).toInt = 5 := by decide
  have l6 : (6 : Int32).toInt = 6 := by decide
  obtain ⟨W9, t1, t2, P9, g9, k9, ⟨na, en9, ha9⟩, ta, tb, ea9, eb9, htt, gp, eg9, tg, gc9, ga9⟩ := h
  obtain ⟨ya, za, la, ua⟩ := gf_14_10 W9 t1
  rw [ea9] at za; cases za
  obtain ⟨yb, zb, lb, ub⟩ := gf_64_13 W9 t2
  rw [eb9] at zb; cases zb
  obtain ⟨yn, zn, ln, un⟩ := gf_64_8 W9 t2
  rw [en9] at zn; cases zn
  have := i_add (a := x3) (b := 1) (by omega) (by omega)
  obtain ⟨v106, ev106⟩ : ∃ v, zxs L xs (x3 + 1) = some v := ⟨_, zx_ok (by omega) (by omega)⟩
  refine wb ev106 ?_
  obtain ⟨w108, ew108⟩ := go_14 W9 t1
  refine wb ew108 ?_
  obtain ⟨q107, eq107, Wq107, fq107⟩ := p_PQ_forget hn W9 (a1 := v106) t1
  refine wb eq107 ?_
  have P189 := PQk_fr P9 fq107 t1 (by decide)
  have g190 := GtW_fr g9 fq107 t2 W9 (by decide)
  have k191 := TkN_fr k9 fq107 t2 W9 (by decide)
  have en192 := (Zfr.gi fq107 t2 (by decide)).trans en9
  have ha193 := AcN_fr ha9 fq107 t2 W9 (by decide)
  have ea194 := (Zfr.gi fq107 t1 (by decide)).trans ea9
  have eb195 := (Zfr.gi fq107 t2 (by decide)).trans eb9
  have eg196 := (Zfr.gr fq107 t1 (by decide)).trans eg9
  have gc197 := GCo_s gc9 (GSg_fr fq107 tg W9 (by decide)) (GSm_fr fq107 t2 W9 (by decide))
  have ga198 := GAr_s ga9 (GSa_fr fq107 tg W9 (by decide)) (GSb_fr fq107 t2 W9 (by decide))
  refine wb ev106 ?_
  obtain ⟨w111, ew111⟩ := go_64 Wq107 t2
  refine wb ew111 ?_
  obtain ⟨q110, eq110, Wq110, fq110, ⟨gq110, kq110⟩⟩ := p_Mo_forget hn Wq107 (a1 := v106) t2  ⟨g190, k191⟩
  refine wb eq110 ?_
  have P199 := PQk_fr P189 fq110 t1 (by decide)
  have en200 := (Zfr.gi fq110 t2 (by decide)).trans en192
  have ha201 := AcN_fr ha193 fq110 t2 Wq107 (by decide)
  have ea202 := (Zfr.gi fq110 t1 (by decide)).trans ea194
  have eb203 := (Zfr.gi fq110 t2 (by decide)).trans eb195
  have eg204 := (Zfr.gr fq110 t1 (by decide)).trans eg196
  have gc205 := GCo_s gc197 (GSg_fr fq110 tg Wq107 (by decide)) (GSm_fr fq110 t2 Wq107 (by decide))
  have ga206 := GAr_s ga198 (GSa_fr fq110 tg Wq107 (by decide)) (GSb_fr fq110 t2 Wq107 (by decide))
  unfold f_Law_law_684
  exact lp_in (G := _) ⟨Wq110, t1, t2, P199, gq110, kq110, ⟨na, en200, ha201⟩, ta, tb, ea202, eb203, by omega, gp, eg204, tg, gc205, ga206⟩ hL h0 h6
end ZzT
