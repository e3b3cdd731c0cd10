section ZzT
set_option maxRecDepth 100000 in
set_option maxHeartbeats 4000000 in
theorem lc_12 {nf : Nat} (hn : 8589934592 ≤ nf) {L : Nat} {xs : Nat → Int32} (hL : L ≤ 3072) {x1 x2 : Nat} {x3 : Int32} {kk nn : Nat} {G : List Nat} {c : Zc} (h : LWd G c x1 x2 kk nn) (h0 : 0 ≤ x3.toInt) (h6 : x3.toInt + 6 ≤ L) : ∃ r, ((zob c x1 11).bind fun w114 => (f_PQ_place nf x1 c).bind fun q113 => (zob q113.2 x2 12).bind fun w116 => (f_Mo_place nf x2 q113.2).bind fun q115 => f_Law_law_684 nf L xs x1 x2 x3 kk nn q115.2) = some r ∧ LPo L x1 x2 x3 r := by
  have l0 : (0 : Int32).toInt = 0 := by decide
  have l1 : (1 : Int32).toInt = 1 := by decide
  have l2 : (2 : Int32).toInt = 2 := by decide
  have l3 : (3 : Int32).toInt = 3 := by decide
  have l4 : (4 : Int32).toInt = 4 := by decide
  have l5 : (5 : Int32).toInt = 5 := by decide
  have l6 : (6 : Int32).toInt = 6 := by decide
  obtain ⟨W9, t1, t2, P9, g9, k9, ⟨na, en9, ha9⟩, ta, tb, ea9, eb9, htt, gp, eg9, tg, gc9⟩ := h
  obtain ⟨ya, za, la, ua⟩ := gf_14_10 W9 t1
  rw [ea9] at za; cases za
  obtain ⟨yb, zb, lb, ub⟩ := gf_64_13 W9 t2
  rw [eb9] at zb; cases zb
  obtain ⟨yn, zn, ln, un⟩ := gf_64_8 W9 t2
  rw [en9] at zn; cases zn
  obtain ⟨w114, ew114⟩ := go_14 W9 t1
  refine wb ew114 ?_
  obtain ⟨q113, eq113, Wq113, fq113⟩ := p_PQ_place hn W9  t1
  refine wb eq113 ?_
  have P189 := PQk_fr P9 fq113 t1 (by decide)
  have g190 := GtW_fr g9 fq113 t2 W9 (by decide)
  have k191 := TkN_fr k9 fq113 t2 W9 (by decide)
  have en192 := (Zfr.gi fq113 t2 (by decide)).trans en9
  have ha193 := AcN_fr ha9 fq113 t2 W9 (by decide)
  have ea194 := (Zfr.gi fq113 t1 (by decide)).trans ea9
  have eb195 := (Zfr.gi fq113 t2 (by decide)).trans eb9
  have eg196 := (Zfr.gr fq113 t1 (by decide)).trans eg9
  have gc197 := GCo_s gc9 (GSg_fr fq113 tg W9 (by decide)) (GSm_fr fq113 t2 W9 (by decide))
  obtain ⟨w116, ew116⟩ := go_64 Wq113 t2
  refine wb ew116 ?_
  obtain ⟨q115, eq115, Wq115, fq115⟩ := p_Mo_place hn Wq113  t2
  refine wb eq115 ?_
  have P198 := PQk_fr P189 fq115 t1 (by decide)
  have g199 := GtW_fr g190 fq115 t2 Wq113 (by decide)
  have k200 := TkN_fr k191 fq115 t2 Wq113 (by decide)
  have en201 := (Zfr.gi fq115 t2 (by decide)).trans en192
  have ha202 := AcN_fr ha193 fq115 t2 Wq113 (by decide)
  have ea203 := (Zfr.gi fq115 t1 (by decide)).trans ea194
  have eb204 := (Zfr.gi fq115 t2 (by decide)).trans eb195
  have eg205 := (Zfr.gr fq115 t1 (by decide)).trans eg196
  have gc206 := GCo_s gc197 (GSg_fr fq115 tg Wq113 (by decide)) (GSm_fr fq115 t2 Wq113 (by decide))
  unfold f_Law_law_684
  exact lp_in (G := _) ⟨Wq115, t1, t2, P198, g199, k200, ⟨na, en201, ha202⟩, ta, tb, ea203, eb204, by omega, gp, eg205, tg, gc206⟩ hL h0 h6
set_option maxRecDepth 100000 in
set_option maxHeartbeats 4000000 in
theorem lc_13 {nf : Nat} (hn : 8589934592 ≤ nf) {L : Nat} {xs : Nat → Int32} (hL : L ≤ 3072) {x1 x2 : Nat} {x3 : Int32} {kk nn : Nat} {G : List Nat} {c : Zc} (h : LWd G c x1 x2 kk nn) (h0 : 0 ≤ x3.toInt) (h6 : x3.toInt + 6 ≤ L) : ∃ r, ((zxs L xs (x3 + 1)).bind fun v118 => (zob c x1 11).bind fun w120 => (f_PQ_ask nf x1 v118 c).bind fun q119 => f_Law_law_518 nf L xs x1 x2 x3 q119.2.2.1 (kk + q119.1) (nn + q119.2.1) q119.2.2.2) = some r ∧ LPo L x1 x2 x3 r := by
  have l0 : (0 : Int32).toInt = 0 := by decide
  have l1 : (1 : Int32).toInt = 1 := by decide
  have l2 : (2 : Int32).toInt = 2 := by decide
  have l3 : (3 : Int32).toInt = 3 := by decide
  have l4 : (4 : Int32).toInt = 4 := by decide
  have l5 : (5 : Int32).toInt = 5 := by decide
  have l6 : (6 : Int32).toInt = 6 := by decide
  obtain ⟨W9, t1, t2, P9, g9, k9, ⟨na, en9, ha9⟩, ta, tb, ea9, eb9, htt, gp, eg9, tg, gc9⟩ := h
  obtain ⟨ya, za, la, ua⟩ := gf_14_10 W9 t1
  rw [ea9] at za; cases za
  obtain ⟨yb, zb, lb, ub⟩ := gf_64_13 W9 t2
  rw [eb9] at zb; cases zb
  obtain ⟨yn, zn, ln, un⟩ := gf_64_8 W9 t2
  rw [en9] at zn; cases zn
  have := i_add (a := x3) (b := 1) (by omega) (by omega)
  obtain ⟨v118, ev118⟩ : ∃ v, zxs L xs (x3 + 1) = some v := ⟨_, zx_ok (by omega) (by omega)⟩
  refine wb ev118 ?_
  obtain ⟨w120, ew120⟩ := go_14 W9 t1
  refine wb ew120 ?_
  obtain ⟨dk, dn, xr, q208, G207, eq119, ex, Wnq119, Pnq119, G209, W1q119, X1q119, Fq119⟩ := PQk_ask hn (a1 := v118) W9 t1 P9
  refine wb eq119 ?_
  dsimp only
  have s1 := X1q119 _ _ t1 (by decide)
  have s2 := X1q119 _ _ t2 (by decide)
  have gq := GtW_fr g9 Fq119 s2 W1q119 (by decide)
  have kq := TkN_fr k9 Fq119 s2 W1q119 (by decide)
  have enq := (Zfr.gi Fq119 s2 (by decide)).trans en9
  have haq := AcN_fr ha9 Fq119 s2 W1q119 (by decide)
  have eaq := (Zfr.gi Fq119 s1 (by decide)).trans ea9
  have ebq := (Zfr.gi Fq119 s2 (by decide)).trans eb9
  have sg := X1q119 _ _ tg (by decide)
  have egq := (Zfr.gr Fq119 s1 (by decide)).trans eg9
  have gcq := GCo_s gc9 (GSg_fr Fq119 sg W1q119 (by decide)) (GSm_fr Fq119 s2 W1q119 (by decide))
  have tg := Zex.get ex tg
  have t1 := Zex.get ex t1
  have t2 := Zex.get ex t2
  unfold f_Law_law_518
  refine wb ev118 ?_
  obtain ⟨w123, ew123⟩ := go_64 Wnq119 t2
  refine wb ew123 ?_
  obtain ⟨q122, eq122, Wq122, fq122⟩ := p_Mo_ask hn Wnq119 (a1 := v118) t2 (GtM_of Wnq119 t2 gq)
  refine wb eq122 ?_
  have P210 := PQk_fr Pnq119 fq122 t1 (by decide)
  have g211 := GtW_fr gq fq122 t2 Wnq119 (by decide)
  have k212 := TkN_fr kq fq122 t2 Wnq119 (by decide)
  have en213 := (Zfr.gi fq122 t2 (by decide)).trans enq
  have ha214 := AcN_fr haq fq122 t2 Wnq119 (by decide)
  have ea215 := (Zfr.gi fq122 t1 (by decide)).trans eaq
  have eb216 := (Zfr.gi fq122 t2 (by decide)).trans ebq
  have eg217 := (Zfr.gr fq122 t1 (by decide)).trans egq
  have gc218 := GCo_s gcq (GSg_fr fq122 tg Wnq119 (by decide)) (GSm_fr fq122 t2 Wnq119 (by decide))
  unfold f_Law_law_684
  exact lp_in (G := _) ⟨Wq122, t1, t2, P210, g211, k212, ⟨na, en213, ha214⟩, ta, tb, ea215, eb216, by omega, gp, eg217, tg, gc218⟩ hL h0 h6
set_option maxRecDepth 100000 in
set_option maxHeartbeats 4000000 in
theorem lc_14 {nf : Nat} (hn : 8589934592 ≤ nf) {L : Nat} {xs : Nat → Int32} (hL : L ≤ 3072) {x1 x2 : Nat} {x3 : Int32} {kk nn : Nat} {G : List Nat} {c : Zc} (h : LWd G c x1 x2 kk nn) (h0 : 0 ≤ x3.toInt) (h6 : x3.toInt + 6 ≤ L) : ∃ r, ((zxs L xs (x3 + 1)).bind fun v125 => (zxs L xs (x3 + 2)).bind fun v126 => (zxs L xs (x3 + 3)).bind fun v127 => (zob c x1 11).bind fun w129 => (f_PQ_answer nf x1 v125 v126 v127 c).bind fun q128 => (zxs L xs (x3 + 1)).bind fun v130 => (zxs L xs (x3 + 2)).bind fun v131 => (zxs L xs (x3 + 3)).bind fun v132 => (zob q128.2 x2 12).bind fun w134 => (f_Mo_answer nf x2 v130 v131 v132 q128.2).bind fun q133 => f_Law_law_684 nf L xs x1 x2 x3 kk nn q133.2) = some r ∧ LPo L x1 x2 x3 r := by
  have l0 : (0 : Int32).toInt = 0 := by decide
  have l1 : (1 : Int32).toInt = 1 := by decide
  have l2 : (2 : Int32).toInt = 2 := by decide
  have l3 : (3 : Int32).toInt = 3 := by decide
  have l4 : (4 : Int32).toInt = 4 := by decide
  have l5 : (5 : Int32).toInt = 5 := by decide
  have l6 : (6 : Int32).toInt = 6 := by decide
  obtain ⟨W9, t1, t2, P9, g9, k9, ⟨na, en9, ha9⟩, ta, tb, ea9, eb9, htt, gp, eg9, tg, gc9⟩ := h
  obtain ⟨ya, za, la, ua⟩ := gf_14_10 W9 t1
  rw [ea9] at za; cases za
  obtain ⟨yb, zb, lb, ub⟩ := gf_64_13 W9 t2
  rw [eb9] at zb; cases zb
  obtain ⟨yn, zn, ln, un⟩ := gf_64_8 W9 t2
  rw [en9] at zn; cases zn
  have := i_add (a := x3) (b := 1) (by omega) (by omega)
  obtain ⟨v125, ev125⟩ : ∃ v, zxs L xs (x3 + 1) = some v := ⟨_, zx_ok (by omega) (by omega)⟩
  refine wb ev125 ?_
  have := i_add (a := x3) (b := 2) (by omega) (by omega)
  obtain ⟨v126, ev126⟩ : ∃ v, zxs L xs (x3 + 2) = some v := ⟨_, zx_ok (by omega) (by omega)⟩
  refine wb ev126 ?_
  have := i_add (a := x3) (b := 3) (by omega) (by omega)
  obtain ⟨v127, ev127⟩ : ∃ v, zxs L xs (x3 + 3) = some v := ⟨_, zx_ok (by omega) (by omega)⟩
  refine wb ev127 ?_
  obtain ⟨w129, ew129⟩ := go_14 W9 t1
  refine wb ew129 ?_
  obtain ⟨xq128, eq128⟩ := p_PQ_answer hn W9 t1 (PQk_an P9) (a1 := v125) (a2 := v126) (a3 := v127)
  refine wb eq128 ?_
  dsimp only
  refine wb ev125 ?_
  refine wb ev126 ?_
  refine wb ev127 ?_
  obtain ⟨w134, ew134⟩ := go_64 W9 t2
  refine wb ew134 ?_
  obtain ⟨q133, eq133, Wq133, fq133⟩ := p_Mo_answer hn W9 (a1 := v125) (a2 := v126) (a3 := v127) t2
  refine wb eq133 ?_
  have P219 := PQk_fr P9 fq133 t1 (by decide)
  have g220 := GtW_fr g9 fq133 t2 W9 (by decide)
  have k221 := TkN_fr k9 fq133 t2 W9 (by decide)
  have en222 := (Zfr.gi fq133 t2 (by decide)).trans en9
  have ha223 := AcN_fr ha9 fq133 t2 W9 (by decide)
  have ea224 := (Zfr.gi fq133 t1 (by decide)).trans ea9
  have eb225 := (Zfr.gi fq133 t2 (by decide)).trans eb9
  have eg226 := (Zfr.gr fq133 t1 (by decide)).trans eg9
  have gc227 := GCo_s gc9 (GSg_fr fq133 tg W9 (by decide)) (GSm_fr fq133 t2 W9 (by decide))
  unfold f_Law_law_684
  exact lp_in (G := _) ⟨Wq133, t1, t2, P219, g220, k221, ⟨na, en222, ha223⟩, ta, tb, ea224, eb225, by omega, gp, eg226, tg, gc227⟩ hL h0 h6
set_option maxRecDepth 100000 in
set_option maxHeartbeats 4000000 in
theorem lc_15 {nf : Nat} (hn : 8589934592 ≤ nf) {L : Nat} {xs : Nat → Int32} (hL : L ≤ 3072) {x1 x2 : Nat} {x3 : Int32} {kk nn : Nat} {G : List Nat} {c : Zc} (h : LWd G c x1 x2 kk nn) (h0 : 0 ≤ x3.toInt) (h6 : x3.toInt + 6 ≤ L) : ∃ r, ((zxs L xs (x3 + 1)).bind fun v136 => (zxs L xs (x3 + 2)).bind fun v137 => (zxs L xs (x3 + 3)).bind fun v138 => (zob c x1 11).bind fun w140 => (f_PQ_leads nf x1 v136 v137 v138 c).bind fun q139 => (zxs L xs (x3 + 1)).bind fun v141 => (zxs L xs (x3 + 2)).bind fun v142 => (zxs L xs (x3 + 3)).bind fun v143 => (zob q139.2 x2 12).bind fun w145 => (f_Mo_leads nf x2 v141 v142 v143 q139.2).bind fun q144 => f_Law_law_684 nf L xs x1 x2 x3 kk nn q144.2) = some r ∧ LPo L x1 x2 x3 r := by
  have l0 : (0 : Int32).toInt = 0 := by decide
  have l1 : (1 : Int32).toInt = 1 := by decide
  have l2 : (2 : Int32).toInt = 2 := by decide
  have l3 : (3 : Int32).toInt = 3 := by decide
  have l4 : (4 : Int32).toInt = 4 := by decide
  have l5 : (5 : Int32).toInt = 5 := by decide
  have l6 : (6 : Int32).toInt = 6 := by decide
  obtain ⟨W9, t1, t2, P9, g9, k9, ⟨na, en9, ha9⟩, ta, tb, ea9, eb9, htt, gp, eg9, tg, gc9⟩ := h
  obtain ⟨ya, za, la, ua⟩ := gf_14_10 W9 t1
  rw [ea9] at za; cases za
  obtain ⟨yb, zb, lb, ub⟩ := gf_64_13 W9 t2
  rw [eb9] at zb; cases zb
  obtain ⟨yn, zn, ln, un⟩ := gf_64_8 W9 t2
  rw [en9] at zn; cases zn
  have := i_add (a := x3) (b := 1) (by omega) (by omega)
  obtain ⟨v136, ev136⟩ : ∃ v, zxs L xs (x3 + 1) = some v := ⟨_, zx_ok (by omega) (by omega)⟩
  refine wb ev136 ?_
  have := i_add (a := x3) (b := 2) (by omega) (by omega)
  obtain ⟨v137, ev137⟩ : ∃ v, zxs L xs (x3 + 2) = some v := ⟨_, zx_ok (by omega) (by omega)⟩
  refine wb ev137 ?_
  have := i_add (a := x3) (b := 3) (by omega) (by omega)
  obtain ⟨v138, ev138⟩ : ∃ v, zxs L xs (x3 + 3) = some v := ⟨_, zx_ok (by omega) (by omega)⟩
  refine wb ev138 ?_
  obtain ⟨w140, ew140⟩ := go_14 W9 t1
  refine wb ew140 ?_
  obtain ⟨q139, eq139, Wq139, fq139⟩ := p_PQ_leads hn W9 (a1 := v136) (a2 := v137) (a3 := v138) t1
  refine wb eq139 ?_
  have P228 := PQk_fr P9 fq139 t1 (by decide)
  have g229 := GtW_fr g9 fq139 t2 W9 (by decide)
  have k230 := TkN_fr k9 fq139 t2 W9 (by decide)
  have en231 := (Zfr.gi fq139 t2 (by decide)).trans en9
  have ha232 := AcN_fr ha9 fq139 t2 W9 (by decide)
  have ea233 := (Zfr.gi fq139 t1 (by decide)).trans ea9
  have eb234 := (Zfr.gi fq139 t2 (by decide)).trans eb9
  have eg235 := (Zfr.gr fq139 t1 (by decide)).trans eg9
  have gc236 := GCo_s gc9 (GSg_fr fq139 tg W9 (by decide)) (GSm_fr fq139 t2 W9 (by decide))
  refine wb ev136 ?_
  refine wb ev137 ?_
  refine wb ev138 ?_
  obtain ⟨w145, ew145⟩ := go_64 Wq139 t2
  refine wb ew145 ?_
  obtain ⟨q144, eq144, Wq144, fq144⟩ := p_Mo_leads hn Wq139 (a1 := v136) (a2 := v137) (a3 := v138) t2 (GtM_of Wq139 t2 g229)
  refine wb eq144 ?_
  have P237 := PQk_fr P228 fq144 t1 (by decide)
  have g238 := GtW_fr g229 fq144 t2 Wq139 (by decide)
  have k239 := TkN_fr k230 fq144 t2 Wq139 (by decide)
  have en240 := (Zfr.gi fq144 t2 (by decide)).trans en231
  have ha241 := AcN_fr ha232 fq144 t2 Wq139 (by decide)
  have ea242 := (Zfr.gi fq144 t1 (by decide)).trans ea233
  have eb243 := (Zfr.gi fq144 t2 (by decide)).trans eb234
  have eg244 := (Zfr.gr fq144 t1 (by decide)).trans eg235
  have gc245 := GCo_s gc236 (GSg_fr fq144 tg Wq139 (by decide)) (GSm_fr fq144 t2 Wq139 (by decide))
  unfold f_Law_law_684
  exact lp_in (G := _) ⟨Wq144, t1, t2, P237, g238, k239, ⟨na, en240, ha241⟩, ta, tb, ea242, eb243, by omega, gp, eg244, tg, gc245⟩ hL h0 h6
set_option maxRecDepth 100000 in
set_option maxHeartbeats 4000000 in
theorem lc_16 {nf : Nat} (hn : 8589934592 ≤ nf) {L : Nat} {xs : Nat → Int32} (hL : L ≤ 3072) {x1 x2 : Nat} {x3 : Int32} {kk nn : Nat} {G : List Nat} {c : Zc} (h : LWd G c x1 x2 kk nn) (h0 : 0 ≤ x3.toInt) (h6 : x3.toInt + 6 ≤ L) : ∃ r, ((zxs L xs (x3 + 1)).bind fun v147 => (zob c x1 11).bind fun w149 => (f_PQ_pairs nf x1 v147 c).bind fun q148 => (zxs L xs (x3 + 1)).bind fun v150 => (zob q148.2 x2 12).bind fun w152 => (f_Mo_pairs nf x2 v150 q148.2).bind fun q151 => f_Law_law_684 nf L xs x1 x2 x3 kk nn q151.2) = some r ∧ LPo L x1 x2 x3 r := by
  have l0 : (0 : Int32).toInt = 0 := by decide
  have l1 : (1 : Int32).toInt = 1 := by decide
  have l2 : (2 : Int32).toInt = 2 := by decide
  have l3 : (3 : Int32).toInt = 3 := by decide
  have l4 : (4 : Int32).toInt = 4 := by decide
  have l5 : (5 : Int32).toInt = 5 := by decide
  have l6 : (6 : Int32).toInt = 6 := by decide
  obtain ⟨W9, t1, t2, P9, g9, k9, ⟨na, en9, ha9⟩, ta, tb, ea9, eb9, htt, gp, eg9, tg, gc9⟩ := h
  obtain ⟨ya, za, la, ua⟩ := gf_14_10 W9 t1
  rw [ea9] at za; cases za
  obtain ⟨yb, zb, lb, ub⟩ := gf_64_13 W9 t2
  rw [eb9] at zb; cases zb
  obtain ⟨yn, zn, ln, un⟩ := gf_64_8 W9 t2
  rw [en9] at zn; cases zn
  have := i_add (a := x3) (b := 1) (by omega) (by omega)
  obtain ⟨v147, ev147⟩ : ∃ v, zxs L xs (x3 + 1) = some v := ⟨_, zx_ok (by omega) (by omega)⟩
  refine wb ev147 ?_
  obtain ⟨w149, ew149⟩ := go_14 W9 t1
  refine wb ew149 ?_
  obtain ⟨q148, eq148, Wq148, fq148⟩ := p_PQ_pairs hn W9 (a1 := v147) t1
  refine wb eq148 ?_
  have P246 := PQk_fr P9 fq148 t1 (by decide)
  have g247 := GtW_fr g9 fq148 t2 W9 (by decide)
  have k248 := TkN_fr k9 fq148 t2 W9 (by decide)
  have en249 := (Zfr.gi fq148 t2 (by decide)).trans en9
  have ha250 := AcN_fr ha9 fq148 t2 W9 (by decide)
  have ea251 := (Zfr.gi fq148 t1 (by decide)).trans ea9
  have eb252 := (Zfr.gi fq148 t2 (by decide)).trans eb9
  have eg253 := (Zfr.gr fq148 t1 (by decide)).trans eg9
  have gc254 := GCo_s gc9 (GSg_fr fq148 tg W9 (by decide)) (GSm_fr fq148 t2 W9 (by decide))
  refine wb ev147 ?_
  obtain ⟨w152, ew152⟩ := go_64 Wq148 t2
  refine wb ew152 ?_
  obtain ⟨q151, eq151, Wq151, fq151⟩ := p_Mo_pairs hn Wq148 (a1 := v147) t2 (GtM_of Wq148 t2 g247)
  refine wb eq151 ?_
  have P255 := PQk_fr P246 fq151 t1 (by decide)
  have g256 := GtW_fr g247 fq151 t2 Wq148 (by decide)
  have k257 := TkN_fr k248 fq151 t2 Wq148 (by decide)
  have en258 := (Zfr.gi fq151 t2 (by decide)).trans en249
  have ha259 := AcN_fr ha250 fq151 t2 Wq148 (by decide)
  have ea260 := (Zfr.gi fq151 t1 (by decide)).trans ea251
  have eb261 := (Zfr.gi fq151 t2 (by decide)).trans eb252
  have eg262 := (Zfr.gr fq151 t1 (by decide)).trans eg253
  have gc263 := GCo_s gc254 (GSg_fr fq151 tg Wq148 (by decide)) (GSm_fr fq151 t2 Wq148 (by decide))
  unfold f_Law_law_684
  exact lp_in (G := _) ⟨Wq151, t1, t2, P255, g256, k257, ⟨na, en258, ha259⟩, ta, tb, ea260, eb261, by omega, gp, eg262, tg, gc263⟩ hL h0 h6
set_option maxRecDepth 100000 in
set_option maxHeartbeats 4000000 in
theorem lc_17 {nf : Nat} (hn : 8589934592 ≤ nf) {L : Nat} {xs : Nat → Int32} (hL : L ≤ 3072) {x1 x2 : Nat} {x3 : Int32} {kk nn : Nat} {G : List Nat} {c : Zc} (h : LWd G c x1 x2 kk nn) (h0 : 0 ≤ x3.toInt) (h6 : x3.toInt + 6 ≤ L) : ∃ r, ((zxs L xs (x3 + 1)).bind fun v154 => (zxs L xs (x3 + 2)).bind fun v155 => (zxs L xs (x3 + 3)).bind fun v156 => (zob c x1 11).bind fun w158 => (f_PQ_least nf x1 v154 v155 v156 c).bind fun q157 => (zxs L xs (x3 + 1)).bind fun v159 => (zxs L xs (x3 + 2)).bind fun v160 => (zxs L xs (x3 + 3)).bind fun v161 => (zob q157.2 x2 12).bind fun w163 => (f_Mo_least nf x2 v159 v160 v161 q157.2).bind fun q162 => f_Law_law_684 nf L xs x1 x2 x3 kk nn q162.2) = some r ∧ LPo L x1 x2 x3 r := by
  have l0 : (0 : Int32).toInt = 0 := by decide
  have l1 : (1 : Int32).toInt = 1 := by decide
  have l2 : (2 : Int32).toInt = 2 := by decide
  have l3 : (3 : Int32).toInt = 3 := by decide
  have l4 : (4 : Int32).toInt = 4 := by decide
  have l5 : (5 : Int32).toInt = 5 := by decide
  have l6 : (6 : Int32).toInt = 6 := by decide
  obtain ⟨W9, t1, t2, P9, g9, k9, ⟨na, en9, ha9⟩, ta, tb, ea9, eb9, htt, gp, eg9, tg, gc9⟩ := h
  obtain ⟨ya, za, la, ua⟩ := gf_14_10 W9 t1
  rw [ea9] at za; cases za
  obtain ⟨yb, zb, lb, ub⟩ := gf_64_13 W9 t2
  rw [eb9] at zb; cases zb
  obtain ⟨yn, zn, ln, un⟩ := gf_64_8 W9 t2
  rw [en9] at zn; cases zn
  have := i_add (a := x3) (b := 1) (by omega) (by omega)
  obtain ⟨v154, ev154⟩ : ∃ v, zxs L xs (x3 + 1) = some v := ⟨_, zx_ok (by omega) (by omega)⟩
  refine wb ev154 ?_
  have := i_add (a := x3) (b := 2) (by omega) (by omega)
  obtain ⟨v155, ev155⟩ : ∃ v, zxs L xs (x3 + 2) = some v := ⟨_, zx_ok (by omega) (by omega)⟩
  refine wb ev155 ?_
  have := i_add (a := x3) (b := 3) (by omega) (by omega)
  obtain ⟨v156, ev156⟩ : ∃ v, zxs L xs (x3 + 3) = some v := ⟨_, zx_ok (by omega) (by omega)⟩
  refine wb ev156 ?_
  obtain ⟨w158, ew158⟩ := go_14 W9 t1
  refine wb ew158 ?_
  obtain ⟨q157, eq157, Wq157, fq157⟩ := p_PQ_least hn W9 (a1 := v154) (a2 := v155) (a3 := v156) t1
  refine wb eq157 ?_
  have P264 := PQk_fr P9 fq157 t1 (by decide)
  have g265 := GtW_fr g9 fq157 t2 W9 (by decide)
  have k266 := TkN_fr k9 fq157 t2 W9 (by decide)
  have en267 := (Zfr.gi fq157 t2 (by decide)).trans en9
  have ha268 := AcN_fr ha9 fq157 t2 W9 (by decide)
  have ea269 := (Zfr.gi fq157 t1 (by decide)).trans ea9
  have eb270 := (Zfr.gi fq157 t2 (by decide)).trans eb9
  have eg271 := (Zfr.gr fq157 t1 (by decide)).trans eg9
  have gc272 := GCo_s gc9 (GSg_fr fq157 tg W9 (by decide)) (GSm_fr fq157 t2 W9 (by decide))
  refine wb ev154 ?_
  refine wb ev155 ?_
  refine wb ev156 ?_
  obtain ⟨w163, ew163⟩ := go_64 Wq157 t2
  refine wb ew163 ?_
  obtain ⟨q162, eq162, Wq162, fq162⟩ := p_Mo_least hn Wq157 (a1 := v154) (a2 := v155) (a3 := v156) t2 (GtM_of Wq157 t2 g265)
  refine wb eq162 ?_
  have P273 := PQk_fr P264 fq162 t1 (by decide)
  have g274 := GtW_fr g265 fq162 t2 Wq157 (by decide)
  have k275 := TkN_fr k266 fq162 t2 Wq157 (by decide)
  have en276 := (Zfr.gi fq162 t2 (by decide)).trans en267
  have ha277 := AcN_fr ha268 fq162 t2 Wq157 (by decide)
  have ea278 := (Zfr.gi fq162 t1 (by decide)).trans ea269
  have eb279 := (Zfr.gi fq162 t2 (by decide)).trans eb270
  have eg280 := (Zfr.gr fq162 t1 (by decide)).trans eg271
  have gc281 := GCo_s gc272 (GSg_fr fq162 tg Wq157 (by decide)) (GSm_fr fq162 t2 Wq157 (by decide))
  unfold f_Law_law_684
  exact lp_in (G := _) ⟨Wq162, t1, t2, P273, g274, k275, ⟨na, en276, ha277⟩, ta, tb, ea278, eb279, by omega, gp, eg280, tg, gc281⟩ hL h0 h6
end ZzT
