section ZzT
set_option maxRecDepth 100000 in
set_option maxHeartbeats 4000000 in
theorem lc_12 {nf : Nat} (hn : 8589934592 ≤ nf) {L : Nat} {xs : Nat → Int32} (hL : L ≤ 3072) {x1 x2 : Nat} {x3 : Int32} {kk nn : Nat} {G : List Nat} {c : Zc} (h : LWd G c x1 x2 kk nn) (h0 : 0 ≤ x3.toInt) (h6 : x3.toInt + 6 ≤ L) : ∃ r, ((zob c x1 11).bind fun w114 => (f_PQ_place nf x1 c).bind fun q113 => (zob q113.2 x2 12).bind fun w116 => (f_Mo_place nf x2 q113.2).bind fun q115 => f_Law_law_684 nf L xs x1 x2 x3 kk nn q115.2) = some r ∧ LPo L x1 x2 x3 r := by
  have l0 : (0 : Int32).toInt = 0 := by decide
  have l1 : (1 : Int32).toInt = 1 := by decide
  have l2 : (2 : Int32).toInt = 2 := by decide
  have l3 : (3 : Int32).toInt = 3 := by decide
  have l4 : (4 : Int32).toInt = 4 := by decide
  have l5 : (5 : Int32).toInt = 5 := by decide
  have l6 : (6 : Int32).toInt = 6 := by decide
  obtain ⟨W9, t1, t2, P9, g9, k9, ⟨na, en9, ha9⟩, ta, tb, ea9, eb9, htt, gp, eg9, tg, gc9, ga9⟩ := h
  obtain ⟨ya, za, la, ua⟩ := gf_14_10 W9 t1
  rw [ea9] at za; cases za
  obtain ⟨yb, zb, lb, ub⟩ := gf_64_13 W9 t2
  rw [eb9] at zb; cases zb
  obtain ⟨yn, zn, ln, un⟩ := gf_64_8 W9 t2
  rw [en9] at zn; cases zn
  obtain ⟨w114, ew114⟩ := go_14 W9 t1
  refine wb ew114 ?_
  obtain ⟨q113, eq113, Wq113, fq113⟩ := p_PQ_place hn W9  t1
  refine wb eq113 ?_
  have P207 := PQk_fr P9 fq113 t1 (by decide)
  have g208 := GtW_fr g9 fq113 t2 W9 (by decide)
  have k209 := TkN_fr k9 fq113 t2 W9 (by decide)
  have en210 := (Zfr.gi fq113 t2 (by decide)).trans en9
  have ha211 := AcN_fr ha9 fq113 t2 W9 (by decide)
  have ea212 := (Zfr.gi fq113 t1 (by decide)).trans ea9
  have eb213 := (Zfr.gi fq113 t2 (by decide)).trans eb9
  have eg214 := (Zfr.gr fq113 t1 (by decide)).trans eg9
  have gc215 := GCo_s gc9 (GSg_fr fq113 tg W9 (by decide)) (GSm_fr fq113 t2 W9 (by decide))
  have ga216 := GAr_s ga9 (GSa_fr fq113 tg W9 (by decide)) (GSb_fr fq113 t2 W9 (by decide))
  obtain ⟨w116, ew116⟩ := go_64 Wq113 t2
  refine wb ew116 ?_
  obtain ⟨q115, eq115, Wq115, fq115⟩ := p_Mo_place hn Wq113  t2
  refine wb eq115 ?_
  have P217 := PQk_fr P207 fq115 t1 (by decide)
  have g218 := GtW_fr g208 fq115 t2 Wq113 (by decide)
  have k219 := TkN_fr k209 fq115 t2 Wq113 (by decide)
  have en220 := (Zfr.gi fq115 t2 (by decide)).trans en210
  have ha221 := AcN_fr ha211 fq115 t2 Wq113 (by decide)
  have ea222 := (Zfr.gi fq115 t1 (by decide)).trans ea212
  have eb223 := (Zfr.gi fq115 t2 (by decide)).trans eb213
  have eg224 := (Zfr.gr fq115 t1 (by decide)).trans eg214
  have gc225 := GCo_s gc215 (GSg_fr fq115 tg Wq113 (by decide)) (GSm_fr fq115 t2 Wq113 (by decide))
  have ga226 := GAr_s ga216 (GSa_fr fq115 tg Wq113 (by decide)) (GSb_fr fq115 t2 Wq113 (by decide))
  unfold f_Law_law_684
  exact lp_in (G := _) ⟨Wq115, t1, t2, P217, g218, k219, ⟨na, en220, ha221⟩, ta, tb, ea222, eb223, by omega, gp, eg224, tg, gc225, ga226⟩ hL h0 h6
set_option maxRecDepth 100000 in
set_option maxHeartbeats 4000000 in
theorem lc_13 {nf : Nat} (hn : 8589934592 ≤ nf) {L : Nat} {xs : Nat → Int32} (hL : L ≤ 3072) {x1 x2 : Nat} {x3 : Int32} {kk nn : Nat} {G : List Nat} {c : Zc} (h : LWd G c x1 x2 kk nn) (h0 : 0 ≤ x3.toInt) (h6 : x3.toInt + 6 ≤ L) : ∃ r, ((zxs L xs (x3 + 1)).bind fun v118 => (zob c x1 11).bind fun w120 => (f_PQ_ask nf x1 v118 c).bind fun q119 => f_Law_law_518 nf L xs x1 x2 x3 q119.2.2.1 (kk + q119.1) (nn + q119.2.1) q119.2.2.2) = some r ∧ LPo L x1 x2 x3 r := by
  have l0 : (0 : Int32).toInt = 0 := by decide
  have l1 : (1 : Int32).toInt = 1 := by decide
  have l2 : (2 : Int32).toInt = 2 := by decide
  have l3 : (3 : Int32).toInt = 3 := by decide
  have l4 : (4 : Int32).toInt = 4 := by decide
  have l5 : (5 : Int32).toInt = 5 := by decide
  have l6 : (6 : Int32).toInt = 6 := by decide
  obtain ⟨W9, t1, t2, P9, g9, k9, ⟨na, en9, ha9⟩, ta, tb, ea9, eb9, htt, gp, eg9, tg, gc9, ga9⟩ := h
  obtain ⟨ya, za, la, ua⟩ := gf_14_10 W9 t1
  rw [ea9] at za; cases za
  obtain ⟨yb, zb, lb, ub⟩ := gf_64_13 W9 t2
  rw [eb9] at zb; cases zb
  obtain ⟨yn, zn, ln, un⟩ := gf_64_8 W9 t2
  rw [en9] at zn; cases zn
  have := i_add (a := x3) (b := 1) (by omega) (by omega)
  obtain ⟨v118, ev118⟩ : ∃ v, zxs L xs (x3 + 1) = some v := ⟨_, zx_ok (by omega) (by omega)⟩
  refine wb ev118 ?_
  obtain ⟨w120, ew120⟩ := go_14 W9 t1
  refine wb ew120 ?_
  obtain ⟨dk, dn, xr, q228, G227, eq119, ex, Wnq119, Pnq119, G229, W1q119, X1q119, Fq119⟩ := PQk_ask hn (a1 := v118) W9 t1 P9
  refine wb eq119 ?_
  dsimp only
  have s1 := X1q119 _ _ t1 (by decide)
  have s2 := X1q119 _ _ t2 (by decide)
  have gq := GtW_fr g9 Fq119 s2 W1q119 (by decide)
  have kq := TkN_fr k9 Fq119 s2 W1q119 (by decide)
  have enq := (Zfr.gi Fq119 s2 (by decide)).trans en9
  have haq := AcN_fr ha9 Fq119 s2 W1q119 (by decide)
  have eaq := (Zfr.gi Fq119 s1 (by decide)).trans ea9
  have ebq := (Zfr.gi Fq119 s2 (by decide)).trans eb9
  have sg := X1q119 _ _ tg (by decide)
  have egq := (Zfr.gr Fq119 s1 (by decide)).trans eg9
  have gcq := GCo_s gc9 (GSg_fr Fq119 sg W1q119 (by decide)) (GSm_fr Fq119 s2 W1q119 (by decide))
  have gaq := GAr_s ga9 (GSa_fr Fq119 sg W1q119 (by decide)) (GSb_fr Fq119 s2 W1q119 (by decide))
  have tg := Zex.get ex tg
  have t1 := Zex.get ex t1
  have t2 := Zex.get ex t2
  unfold f_Law_law_518
  refine wb ev118 ?_
  obtain ⟨w123, ew123⟩ := go_64 Wnq119 t2
  refine wb ew123 ?_
  obtain ⟨q122, eq122, Wq122, fq122⟩ := p_Mo_ask hn Wnq119 (a1 := v118) t2 (GtM_of Wnq119 t2 gq)
  refine wb eq122 ?_
  have P230 := PQk_fr Pnq119 fq122 t1 (by decide)
  have g231 := GtW_fr gq fq122 t2 Wnq119 (by decide)
  have k232 := TkN_fr kq fq122 t2 Wnq119 (by decide)
  have en233 := (Zfr.gi fq122 t2 (by decide)).trans enq
  have ha234 := AcN_fr haq fq122 t2 Wnq119 (by decide)
  have ea235 := (Zfr.gi fq122 t1 (by decide)).trans eaq
  have eb236 := (Zfr.gi fq122 t2 (by decide)).trans ebq
  have eg237 := (Zfr.gr fq122 t1 (by decide)).trans egq
  have gc238 := GCo_s gcq (GSg_fr fq122 tg Wnq119 (by decide)) (GSm_fr fq122 t2 Wnq119 (by decide))
  have ga239 := GAr_s gaq (GSa_fr fq122 tg Wnq119 (by decide)) (GSb_fr fq122 t2 Wnq119 (by decide))
  unfold f_Law_law_684
  exact lp_in (G := _) ⟨Wq122, t1, t2, P230, g231, k232, ⟨na, en233, ha234⟩, ta, tb, ea235, eb236, by omega, gp, eg237, tg, gc238, ga239⟩ hL h0 h6
set_option maxRecDepth 100000 in
set_option maxHeartbeats 4000000 in
theorem lc_14 {nf : Nat} (hn : 8589934592 ≤ nf) {L : Nat} {xs : Nat → Int32} (hL : L ≤ 3072) {x1 x2 : Nat} {x3 : Int32} {kk nn : Nat} {G : List Nat} {c : Zc} (h : LWd G c x1 x2 kk nn) (h0 : 0 ≤ x3.toInt) (h6 : x3.toInt + 6 ≤ L) : ∃ r, ((zxs L xs (x3 + 1)).bind fun v125 => (zxs L xs (x3 + 2)).bind fun v126 => (zxs L xs (x3 + 3)).bind fun v127 => (zob c x1 11).bind fun w129 => (f_PQ_answer nf x1 v125 v126 v127 c).bind fun q128 => (zxs L xs (x3 + 1)).bind fun v130 => (zxs L xs (x3 + 2)).bind fun v131 => (zxs L xs (x3 + 3)).bind fun v132 => (zob q128.2 x2 12).bind fun w134 => (f_Mo_answer nf x2 v130 v131 v132 q128.2).bind fun q133 => f_Law_law_684 nf L xs x1 x2 x3 kk nn q133.2) = some r ∧ LPo L x1 x2 x3 r := by
  have l0 : (0 : Int32).toInt = 0 := by decide
  have l1 : (1 : Int32).toInt = 1 := by decide
  have l2 : (2 : Int32).toInt = 2 := by decide
  have l3 : (3 : Int32).toInt = 3 := by decide
  have l4 : (4 : Int32).toInt = 4 := by decide
  have l5 : (5 : Int32).toInt = 5 := by decide
  have l6 : (6 : Int32).toInt = 6 := by decide
  obtain ⟨W9, t1, t2, P9, g9, k9, ⟨na, en9, ha9⟩, ta, tb, ea9, eb9, htt, gp, eg9, tg, gc9, ga9⟩ := h
  obtain ⟨ya, za, la, ua⟩ := gf_14_10 W9 t1
  rw [ea9] at za; cases za
  obtain ⟨yb, zb, lb, ub⟩ := gf_64_13 W9 t2
  rw [eb9] at zb; cases zb
  obtain ⟨yn, zn, ln, un⟩ := gf_64_8 W9 t2
  rw [en9] at zn; cases zn
  have := i_add (a := x3) (b := 1) (by omega) (by omega)
  obtain ⟨v125, ev125⟩ : ∃ v, zxs L xs (x3 + 1) = some v := ⟨_, zx_ok (by omega) (by omega)⟩
  refine wb ev125 ?_
  have := i_add (a := x3) (b := 2) (by omega) (by omega)
  obtain ⟨v126, ev126⟩ : ∃ v, zxs L xs (x3 + 2) = some v := ⟨_, zx_ok (by omega) (by omega)⟩
  refine wb ev126 ?_
  have := i_add (a := x3) (b := 3) (by omega) (by omega)
  obtain ⟨v127, ev127⟩ : ∃ v, zxs L xs (x3 + 3) = some v := ⟨_, zx_ok (by omega) (by omega)⟩
  refine wb ev127 ?_
  obtain ⟨w129, ew129⟩ := go_14 W9 t1
  refine wb ew129 ?_
  obtain ⟨xq128, eq128⟩ := p_PQ_answer hn W9 t1 (PQk_an P9) (a1 := v125) (a2 := v126) (a3 := v127)
  refine wb eq128 ?_
  dsimp only
  refine wb ev125 ?_
  refine wb ev126 ?_
  refine wb ev127 ?_
  obtain ⟨w134, ew134⟩ := go_64 W9 t2
  refine wb ew134 ?_
  obtain ⟨q133, eq133, Wq133, fq133⟩ := p_Mo_answer hn W9 (a1 := v125) (a2 := v126) (a3 := v127) t2
  refine wb eq133 ?_
  have P240 := PQk_fr P9 fq133 t1 (by decide)
  have g241 := GtW_fr g9 fq133 t2 W9 (by decide)
  have k242 := TkN_fr k9 fq133 t2 W9 (by decide)
  have en243 := (Zfr.gi fq133 t2 (by decide)).trans en9
  have ha244 := AcN_fr ha9 fq133 t2 W9 (by decide)
  have ea245 := (Zfr.gi fq133 t1 (by decide)).trans ea9
  have eb246 := (Zfr.gi fq133 t2 (by decide)).trans eb9
  have eg247 := (Zfr.gr fq133 t1 (by decide)).trans eg9
  have gc248 := GCo_s gc9 (GSg_fr fq133 tg W9 (by decide)) (GSm_fr fq133 t2 W9 (by decide))
  have ga249 := GAr_s ga9 (GSa_fr fq133 tg W9 (by decide)) (GSb_fr fq133 t2 W9 (by decide))
  unfold f_Law_law_684
  exact lp_in (G := _) ⟨Wq133, t1, t2, P240, g241, k242, ⟨na, en243, ha244⟩, ta, tb, ea245, eb246, by omega, gp, eg247, tg, gc248, ga249⟩ hL h0 h6
set_option maxRecDepth 100000 in
set_option maxHeartbeats 4000000 in
theorem lc_15 {nf : Nat} (hn : 8589934592 ≤ nf) {L : Nat} {xs : Nat → Int32} (hL : L ≤ 3072) {x1 x2 : Nat} {x3 : Int32} {kk nn : Nat} {G : List Nat} {c : Zc} (h : LWd G c x1 x2 kk nn) (h0 : 0 ≤ x3.toInt) (h6 : x3.toInt + 6 ≤ L) : ∃ r, ((zxs L xs (x3 + 1)).bind fun v136 => (zxs L xs (x3 + 2)).bind fun v137 => (zxs L xs (x3 + 3)).bind fun v138 => (zob c x1 11).bind fun w140 => (f_PQ_leads nf x1 v136 v137 v138 c).bind fun q139 => (zxs L xs (x3 + 1)).bind fun v141 => (zxs L xs (x3 + 2)).bind fun v142 => (zxs L xs (x3 + 3)).bind fun v143 => (zob q139.2 x2 12).bind fun w145 => (f_Mo_leads nf x2 v141 v142 v143 q139.2).bind fun q144 => f_Law_law_684 nf L xs x1 x2 x3 kk nn q144.2) = some r ∧ LPo L x1 x2 x3 r := by
  have l0 : (0 : Int32).toInt = 0 := by decide
  have l1 : (1 : Int32).toInt = 1 := by decide
  have l2 : (2 : Int32).toInt = 2 := by decide
  have l3 : (3 : Int32).toInt = 3 := by decide
  have l4 : (4 : Int32).toInt = 4 := by decide
  have l5 : (5 : Int32).toInt = 5 := by decide
  have l6 : (6 : Int32).toInt = 6 := by decide
  obtain ⟨W9, t1, t2, P9, g9, k9, ⟨na, en9, ha9⟩, ta, tb, ea9, eb9, htt, gp, eg9, tg, gc9, ga9⟩ := h
  obtain ⟨ya, za, la, ua⟩ := gf_14_10 W9 t1
  rw [ea9] at za; cases za
  obtain ⟨yb, zb, lb, ub⟩ := gf_64_13 W9 t2
  rw [eb9] at zb; cases zb
  obtain ⟨yn, zn, ln, un⟩ := gf_64_8 W9 t2
  rw [en9] at zn; cases zn
  have := i_add (a := x3) (b := 1) (by omega) (by omega)
  obtain ⟨v136, ev136⟩ : ∃ v, zxs L xs (x3 + 1) = some v := ⟨_, zx_ok (by omega) (by omega)⟩
  refine wb ev136 ?_
  have := i_add (a := x3) (b := 2) (by omega) (by omega)
  obtain ⟨v137, ev137⟩ : ∃ v, zxs L xs (x3 + 2) = some v := ⟨_, zx_ok (by omega) (by omega)⟩
  refine wb ev137 ?_
  have := i_add (a := x3) (b := 3) (by omega) (by omega)
  obtain ⟨v138, ev138⟩ : ∃ v, zxs L xs (x3 + 3) = some v := ⟨_, zx_ok (by omega) (by omega)⟩
  refine wb ev138 ?_
  obtain ⟨w140, ew140⟩ := go_14 W9 t1
  refine wb ew140 ?_
  obtain ⟨q139, eq139, Wq139, fq139⟩ := p_PQ_leads hn W9 (a1 := v136) (a2 := v137) (a3 := v138) t1
  refine wb eq139 ?_
  have P250 := PQk_fr P9 fq139 t1 (by decide)
  have g251 := GtW_fr g9 fq139 t2 W9 (by decide)
  have k252 := TkN_fr k9 fq139 t2 W9 (by decide)
  have en253 := (Zfr.gi fq139 t2 (by decide)).trans en9
  have ha254 := AcN_fr ha9 fq139 t2 W9 (by decide)
  have ea255 := (Zfr.gi fq139 t1 (by decide)).trans ea9
  have eb256 := (Zfr.gi fq139 t2 (by decide)).trans eb9
  have eg257 := (Zfr.gr fq139 t1 (by decide)).trans eg9
  have gc258 := GCo_s gc9 (GSg_fr fq139 tg W9 (by decide)) (GSm_fr fq139 t2 W9 (by decide))
  have ga259 := GAr_s ga9 (GSa_fr fq139 tg W9 (by decide)) (GSb_fr fq139 t2 W9 (by decide))
  refine wb ev136 ?_
  refine wb ev137 ?_
  refine wb ev138 ?_
  obtain ⟨w145, ew145⟩ := go_64 Wq139 t2
  refine wb ew145 ?_
  obtain ⟨q144, eq144, Wq144, fq144⟩ := p_Mo_leads hn Wq139 (a1 := v136) (a2 := v137) (a3 := v138) t2 (GtM_of Wq139 t2 g251)
  refine wb eq144 ?_
  have P260 := PQk_fr P250 fq144 t1 (by decide)
  have g261 := GtW_fr g251 fq144 t2 Wq139 (by decide)
  have k262 := TkN_fr k252 fq144 t2 Wq139 (by decide)
  have en263 := (Zfr.gi fq144 t2 (by decide)).trans en253
  have ha264 := AcN_fr ha254 fq144 t2 Wq139 (by decide)
  have ea265 := (Zfr.gi fq144 t1 (by decide)).trans ea255
  have eb266 := (Zfr.gi fq144 t2 (by decide)).trans eb256
  have eg267 := (Zfr.gr fq144 t1 (by decide)).trans eg257
  have gc268 := GCo_s gc258 (GSg_fr fq144 tg Wq139 (by decide)) (GSm_fr fq144 t2 Wq139 (by decide))
  have ga269 := GAr_s ga259 (GSa_fr fq144 tg Wq139 (by decide)) (GSb_fr fq144 t2 Wq139 (by decide))
  unfold f_Law_law_684
  exact lp_in (G := _) ⟨Wq144, t1, t2, P260, g261, k262, ⟨na, en263, ha264⟩, ta, tb, ea265, eb266, by omega, gp, eg267, tg, gc268, ga269⟩ hL h0 h6
set_option maxRecDepth 100000 in
set_option maxHeartbeats 4000000 in
theorem lc_16 {nf : Nat} (hn : 8589934592 ≤ nf) {L : Nat} {xs : Nat → Int32} (hL : L ≤ 3072) {x1 x2 : Nat} {x3 : Int32} {kk nn : Nat} {G : List Nat} {c : Zc} (h : LWd G c x1 x2 kk nn) (h0 : 0 ≤ x3.toInt) (h6 : x3.toInt + 6 ≤ L) : ∃ r, ((zxs L xs (x3 + 1)).bind fun v147 => (zob c x1 11).bind fun w149 => (f_PQ_pairs nf x1 v147 c).bind fun q148 => (zxs L xs (x3 + 1)).bind fun v150 => (zob q148.2 x2 12).bind fun w152 => (f_Mo_pairs nf x2 v150 q148.2).bind fun q151 => f_Law_law_684 nf L xs x1 x2 x3 kk nn q151.2) = some r ∧ LPo L x1 x2 x3 r := by
  have l0 : (0 : Int32).toInt = 0 := by decide
  have l1 : (1 : Int32).toInt = 1 := by decide
  have l2 : (2 : Int32).toInt = 2 := by decide
  have l3 : (3 : Int32).toInt = 3 := by decide
  have l4 : (4 : Int32).toInt = 4 := by decide
  have l5 : (5 : Int32).toInt = 5 := by decide
  have l6 : (6 : Int32).toInt = 6 := by decide
  obtain ⟨W9, t1, t2, P9, g9, k9, ⟨na, en9, ha9⟩, ta, tb, ea9, eb9, htt, gp, eg9, tg, gc9, ga9⟩ := h
  obtain ⟨ya, za, la, ua⟩ := gf_14_10 W9 t1
  rw [ea9] at za; cases za
  obtain ⟨yb, zb, lb, ub⟩ := gf_64_13 W9 t2
  rw [eb9] at zb; cases zb
  obtain ⟨yn, zn, ln, un⟩ := gf_64_8 W9 t2
  rw [en9] at zn; cases zn
  have := i_add (a := x3) (b := 1) (by omega) (by omega)
  obtain ⟨v147, ev147⟩ : ∃ v, zxs L xs (x3 + 1) = some v := ⟨_, zx_ok (by omega) (by omega)⟩
  refine wb ev147 ?_
  obtain ⟨w149, ew149⟩ := go_14 W9 t1
  refine wb ew149 ?_
  obtain ⟨q148, eq148, Wq148, fq148⟩ := p_PQ_pairs hn W9 (a1 := v147) t1
  refine wb eq148 ?_
  have P270 := PQk_fr P9 fq148 t1 (by decide)
  have g271 := GtW_fr g9 fq148 t2 W9 (by decide)
  have k272 := TkN_fr k9 fq148 t2 W9 (by decide)
  have en273 := (Zfr.gi fq148 t2 (by decide)).trans en9
  have ha274 := AcN_fr ha9 fq148 t2 W9 (by decide)
  have ea275 := (Zfr.gi fq148 t1 (by decide)).trans ea9
  have eb276 := (Zfr.gi fq148 t2 (by decide)).trans eb9
  have eg277 := (Zfr.gr fq148 t1 (by decide)).trans eg9
  have gc278 := GCo_s gc9 (GSg_fr fq148 tg W9 (by decide)) (GSm_fr fq148 t2 W9 (by decide))
  have ga279 := GAr_s ga9 (GSa_fr fq148 tg W9 (by decide)) (GSb_fr fq148 t2 W9 (by decide))
  refine wb ev147 ?_
  obtain ⟨w152, ew152⟩ := go_64 Wq148 t2
  refine wb ew152 ?_
  obtain ⟨q151, eq151, Wq151, fq151⟩ := p_Mo_pairs hn Wq148 (a1 := v147) t2 (GtM_of Wq148 t2 g271)
  refine wb eq151 ?_
  have P280 := PQk_fr P270 fq151 t1 (by decide)
  have g281 := GtW_fr g271 fq151 t2 Wq148 (by decide)
  have k282 := TkN_fr k272 fq151 t2 Wq148 (by decide)
  have en283 := (Zfr.gi fq151 t2 (by decide)).trans en273
  have ha284 := AcN_fr ha274 fq151 t2 Wq148 (by decide)
  have ea285 := (Zfr.gi fq151 t1 (by decide)).trans ea275
  have eb286 := (Zfr.gi fq151 t2 (by decide)).trans eb276
  have eg287 := (Zfr.gr fq151 t1 (by decide)).trans eg277
  have gc288 := GCo_s gc278 (GSg_fr fq151 tg Wq148 (by decide)) (GSm_fr fq151 t2 Wq148 (by decide))
  have ga289 := GAr_s ga279 (GSa_fr fq151 tg Wq148 (by decide)) (GSb_fr fq151 t2 Wq148 (by decide))
  unfold f_Law_law_684
  exact lp_in (G := _) ⟨Wq151, t1, t2, P280, g281, k282, ⟨na, en283, ha284⟩, ta, tb, ea285, eb286, by omega, gp, eg287, tg, gc288, ga289⟩ hL h0 h6
set_option maxRecDepth 100000 in
set_option maxHeartbeats 4000000 in
theorem lc_17 {nf : Nat} (hn : 8589934592 ≤ nf) {L : Nat} {xs : Nat → Int32} (hL : L ≤ 3072) {x1 x2 : Nat} {x3 : Int32} {kk nn : Nat} {G : List Nat} {c : Zc} (h : LWd G c x1 x2 kk nn) (h0 : 0 ≤ x3.toInt) (h6 : x3.toInt + 6 ≤ L) : ∃ r, ((zxs L xs (x3 + 1)).bind fun v154 => (zxs L xs (x3 + 2)).bind fun v155 => (zxs L xs (x3 + 3)).bind fun v156 => (zob c x1 11).bind fun w158 => (f_PQ_least nf x1 v154 v155 v156 c).bind fun q157 => (zxs L xs (x3 + 1)).bind fun v159 => (zxs L xs (x3 + 2)).bind fun v160 => (zxs L xs (x3 + 3)).bind fun v161 => (zob q157.2 x2 12).bind fun w163 => (f_Mo_least nf x2 v159 v160 v161 q157.2).bind fun q162 => f_Law_law_684 nf L xs x1 x2 x3 kk nn q162.2) = some r ∧ LPo L x1 x2 x3 r := by
  have l0 : (0 : Int32).toInt = 0 := by decide
  have l1 : (1 : Int32).toInt = 1 := by decide
  have l2 : (2 : Int32).toInt = 2 := by decide
  have l3 : (3 : Int32).toInt = 3 := by decide
  have l4 : (4 : Int32).toInt = 4 := by decide
  have l5 : (5 : Int32).toInt = 5 := by decide
  have l6 : (6 : Int32).toInt = 6 := by decide
  obtain ⟨W9, t1, t2, P9, g9, k9, ⟨na, en9, ha9⟩, ta, tb, ea9, eb9, htt, gp, eg9, tg, gc9, ga9⟩ := h
  obtain ⟨ya, za, la, ua⟩ := gf_14_10 W9 t1
  rw [ea9] at za; cases za
  obtain ⟨yb, zb, lb, ub⟩ := gf_64_13 W9 t2
  rw [eb9] at zb; cases zb
  obtain ⟨yn, zn, ln, un⟩ := gf_64_8 W9 t2
  rw [en9] at zn; cases zn
  have := i_add (a := x3) (b := 1) (by omega) (by omega)
  obtain ⟨v154, ev154⟩ : ∃ v, zxs L xs (x3 + 1) = some v := ⟨_, zx_ok (by omega) (by omega)⟩
  refine wb ev154 ?_
  have := i_add (a := x3) (b := 2) (by omega) (by omega)
  obtain ⟨v155, ev155⟩ : ∃ v, zxs L xs (x3 + 2) = some v := ⟨_, zx_ok (by omega) (by omega)⟩
  refine wb ev155 ?_
  have := i_add (a := x3) (b := 3) (by omega) (by omega)
  obtain ⟨v156, ev156⟩ : ∃ v, zxs L xs (x3 + 3) = some v := ⟨_, zx_ok (by omega) (by omega)⟩
  refine wb ev156 ?_
  obtain ⟨w158, ew158⟩ := go_14 W9 t1
  refine wb ew158 ?_
  obtain ⟨q157, eq157, Wq157, fq157⟩ := p_PQ_least hn W9 (a1 := v154) (a2 := v155) (a3 := v156) t1
  refine wb eq157 ?_
  have P290 := PQk_fr P9 fq157 t1 (by decide)
  have g291 := GtW_fr g9 fq157 t2 W9 (by decide)
  have k292 := TkN_fr k9 fq157 t2 W9 (by decide)
  have en293 := (Zfr.gi fq157 t2 (by decide)).trans en9
  have ha294 := AcN_fr ha9 fq157 t2 W9 (by decide)
  have ea295 := (Zfr.gi fq157 t1 (by decide)).trans ea9
  have eb296 := (Zfr.gi fq157 t2 (by decide)).trans eb9
  have eg297 := (Zfr.gr fq157 t1 (by decide)).trans eg9
  have gc298 := GCo_s gc9 (GSg_fr fq157 tg W9 (by decide)) (GSm_fr fq157 t2 W9 (by decide))
  have ga299 := GAr_s ga9 (GSa_fr fq157 tg W9 (by decide)) (GSb_fr fq157 t2 W9 (by decide))
  refine wb ev154 ?_
  refine wb ev155 ?_
  refine wb ev156 ?_
  obtain ⟨w163, ew163⟩ := go_64 Wq157 t2
  refine wb ew163 ?_
  obtain ⟨q162, eq162, Wq162, fq162⟩ := p_Mo_least hn Wq157 (a1 := v154) (a2 := v155) (a3 := v156) t2 (GtM_of Wq157 t2 g291)
  refine wb eq162 ?_
  have P300 := PQk_fr P290 fq162 t1 (by decide)
  have g301 := GtW_fr g291 fq162 t2 Wq157 (by decide)
  have k302 := TkN_fr k292 fq162 t2 Wq157 (by decide)
  have en303 := (Zfr.gi fq162 t2 (by decide)).trans en293
  have ha304 := AcN_fr ha294 fq162 t2 Wq157 (by decide)
  have ea305 := (Zfr.gi fq162 t1 (by decide)).trans ea295
  have eb306 := (Zfr.gi fq162 t2 (by decide)).trans eb296
  have eg307 := (Zfr.gr fq162 t1 (by decide)).trans eg297
  have gc308 := GCo_s gc298 (GSg_fr fq162 tg Wq157 (by decide)) (GSm_fr fq162 t2 Wq157 (by decide))
  have ga309 := GAr_s ga299 (GSa_fr fq162 tg Wq157 (by decide)) (GSb_fr fq162 t2 Wq157 (by decide))
  unfold f_Law_law_684
  exact lp_in (G := _) ⟨Wq162, t1, t2, P300, g301, k302, ⟨na, en303, ha304⟩, ta, tb, ea305, eb306, by omega, gp, eg307, tg, gc308, ga309⟩ hL h0 h6
end ZzT
