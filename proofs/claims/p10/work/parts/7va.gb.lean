section ZzT
abbrev M_Graph_strip__h : List (Nat × Nat) := [(1, 8), (1, 9), (15, 0), (16, 0), (19, 0)]
set_option maxRecDepth 100000 in
set_option maxHeartbeats 2000000 in
theorem p_Graph_strip__h {nf : Nat} (hn : 8589934592 ≤ nf) {G : List Nat} {c : Zc} (W : Zwt zty G c) {a0 : Nat} {a1 : Int32} {ac : Int32} (t_a0 : G[a0]? = some 1) (pl_a1 : 0 ≤ a1.toInt) (pu_a1 : a1.toInt ≤ 15) (pl_ac : 0 ≤ ac.toInt) (pu_ac : ac.toInt ≤ 100) (eh_ac : zgi c a0 0 8 = some ac) : ∃ q, f_Graph_strip nf a0 a1 c = some q ∧ Zwt zty G q.2 ∧ Zfr G M_Graph_strip__h c q.2 ∧ Zsg G q.2 a0 (gaf c a0 4) (gaf c a0 2) (gaf c a0 3) a1 ac q.1 100 := by
  have F0 : Zfr G M_Graph_strip__h c c := Zfr.rf
  unfold f_Graph_strip
  have vaGL : gaf c a0 4 = gaf c a0 4 := rfl
  have vaGF : gaf c a0 2 = gaf c a0 2 := rfl
  have vaGT : gaf c a0 3 = gaf c a0 3 := rfl
  have vaGC : gaf c a0 1 = gaf c a0 1 := rfl
  unfold f_Graph_strip_4
  have := li_0
  have L1 : ∃ b, zlp (fun a : Nat × Int32 × Int32 × Int32 × Zc => g_Graph_strip_4 nf a.1 a.2.1 a.2.2.1 a.2.2.2.1 a.2.2.2.2) nf (a0, a1, 0, 0, c) = some b ∧ (fun b : (Nat × Int32 × Int32 × Zc) => a0 = b.1 ∧ a1 = b.2.1 ∧ Zwt zty G b.2.2.2 ∧ Zfr G ([(1, 8), (1, 9), (19, 0)] : List (Nat × Nat)) c b.2.2.2 ∧ 0 ≤ b.2.2.1.toInt ∧ b.2.2.1.toInt ≤ 100 ∧ Zsg G b.2.2.2 a0 (gaf c a0 4) (gaf c a0 2) (gaf c a0 3) b.2.1 ac b.2.2.1 100) b := by
    refine wlp (fun a : Nat × Int32 × Int32 × Int32 × Zc => a0 = a.1 ∧ a1 = a.2.1 ∧ Zwt zty G a.2.2.2.2 ∧ Zfr G ([(1, 8), (1, 9), (19, 0)] : List (Nat × Nat)) c a.2.2.2.2 ∧ 0 ≤ a.2.2.1.toInt ∧ a.2.2.1.toInt ≤ 100 ∧ 0 ≤ a.2.2.2.1.toInt ∧ a.2.2.2.1.toInt ≤ 100 ∧ a.2.2.1.toInt ≤ a.2.2.2.1.toInt ∧ Zsg G a.2.2.2.2 a0 (gaf c a0 4) (gaf c a0 2) (gaf c a0 3) a1 ac a.2.2.1 a.2.2.2.1) (fun a => (100 - a.2.2.2.1.toInt).toNat) (fun b : (Nat × Int32 × Int32 × Zc) => a0 = b.1 ∧ a1 = b.2.1 ∧ Zwt zty G b.2.2.2 ∧ Zfr G ([(1, 8), (1, 9), (19, 0)] : List (Nat × Nat)) c b.2.2.2 ∧ 0 ≤ b.2.2.1.toInt ∧ b.2.2.1.toInt ≤ 100 ∧ Zsg G b.2.2.2 a0 (gaf c a0 4) (gaf c a0 2) (gaf c a0 3) b.2.1 ac b.2.2.1 100) ?_ ?_ ?_
    · rintro ⟨x0_2, x1_2, x2_2, x3_2, c_2⟩ hI
      try dsimp only at hI ⊢
      obtain ⟨rfl, rfl, WLc_2, FLc_2, j3, j4, j5, j6, j7, hBZsg_2⟩ := hI
      have va9 := (gaf_fr FLc_2 t_a0 (gf_1_2 W t_a0) (by decide) (by decide)).trans vaGF
      have va10 := (gaf_fr FLc_2 t_a0 (gf_1_3 W t_a0) (by decide) (by decide)).trans vaGT
      have va11 := (gaf_fr FLc_2 t_a0 (gf_1_1 W t_a0) (by decide) (by decide)).trans vaGC
      obtain ⟨bna_2, h0Zsg_2, r0Zsg_2, k0Zsg_2⟩ := hBZsg_2
      unfold g_Graph_strip_4
      refine wi (fun hq12 => ?_) (fun hq12 => ?_)
      · have := li_100
        have hq12 := i_le hq12
        exact lInr ⟨rfl, rfl, WLc_2, FLc_2, by (try dsimp only); omega, by (try dsimp only); omega, ⟨bna_2, h0Zsg_2, by (try dsimp only); omega, StG_c k0Zsg_2 (by omega)⟩⟩
      · have := li_100
        have hq12 := i_nle hq12
        obtain ⟨v2, ev2, tv2⟩ := gf_1_4 WLc_2 t_a0
        refine wb ev2 ?_
        obtain ⟨v3, ev3, lv3, uv3⟩ := ga_19 WLc_2 tv2 (i := x3_2) (by omega) (by omega)
        refine wb ev3 ?_
        refine wi (fun hq14 => ?_) (fun hq14 => ?_)
        · have := li_m1
          have hq14 := i_eq hq14
          unfold f_Graph_strip_48
          have := li_1
          have := i_add (a := x3_2) (b := 1) (by omega) (by omega)
          exact lInl ⟨rfl, rfl, WLc_2, FLc_2, by (try dsimp only); omega, by (try dsimp only); omega, by (try dsimp only); omega, by (try dsimp only); omega, by (try dsimp only); omega, ⟨bna_2, h0Zsg_2, by (try dsimp only); omega, StG_skip k0Zsg_2 ev2 ev3 (by omega) (by (try dsimp only); omega)⟩⟩ (by (try dsimp only); omega)
        · have := li_m1
          have hq14 := i_ne hq14
          obtain ⟨v5, ev5, tv5⟩ := gf_1_2 WLc_2 t_a0
          refine wb ev5 ?_
          obtain ⟨v6, ev6, lv6, uv6⟩ := ga_17 WLc_2 tv5 (i := x3_2) (by omega) (by omega)
          refine wb ev6 ?_
          have : v6.toInt = (gaf c a0 2 x3_2.toInt.toNat).toInt := by rw [(gaf_r ev5 ev6).1, va9]
          refine wi (fun hq16 => ?_) (fun hq16 => ?_)
          · have hq16 := i_eq hq16
            unfold f_Graph_strip_40
            obtain ⟨w9, ew9⟩ := go_1 WLc_2 t_a0
            refine wb ew9 ?_
            obtain ⟨q8, eq8, Wq8, fq8, po0q8, pbZa1q8⟩ := p_Graph_removeArc__g hn WLc_2 (a1 := x3_2) t_a0 (by omega) (by omega) (by omega) (by omega) h0Zsg_2
            refine wb eq8 ?_
            have e18 := (Zfr.gr fq8 t_a0 (by decide)).trans ev2
            have e19 := (Zfr.ai fq8 tv5 (by decide)).trans ev6
            have va20 := (gaf_fr fq8 t_a0 (gf_1_2 WLc_2 t_a0) (by decide) (by decide)).trans va9
            have va21 := (gaf_fr fq8 t_a0 (gf_1_3 WLc_2 t_a0) (by decide) (by decide)).trans va10
            have va22 := (gaf_fr fq8 t_a0 (gf_1_1 WLc_2 t_a0) (by decide) (by decide)).trans va11
            have := li_1
            have := i_add (a := x2_2) (b := 1) (by omega) (by omega)
            have := i_add (a := x3_2) (b := 1) (by omega) (by omega)
            have sg23 := StG_hit (x' := (x2_2 + 1)) (k' := (x3_2 + 1)) k0Zsg_2 ev2 ev3 (by omega) (by omega) po0q8 (by omega) (by omega)
            have F24 := Zfr.tr FLc_2 fq8 (by decide)
            obtain ⟨bc2q8, h0Za1q8, r0Za1q8⟩ := pbZa1q8
            unfold f_Graph_strip_48
            exact lInl ⟨rfl, rfl, Wq8, F24, by (try dsimp only); omega, by (try dsimp only); omega, by (try dsimp only); omega, by (try dsimp only); omega, by (try dsimp only); omega, ⟨bc2q8, h0Za1q8, by (try dsimp only); omega, sg23⟩⟩ (by (try dsimp only); omega)
          · have hq16 := i_ne hq16
            obtain ⟨v10, ev10, tv10⟩ := gf_1_3 WLc_2 t_a0
            refine wb ev10 ?_
            obtain ⟨v11, ev11, lv11, uv11⟩ := ga_18 WLc_2 tv10 (i := x3_2) (by omega) (by omega)
            refine wb ev11 ?_
            have : v11.toInt = (gaf c a0 3 x3_2.toInt.toNat).toInt := by rw [(gaf_r ev10 ev11).1, va10]
            refine wi (fun hq26 => ?_) (fun hq26 => ?_)
            · have hq26 := i_eq hq26
              unfold f_Graph_strip_40
              obtain ⟨w9, ew9⟩ := go_1 WLc_2 t_a0
              refine wb ew9 ?_
              obtain ⟨q8, eq8, Wq8, fq8, po0q8, pbZa1q8⟩ := p_Graph_removeArc__g hn WLc_2 (a1 := x3_2) t_a0 (by omega) (by omega) (by omega) (by omega) h0Zsg_2
              refine wb eq8 ?_
              have e28 := (Zfr.gr fq8 t_a0 (by decide)).trans ev2
              have e29 := (Zfr.ai fq8 tv5 (by decide)).trans ev6
              have e30 := (Zfr.ai fq8 tv10 (by decide)).trans ev11
              have va31 := (gaf_fr fq8 t_a0 (gf_1_2 WLc_2 t_a0) (by decide) (by decide)).trans va9
              have va32 := (gaf_fr fq8 t_a0 (gf_1_3 WLc_2 t_a0) (by decide) (by decide)).trans va10
              have va33 := (gaf_fr fq8 t_a0 (gf_1_1 WLc_2 t_a0) (by decide) (by decide)).trans va11
              have := li_1
              have := i_add (a := x2_2) (b := 1) (by omega) (by omega)
              have := i_add (a := x3_2) (b := 1) (by omega) (by omega)
              have sg34 := StG_hit (x' := (x2_2 + 1)) (k' := (x3_2 + 1)) k0Zsg_2 ev2 ev3 (by omega) (by omega) po0q8 (by omega) (by omega)
              have F35 := Zfr.tr FLc_2 fq8 (by decide)
              obtain ⟨bc2q8, h0Za1q8, r0Za1q8⟩ := pbZa1q8
              unfold f_Graph_strip_48
              exact lInl ⟨rfl, rfl, Wq8, F35, by (try dsimp only); omega, by (try dsimp only); omega, by (try dsimp only); omega, by (try dsimp only); omega, by (try dsimp only); omega, ⟨bc2q8, h0Za1q8, by (try dsimp only); omega, sg34⟩⟩ (by (try dsimp only); omega)
            · have hq26 := i_ne hq26
              unfold f_Graph_strip_48
              have := li_1
              have := i_add (a := x3_2) (b := 1) (by omega) (by omega)
              exact lInl ⟨rfl, rfl, WLc_2, FLc_2, by (try dsimp only); omega, by (try dsimp only); omega, by (try dsimp only); omega, by (try dsimp only); omega, by (try dsimp only); omega, ⟨bna_2, h0Zsg_2, by (try dsimp only); omega, StG_skip k0Zsg_2 ev2 ev3 (by omega) (by (try dsimp only); omega)⟩⟩ (by (try dsimp only); omega)
    · exact ⟨rfl, rfl, W, Zfr.rf, by (try dsimp only); omega, by (try dsimp only); omega, by (try dsimp only); omega, by (try dsimp only); omega, by (try dsimp only); omega, ⟨ac, eh_ac, by (try dsimp only); omega, StF_0 vaGL (by omega) (by omega)⟩⟩
    · (try dsimp only); omega
  obtain ⟨b, eb, hb⟩ := L1
  refine wb eb ?_
  clear eb
  obtain ⟨z0_39, z1_39, z2_39, c_39⟩ := b
  try dsimp only at hb ⊢
  obtain ⟨rfl, rfl, WXc_39, FXc_39, j40, j41, hXZsgc_39⟩ := hb
  have va43 := (gaf_fr FXc_39 t_a0 (gf_1_2 W t_a0) (by decide) (by decide)).trans vaGF
  have va44 := (gaf_fr FXc_39 t_a0 (gf_1_3 W t_a0) (by decide) (by decide)).trans vaGT
  have va45 := (gaf_fr FXc_39 t_a0 (gf_1_1 W t_a0) (by decide) (by decide)).trans vaGC
  have F46 := Zfr.tr F0 FXc_39 (by decide)
  have := li_100
  obtain ⟨bnaxc_39, h0Zsgxc_39, r0Zsgxc_39, k0Zsgxc_39⟩ := hXZsgc_39
  obtain ⟨v13, ev13, tv13⟩ := gf_1_0 WXc_39 t_a0
  refine wb ev13 ?_
  obtain ⟨c14, ec14, Wc14, fc14, gc14⟩ := pa_15 WXc_39 tv13 (i := a1) (by omega) (by omega) (x := 0) (rgi (by omega) (by omega))
  refine wb ec14 ?_
  have e47 := (Zfr.gi fc14 t_a0 (by decide)).trans h0Zsgxc_39
  have e48 := (Zfr.gr fc14 t_a0 (by decide)).trans ev13
  have va49 := (gaf_fr fc14 t_a0 (gf_1_2 WXc_39 t_a0) (by decide) (by decide)).trans va43
  have va50 := (gaf_fr fc14 t_a0 (gf_1_3 WXc_39 t_a0) (by decide) (by decide)).trans va44
  have va51 := (gaf_fr fc14 t_a0 (gf_1_1 WXc_39 t_a0) (by decide) (by decide)).trans va45
  have sg52 := StG_fr k0Zsgxc_39 fc14 t_a0 WXc_39 (by decide)
  have F53 := Zfr.tr F46 fc14 (by decide)
  unfold f_Graph_strip_63
  have L54 : ∃ b, zlp (fun a : Nat × Int32 × Int32 × Int32 × Zc => g_Graph_strip_63 nf a.1 a.2.1 a.2.2.1 a.2.2.2.1 a.2.2.2.2) nf (a0, a1, z2_39, 0, c14) = some b ∧ (fun b : (Nat × Int32 × Zc) => a0 = b.1 ∧ z2_39 = b.2.1 ∧ Zwt zty G b.2.2 ∧ Zfr G ([(16, 0)] : List (Nat × Nat)) c14 b.2.2 ∧ Zcg G b.2.2 a0 (gaf c a0 1) (4 * a1.toInt) 4) b := by
    refine wlp (fun a : Nat × Int32 × Int32 × Int32 × Zc => a0 = a.1 ∧ a1 = a.2.1 ∧ z2_39 = a.2.2.1 ∧ Zwt zty G a.2.2.2.2 ∧ Zfr G ([(16, 0)] : List (Nat × Nat)) c14 a.2.2.2.2 ∧ 0 ≤ a.2.2.2.1.toInt ∧ a.2.2.2.1.toInt ≤ 4 ∧ Zcg G a.2.2.2.2 a0 (gaf c a0 1) (4 * a1.toInt) a.2.2.2.1) (fun a => (4 - a.2.2.2.1.toInt).toNat) (fun b : (Nat × Int32 × Zc) => a0 = b.1 ∧ z2_39 = b.2.1 ∧ Zwt zty G b.2.2 ∧ Zfr G ([(16, 0)] : List (Nat × Nat)) c14 b.2.2 ∧ Zcg G b.2.2 a0 (gaf c a0 1) (4 * a1.toInt) 4) ?_ ?_ ?_
    · rintro ⟨x0_55, x1_55, x2_55, x3_55, c_55⟩ hI
      try dsimp only at hI ⊢
      obtain ⟨rfl, rfl, rfl, WLc_55, FLc_55, j56, j57, hBZcg_55⟩ := hI
      have e58 := (Zfr.gi FLc_55 t_a0 (by decide)).trans e47
      have e59 := (Zfr.gr FLc_55 t_a0 (by decide)).trans e48
      have e60 := (Zfr.ai FLc_55 tv13 (by decide)).trans gc14
      have va61 := (gaf_fr FLc_55 t_a0 (gf_1_2 Wc14 t_a0) (by decide) (by decide)).trans va49
      have va62 := (gaf_fr FLc_55 t_a0 (gf_1_3 Wc14 t_a0) (by decide) (by decide)).trans va50
      have sg64 := StG_fr sg52 FLc_55 t_a0 Wc14 (by decide)
      have k0Zcg_55 := hBZcg_55
      unfold g_Graph_strip_63
      refine wi (fun hq65 => ?_) (fun hq65 => ?_)
      · have := li_4
        have hq65 := i_le hq65
        exact lInr ⟨rfl, rfl, WLc_55, FLc_55, CZ_g k0Zcg_55 (by omega)⟩
      · have := li_4
        have hq65 := i_nle hq65
        obtain ⟨v16, ev16, tv16⟩ := gf_1_1 WLc_55 t_a0
        refine wb ev16 ?_
        have := i_mulr (a := a1) (b := 4) (n := 4) li_4 (by omega) (by omega)
        have := i_add (a := (a1 * 4)) (b := x3_55) (by omega) (by omega)
        obtain ⟨c17, ec17, Wc17, fc17, gc17⟩ := pa_16 WLc_55 tv16 (i := ((a1 * 4) + x3_55)) (by omega) (by omega) (x := 0) (rgi (by omega) (by omega))
        refine wb ec17 ?_
        have e66 := (Zfr.gi fc17 t_a0 (by decide)).trans e58
        have e67 := (Zfr.gr fc17 t_a0 (by decide)).trans e59
        have e68 := (Zfr.ai fc17 tv13 (by decide)).trans e60
        have e69 := (Zfr.gr fc17 t_a0 (by decide)).trans ev16
        have va70 := (gaf_fr fc17 t_a0 (gf_1_2 WLc_55 t_a0) (by decide) (by decide)).trans va61
        have va71 := (gaf_fr fc17 t_a0 (gf_1_3 WLc_55 t_a0) (by decide) (by decide)).trans va62
        have sg72 := StG_fr sg64 fc17 t_a0 WLc_55 (by decide)
        have := li_1
        have := i_add (a := x3_55) (b := 1) (by omega) (by omega)
        have cz73 := CZg_w (k' := (x3_55 + 1)) k0Zcg_55 ev16 ec17 (by omega) (by omega) (by omega) (by omega)
        have F74 := Zfr.tr FLc_55 fc17 (by decide)
        exact lInl ⟨rfl, rfl, rfl, Wc17, F74, by (try dsimp only); omega, by (try dsimp only); omega, cz73⟩ (by (try dsimp only); omega)
    · exact ⟨rfl, rfl, rfl, Wc14, Zfr.rf, by (try dsimp only); omega, by (try dsimp only); omega, CzF_0 va51 (by omega)⟩
    · (try dsimp only); omega
  obtain ⟨b, eb, hb⟩ := L54
  refine wb eb ?_
  clear eb
  obtain ⟨z0_75, z1_75, c_75⟩ := b
  try dsimp only at hb ⊢
  obtain ⟨rfl, rfl, WXc_75, FXc_75, hXZcgc_75⟩ := hb
  have e76 := (Zfr.gi FXc_75 t_a0 (by decide)).trans e47
  have e77 := (Zfr.gr FXc_75 t_a0 (by decide)).trans e48
  have e78 := (Zfr.ai FXc_75 tv13 (by decide)).trans gc14
  have va79 := (gaf_fr FXc_75 t_a0 (gf_1_2 Wc14 t_a0) (by decide) (by decide)).trans va49
  have va80 := (gaf_fr FXc_75 t_a0 (gf_1_3 Wc14 t_a0) (by decide) (by decide)).trans va50
  have sg82 := StG_fr sg52 FXc_75 t_a0 Wc14 (by decide)
  have F83 := Zfr.tr F53 FXc_75 (by decide)
  have := li_4
  have k0Zcgxc_75 := hXZcgc_75
  obtain ⟨v18, ev18, _⟩ := gf_1_9 WXc_75 t_a0
  refine wb ev18 ?_
  obtain ⟨c19, ec19, Wc19, fc19, gc19⟩ := pf_1_9 WXc_75 t_a0 (x := (v18 + 1)) (trivial)
  refine wb ec19 ?_
  have e84 := (Zfr.gi fc19 t_a0 (by decide)).trans e76
  have e85 := (Zfr.gr fc19 t_a0 (by decide)).trans e77
  have e86 := (Zfr.ai fc19 tv13 (by decide)).trans e78
  have va87 := (gaf_fr fc19 t_a0 (gf_1_2 WXc_75 t_a0) (by decide) (by decide)).trans va79
  have va88 := (gaf_fr fc19 t_a0 (gf_1_3 WXc_75 t_a0) (by decide) (by decide)).trans va80
  have sg89 := StG_fr sg82 fc19 t_a0 WXc_75 (by decide)
  have cz90 := CZg_fr k0Zcgxc_75 fc19 t_a0 WXc_75 (by decide)
  have F91 := Zfr.tr F83 fc19 (by decide)
  exact ⟨_, rfl, Wc19, F91, ⟨bnaxc_39, e84, by (try dsimp only); omega, StG_c sg89 (by omega)⟩⟩

abbrev M_PQ_bare__h : List (Nat × Nat) := [(1, 8), (1, 9), (15, 0), (16, 0), (19, 0)]
set_option maxRecDepth 100000 in
set_option maxHeartbeats 2000000 in
theorem p_PQ_bare__h {nf : Nat} (hn : 8589934592 ≤ nf) {G : List Nat} {c : Zc} (W : Zwt zty G c) {a0 : Nat} {a1 : Int32} {gp : Nat} {nd : Int32} {ac : Int32} (t_a0 : G[a0]? = some 14) (pl_nd : 0 ≤ nd.toInt) (pu_nd : nd.toInt ≤ 16) (pl_ac : 0 ≤ ac.toInt) (pu_ac : ac.toInt ≤ 100) (eh_gp : zgr c a0 11 1 = some gp) (eh_nd : zgi c gp 0 7 = some nd) (eh_ac : zgi c gp 0 8 = some ac) : ∃ q, f_PQ_bare nf a0 a1 c = some q ∧ Zwt zty G q.2 ∧ Zfr G M_PQ_bare__h c q.2 ∧ ((¬ (0 ≤ a1.toInt ∧ a1.toInt < nd.toInt) ∧ q.1.toInt = -1 ∧ gaf q.2 gp 4 = gaf c gp 4 ∧ gfi q.2 gp 8 = ac.toInt) ∨ ((0 ≤ a1.toInt ∧ a1.toInt < nd.toInt) ∧ StG q.2 gp (gaf c gp 4) (gaf c gp 2) (gaf c gp 3) a1 q.1 100 ∧ gfi q.2 gp 8 = ac.toInt - q.1.toInt)) := by
  have F0 : Zfr G M_PQ_bare__h c c := Zfr.rf
  unfold f_PQ_bare
  obtain ⟨xq, xe, tqw_1⟩ := gf_14_1 W t_a0
  rw [eh_gp] at xe; cases xe
  have vaGL : gaf c gp 4 = gaf c gp 4 := rfl
  have vaGF : gaf c gp 2 = gaf c gp 2 := rfl
  have vaGT : gaf c gp 3 = gaf c gp 3 := rfl
  refine wb eh_gp ?_
  obtain ⟨w3, ew3⟩ := go_1 W tqw_1
  refine wb ew3 ?_
  obtain ⟨q2, eq2, Wq2, fq2, po0q2, po1q2, pl2q2, pu2q2⟩ := p_Graph_isNode__g hn W (a1 := a1) tqw_1 (by omega) (by omega) eh_nd
  refine wb eq2 ?_
  have e3 := (Zfr.gr fq2 t_a0 (by decide)).trans eh_gp
  have e4 := (Zfr.gi fq2 tqw_1 (by decide)).trans eh_nd
  have e5 := (Zfr.gi fq2 tqw_1 (by decide)).trans eh_ac
  have va6 := (gaf_fr fq2 tqw_1 (gf_1_4 W tqw_1) (by decide) (by decide)).trans vaGL
  have va7 := (gaf_fr fq2 tqw_1 (gf_1_2 W tqw_1) (by decide) (by decide)).trans vaGF
  have va8 := (gaf_fr fq2 tqw_1 (gf_1_3 W tqw_1) (by decide) (by decide)).trans vaGT
  have F9 := Zfr.tr F0 fq2 (by decide)
  refine wi (fun hq10 => ?_) (fun hq10 => ?_)
  · have := li_0
    have hq10 := i_eq hq10
    have := li_m1
    exact ⟨_, rfl, Wq2, F9, .inl ⟨by omega, by (try dsimp only); omega, va6, by rw [gfi_e e5]⟩⟩
  · have := li_0
    have hq10 := i_ne hq10
    refine wb e3 ?_
    obtain ⟨w7, ew7⟩ := go_1 Wq2 tqw_1
    refine wb ew7 ?_
    have vL := va6
    have vF := va7
    have vT := va8
    obtain ⟨q6, eq6, Wq6, fq6, pbZsgq6⟩ := p_Graph_strip__h hn Wq2 (a1 := a1) tqw_1 (by omega) (by omega) (by omega) (by omega) e5
    refine wb eq6 ?_
    have e13 := (Zfr.gr fq6 t_a0 (by decide)).trans e3
    have e14 := (Zfr.gi fq6 tqw_1 (by decide)).trans e4
    have va16 := (gaf_fr fq6 tqw_1 (gf_1_2 Wq2 tqw_1) (by decide) (by decide)).trans va7
    have va17 := (gaf_fr fq6 tqw_1 (gf_1_3 Wq2 tqw_1) (by decide) (by decide)).trans va8
    have F18 := Zfr.tr F9 fq6 (by decide)
    have := li_100
    obtain ⟨bnaq6, h0Zsgq6, r0Zsgq6, k0Zsgq6⟩ := pbZsgq6
    exact ⟨_, rfl, Wq6, F18, .inr ⟨by omega, (by rw [← vL, ← vF, ← vT]; exact k0Zsgq6), by rw [gfi_e h0Zsgq6]; (try dsimp only); omega⟩⟩

abbrev M_Mo_bare__h : List (Nat × Nat) := [(64, 8), (64, 10), (65, 0), (66, 0), (67, 0), (131, 0)]
set_option maxRecDepth 100000 in
set_option maxHeartbeats 2000000 in
theorem p_Mo_bare__h {nf : Nat} (hn : 8589934592 ≤ nf) {G : List Nat} {c : Zc} (W : Zwt zty G c) {a0 : Nat} {a1 : Int32} {nd : Int32} {ac : Int32} (t_a0 : G[a0]? = some 64) (pl_nd : 0 ≤ nd.toInt) (pu_nd : nd.toInt ≤ 16) (pl_ac : 0 ≤ ac.toInt) (pu_ac : ac.toInt ≤ 100) (eh_nd : zgi c a0 12 0 = some nd) (eh_ac : zgi c a0 12 8 = some ac) (hb_Zac7 : Zac7 G c a0 ac) : ∃ q, f_Mo_bare nf a0 a1 c = some q ∧ Zwt zty G q.2 ∧ Zfr G M_Mo_bare__h c q.2 ∧ ((¬ (0 ≤ a1.toInt ∧ a1.toInt < nd.toInt) ∧ q.1.toInt = -1 ∧ vaf q.2 a0 3 = vaf c a0 3 ∧ vfi q.2 a0 8 = ac.toInt) ∨ ((0 ≤ a1.toInt ∧ a1.toInt < nd.toInt) ∧ StM q.2 a0 (vaf c a0 3) (vaf c a0 4) (vaf c a0 5) a1 q.1 100 ∧ vfi q.2 a0 8 = ac.toInt - q.1.toInt)) ∧ Zac G q.2 a0 := by
  have F0 : Zfr G M_Mo_bare__h c c := Zfr.rf
  unfold f_Mo_bare
  obtain ⟨h0Zac70, r0Zac70, r1Zac70, k0Zac70⟩ := hb_Zac7
  have vaMT : vaf c a0 3 = vaf c a0 3 := rfl
  have vaMF : vaf c a0 4 = vaf c a0 4 := rfl
  have vaMO : vaf c a0 5 = vaf c a0 5 := rfl
  have vaMC : vaf c a0 2 = vaf c a0 2 := rfl
  refine wb eh_nd ?_
  obtain ⟨q2, eq2, Wq2, fq2, po0q2, po1q2, pl2q2, pu2q2⟩ := p_Mo_isIn hn W (a0 := a1) (a1 := nd) 
  refine wb eq2 ?_
  have e1 := (Zfr.gi fq2 t_a0 (by decide)).trans eh_nd
  have e2 := (Zfr.gi fq2 t_a0 (by decide)).trans h0Zac70
  have k3 := AcN_fr k0Zac70 fq2 t_a0 W (by decide)
  have va4 := (vaf_fr fq2 t_a0 (gf_64_3 W t_a0) (by decide) (by decide)).trans vaMT
  have va5 := (vaf_fr fq2 t_a0 (gf_64_4 W t_a0) (by decide) (by decide)).trans vaMF
  have va6 := (vaf_fr fq2 t_a0 (gf_64_5 W t_a0) (by decide) (by decide)).trans vaMO
  have va7 := (vaf_fr fq2 t_a0 (gf_64_2 W t_a0) (by decide) (by decide)).trans vaMC
  have F8 := Zfr.tr F0 fq2 (by decide)
  refine wi (fun hq9 => ?_) (fun hq9 => ?_)
  · have := li_0
    have hq9 := i_eq hq9
    have := li_m1
    exact ⟨_, rfl, Wq2, F8, .inl ⟨by omega, by (try dsimp only); omega, va4, by rw [vfi_e e2]⟩, ⟨ac, e2, by (try dsimp only); omega, by (try dsimp only); omega, k3⟩⟩
  · have := li_0
    have hq9 := i_ne hq9
    unfold f_Mo_bare_17
    have L12 : ∃ b, zlp (fun a : Nat × Int32 × Int32 × Int32 × Zc => g_Mo_bare_17 nf a.1 a.2.1 a.2.2.1 a.2.2.2.1 a.2.2.2.2) nf (a0, a1, 0, 0, q2.2) = some b ∧ (fun b : (Nat × Int32 × Int32 × Zc) => a0 = b.1 ∧ a1 = b.2.1 ∧ Zwt zty G b.2.2.2 ∧ Zfr G ([(64, 8), (67, 0)] : List (Nat × Nat)) q2.2 b.2.2.2 ∧ 0 ≤ b.2.2.1.toInt ∧ b.2.2.1.toInt ≤ 100 ∧ Zsq G b.2.2.2 a0 (vaf c a0 3) (vaf c a0 4) (vaf c a0 5) b.2.1 ac b.2.2.1 100) b := by
      refine wlp (fun a : Nat × Int32 × Int32 × Int32 × Zc => a0 = a.1 ∧ a1 = a.2.1 ∧ Zwt zty G a.2.2.2.2 ∧ Zfr G ([(64, 8), (67, 0)] : List (Nat × Nat)) q2.2 a.2.2.2.2 ∧ 0 ≤ a.2.2.1.toInt ∧ a.2.2.1.toInt ≤ 100 ∧ 0 ≤ a.2.2.2.1.toInt ∧ a.2.2.2.1.toInt ≤ 100 ∧ a.2.2.1.toInt ≤ a.2.2.2.1.toInt ∧ Zsq G a.2.2.2.2 a0 (vaf c a0 3) (vaf c a0 4) (vaf c a0 5) a1 ac a.2.2.1 a.2.2.2.1) (fun a => (100 - a.2.2.2.1.toInt).toNat) (fun b : (Nat × Int32 × Int32 × Zc) => a0 = b.1 ∧ a1 = b.2.1 ∧ Zwt zty G b.2.2.2 ∧ Zfr G ([(64, 8), (67, 0)] : List (Nat × Nat)) q2.2 b.2.2.2 ∧ 0 ≤ b.2.2.1.toInt ∧ b.2.2.1.toInt ≤ 100 ∧ Zsq G b.2.2.2 a0 (vaf c a0 3) (vaf c a0 4) (vaf c a0 5) b.2.1 ac b.2.2.1 100) ?_ ?_ ?_
      · rintro ⟨x0_13, x1_13, x2_13, x3_13, c_13⟩ hI
        try dsimp only at hI ⊢
        obtain ⟨rfl, rfl, WLc_13, FLc_13, j14, j15, j16, j17, j18, hBZsq_13⟩ := hI
        have e19 := (Zfr.gi FLc_13 t_a0 (by decide)).trans e1
        have va21 := (vaf_fr FLc_13 t_a0 (gf_64_4 Wq2 t_a0) (by decide) (by decide)).trans va5
        have va22 := (vaf_fr FLc_13 t_a0 (gf_64_5 Wq2 t_a0) (by decide) (by decide)).trans va6
        have va23 := (vaf_fr FLc_13 t_a0 (gf_64_2 Wq2 t_a0) (by decide) (by decide)).trans va7
        obtain ⟨bna_13, h0Zsq_13, r0Zsq_13, r1Zsq_13, r2Zsq_13, k0Zsq_13, k1Zsq_13⟩ := hBZsq_13
        unfold g_Mo_bare_17
        refine wi (fun hq24 => ?_) (fun hq24 => ?_)
        · have := li_100
          have hq24 := i_le hq24
          exact lInr ⟨rfl, rfl, WLc_13, FLc_13, by (try dsimp only); omega, by (try dsimp only); omega, ⟨bna_13, h0Zsq_13, by (try dsimp only); omega, by (try dsimp only); omega, by (try dsimp only); omega, StM_c k0Zsq_13 (by omega), k1Zsq_13⟩⟩
        · have := li_100
          have hq24 := i_nle hq24
          obtain ⟨v5, ev5, tv5⟩ := gf_64_3 WLc_13 t_a0
          refine wb ev5 ?_
          obtain ⟨v6, ev6, lv6, uv6⟩ := ga_67 WLc_13 tv5 (i := x3_13) (by omega) (by omega)
          refine wb ev6 ?_
          refine wi (fun hq26 => ?_) (fun hq26 => ?_)
          · have hq26 := i_eq hq26
            unfold f_Mo_bare_72
            have := li_1
            have := i_add (a := x3_13) (b := 1) (by omega) (by omega)
            exact lInl ⟨rfl, rfl, WLc_13, FLc_13, by (try dsimp only); omega, by (try dsimp only); omega, by (try dsimp only); omega, by (try dsimp only); omega, by (try dsimp only); omega, ⟨bna_13, h0Zsq_13, by (try dsimp only); omega, by (try dsimp only); omega, by (try dsimp only); omega, StM_skip k0Zsq_13 ev5 ev6 (by omega) (by (try dsimp only); omega), k1Zsq_13⟩⟩ (by (try dsimp only); omega)
          · have hq26 := i_ne hq26
            obtain ⟨v8, ev8, tv8⟩ := gf_64_4 WLc_13 t_a0
            refine wb ev8 ?_
            obtain ⟨v9, ev9, lv9, uv9⟩ := ga_68 WLc_13 tv8 (i := x3_13) (by omega) (by omega)
            refine wb ev9 ?_
            have : v9.toInt = (vaf c a0 4 x3_13.toInt.toNat).toInt := by rw [(vaf_r ev8 ev9).1, va21]
            refine wi (fun hq28 => ?_) (fun hq28 => ?_)
            · have hq28 := i_eq hq28
              unfold f_Mo_bare_52
              refine wb ev5 ?_
              have := nb_0
              obtain ⟨c12, ec12, Wc12, fc12, gc12⟩ := pa_67 WLc_13 tv5 (i := x3_13) (by omega) (by omega) (x := (vp_nar .boolean 0)) (rgi (by omega) (by omega))
              refine wb ec12 ?_
              have e29 := (Zfr.gi fc12 t_a0 (by decide)).trans e19
              have e30 := (Zfr.gi fc12 t_a0 (by decide)).trans h0Zsq_13
              have e31 := (Zfr.gr fc12 t_a0 (by decide)).trans ev5
              have e32 := (Zfr.ai fc12 tv8 (by decide)).trans ev9
              have va33 := (vaf_fr fc12 t_a0 (gf_64_4 WLc_13 t_a0) (by decide) (by decide)).trans va21
              have va34 := (vaf_fr fc12 t_a0 (gf_64_5 WLc_13 t_a0) (by decide) (by decide)).trans va22
              have va35 := (vaf_fr fc12 t_a0 (gf_64_2 WLc_13 t_a0) (by decide) (by decide)).trans va23
              have := li_1
              have := i_add (a := x2_13) (b := 1) (by omega) (by omega)
              have := i_add (a := x3_13) (b := 1) (by omega) (by omega)
              have sg36 := StM_hit (x' := (x2_13 + 1)) (k' := (x3_13 + 1)) k0Zsq_13 ev5 ev6 (by omega) (by omega) ec12 (by omega) (by omega) (by omega)
              have := AcN_ps k1Zsq_13 ev5 ev6 (by omega) (by omega)
              have := i_sub (a := bna_13) (b := 1) (by omega) (by omega)
              have k37 := AcN_dn (n' := (bna_13 - 1)) k1Zsq_13 ev5 ev6 ec12 (by omega) (by omega) (by omega) (by omega)
              have F38 := Zfr.tr FLc_13 fc12 (by decide)
              refine wb e30 ?_
              obtain ⟨c14, ec14, Wc14, fc14, gc14⟩ := pf_64_8 Wc12 t_a0 (x := (bna_13 - 1)) (rgi (by omega) (by omega))
              refine wb ec14 ?_
              have e39 := (Zfr.gi fc14 t_a0 (by decide)).trans e29
              have e40 := (Zfr.gr fc14 t_a0 (by decide)).trans e31
              have e41 := (Zfr.ai fc14 tv8 (by decide)).trans e32
              have e42 := (Zfr.ai fc14 tv5 (by decide)).trans gc12
              have va43 := (vaf_fr fc14 t_a0 (gf_64_4 Wc12 t_a0) (by decide) (by decide)).trans va33
              have va44 := (vaf_fr fc14 t_a0 (gf_64_5 Wc12 t_a0) (by decide) (by decide)).trans va34
              have va45 := (vaf_fr fc14 t_a0 (gf_64_2 Wc12 t_a0) (by decide) (by decide)).trans va35
              have sg46 := StM_fr sg36 fc14 t_a0 Wc12 (by decide)
              have k47 := AcN_fr k37 fc14 t_a0 Wc12 (by decide)
              have F48 := Zfr.tr F38 fc14 (by decide)
              unfold f_Mo_bare_72
              exact lInl ⟨rfl, rfl, Wc14, F48, by (try dsimp only); omega, by (try dsimp only); omega, by (try dsimp only); omega, by (try dsimp only); omega, by (try dsimp only); omega, ⟨(bna_13 - 1), gc14, by (try dsimp only); omega, by (try dsimp only); omega, by (try dsimp only); omega, sg46, k47⟩⟩ (by (try dsimp only); omega)
            · have hq28 := i_ne hq28
              obtain ⟨v15, ev15, tv15⟩ := gf_64_5 WLc_13 t_a0
              refine wb ev15 ?_
              obtain ⟨v16, ev16, lv16, uv16⟩ := ga_69 WLc_13 tv15 (i := x3_13) (by omega) (by omega)
              refine wb ev16 ?_
              have : v16.toInt = (vaf c a0 5 x3_13.toInt.toNat).toInt := by rw [(vaf_r ev15 ev16).1, va22]
              refine wi (fun hq50 => ?_) (fun hq50 => ?_)
              · have hq50 := i_eq hq50
                unfold f_Mo_bare_52
                refine wb ev5 ?_
                have := nb_0
                obtain ⟨c12, ec12, Wc12, fc12, gc12⟩ := pa_67 WLc_13 tv5 (i := x3_13) (by omega) (by omega) (x := (vp_nar .boolean 0)) (rgi (by omega) (by omega))
                refine wb ec12 ?_
                have e51 := (Zfr.gi fc12 t_a0 (by decide)).trans e19
                have e52 := (Zfr.gi fc12 t_a0 (by decide)).trans h0Zsq_13
                have e53 := (Zfr.gr fc12 t_a0 (by decide)).trans ev5
                have e54 := (Zfr.ai fc12 tv8 (by decide)).trans ev9
                have e55 := (Zfr.ai fc12 tv15 (by decide)).trans ev16
                have va56 := (vaf_fr fc12 t_a0 (gf_64_4 WLc_13 t_a0) (by decide) (by decide)).trans va21
                have va57 := (vaf_fr fc12 t_a0 (gf_64_5 WLc_13 t_a0) (by decide) (by decide)).trans va22
                have va58 := (vaf_fr fc12 t_a0 (gf_64_2 WLc_13 t_a0) (by decide) (by decide)).trans va23
                have := li_1
                have := i_add (a := x2_13) (b := 1) (by omega) (by omega)
                have := i_add (a := x3_13) (b := 1) (by omega) (by omega)
                have sg59 := StM_hit (x' := (x2_13 + 1)) (k' := (x3_13 + 1)) k0Zsq_13 ev5 ev6 (by omega) (by omega) ec12 (by omega) (by omega) (by omega)
                have := AcN_ps k1Zsq_13 ev5 ev6 (by omega) (by omega)
                have := i_sub (a := bna_13) (b := 1) (by omega) (by omega)
                have k60 := AcN_dn (n' := (bna_13 - 1)) k1Zsq_13 ev5 ev6 ec12 (by omega) (by omega) (by omega) (by omega)
                have F61 := Zfr.tr FLc_13 fc12 (by decide)
                refine wb e52 ?_
                obtain ⟨c14, ec14, Wc14, fc14, gc14⟩ := pf_64_8 Wc12 t_a0 (x := (bna_13 - 1)) (rgi (by omega) (by omega))
                refine wb ec14 ?_
                have e62 := (Zfr.gi fc14 t_a0 (by decide)).trans e51
                have e63 := (Zfr.gr fc14 t_a0 (by decide)).trans e53
                have e64 := (Zfr.ai fc14 tv8 (by decide)).trans e54
                have e65 := (Zfr.ai fc14 tv15 (by decide)).trans e55
                have e66 := (Zfr.ai fc14 tv5 (by decide)).trans gc12
                have va67 := (vaf_fr fc14 t_a0 (gf_64_4 Wc12 t_a0) (by decide) (by decide)).trans va56
                have va68 := (vaf_fr fc14 t_a0 (gf_64_5 Wc12 t_a0) (by decide) (by decide)).trans va57
                have va69 := (vaf_fr fc14 t_a0 (gf_64_2 Wc12 t_a0) (by decide) (by decide)).trans va58
                have sg70 := StM_fr sg59 fc14 t_a0 Wc12 (by decide)
                have k71 := AcN_fr k60 fc14 t_a0 Wc12 (by decide)
                have F72 := Zfr.tr F61 fc14 (by decide)
                unfold f_Mo_bare_72
                exact lInl ⟨rfl, rfl, Wc14, F72, by (try dsimp only); omega, by (try dsimp only); omega, by (try dsimp only); omega, by (try dsimp only); omega, by (try dsimp only); omega, ⟨(bna_13 - 1), gc14, by (try dsimp only); omega, by (try dsimp only); omega, by (try dsimp only); omega, sg70, k71⟩⟩ (by (try dsimp only); omega)
              · have hq50 := i_ne hq50
                unfold f_Mo_bare_72
                have := li_1
                have := i_add (a := x3_13) (b := 1) (by omega) (by omega)
                exact lInl ⟨rfl, rfl, WLc_13, FLc_13, by (try dsimp only); omega, by (try dsimp only); omega, by (try dsimp only); omega, by (try dsimp only); omega, by (try dsimp only); omega, ⟨bna_13, h0Zsq_13, by (try dsimp only); omega, by (try dsimp only); omega, by (try dsimp only); omega, StM_skip k0Zsq_13 ev5 ev6 (by omega) (by (try dsimp only); omega), k1Zsq_13⟩⟩ (by (try dsimp only); omega)
      · exact ⟨rfl, rfl, Wq2, Zfr.rf, by (try dsimp only); omega, by (try dsimp only); omega, by (try dsimp only); omega, by (try dsimp only); omega, by (try dsimp only); omega, ⟨ac, e2, by (try dsimp only); omega, by (try dsimp only); omega, by (try dsimp only); omega, StF_0 va4 (by omega) (by omega), k3⟩⟩
      · (try dsimp only); omega
    obtain ⟨b, eb, hb⟩ := L12
    refine wb eb ?_
    clear eb
    obtain ⟨z0_76, z1_76, z2_76, c_76⟩ := b
    try dsimp only at hb ⊢
    obtain ⟨rfl, rfl, WXc_76, FXc_76, j77, j78, hXZsqc_76⟩ := hb
    have e79 := (Zfr.gi FXc_76 t_a0 (by decide)).trans e1
    have va82 := (vaf_fr FXc_76 t_a0 (gf_64_4 Wq2 t_a0) (by decide) (by decide)).trans va5
    have va83 := (vaf_fr FXc_76 t_a0 (gf_64_5 Wq2 t_a0) (by decide) (by decide)).trans va6
    have va84 := (vaf_fr FXc_76 t_a0 (gf_64_2 Wq2 t_a0) (by decide) (by decide)).trans va7
    have F85 := Zfr.tr F8 FXc_76 (by decide)
    have := li_100
    obtain ⟨bnaxc_76, h0Zsqxc_76, r0Zsqxc_76, r1Zsqxc_76, r2Zsqxc_76, k0Zsqxc_76, k1Zsqxc_76⟩ := hXZsqc_76
    obtain ⟨v18, ev18, tv18⟩ := gf_64_1 WXc_76 t_a0
    refine wb ev18 ?_
    obtain ⟨c19, ec19, Wc19, fc19, gc19⟩ := pa_65 WXc_76 tv18 (i := a1) (by omega) (by omega) (x := 0) (rgi (by omega) (by omega))
    refine wb ec19 ?_
    have e86 := (Zfr.gi fc19 t_a0 (by decide)).trans e79
    have e87 := (Zfr.gi fc19 t_a0 (by decide)).trans h0Zsqxc_76
    have e88 := (Zfr.gr fc19 t_a0 (by decide)).trans ev18
    have va89 := (vaf_fr fc19 t_a0 (gf_64_4 WXc_76 t_a0) (by decide) (by decide)).trans va82
    have va90 := (vaf_fr fc19 t_a0 (gf_64_5 WXc_76 t_a0) (by decide) (by decide)).trans va83
    have va91 := (vaf_fr fc19 t_a0 (gf_64_2 WXc_76 t_a0) (by decide) (by decide)).trans va84
    have sg92 := StM_fr k0Zsqxc_76 fc19 t_a0 WXc_76 (by decide)
    have k93 := AcN_fr k1Zsqxc_76 fc19 t_a0 WXc_76 (by decide)
    have F94 := Zfr.tr F85 fc19 (by decide)
    unfold f_Mo_bare_87
    have L95 : ∃ b, zlp (fun a : Nat × Int32 × Int32 × Int32 × Zc => g_Mo_bare_87 nf a.1 a.2.1 a.2.2.1 a.2.2.2.1 a.2.2.2.2) nf (a0, a1, z2_76, 0, c19) = some b ∧ (fun b : (Nat × Int32 × Zc) => a0 = b.1 ∧ z2_76 = b.2.1 ∧ Zwt zty G b.2.2 ∧ Zfr G ([(66, 0)] : List (Nat × Nat)) c19 b.2.2 ∧ Zcm G b.2.2 a0 (vaf c a0 2) (4 * a1.toInt) 4) b := by
      refine wlp (fun a : Nat × Int32 × Int32 × Int32 × Zc => a0 = a.1 ∧ a1 = a.2.1 ∧ z2_76 = a.2.2.1 ∧ Zwt zty G a.2.2.2.2 ∧ Zfr G ([(66, 0)] : List (Nat × Nat)) c19 a.2.2.2.2 ∧ 0 ≤ a.2.2.2.1.toInt ∧ a.2.2.2.1.toInt ≤ 4 ∧ Zcm G a.2.2.2.2 a0 (vaf c a0 2) (4 * a1.toInt) a.2.2.2.1) (fun a => (4 - a.2.2.2.1.toInt).toNat) (fun b : (Nat × Int32 × Zc) => a0 = b.1 ∧ z2_76 = b.2.1 ∧ Zwt zty G b.2.2 ∧ Zfr G ([(66, 0)] : List (Nat × Nat)) c19 b.2.2 ∧ Zcm G b.2.2 a0 (vaf c a0 2) (4 * a1.toInt) 4) ?_ ?_ ?_
      · rintro ⟨x0_96, x1_96, x2_96, x3_96, c_96⟩ hI
        try dsimp only at hI ⊢
        obtain ⟨rfl, rfl, rfl, WLc_96, FLc_96, j97, j98, hBZcm_96⟩ := hI
        have e99 := (Zfr.gi FLc_96 t_a0 (by decide)).trans e86
        have e100 := (Zfr.gi FLc_96 t_a0 (by decide)).trans e87
        have e101 := (Zfr.gr FLc_96 t_a0 (by decide)).trans e88
        have e102 := (Zfr.ai FLc_96 tv18 (by decide)).trans gc19
        have va103 := (vaf_fr FLc_96 t_a0 (gf_64_4 Wc19 t_a0) (by decide) (by decide)).trans va89
        have va104 := (vaf_fr FLc_96 t_a0 (gf_64_5 Wc19 t_a0) (by decide) (by decide)).trans va90
        have sg106 := StM_fr sg92 FLc_96 t_a0 Wc19 (by decide)
        have k107 := AcN_fr k93 FLc_96 t_a0 Wc19 (by decide)
        have k0Zcm_96 := hBZcm_96
        unfold g_Mo_bare_87
        refine wi (fun hq108 => ?_) (fun hq108 => ?_)
        · have := li_4
          have hq108 := i_le hq108
          exact lInr ⟨rfl, rfl, WLc_96, FLc_96, CZ_m k0Zcm_96 (by omega)⟩
        · have := li_4
          have hq108 := i_nle hq108
          obtain ⟨v21, ev21, tv21⟩ := gf_64_2 WLc_96 t_a0
          refine wb ev21 ?_
          have := i_mull (a := 4) (b := a1) (n := 4) li_4 (by omega) (by omega)
          have := i_add (a := (4 * a1)) (b := x3_96) (by omega) (by omega)
          obtain ⟨c22, ec22, Wc22, fc22, gc22⟩ := pa_66 WLc_96 tv21 (i := ((4 * a1) + x3_96)) (by omega) (by omega) (x := 0) (rgi (by omega) (by omega))
          refine wb ec22 ?_
          have e109 := (Zfr.gi fc22 t_a0 (by decide)).trans e99
          have e110 := (Zfr.gi fc22 t_a0 (by decide)).trans e100
          have e111 := (Zfr.gr fc22 t_a0 (by decide)).trans e101
          have e112 := (Zfr.ai fc22 tv18 (by decide)).trans e102
          have e113 := (Zfr.gr fc22 t_a0 (by decide)).trans ev21
          have va114 := (vaf_fr fc22 t_a0 (gf_64_4 WLc_96 t_a0) (by decide) (by decide)).trans va103
          have va115 := (vaf_fr fc22 t_a0 (gf_64_5 WLc_96 t_a0) (by decide) (by decide)).trans va104
          have sg116 := StM_fr sg106 fc22 t_a0 WLc_96 (by decide)
          have k117 := AcN_fr k107 fc22 t_a0 WLc_96 (by decide)
          have := li_1
          have := i_add (a := x3_96) (b := 1) (by omega) (by omega)
          have cz118 := CZm_w (k' := (x3_96 + 1)) k0Zcm_96 ev21 ec22 (by omega) (by omega) (by omega) (by omega)
          have F119 := Zfr.tr FLc_96 fc22 (by decide)
          exact lInl ⟨rfl, rfl, rfl, Wc22, F119, by (try dsimp only); omega, by (try dsimp only); omega, cz118⟩ (by (try dsimp only); omega)
      · exact ⟨rfl, rfl, rfl, Wc19, Zfr.rf, by (try dsimp only); omega, by (try dsimp only); omega, CzF_0 va91 (by omega)⟩
      · (try dsimp only); omega
    obtain ⟨b, eb, hb⟩ := L95
    refine wb eb ?_
    clear eb
    obtain ⟨z0_120, z1_120, c_120⟩ := b
    try dsimp only at hb ⊢
    obtain ⟨rfl, rfl, WXc_120, FXc_120, hXZcmc_120⟩ := hb
    have e121 := (Zfr.gi FXc_120 t_a0 (by decide)).trans e86
    have e122 := (Zfr.gi FXc_120 t_a0 (by decide)).trans e87
    have e123 := (Zfr.gr FXc_120 t_a0 (by decide)).trans e88
    have e124 := (Zfr.ai FXc_120 tv18 (by decide)).trans gc19
    have va125 := (vaf_fr FXc_120 t_a0 (gf_64_4 Wc19 t_a0) (by decide) (by decide)).trans va89
    have va126 := (vaf_fr FXc_120 t_a0 (gf_64_5 Wc19 t_a0) (by decide) (by decide)).trans va90
    have sg128 := StM_fr sg92 FXc_120 t_a0 Wc19 (by decide)
    have k129 := AcN_fr k93 FXc_120 t_a0 Wc19 (by decide)
    have F130 := Zfr.tr F94 FXc_120 (by decide)
    have := li_4
    have k0Zcmxc_120 := hXZcmc_120
    obtain ⟨w24, ew24⟩ := go_64 WXc_120 t_a0
    refine wb ew24 ?_
    obtain ⟨q23, eq23, Wq23, fq23⟩ := p_Mo_changed hn WXc_120  t_a0
    refine wb eq23 ?_
    have e131 := (Zfr.gi fq23 t_a0 (by decide)).trans e121
    have e132 := (Zfr.gi fq23 t_a0 (by decide)).trans e122
    have e133 := (Zfr.gr fq23 t_a0 (by decide)).trans e123
    have e134 := (Zfr.ai fq23 tv18 (by decide)).trans e124
    have va135 := (vaf_fr fq23 t_a0 (gf_64_4 WXc_120 t_a0) (by decide) (by decide)).trans va125
    have va136 := (vaf_fr fq23 t_a0 (gf_64_5 WXc_120 t_a0) (by decide) (by decide)).trans va126
    have sg137 := StM_fr sg128 fq23 t_a0 WXc_120 (by decide)
    have k138 := AcN_fr k129 fq23 t_a0 WXc_120 (by decide)
    have cz139 := CZm_fr k0Zcmxc_120 fq23 t_a0 WXc_120 (by decide)
    have F140 := Zfr.tr F130 fq23 (by decide)
    exact ⟨_, rfl, Wq23, F140, .inr ⟨by omega, sg137, by rw [vfi_e e132]; (try dsimp only); omega⟩, ⟨bnaxc_76, e132, by (try dsimp only); omega, by (try dsimp only); omega, k138⟩⟩

end ZzT
