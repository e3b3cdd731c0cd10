section ZzT
abbrev M_Mo_ended : List (Nat × Nat) := [(64, 19), (64, 20), (64, 21)]
set_option maxRecDepth 100000 in
set_option maxHeartbeats 400000 in
theorem p_Mo_ended {nf : Nat} (hn : 8589934592 ≤ nf) {G : List Nat} {c : Zc} (W : Zwt zty G c) {a0 : Nat} {a1 : Int32} {fv : Int32} {tv : Int32} (t_a0 : G[a0]? = some 64) (pl_fv : 0 ≤ fv.toInt) (pu_fv : fv.toInt ≤ 6) (pl_tv : 0 ≤ tv.toInt) (pu_tv : tv.toInt ≤ 200) (eh_fv : zgi c a0 12 19 = some fv) (eh_tv : zgi c a0 12 18 = some tv) : ∃ q, f_Mo_ended nf a0 a1 c = some q ∧ Zwt zty G q.2 ∧ Zfr G M_Mo_ended c q.2 ∧ ZSe G q.2 a0 fv a1 q.1 := by
  have F0 : Zfr G M_Mo_ended c c := Zfr.rf
  unfold f_Mo_ended
  refine wb eh_fv ?_
  refine wi (fun hq1 => ?_) (fun hq1 => ?_)
  · have := li_0
    have hq1 := i_eq hq1
    obtain ⟨w9, ew9⟩ := go_64 W t_a0
    refine wb ew9 ?_
    obtain ⟨q8, eq8, Wq8, fq8, pbZScq8, pbZkdq8⟩ := p_Mo_kind hn W  t_a0 (by omega) (by omega) (by omega) (by omega) eh_fv eh_tv
    refine wb eq8 ?_
    have e4 := (Zfr.gi fq8 t_a0 (by decide)).trans eh_tv
    have F5 := Zfr.tr F0 fq8 (by decide)
    obtain ⟨bf2q8, h0ZScq8, r0ZScq8, r1ZScq8, r2ZScq8, r3ZScq8⟩ := pbZScq8
    obtain ⟨bkkq8, h0Zkdq8, h1Zkdq8, tkkq8⟩ := pbZkdq8
    refine wi (fun hq6 => ?_) (fun hq6 => ?_)
    · have := i_ge q8.1
      have := i_up q8.1
      have hq6 := i_eq hq6
      unfold f_Mo_ended_18
      refine wb h0ZScq8 ?_
      refine wi (fun hq7 => ?_) (fun hq7 => ?_)
      · have hq7 := i_eq hq7
        exact ⟨_, rfl, Wq8, F5, ⟨bf2q8, h0ZScq8, by (try dsimp only); omega, by (try dsimp only); omega, by (try dsimp only); omega, by (try dsimp only); omega⟩⟩
      · have hq7 := i_ne hq7
        obtain ⟨v5, ev5, _⟩ := gf_64_20 Wq8 t_a0
        refine wb ev5 ?_
        obtain ⟨c6, ec6, Wc6, fc6, gc6⟩ := pf_64_21 Wq8 t_a0 (x := v5) (trivial)
        refine wb ec6 ?_
        have e9 := (Zfr.gi fc6 t_a0 (by decide)).trans h0ZScq8
        have F10 := Zfr.tr F5 fc6 (by decide)
        refine wb e9 ?_
        have := li_m10
        have := i_sub (a := (-10)) (b := bf2q8) (by omega) (by omega)
        exact ⟨_, rfl, Wc6, F10, ⟨bf2q8, e9, by (try dsimp only); omega, by (try dsimp only); omega, by (try dsimp only); omega, by (try dsimp only); omega⟩⟩
    · have := i_ge q8.1
      have := i_up q8.1
      have hq6 := i_ne hq6
      obtain ⟨w12, ew12⟩ := go_64 Wq8 t_a0
      refine wb ew12 ?_
      obtain ⟨q11, eq11, Wq11, fq11, pbZSfq11⟩ := p_Mo_wrong hn Wq8  t_a0 (by omega) (by omega) (by omega) (by omega) h0ZScq8 e4
      refine wb eq11 ?_
      have F14 := Zfr.tr F5 fq11 (by decide)
      obtain ⟨bf2q11, h0ZSfq11, r0ZSfq11, r1ZSfq11⟩ := pbZSfq11
      unfold f_Mo_ended_18
      refine wb h0ZSfq11 ?_
      refine wi (fun hq15 => ?_) (fun hq15 => ?_)
      · have hq15 := i_eq hq15
        exfalso
        omega
      · have hq15 := i_ne hq15
        obtain ⟨v5, ev5, _⟩ := gf_64_20 Wq11 t_a0
        refine wb ev5 ?_
        obtain ⟨c6, ec6, Wc6, fc6, gc6⟩ := pf_64_21 Wq11 t_a0 (x := v5) (trivial)
        refine wb ec6 ?_
        have e16 := (Zfr.gi fc6 t_a0 (by decide)).trans h0ZSfq11
        have F17 := Zfr.tr F14 fc6 (by decide)
        refine wb e16 ?_
        have := li_m10
        have := i_sub (a := (-10)) (b := bf2q11) (by omega) (by omega)
        exact ⟨_, rfl, Wc6, F17, ⟨bf2q11, e16, by (try dsimp only); omega, by (try dsimp only); omega, by (try dsimp only); omega, by (try dsimp only); omega⟩⟩
  · have := li_0
    have hq1 := i_ne hq1
    unfold f_Mo_ended_18
    refine wb eh_fv ?_
    refine wi (fun hq19 => ?_) (fun hq19 => ?_)
    · have hq19 := i_eq hq19
      exfalso
      omega
    · have hq19 := i_ne hq19
      obtain ⟨v5, ev5, _⟩ := gf_64_20 W t_a0
      refine wb ev5 ?_
      obtain ⟨c6, ec6, Wc6, fc6, gc6⟩ := pf_64_21 W t_a0 (x := v5) (trivial)
      refine wb ec6 ?_
      have e20 := (Zfr.gi fc6 t_a0 (by decide)).trans eh_fv
      have F21 := Zfr.tr F0 fc6 (by decide)
      refine wb e20 ?_
      have := li_m10
      have := i_sub (a := (-10)) (b := fv) (by omega) (by omega)
      exact ⟨_, rfl, Wc6, F21, ⟨fv, e20, by (try dsimp only); omega, by (try dsimp only); omega, by (try dsimp only); omega, by (try dsimp only); omega⟩⟩

abbrev M_Mo_readQuestion : List (Nat × Nat) := [(64, 13), (64, 17), (64, 18), (64, 19), (64, 20), (64, 21), (64, 25), (64, 52), (64, 53), (64, 56), (64, 57), (64, 65), (64, 69), (74, 0), (75, 0), (76, 0), (79, 0), (80, 0), (81, 0), (82, 0), (83, 0), (84, 0), (85, 0), (86, 0), (87, 0), (88, 0), (89, 0), (90, 0), (91, 0), (92, 0), (93, 0), (94, 0), (95, 0), (96, 0), (97, 0), (98, 0), (99, 0), (100, 0), (103, 0), (104, 0), (105, 0), (106, 0), (107, 0), (108, 0), (109, 0), (110, 0), (111, 0), (112, 0), (113, 0), (114, 0), (115, 0), (116, 0), (134, 0)]
set_option maxRecDepth 100000 in
set_option maxHeartbeats 4000000 in
theorem p_Mo_readQuestion {nf : Nat} (hn : 8589934592 ≤ nf) {G : List Nat} {c : Zc} (W : Zwt zty G c) {a0 : Nat}  (t_a0 : G[a0]? = some 64) (hb_Zwo : Zwo G c a0) : ∃ q, f_Mo_readQuestion nf a0 c = some q ∧ Zwt zty G q.2 ∧ Zfr G M_Mo_readQuestion c q.2 ∧ ZVk G q.2 a0 q.1 := by
  have F0 : Zfr G M_Mo_readQuestion c c := Zfr.rf
  unfold f_Mo_readQuestion
  obtain ⟨k0Zwo0, k1Zwo0⟩ := hb_Zwo
  obtain ⟨w2, ew2⟩ := go_64 W t_a0
  refine wb ew2 ?_
  obtain ⟨q1, eq1, Wq1, fq1, pbZVBq1⟩ := p_Mo_begin hn W  t_a0 ⟨k0Zwo0, k1Zwo0⟩
  refine wb eq1 ?_
  have F1 := Zfr.tr F0 fq1 (by decide)
  obtain ⟨bpvq1, bf2q1, bt2q1, bd2q1, bksq1, bklq1, bkwq1, bnaq1, blbq1, bnwq1, bvnq1, bkgq1, bg2q1, bcd2q1, bkiq1, bi2q1, h0ZVBq1, h1ZVBq1, h2ZVBq1, h3ZVBq1, h4ZVBq1, h5ZVBq1, h6ZVBq1, h7ZVBq1, h8ZVBq1, h9ZVBq1, h10ZVBq1, h11ZVBq1, h12ZVBq1, h13ZVBq1, h14ZVBq1, h15ZVBq1, tksq1, tklq1, tkwq1, tkgq1, tkiq1, r0ZVBq1, r1ZVBq1, r2ZVBq1, r3ZVBq1, r4ZVBq1, r5ZVBq1, r6ZVBq1, r7ZVBq1, r8ZVBq1, r9ZVBq1, r10ZVBq1, r11ZVBq1, k0ZVBq1, k1ZVBq1, k2ZVBq1, k3ZVBq1, k4ZVBq1⟩ := pbZVBq1
  obtain ⟨w4, ew4⟩ := go_64 Wq1 t_a0
  refine wb ew4 ?_
  have := li_0
  have := li_1
  obtain ⟨q3, eq3, Wq3, fq3, pbZVhq3⟩ := p_Mo_patterns hn Wq1 (ni := 0) (bc := 1) t_a0 (by omega) (by omega) (by omega) (by omega) (by omega) (by omega) (by omega) (by omega) (by omega) (by omega) (by omega) (by omega) h0ZVBq1 h1ZVBq1 h2ZVBq1 h3ZVBq1 h11ZVBq1 h12ZVBq1 h13ZVBq1 (by omega) ⟨bksq1, bklq1, bkwq1, bnaq1, blbq1, bnwq1, bvnq1, h0ZVBq1, h1ZVBq1, h2ZVBq1, h3ZVBq1, h4ZVBq1, h5ZVBq1, h6ZVBq1, h7ZVBq1, h8ZVBq1, h9ZVBq1, h10ZVBq1, tksq1, tklq1, tkwq1, by (try dsimp only); omega, by (try dsimp only); omega, by (try dsimp only); omega, by (try dsimp only); omega, by (try dsimp only); omega, by (try dsimp only); omega, by (try dsimp only); omega, by (try dsimp only); omega, by (try dsimp only); omega, by (try dsimp only); omega, by (try dsimp only); omega, by (try dsimp only); omega, by (try dsimp only); omega, by (try dsimp only); omega, by (try dsimp only); omega, by (try dsimp only); omega, by (try dsimp only); omega, by (try dsimp only); omega, k0ZVBq1, k1ZVBq1, k2ZVBq1, k3ZVBq1, k4ZVBq1⟩
  refine wb eq3 ?_
  have e20 := (Zfr.gi fq3 t_a0 (by decide)).trans h0ZVBq1
  have e21 := (Zfr.gr fq3 t_a0 (by decide)).trans h4ZVBq1
  have e22 := (Zfr.gr fq3 t_a0 (by decide)).trans h5ZVBq1
  have e23 := (Zfr.gr fq3 t_a0 (by decide)).trans h6ZVBq1
  have e24 := (Zfr.gr fq3 t_a0 (by decide)).trans h11ZVBq1
  have e25 := (Zfr.gr fq3 t_a0 (by decide)).trans h14ZVBq1
  have e26 := (Zfr.ai fq3 tkiq1 (by decide)).trans h15ZVBq1
  have F27 := Zfr.tr F1 fq3 (by decide)
  obtain ⟨bf2q3, bt2q3, bd2q3, bksq3, bklq3, bkwq3, bnaq3, blbq3, bnwq3, bvnq3, bkgq3, bg2q3, bcd2q3, h0ZVhq3, h1ZVhq3, h2ZVhq3, h3ZVhq3, h4ZVhq3, h5ZVhq3, h6ZVhq3, h7ZVhq3, h8ZVhq3, h9ZVhq3, h10ZVhq3, h11ZVhq3, h12ZVhq3, h13ZVhq3, tksq3, tklq3, tkwq3, tkgq3, r0ZVhq3, r1ZVhq3, r2ZVhq3, r3ZVhq3, r4ZVhq3, r5ZVhq3, r6ZVhq3, r7ZVhq3, r8ZVhq3, r9ZVhq3, r10ZVhq3, r11ZVhq3, r12ZVhq3, r13ZVhq3, r14ZVhq3, r15ZVhq3, r16ZVhq3, r17ZVhq3, r18ZVhq3, r19ZVhq3, r20ZVhq3, r21ZVhq3, r22ZVhq3, r23ZVhq3, k0ZVhq3, k1ZVhq3, k2ZVhq3, k3ZVhq3, k4ZVhq3⟩ := pbZVhq3
  refine wb h1ZVhq3 ?_
  refine wi (fun hq28 => ?_) (fun hq28 => ?_)
  · have hq28 := i_eq hq28
    obtain ⟨w45, ew45⟩ := go_64 Wq3 t_a0
    refine wb ew45 ?_
    obtain ⟨q44, eq44, Wq44, fq44, pbZViq44⟩ := p_Mo_item hn Wq3 (ni := 0) (bc := 1) t_a0 (by omega) (by omega) (by omega) (by omega) (by omega) (by omega) (by omega) (by omega) (by omega) (by omega) (by omega) (by omega) (by omega) (by omega) h0ZVhq3 h1ZVhq3 h2ZVhq3 h3ZVhq3 h11ZVhq3 h12ZVhq3 h13ZVhq3 e25 e26 (by omega) (by omega) (by omega) ⟨bksq3, bklq3, bkwq3, bnaq3, blbq3, bnwq3, bvnq3, h0ZVhq3, h1ZVhq3, h2ZVhq3, h3ZVhq3, h4ZVhq3, h5ZVhq3, h6ZVhq3, h7ZVhq3, h8ZVhq3, h9ZVhq3, h10ZVhq3, tksq3, tklq3, tkwq3, by (try dsimp only); omega, by (try dsimp only); omega, by (try dsimp only); omega, by (try dsimp only); omega, by (try dsimp only); omega, by (try dsimp only); omega, by (try dsimp only); omega, by (try dsimp only); omega, by (try dsimp only); omega, by (try dsimp only); omega, by (try dsimp only); omega, by (try dsimp only); omega, by (try dsimp only); omega, by (try dsimp only); omega, by (try dsimp only); omega, by (try dsimp only); omega, by (try dsimp only); omega, by (try dsimp only); omega, k0ZVhq3, k1ZVhq3, k2ZVhq3, k3ZVhq3, k4ZVhq3⟩
    refine wb eq44 ?_
    have e49 := (Zfr.gi fq44 t_a0 (by decide)).trans h0ZVhq3
    have e50 := (Zfr.gr fq44 t_a0 (by decide)).trans h4ZVhq3
    have e51 := (Zfr.gr fq44 t_a0 (by decide)).trans h5ZVhq3
    have e52 := (Zfr.gr fq44 t_a0 (by decide)).trans h6ZVhq3
    have e53 := (Zfr.gr fq44 t_a0 (by decide)).trans h11ZVhq3
    have e54 := (Zfr.gr fq44 t_a0 (by decide)).trans e25
    have F55 := Zfr.tr F27 fq44 (by decide)
    obtain ⟨bf2q44, bt2q44, bd2q44, bksq44, bklq44, bkwq44, bnaq44, blbq44, bnwq44, bvnq44, bkgq44, bg2q44, bcd2q44, bkiq44, bi2q44, h0ZViq44, h1ZViq44, h2ZViq44, h3ZViq44, h4ZViq44, h5ZViq44, h6ZViq44, h7ZViq44, h8ZViq44, h9ZViq44, h10ZViq44, h11ZViq44, h12ZViq44, h13ZViq44, h14ZViq44, h15ZViq44, tksq44, tklq44, tkwq44, tkgq44, tkiq44, r0ZViq44, r1ZViq44, r2ZViq44, r3ZViq44, r4ZViq44, r5ZViq44, r6ZViq44, r7ZViq44, r8ZViq44, r9ZViq44, r10ZViq44, r11ZViq44, r12ZViq44, r13ZViq44, r14ZViq44, r15ZViq44, r16ZViq44, r17ZViq44, r18ZViq44, r19ZViq44, r20ZViq44, r21ZViq44, r22ZViq44, r23ZViq44, r24ZViq44, r25ZViq44, k0ZViq44, k1ZViq44, k2ZViq44, k3ZViq44, k4ZViq44⟩ := pbZViq44
    unfold f_Mo_readQuestion_19
    have := vfi_e h2ZViq44
    have L57 : ∃ b, zlp (fun a : Nat × Zc => g_Mo_readQuestion_19 nf a.1 a.2) nf (a0, q44) = some b ∧ (fun b : (Nat × Zc) => a0 = b.1 ∧ Zwt zty G b.2 ∧ Zfr G ([(64, 18), (64, 19), (64, 20), (64, 52), (64, 53), (64, 56), (64, 57), (64, 65), (64, 69), (79, 0), (80, 0), (81, 0), (82, 0), (83, 0), (84, 0), (85, 0), (86, 0), (87, 0), (88, 0), (89, 0), (90, 0), (91, 0), (92, 0), (93, 0), (94, 0), (95, 0), (96, 0), (97, 0), (98, 0), (103, 0), (104, 0), (105, 0), (106, 0), (107, 0), (108, 0), (109, 0), (110, 0), (111, 0), (112, 0), (113, 0), (114, 0), (115, 0), (116, 0), (134, 0)] : List (Nat × Nat)) q44 b.2 ∧ ZVj G b.2 a0) b := by
      refine wlp (fun a : Nat × Zc => a0 = a.1 ∧ Zwt zty G a.2 ∧ Zfr G ([(64, 18), (64, 19), (64, 20), (64, 52), (64, 53), (64, 56), (64, 57), (64, 65), (64, 69), (79, 0), (80, 0), (81, 0), (82, 0), (83, 0), (84, 0), (85, 0), (86, 0), (87, 0), (88, 0), (89, 0), (90, 0), (91, 0), (92, 0), (93, 0), (94, 0), (95, 0), (96, 0), (97, 0), (98, 0), (103, 0), (104, 0), (105, 0), (106, 0), (107, 0), (108, 0), (109, 0), (110, 0), (111, 0), (112, 0), (113, 0), (114, 0), (115, 0), (116, 0), (134, 0)] : List (Nat × Nat)) q44 a.2 ∧ ZVj G a.2 a0) (fun a => (201 - vfi a.2 a0 18).toNat) (fun b : (Nat × Zc) => a0 = b.1 ∧ Zwt zty G b.2 ∧ Zfr G ([(64, 18), (64, 19), (64, 20), (64, 52), (64, 53), (64, 56), (64, 57), (64, 65), (64, 69), (79, 0), (80, 0), (81, 0), (82, 0), (83, 0), (84, 0), (85, 0), (86, 0), (87, 0), (88, 0), (89, 0), (90, 0), (91, 0), (92, 0), (93, 0), (94, 0), (95, 0), (96, 0), (97, 0), (98, 0), (103, 0), (104, 0), (105, 0), (106, 0), (107, 0), (108, 0), (109, 0), (110, 0), (111, 0), (112, 0), (113, 0), (114, 0), (115, 0), (116, 0), (134, 0)] : List (Nat × Nat)) q44 b.2 ∧ ZVj G b.2 a0) ?_ ?_ ?_
      · rintro ⟨x0_58, c_58⟩ hI
        try dsimp only at hI ⊢
        obtain ⟨rfl, WLc_58, FLc_58, hBZVj_58⟩ := hI
        have e59 := (Zfr.gi FLc_58 t_a0 (by decide)).trans h0ZViq44
        have e60 := (Zfr.gr FLc_58 t_a0 (by decide)).trans h4ZViq44
        have e61 := (Zfr.gr FLc_58 t_a0 (by decide)).trans h5ZViq44
        have e62 := (Zfr.gr FLc_58 t_a0 (by decide)).trans h6ZViq44
        have e63 := (Zfr.gr FLc_58 t_a0 (by decide)).trans h11ZViq44
        have e64 := (Zfr.gr FLc_58 t_a0 (by decide)).trans h14ZViq44
        obtain ⟨bpv_58, bf2_58, bt2_58, bd2_58, bks_58, bkl_58, bkw_58, bna_58, blb_58, bnw_58, bvn_58, bkg_58, bg2_58, bcd2_58, bki_58, bi2_58, h0ZVj_58, h1ZVj_58, h2ZVj_58, h3ZVj_58, h4ZVj_58, h5ZVj_58, h6ZVj_58, h7ZVj_58, h8ZVj_58, h9ZVj_58, h10ZVj_58, h11ZVj_58, h12ZVj_58, h13ZVj_58, h14ZVj_58, h15ZVj_58, tks_58, tkl_58, tkw_58, tkg_58, tki_58, r0ZVj_58, r1ZVj_58, r2ZVj_58, r3ZVj_58, r4ZVj_58, r5ZVj_58, r6ZVj_58, r7ZVj_58, r8ZVj_58, r9ZVj_58, r10ZVj_58, r11ZVj_58, r12ZVj_58, r13ZVj_58, r14ZVj_58, r15ZVj_58, r16ZVj_58, r17ZVj_58, r18ZVj_58, r19ZVj_58, r20ZVj_58, r21ZVj_58, r22ZVj_58, r23ZVj_58, r24ZVj_58, k0ZVj_58, k1ZVj_58, k2ZVj_58, k3ZVj_58, k4ZVj_58⟩ := hBZVj_58
        unfold g_Mo_readQuestion_19
        have := vfi_e h2ZVj_58
        obtain ⟨w8, ew8⟩ := go_64 WLc_58 t_a0
        refine wb ew8 ?_
        have := li_44
        obtain ⟨q7, eq7, Wq7, fq7, pl0q7, pu0q7, pbZSkq7⟩ := p_Mo_takes hn WLc_58 (a1 := 44) t_a0 (by omega) (by omega) (by omega) (by omega) h1ZVj_58 h2ZVj_58
        refine wb eq7 ?_
        have e68 := (Zfr.gi fq7 t_a0 (by decide)).trans h0ZVj_58
        have e69 := (Zfr.gr fq7 t_a0 (by decide)).trans h4ZVj_58
        have e70 := (Zfr.gr fq7 t_a0 (by decide)).trans h5ZVj_58
        have e71 := (Zfr.gr fq7 t_a0 (by decide)).trans h6ZVj_58
        have e72 := (Zfr.gr fq7 t_a0 (by decide)).trans h11ZVj_58
        have e73 := (Zfr.gr fq7 t_a0 (by decide)).trans h14ZVj_58
        have e74 := (Zfr.gi fq7 t_a0 (by decide)).trans h3ZVj_58
        have e75 := (Zfr.ai fq7 tks_58 (by decide)).trans h7ZVj_58
        have e76 := (Zfr.ai fq7 tkl_58 (by decide)).trans h8ZVj_58
        have e77 := (Zfr.ai fq7 tkw_58 (by decide)).trans h9ZVj_58
        have e78 := (Zfr.gi fq7 t_a0 (by decide)).trans h10ZVj_58
        have e79 := (Zfr.ai fq7 tkg_58 (by decide)).trans h12ZVj_58
        have e80 := (Zfr.gi fq7 t_a0 (by decide)).trans h13ZVj_58
        have e81 := (Zfr.ai fq7 tki_58 (by decide)).trans h15ZVj_58
        have k82 := GtP_fr k0ZVj_58 fq7 t_a0 WLc_58 (by decide)
        have sc84 : Sc c_58 q7.2 a0 (q7.1.toInt) (0) := by
          obtain ⟨yf2, yt2, z0y, z1y, x0y, x1y, x2y, x3y, x4y, x5y, x6y⟩ := pbZSkq7
          exact Sc_mk h1ZVj_58 z0y h2ZVj_58 z1y h3ZVj_58 ((Zfr.gi (ci := 12) fq7 t_a0 (by decide)).trans h3ZVj_58) (by omega)
        have k83 := WyN_fr k1ZVj_58 fq7 t_a0 WLc_58 (by decide) sc84
        have k85 := TbI_fr k2ZVj_58 fq7 t_a0 WLc_58 (by decide) sc84
        have k86 := TbC_fr k3ZVj_58 fq7 t_a0 WLc_58 (by decide) sc84
        have k87 := TkN_fr k4ZVj_58 fq7 t_a0 WLc_58 (by decide)
        have F88 := Zfr.tr FLc_58 fq7 (by decide)
        obtain ⟨bf2q7, bt2q7, h0ZSkq7, h1ZSkq7, r0ZSkq7, r1ZSkq7, r2ZSkq7, r3ZSkq7, r4ZSkq7, r5ZSkq7, r6ZSkq7⟩ := pbZSkq7
        refine wi (fun hq89 => ?_) (fun hq89 => ?_)
        · have hq89 := i_eq hq89
          exact lInr ⟨rfl, Wq7, F88, ⟨bpv_58, bf2q7, bt2q7, bd2_58, bks_58, bkl_58, bkw_58, bna_58, blb_58, bnw_58, bvn_58, bkg_58, bg2_58, bcd2_58, bki_58, bi2_58, e68, h0ZSkq7, h1ZSkq7, e74, e69, e70, e71, e75, e76, e77, e78, e72, e79, e80, e73, e81, tks_58, tkl_58, tkw_58, tkg_58, tki_58, by (try dsimp only); omega, by (try dsimp only); omega, by (try dsimp only); omega, by (try dsimp only); omega, by (try dsimp only); omega, by (try dsimp only); omega, by (try dsimp only); omega, by (try dsimp only); omega, by (try dsimp only); omega, by (try dsimp only); omega, by (try dsimp only); omega, by (try dsimp only); omega, by (try dsimp only); omega, by (try dsimp only); omega, by (try dsimp only); omega, by (try dsimp only); omega, by (try dsimp only); omega, by (try dsimp only); omega, by (try dsimp only); omega, by (try dsimp only); omega, by (try dsimp only); omega, by (try dsimp only); omega, by (try dsimp only); omega, by (try dsimp only); omega, by (try dsimp only); omega, k82, k83, k85, k86, k87⟩⟩
        · have hq89 := i_ne hq89
          obtain ⟨w11, ew11⟩ := go_64 Wq7 t_a0
          refine wb ew11 ?_
          obtain ⟨q10, eq10, Wq10, fq10, pbZViq10⟩ := p_Mo_item hn Wq7 (ni := bi2_58) (bc := 1) t_a0 (by omega) (by omega) (by omega) (by omega) (by omega) (by omega) (by omega) (by omega) (by omega) (by omega) (by omega) (by omega) (by omega) (by omega) e68 h0ZSkq7 h1ZSkq7 e74 e72 e79 e80 e73 e81 (by omega) (by omega) (by omega) ⟨bks_58, bkl_58, bkw_58, bna_58, blb_58, bnw_58, bvn_58, e68, h0ZSkq7, h1ZSkq7, e74, e69, e70, e71, e75, e76, e77, e78, tks_58, tkl_58, tkw_58, by (try dsimp only); omega, by (try dsimp only); omega, by (try dsimp only); omega, by (try dsimp only); omega, by (try dsimp only); omega, by (try dsimp only); omega, by (try dsimp only); omega, by (try dsimp only); omega, by (try dsimp only); omega, by (try dsimp only); omega, by (try dsimp only); omega, by (try dsimp only); omega, by (try dsimp only); omega, by (try dsimp only); omega, by (try dsimp only); omega, by (try dsimp only); omega, by (try dsimp only); omega, by (try dsimp only); omega, k82, k83, k85, k86, k87⟩
          refine wb eq10 ?_
          have e126 := (Zfr.gi fq10 t_a0 (by decide)).trans e68
          have e127 := (Zfr.gr fq10 t_a0 (by decide)).trans e69
          have e128 := (Zfr.gr fq10 t_a0 (by decide)).trans e70
          have e129 := (Zfr.gr fq10 t_a0 (by decide)).trans e71
          have e130 := (Zfr.gr fq10 t_a0 (by decide)).trans e72
          have e131 := (Zfr.gr fq10 t_a0 (by decide)).trans e73
          have F132 := Zfr.tr F88 fq10 (by decide)
          obtain ⟨bf2q10, bt2q10, bd2q10, bksq10, bklq10, bkwq10, bnaq10, blbq10, bnwq10, bvnq10, bkgq10, bg2q10, bcd2q10, bkiq10, bi2q10, h0ZViq10, h1ZViq10, h2ZViq10, h3ZViq10, h4ZViq10, h5ZViq10, h6ZViq10, h7ZViq10, h8ZViq10, h9ZViq10, h10ZViq10, h11ZViq10, h12ZViq10, h13ZViq10, h14ZViq10, h15ZViq10, tksq10, tklq10, tkwq10, tkgq10, tkiq10, r0ZViq10, r1ZViq10, r2ZViq10, r3ZViq10, r4ZViq10, r5ZViq10, r6ZViq10, r7ZViq10, r8ZViq10, r9ZViq10, r10ZViq10, r11ZViq10, r12ZViq10, r13ZViq10, r14ZViq10, r15ZViq10, r16ZViq10, r17ZViq10, r18ZViq10, r19ZViq10, r20ZViq10, r21ZViq10, r22ZViq10, r23ZViq10, r24ZViq10, r25ZViq10, k0ZViq10, k1ZViq10, k2ZViq10, k3ZViq10, k4ZViq10⟩ := pbZViq10
          have := vfi_e h2ZViq10
          exact lInl ⟨rfl, Wq10, F132, ⟨bpv_58, bf2q10, bt2q10, bd2q10, bksq10, bklq10, bkwq10, bnaq10, blbq10, bnwq10, bvnq10, bkgq10, bg2q10, bcd2q10, bkiq10, bi2q10, h0ZViq10, h1ZViq10, h2ZViq10, h3ZViq10, h4ZViq10, h5ZViq10, h6ZViq10, h7ZViq10, h8ZViq10, h9ZViq10, h10ZViq10, h11ZViq10, h12ZViq10, h13ZViq10, h14ZViq10, h15ZViq10, tksq10, tklq10, tkwq10, tkgq10, tkiq10, by (try dsimp only); omega, by (try dsimp only); omega, by (try dsimp only); omega, by (try dsimp only); omega, by (try dsimp only); omega, by (try dsimp only); omega, by (try dsimp only); omega, by (try dsimp only); omega, by (try dsimp only); omega, by (try dsimp only); omega, by (try dsimp only); omega, by (try dsimp only); omega, by (try dsimp only); omega, by (try dsimp only); omega, by (try dsimp only); omega, by (try dsimp only); omega, by (try dsimp only); omega, by (try dsimp only); omega, by (try dsimp only); omega, by (try dsimp only); omega, by (try dsimp only); omega, by (try dsimp only); omega, by (try dsimp only); omega, by (try dsimp only); omega, by (try dsimp only); omega, k0ZViq10, k1ZViq10, k2ZViq10, k3ZViq10, k4ZViq10⟩⟩ (by (try dsimp only); omega)
      · exact ⟨rfl, Wq44, Zfr.rf, ⟨bpvq1, bf2q44, bt2q44, bd2q44, bksq44, bklq44, bkwq44, bnaq44, blbq44, bnwq44, bvnq44, bkgq44, bg2q44, bcd2q44, bkiq44, bi2q44, h0ZViq44, h1ZViq44, h2ZViq44, h3ZViq44, h4ZViq44, h5ZViq44, h6ZViq44, h7ZViq44, h8ZViq44, h9ZViq44, h10ZViq44, h11ZViq44, h12ZViq44, h13ZViq44, h14ZViq44, h15ZViq44, tksq44, tklq44, tkwq44, tkgq44, tkiq44, by (try dsimp only); omega, by (try dsimp only); omega, by (try dsimp only); omega, by (try dsimp only); omega, by (try dsimp only); omega, by (try dsimp only); omega, by (try dsimp only); omega, by (try dsimp only); omega, by (try dsimp only); omega, by (try dsimp only); omega, by (try dsimp only); omega, by (try dsimp only); omega, by (try dsimp only); omega, by (try dsimp only); omega, by (try dsimp only); omega, by (try dsimp only); omega, by (try dsimp only); omega, by (try dsimp only); omega, by (try dsimp only); omega, by (try dsimp only); omega, by (try dsimp only); omega, by (try dsimp only); omega, by (try dsimp only); omega, by (try dsimp only); omega, by (try dsimp only); omega, k0ZViq44, k1ZViq44, k2ZViq44, k3ZViq44, k4ZViq44⟩⟩
      · (try dsimp only); omega
    obtain ⟨b, eb, hb⟩ := L57
    refine wb eb ?_
    clear eb
    obtain ⟨z0_166, c_166⟩ := b
    try dsimp only at hb ⊢
    obtain ⟨rfl, WXc_166, FXc_166, hXZVjc_166⟩ := hb
    have e167 := (Zfr.gi FXc_166 t_a0 (by decide)).trans h0ZViq44
    have e168 := (Zfr.gr FXc_166 t_a0 (by decide)).trans h4ZViq44
    have e169 := (Zfr.gr FXc_166 t_a0 (by decide)).trans h5ZViq44
    have e170 := (Zfr.gr FXc_166 t_a0 (by decide)).trans h6ZViq44
    have e171 := (Zfr.gr FXc_166 t_a0 (by decide)).trans h11ZViq44
    have e172 := (Zfr.gr FXc_166 t_a0 (by decide)).trans h14ZViq44
    have F173 := Zfr.tr F55 FXc_166 (by decide)
    obtain ⟨bpvxc_166, bf2xc_166, bt2xc_166, bd2xc_166, bksxc_166, bklxc_166, bkwxc_166, bnaxc_166, blbxc_166, bnwxc_166, bvnxc_166, bkgxc_166, bg2xc_166, bcd2xc_166, bkixc_166, bi2xc_166, h0ZVjxc_166, h1ZVjxc_166, h2ZVjxc_166, h3ZVjxc_166, h4ZVjxc_166, h5ZVjxc_166, h6ZVjxc_166, h7ZVjxc_166, h8ZVjxc_166, h9ZVjxc_166, h10ZVjxc_166, h11ZVjxc_166, h12ZVjxc_166, h13ZVjxc_166, h14ZVjxc_166, h15ZVjxc_166, tksxc_166, tklxc_166, tkwxc_166, tkgxc_166, tkixc_166, r0ZVjxc_166, r1ZVjxc_166, r2ZVjxc_166, r3ZVjxc_166, r4ZVjxc_166, r5ZVjxc_166, r6ZVjxc_166, r7ZVjxc_166, r8ZVjxc_166, r9ZVjxc_166, r10ZVjxc_166, r11ZVjxc_166, r12ZVjxc_166, r13ZVjxc_166, r14ZVjxc_166, r15ZVjxc_166, r16ZVjxc_166, r17ZVjxc_166, r18ZVjxc_166, r19ZVjxc_166, r20ZVjxc_166, r21ZVjxc_166, r22ZVjxc_166, r23ZVjxc_166, r24ZVjxc_166, k0ZVjxc_166, k1ZVjxc_166, k2ZVjxc_166, k3ZVjxc_166, k4ZVjxc_166⟩ := hXZVjc_166
    obtain ⟨w13, ew13⟩ := go_64 WXc_166 t_a0
    refine wb ew13 ?_
    have := li_103
    obtain ⟨q12, eq12, Wq12, fq12, pl0q12, pu0q12, pbZSkq12⟩ := p_Mo_takes hn WXc_166 (a1 := 103) t_a0 (by omega) (by omega) (by omega) (by omega) h1ZVjxc_166 h2ZVjxc_166
    refine wb eq12 ?_
    have e176 := (Zfr.gi fq12 t_a0 (by decide)).trans h0ZVjxc_166
    have e177 := (Zfr.gr fq12 t_a0 (by decide)).trans h4ZVjxc_166
    have e178 := (Zfr.gr fq12 t_a0 (by decide)).trans h5ZVjxc_166
    have e179 := (Zfr.gr fq12 t_a0 (by decide)).trans h6ZVjxc_166
    have e180 := (Zfr.gr fq12 t_a0 (by decide)).trans h11ZVjxc_166
    have e181 := (Zfr.gr fq12 t_a0 (by decide)).trans h14ZVjxc_166
    have e182 := (Zfr.gi fq12 t_a0 (by decide)).trans h3ZVjxc_166
    have e183 := (Zfr.ai fq12 tksxc_166 (by decide)).trans h7ZVjxc_166
    have e184 := (Zfr.ai fq12 tklxc_166 (by decide)).trans h8ZVjxc_166
    have e185 := (Zfr.ai fq12 tkwxc_166 (by decide)).trans h9ZVjxc_166
    have e186 := (Zfr.gi fq12 t_a0 (by decide)).trans h10ZVjxc_166
    have e187 := (Zfr.ai fq12 tkgxc_166 (by decide)).trans h12ZVjxc_166
    have e188 := (Zfr.gi fq12 t_a0 (by decide)).trans h13ZVjxc_166
    have e189 := (Zfr.ai fq12 tkixc_166 (by decide)).trans h15ZVjxc_166
    have k190 := GtP_fr k0ZVjxc_166 fq12 t_a0 WXc_166 (by decide)
    have sc192 : Sc c_166 q12.2 a0 (q12.1.toInt) (0) := by
      obtain ⟨yf2, yt2, z0y, z1y, x0y, x1y, x2y, x3y, x4y, x5y, x6y⟩ := pbZSkq12
      exact Sc_mk h1ZVjxc_166 z0y h2ZVjxc_166 z1y h3ZVjxc_166 ((Zfr.gi (ci := 12) fq12 t_a0 (by decide)).trans h3ZVjxc_166) (by omega)
    have k191 := WyN_fr k1ZVjxc_166 fq12 t_a0 WXc_166 (by decide) sc192
    have k193 := TbI_fr k2ZVjxc_166 fq12 t_a0 WXc_166 (by decide) sc192
    have k194 := TbC_fr k3ZVjxc_166 fq12 t_a0 WXc_166 (by decide) sc192
    have k195 := TkN_fr k4ZVjxc_166 fq12 t_a0 WXc_166 (by decide)
    have F196 := Zfr.tr F173 fq12 (by decide)
    obtain ⟨bf2q12, bt2q12, h0ZSkq12, h1ZSkq12, r0ZSkq12, r1ZSkq12, r2ZSkq12, r3ZSkq12, r4ZSkq12, r5ZSkq12, r6ZSkq12⟩ := pbZSkq12
    refine wi (fun hq197 => ?_) (fun hq197 => ?_)
    · have hq197 := i_eq hq197
      unfold f_Mo_readQuestion_113
      refine wb e181 ?_
      refine wb e176 ?_
      refine wb e189 ?_
      obtain ⟨w19, ew19⟩ := go_64 Wq12 t_a0
      refine wb ew19 ?_
      obtain ⟨q18, eq18, Wq18, fq18, pbZSeq18⟩ := p_Mo_ended hn Wq12 (a1 := bi2xc_166) t_a0 (by omega) (by omega) (by omega) (by omega) h0ZSkq12 h1ZSkq12
      refine wb eq18 ?_
      have e200 := (Zfr.gi fq18 t_a0 (by decide)).trans e176
      have e201 := (Zfr.gr fq18 t_a0 (by decide)).trans e177
      have e202 := (Zfr.gr fq18 t_a0 (by decide)).trans e178
      have e203 := (Zfr.gr fq18 t_a0 (by decide)).trans e179
      have e204 := (Zfr.gr fq18 t_a0 (by decide)).trans e180
      have e205 := (Zfr.gr fq18 t_a0 (by decide)).trans e181
      have e206 := (Zfr.gi fq18 t_a0 (by decide)).trans e182
      have e207 := (Zfr.ai fq18 tksxc_166 (by decide)).trans e183
      have e208 := (Zfr.ai fq18 tklxc_166 (by decide)).trans e184
      have e209 := (Zfr.ai fq18 tkwxc_166 (by decide)).trans e185
      have e210 := (Zfr.gi fq18 t_a0 (by decide)).trans e186
      have e211 := (Zfr.ai fq18 tkgxc_166 (by decide)).trans e187
      have e212 := (Zfr.gi fq18 t_a0 (by decide)).trans e188
      have e213 := (Zfr.ai fq18 tkixc_166 (by decide)).trans e189
      have e214 := (Zfr.gi fq18 t_a0 (by decide)).trans h1ZSkq12
      have k215 := GtP_fr k190 fq18 t_a0 Wq12 (by decide)
      have sc217 : Sc q12.2 q18.2 a0 (0) (0) := by
        obtain ⟨yf2, z0y, x0y, x1y, x2y, x3y⟩ := pbZSeq18
        exact Sc_mk h0ZSkq12 z0y h1ZSkq12 ((Zfr.gi (ci := 12) fq18 t_a0 (by decide)).trans h1ZSkq12) e182 ((Zfr.gi (ci := 12) fq18 t_a0 (by decide)).trans e182) (by omega)
      have k216 := WyN_fr k191 fq18 t_a0 Wq12 (by decide) sc217
      have k218 := TbI_fr k193 fq18 t_a0 Wq12 (by decide) sc217
      have k219 := TbC_fr k194 fq18 t_a0 Wq12 (by decide) sc217
      have k220 := TkN_fr k195 fq18 t_a0 Wq12 (by decide)
      have F221 := Zfr.tr F196 fq18 (by decide)
      obtain ⟨bf2q18, h0ZSeq18, r0ZSeq18, r1ZSeq18, r2ZSeq18, r3ZSeq18⟩ := pbZSeq18
      obtain ⟨w_238, ew_238, lw_238, uw_238⟩ := gf_64_13 Wq18 t_a0
      exact ⟨_, rfl, Wq18, F221, ⟨bpvxc_166, bf2q18, bt2q12, bd2xc_166, bksxc_166, bklxc_166, bkwxc_166, bnaxc_166, blbxc_166, bnwxc_166, bvnxc_166, bkgxc_166, bg2xc_166, bcd2xc_166, bkixc_166, bi2xc_166, w_238, e200, h0ZSeq18, e214, e206, e201, e202, e203, e207, e208, e209, e210, e204, e211, e212, e205, e213, ew_238, tksxc_166, tklxc_166, tkwxc_166, tkgxc_166, tkixc_166, by (try dsimp only); omega, by (try dsimp only); omega, by (try dsimp only); omega, by (try dsimp only); omega, by (try dsimp only); omega, by (try dsimp only); omega, by (try dsimp only); omega, by (try dsimp only); omega, by (try dsimp only); omega, by (try dsimp only); omega, by (try dsimp only); omega, by (try dsimp only); omega, by (try dsimp only); omega, by (try dsimp only); omega, by (try dsimp only); omega, by (try dsimp only); omega, by (try dsimp only); omega, by (try dsimp only); omega, by (try dsimp only); omega, by (try dsimp only); omega, by (try dsimp only); omega, by (try dsimp only); omega, by (try dsimp only); omega, by (try dsimp only); omega, by (try dsimp only); omega, by (try dsimp only); omega, k215, k216, k218, k219, k220⟩⟩
    · have hq197 := i_ne hq197
      obtain ⟨w21, ew21⟩ := go_64 Wq12 t_a0
      refine wb ew21 ?_
      obtain ⟨q20, eq20, Wq20, fq20, pbZScq20, pbZkdq20⟩ := p_Mo_kind hn Wq12  t_a0 (by omega) (by omega) (by omega) (by omega) h0ZSkq12 h1ZSkq12
      refine wb eq20 ?_
      have e241 := (Zfr.gi fq20 t_a0 (by decide)).trans e176
      have e242 := (Zfr.gr fq20 t_a0 (by decide)).trans e177
      have e243 := (Zfr.gr fq20 t_a0 (by decide)).trans e178
      have e244 := (Zfr.gr fq20 t_a0 (by decide)).trans e179
      have e245 := (Zfr.gr fq20 t_a0 (by decide)).trans e180
      have e246 := (Zfr.gr fq20 t_a0 (by decide)).trans e181
      have e247 := (Zfr.gi fq20 t_a0 (by decide)).trans e182
      have e248 := (Zfr.ai fq20 tksxc_166 (by decide)).trans e183
      have e249 := (Zfr.ai fq20 tklxc_166 (by decide)).trans e184
      have e250 := (Zfr.ai fq20 tkwxc_166 (by decide)).trans e185
      have e251 := (Zfr.gi fq20 t_a0 (by decide)).trans e186
      have e252 := (Zfr.ai fq20 tkgxc_166 (by decide)).trans e187
      have e253 := (Zfr.gi fq20 t_a0 (by decide)).trans e188
      have e254 := (Zfr.ai fq20 tkixc_166 (by decide)).trans e189
      have e255 := (Zfr.gi fq20 t_a0 (by decide)).trans h1ZSkq12
      have k256 := GtP_fr k190 fq20 t_a0 Wq12 (by decide)
      have sc258 : Sc q12.2 q20.2 a0 (0) (0) := by
        obtain ⟨yf2, z0y, x0y, x1y, x2y, x3y⟩ := pbZScq20
        exact Sc_mk h0ZSkq12 z0y h1ZSkq12 ((Zfr.gi (ci := 12) fq20 t_a0 (by decide)).trans h1ZSkq12) e182 ((Zfr.gi (ci := 12) fq20 t_a0 (by decide)).trans e182) (by omega)
      have k257 := WyN_fr k191 fq20 t_a0 Wq12 (by decide) sc258
      have k259 := TbI_fr k193 fq20 t_a0 Wq12 (by decide) sc258
      have k260 := TbC_fr k194 fq20 t_a0 Wq12 (by decide) sc258
      have k261 := TkN_fr k195 fq20 t_a0 Wq12 (by decide)
      have F262 := Zfr.tr F196 fq20 (by decide)
      obtain ⟨bf2q20, h0ZScq20, r0ZScq20, r1ZScq20, r2ZScq20, r3ZScq20⟩ := pbZScq20
      obtain ⟨bkkq20, h0Zkdq20, h1Zkdq20, tkkq20⟩ := pbZkdq20
      refine wi (fun hq263 => ?_) (fun hq263 => ?_)
      · have := li_6
        have := i_ge q20.1
        have := i_up q20.1
        have hq263 := i_eq hq263
        obtain ⟨w24, ew24⟩ := go_64 Wq20 t_a0
        refine wb ew24 ?_
        obtain ⟨q23, eq23, Wq23, fq23, pbZStq23⟩ := p_Mo_stands hn Wq20  t_a0 (by omega) (by omega) (by omega) (by omega) h0ZScq20 e255
        refine wb eq23 ?_
        have e266 := (Zfr.gi fq23 t_a0 (by decide)).trans e241
        have e267 := (Zfr.gr fq23 t_a0 (by decide)).trans e242
        have e268 := (Zfr.gr fq23 t_a0 (by decide)).trans e243
        have e269 := (Zfr.gr fq23 t_a0 (by decide)).trans e244
        have e270 := (Zfr.gr fq23 t_a0 (by decide)).trans e245
        have e271 := (Zfr.gr fq23 t_a0 (by decide)).trans e246
        have e272 := (Zfr.gi fq23 t_a0 (by decide)).trans e247
        have e273 := (Zfr.ai fq23 tksxc_166 (by decide)).trans e248
        have e274 := (Zfr.ai fq23 tklxc_166 (by decide)).trans e249
        have e275 := (Zfr.ai fq23 tkwxc_166 (by decide)).trans e250
        have e276 := (Zfr.gi fq23 t_a0 (by decide)).trans e251
        have e277 := (Zfr.ai fq23 tkgxc_166 (by decide)).trans e252
        have e278 := (Zfr.gi fq23 t_a0 (by decide)).trans e253
        have e279 := (Zfr.ai fq23 tkixc_166 (by decide)).trans e254
        have e280 := (Zfr.gi fq23 t_a0 (by decide)).trans e255
        have e281 := (Zfr.gr fq23 t_a0 (by decide)).trans h0Zkdq20
        have e282 := (Zfr.ai fq23 tkkq20 (by decide)).trans h1Zkdq20
        have k283 := GtP_fr k256 fq23 t_a0 Wq20 (by decide)
        have sc285 : Sc q20.2 q23 a0 (0) (0) := by
          obtain ⟨yf2, z0y, x0y, x1y, x2y⟩ := pbZStq23
          exact Sc_mk h0ZScq20 z0y e255 ((Zfr.gi (ci := 12) fq23 t_a0 (by decide)).trans e255) e247 ((Zfr.gi (ci := 12) fq23 t_a0 (by decide)).trans e247) (by omega)
        have k284 := WyN_fr k257 fq23 t_a0 Wq20 (by decide) sc285
        have k286 := TbI_fr k259 fq23 t_a0 Wq20 (by decide) sc285
        have k287 := TbC_fr k260 fq23 t_a0 Wq20 (by decide) sc285
        have k288 := TkN_fr k261 fq23 t_a0 Wq20 (by decide)
        have F289 := Zfr.tr F262 fq23 (by decide)
        obtain ⟨bf2q23, h0ZStq23, r0ZStq23, r1ZStq23, r2ZStq23⟩ := pbZStq23
        obtain ⟨v25, ev25, tv25⟩ := gf_64_15 Wq23 t_a0
        refine wb ev25 ?_
        refine wb e280 ?_
        obtain ⟨v27, ev27, _⟩ := ga_75 Wq23 tv25 (i := bt2q12) (by omega) (by omega)
        have ht290 := TkM_at (k288 _ _ e281 ev25) e282 ev27
        have := tkr6 ht290 (by omega)
        refine wb ev27 ?_
        refine wi (fun hq291 => ?_) (fun hq291 => ?_)
        · have hq291 := i_eq hq291
          obtain ⟨v37, ev37, tv37⟩ := gf_64_16 Wq23 t_a0
          refine wb ev37 ?_
          refine wb e280 ?_
          obtain ⟨v39, ev39, _⟩ := ga_76 Wq23 tv37 (i := bt2q12) (by omega) (by omega)
          refine wb ev39 ?_
          obtain ⟨w41, ew41⟩ := go_64 Wq23 t_a0
          refine wb ew41 ?_
          obtain ⟨q40, eq40, Wq40, fq40, pbZSfq40⟩ := p_Mo_refuse hn Wq23 (a1 := 6) (a2 := v39) t_a0 (by omega) (by omega) (by omega) (by omega) h0ZStq23
          refine wb eq40 ?_
          have e293 := (Zfr.gi fq40 t_a0 (by decide)).trans e266
          have e294 := (Zfr.gr fq40 t_a0 (by decide)).trans e267
          have e295 := (Zfr.gr fq40 t_a0 (by decide)).trans e268
          have e296 := (Zfr.gr fq40 t_a0 (by decide)).trans e269
          have e297 := (Zfr.gr fq40 t_a0 (by decide)).trans e270
          have e298 := (Zfr.gr fq40 t_a0 (by decide)).trans e271
          have e299 := (Zfr.gi fq40 t_a0 (by decide)).trans e272
          have e300 := (Zfr.ai fq40 tksxc_166 (by decide)).trans e273
          have e301 := (Zfr.ai fq40 tklxc_166 (by decide)).trans e274
          have e302 := (Zfr.ai fq40 tkwxc_166 (by decide)).trans e275
          have e303 := (Zfr.gi fq40 t_a0 (by decide)).trans e276
          have e304 := (Zfr.ai fq40 tkgxc_166 (by decide)).trans e277
          have e305 := (Zfr.gi fq40 t_a0 (by decide)).trans e278
          have e306 := (Zfr.ai fq40 tkixc_166 (by decide)).trans e279
          have e307 := (Zfr.gi fq40 t_a0 (by decide)).trans e280
          have e308 := (Zfr.gr fq40 t_a0 (by decide)).trans e281
          have e309 := (Zfr.ai fq40 tkkq20 (by decide)).trans e282
          have e310 := (Zfr.gr fq40 t_a0 (by decide)).trans ev25
          have e311 := (Zfr.ai fq40 tv25 (by decide)).trans ev27
          have e312 := (Zfr.ai fq40 tv37 (by decide)).trans ev39
          have k313 := GtP_fr k283 fq40 t_a0 Wq23 (by decide)
          have sc315 : Sc q23 q40 a0 (0) (0) := by
            obtain ⟨yf2, z0y, x0y, x1y⟩ := pbZSfq40
            exact Sc_mk h0ZStq23 z0y e280 ((Zfr.gi (ci := 12) fq40 t_a0 (by decide)).trans e280) e272 ((Zfr.gi (ci := 12) fq40 t_a0 (by decide)).trans e272) (by omega)
          have k314 := WyN_fr k284 fq40 t_a0 Wq23 (by decide) sc315
          have k316 := TbI_fr k286 fq40 t_a0 Wq23 (by decide) sc315
          have k317 := TbC_fr k287 fq40 t_a0 Wq23 (by decide) sc315
          have k318 := TkN_fr k288 fq40 t_a0 Wq23 (by decide)
          have F319 := Zfr.tr F289 fq40 (by decide)
          obtain ⟨bf2q40, h0ZSfq40, r0ZSfq40, r1ZSfq40⟩ := pbZSfq40
          unfold f_Mo_readQuestion_91
          obtain ⟨v29, ev29, tv29⟩ := gf_64_47 Wq40 t_a0
          refine wb ev29 ?_
          refine wb e293 ?_
          refine wb e310 ?_
          refine wb e307 ?_
          refine wb e311 ?_
          obtain ⟨c34, ec34, Wc34, fc34, gc34⟩ := pa_100 Wq40 tv29 (i := bpvxc_166) (by omega) (by omega) (x := v27) (rgi (by omega) (by omega))
          refine wb ec34 ?_
          have e320 := (Zfr.gi fc34 t_a0 (by decide)).trans e293
          have e321 := (Zfr.gr fc34 t_a0 (by decide)).trans e294
          have e322 := (Zfr.gr fc34 t_a0 (by decide)).trans e295
          have e323 := (Zfr.gr fc34 t_a0 (by decide)).trans e296
          have e324 := (Zfr.gr fc34 t_a0 (by decide)).trans e297
          have e325 := (Zfr.gr fc34 t_a0 (by decide)).trans e298
          have e326 := (Zfr.gi fc34 t_a0 (by decide)).trans e299
          have e327 := (Zfr.ai fc34 tksxc_166 (by decide)).trans e300
          have e328 := (Zfr.ai fc34 tklxc_166 (by decide)).trans e301
          have e329 := (Zfr.ai fc34 tkwxc_166 (by decide)).trans e302
          have e330 := (Zfr.gi fc34 t_a0 (by decide)).trans e303
          have e331 := (Zfr.ai fc34 tkgxc_166 (by decide)).trans e304
          have e332 := (Zfr.gi fc34 t_a0 (by decide)).trans e305
          have e333 := (Zfr.ai fc34 tkixc_166 (by decide)).trans e306
          have e334 := (Zfr.gi fc34 t_a0 (by decide)).trans e307
          have e335 := (Zfr.gr fc34 t_a0 (by decide)).trans e308
          have e336 := (Zfr.ai fc34 tkkq20 (by decide)).trans e309
          have e337 := (Zfr.gr fc34 t_a0 (by decide)).trans e310
          have e338 := (Zfr.ai fc34 tv25 (by decide)).trans e311
          have e339 := (Zfr.ai fc34 tv37 (by decide)).trans e312
          have e340 := (Zfr.gi fc34 t_a0 (by decide)).trans h0ZSfq40
          have e341 := (Zfr.gr fc34 t_a0 (by decide)).trans ev29
          have k342 := GtP_fr k313 fc34 t_a0 Wq40 (by decide)
          have sc344 := Sc_fr fc34 t_a0 (by decide) (by decide) (by decide)
          have k343 := WyN_fr k314 fc34 t_a0 Wq40 (by decide) sc344
          have k345 := TbI_fr k316 fc34 t_a0 Wq40 (by decide) sc344
          have k346 := TbC_fr k317 fc34 t_a0 Wq40 (by decide) sc344
          have k347 := TkN_fr k318 fc34 t_a0 Wq40 (by decide)
          have F348 := Zfr.tr F319 fc34 (by decide)
          obtain ⟨w36, ew36⟩ := go_64 Wc34 t_a0
          refine wb ew36 ?_
          obtain ⟨q35, eq35, Wq35, fq35, pbZSq35⟩ := p_Mo_pass hn Wc34  t_a0 (by omega) (by omega) (by omega) (by omega) e340 e334
          refine wb eq35 ?_
          have e351 := (Zfr.gi fq35 t_a0 (by decide)).trans e320
          have e352 := (Zfr.gr fq35 t_a0 (by decide)).trans e321
          have e353 := (Zfr.gr fq35 t_a0 (by decide)).trans e322
          have e354 := (Zfr.gr fq35 t_a0 (by decide)).trans e323
          have e355 := (Zfr.gr fq35 t_a0 (by decide)).trans e324
          have e356 := (Zfr.gr fq35 t_a0 (by decide)).trans e325
          have e357 := (Zfr.gi fq35 t_a0 (by decide)).trans e326
          have e358 := (Zfr.ai fq35 tksxc_166 (by decide)).trans e327
          have e359 := (Zfr.ai fq35 tklxc_166 (by decide)).trans e328
          have e360 := (Zfr.ai fq35 tkwxc_166 (by decide)).trans e329
          have e361 := (Zfr.gi fq35 t_a0 (by decide)).trans e330
          have e362 := (Zfr.ai fq35 tkgxc_166 (by decide)).trans e331
          have e363 := (Zfr.gi fq35 t_a0 (by decide)).trans e332
          have e364 := (Zfr.ai fq35 tkixc_166 (by decide)).trans e333
          have e365 := (Zfr.gr fq35 t_a0 (by decide)).trans e335
          have e366 := (Zfr.ai fq35 tkkq20 (by decide)).trans e336
          have e367 := (Zfr.gr fq35 t_a0 (by decide)).trans e337
          have e368 := (Zfr.ai fq35 tv25 (by decide)).trans e338
          have e369 := (Zfr.ai fq35 tv37 (by decide)).trans e339
          have e370 := (Zfr.gr fq35 t_a0 (by decide)).trans e341
          have e371 := (Zfr.ai fq35 tv29 (by decide)).trans gc34
          have k372 := GtP_fr k342 fq35 t_a0 Wc34 (by decide)
          have sc374 : Sc c34 q35 a0 (1) (0) := by
            obtain ⟨yf2, yt2, z0y, z1y, x0y, x1y, x2y, x3y, x4y, x5y⟩ := pbZSq35
            exact Sc_mk e340 z0y e334 z1y e326 ((Zfr.gi (ci := 12) fq35 t_a0 (by decide)).trans e326) (by omega)
          have k373 := WyN_fr k343 fq35 t_a0 Wc34 (by decide) sc374
          have k375 := TbI_fr k345 fq35 t_a0 Wc34 (by decide) sc374
          have k376 := TbC_fr k346 fq35 t_a0 Wc34 (by decide) sc374
          have k377 := TkN_fr k347 fq35 t_a0 Wc34 (by decide)
          have F378 := Zfr.tr F348 fq35 (by decide)
          obtain ⟨bf2q35, bt2q35, h0ZSq35, h1ZSq35, r0ZSq35, r1ZSq35, r2ZSq35, r3ZSq35, r4ZSq35, r5ZSq35⟩ := pbZSq35
          unfold f_Mo_readQuestion_113
          refine wb e356 ?_
          refine wb e351 ?_
          refine wb e364 ?_
          obtain ⟨w19, ew19⟩ := go_64 Wq35 t_a0
          refine wb ew19 ?_
          obtain ⟨q18, eq18, Wq18, fq18, pbZSeq18⟩ := p_Mo_ended hn Wq35 (a1 := bi2xc_166) t_a0 (by omega) (by omega) (by omega) (by omega) h0ZSq35 h1ZSq35
          refine wb eq18 ?_
          have e381 := (Zfr.gi fq18 t_a0 (by decide)).trans e351
          have e382 := (Zfr.gr fq18 t_a0 (by decide)).trans e352
          have e383 := (Zfr.gr fq18 t_a0 (by decide)).trans e353
          have e384 := (Zfr.gr fq18 t_a0 (by decide)).trans e354
          have e385 := (Zfr.gr fq18 t_a0 (by decide)).trans e355
          have e386 := (Zfr.gr fq18 t_a0 (by decide)).trans e356
          have e387 := (Zfr.gi fq18 t_a0 (by decide)).trans e357
          have e388 := (Zfr.ai fq18 tksxc_166 (by decide)).trans e358
          have e389 := (Zfr.ai fq18 tklxc_166 (by decide)).trans e359
          have e390 := (Zfr.ai fq18 tkwxc_166 (by decide)).trans e360
          have e391 := (Zfr.gi fq18 t_a0 (by decide)).trans e361
          have e392 := (Zfr.ai fq18 tkgxc_166 (by decide)).trans e362
          have e393 := (Zfr.gi fq18 t_a0 (by decide)).trans e363
          have e394 := (Zfr.ai fq18 tkixc_166 (by decide)).trans e364
          have e395 := (Zfr.gr fq18 t_a0 (by decide)).trans e365
          have e396 := (Zfr.ai fq18 tkkq20 (by decide)).trans e366
          have e397 := (Zfr.gr fq18 t_a0 (by decide)).trans e367
          have e398 := (Zfr.ai fq18 tv25 (by decide)).trans e368
          have e399 := (Zfr.ai fq18 tv37 (by decide)).trans e369
          have e400 := (Zfr.gr fq18 t_a0 (by decide)).trans e370
          have e401 := (Zfr.ai fq18 tv29 (by decide)).trans e371
          have e402 := (Zfr.gi fq18 t_a0 (by decide)).trans h1ZSq35
          have k403 := GtP_fr k372 fq18 t_a0 Wq35 (by decide)
          have sc405 : Sc q35 q18.2 a0 (0) (0) := by
            obtain ⟨yf2, z0y, x0y, x1y, x2y, x3y⟩ := pbZSeq18
            exact Sc_mk h0ZSq35 z0y h1ZSq35 ((Zfr.gi (ci := 12) fq18 t_a0 (by decide)).trans h1ZSq35) e357 ((Zfr.gi (ci := 12) fq18 t_a0 (by decide)).trans e357) (by omega)
          have k404 := WyN_fr k373 fq18 t_a0 Wq35 (by decide) sc405
          have k406 := TbI_fr k375 fq18 t_a0 Wq35 (by decide) sc405
          have k407 := TbC_fr k376 fq18 t_a0 Wq35 (by decide) sc405
          have k408 := TkN_fr k377 fq18 t_a0 Wq35 (by decide)
          have F409 := Zfr.tr F378 fq18 (by decide)
          obtain ⟨bf2q18, h0ZSeq18, r0ZSeq18, r1ZSeq18, r2ZSeq18, r3ZSeq18⟩ := pbZSeq18
          obtain ⟨w_426, ew_426, lw_426, uw_426⟩ := gf_64_13 Wq18 t_a0
          exact ⟨_, rfl, Wq18, F409, ⟨bpvxc_166, bf2q18, bt2q35, bd2xc_166, bksxc_166, bklxc_166, bkwxc_166, bnaxc_166, blbxc_166, bnwxc_166, bvnxc_166, bkgxc_166, bg2xc_166, bcd2xc_166, bkixc_166, bi2xc_166, w_426, e381, h0ZSeq18, e402, e387, e382, e383, e384, e388, e389, e390, e391, e385, e392, e393, e386, e394, ew_426, tksxc_166, tklxc_166, tkwxc_166, tkgxc_166, tkixc_166, by (try dsimp only); omega, by (try dsimp only); omega, by (try dsimp only); omega, by (try dsimp only); omega, by (try dsimp only); omega, by (try dsimp only); omega, by (try dsimp only); omega, by (try dsimp only); omega, by (try dsimp only); omega, by (try dsimp only); omega, by (try dsimp only); omega, by (try dsimp only); omega, by (try dsimp only); omega, by (try dsimp only); omega, by (try dsimp only); omega, by (try dsimp only); omega, by (try dsimp only); omega, by (try dsimp only); omega, by (try dsimp only); omega, by (try dsimp only); omega, by (try dsimp only); omega, by (try dsimp only); omega, by (try dsimp only); omega, by (try dsimp only); omega, by (try dsimp only); omega, by (try dsimp only); omega, k403, k404, k406, k407, k408⟩⟩
        · have hq291 := i_ne hq291
          unfold f_Mo_readQuestion_91
          obtain ⟨v29, ev29, tv29⟩ := gf_64_47 Wq23 t_a0
          refine wb ev29 ?_
          refine wb e266 ?_
          refine wb ev25 ?_
          refine wb e280 ?_
          refine wb ev27 ?_
          obtain ⟨c34, ec34, Wc34, fc34, gc34⟩ := pa_100 Wq23 tv29 (i := bpvxc_166) (by omega) (by omega) (x := v27) (rgi (by omega) (by omega))
          refine wb ec34 ?_
          have e427 := (Zfr.gi fc34 t_a0 (by decide)).trans e266
          have e428 := (Zfr.gr fc34 t_a0 (by decide)).trans e267
          have e429 := (Zfr.gr fc34 t_a0 (by decide)).trans e268
          have e430 := (Zfr.gr fc34 t_a0 (by decide)).trans e269
          have e431 := (Zfr.gr fc34 t_a0 (by decide)).trans e270
          have e432 := (Zfr.gr fc34 t_a0 (by decide)).trans e271
          have e433 := (Zfr.gi fc34 t_a0 (by decide)).trans e272
          have e434 := (Zfr.ai fc34 tksxc_166 (by decide)).trans e273
          have e435 := (Zfr.ai fc34 tklxc_166 (by decide)).trans e274
          have e436 := (Zfr.ai fc34 tkwxc_166 (by decide)).trans e275
          have e437 := (Zfr.gi fc34 t_a0 (by decide)).trans e276
          have e438 := (Zfr.ai fc34 tkgxc_166 (by decide)).trans e277
          have e439 := (Zfr.gi fc34 t_a0 (by decide)).trans e278
          have e440 := (Zfr.ai fc34 tkixc_166 (by decide)).trans e279
          have e441 := (Zfr.gi fc34 t_a0 (by decide)).trans e280
          have e442 := (Zfr.gr fc34 t_a0 (by decide)).trans e281
          have e443 := (Zfr.ai fc34 tkkq20 (by decide)).trans e282
          have e444 := (Zfr.gi fc34 t_a0 (by decide)).trans h0ZStq23
          have e445 := (Zfr.gr fc34 t_a0 (by decide)).trans ev25
          have e446 := (Zfr.ai fc34 tv25 (by decide)).trans ev27
          have e447 := (Zfr.gr fc34 t_a0 (by decide)).trans ev29
          have k448 := GtP_fr k283 fc34 t_a0 Wq23 (by decide)
          have sc450 := Sc_fr fc34 t_a0 (by decide) (by decide) (by decide)
          have k449 := WyN_fr k284 fc34 t_a0 Wq23 (by decide) sc450
          have k451 := TbI_fr k286 fc34 t_a0 Wq23 (by decide) sc450
          have k452 := TbC_fr k287 fc34 t_a0 Wq23 (by decide) sc450
          have k453 := TkN_fr k288 fc34 t_a0 Wq23 (by decide)
          have F454 := Zfr.tr F289 fc34 (by decide)
          obtain ⟨w36, ew36⟩ := go_64 Wc34 t_a0
          refine wb ew36 ?_
          obtain ⟨q35, eq35, Wq35, fq35, pbZSq35⟩ := p_Mo_pass hn Wc34  t_a0 (by omega) (by omega) (by omega) (by omega) e444 e441
          refine wb eq35 ?_
          have e457 := (Zfr.gi fq35 t_a0 (by decide)).trans e427
          have e458 := (Zfr.gr fq35 t_a0 (by decide)).trans e428
          have e459 := (Zfr.gr fq35 t_a0 (by decide)).trans e429
          have e460 := (Zfr.gr fq35 t_a0 (by decide)).trans e430
          have e461 := (Zfr.gr fq35 t_a0 (by decide)).trans e431
          have e462 := (Zfr.gr fq35 t_a0 (by decide)).trans e432
          have e463 := (Zfr.gi fq35 t_a0 (by decide)).trans e433
          have e464 := (Zfr.ai fq35 tksxc_166 (by decide)).trans e434
          have e465 := (Zfr.ai fq35 tklxc_166 (by decide)).trans e435
          have e466 := (Zfr.ai fq35 tkwxc_166 (by decide)).trans e436
          have e467 := (Zfr.gi fq35 t_a0 (by decide)).trans e437
          have e468 := (Zfr.ai fq35 tkgxc_166 (by decide)).trans e438
          have e469 := (Zfr.gi fq35 t_a0 (by decide)).trans e439
          have e470 := (Zfr.ai fq35 tkixc_166 (by decide)).trans e440
          have e471 := (Zfr.gr fq35 t_a0 (by decide)).trans e442
          have e472 := (Zfr.ai fq35 tkkq20 (by decide)).trans e443
          have e473 := (Zfr.gr fq35 t_a0 (by decide)).trans e445
          have e474 := (Zfr.ai fq35 tv25 (by decide)).trans e446
          have e475 := (Zfr.gr fq35 t_a0 (by decide)).trans e447
          have e476 := (Zfr.ai fq35 tv29 (by decide)).trans gc34
          have k477 := GtP_fr k448 fq35 t_a0 Wc34 (by decide)
          have sc479 : Sc c34 q35 a0 (1) (0) := by
            obtain ⟨yf2, yt2, z0y, z1y, x0y, x1y, x2y, x3y, x4y, x5y⟩ := pbZSq35
            exact Sc_mk e444 z0y e441 z1y e433 ((Zfr.gi (ci := 12) fq35 t_a0 (by decide)).trans e433) (by omega)
          have k478 := WyN_fr k449 fq35 t_a0 Wc34 (by decide) sc479
          have k480 := TbI_fr k451 fq35 t_a0 Wc34 (by decide) sc479
          have k481 := TbC_fr k452 fq35 t_a0 Wc34 (by decide) sc479
          have k482 := TkN_fr k453 fq35 t_a0 Wc34 (by decide)
          have F483 := Zfr.tr F454 fq35 (by decide)
          obtain ⟨bf2q35, bt2q35, h0ZSq35, h1ZSq35, r0ZSq35, r1ZSq35, r2ZSq35, r3ZSq35, r4ZSq35, r5ZSq35⟩ := pbZSq35
          unfold f_Mo_readQuestion_113
          refine wb e462 ?_
          refine wb e457 ?_
          refine wb e470 ?_
          obtain ⟨w19, ew19⟩ := go_64 Wq35 t_a0
          refine wb ew19 ?_
          obtain ⟨q18, eq18, Wq18, fq18, pbZSeq18⟩ := p_Mo_ended hn Wq35 (a1 := bi2xc_166) t_a0 (by omega) (by omega) (by omega) (by omega) h0ZSq35 h1ZSq35
          refine wb eq18 ?_
          have e486 := (Zfr.gi fq18 t_a0 (by decide)).trans e457
          have e487 := (Zfr.gr fq18 t_a0 (by decide)).trans e458
          have e488 := (Zfr.gr fq18 t_a0 (by decide)).trans e459
          have e489 := (Zfr.gr fq18 t_a0 (by decide)).trans e460
          have e490 := (Zfr.gr fq18 t_a0 (by decide)).trans e461
          have e491 := (Zfr.gr fq18 t_a0 (by decide)).trans e462
          have e492 := (Zfr.gi fq18 t_a0 (by decide)).trans e463
          have e493 := (Zfr.ai fq18 tksxc_166 (by decide)).trans e464
          have e494 := (Zfr.ai fq18 tklxc_166 (by decide)).trans e465
          have e495 := (Zfr.ai fq18 tkwxc_166 (by decide)).trans e466
          have e496 := (Zfr.gi fq18 t_a0 (by decide)).trans e467
          have e497 := (Zfr.ai fq18 tkgxc_166 (by decide)).trans e468
          have e498 := (Zfr.gi fq18 t_a0 (by decide)).trans e469
          have e499 := (Zfr.ai fq18 tkixc_166 (by decide)).trans e470
          have e500 := (Zfr.gr fq18 t_a0 (by decide)).trans e471
          have e501 := (Zfr.ai fq18 tkkq20 (by decide)).trans e472
          have e502 := (Zfr.gr fq18 t_a0 (by decide)).trans e473
          have e503 := (Zfr.ai fq18 tv25 (by decide)).trans e474
          have e504 := (Zfr.gr fq18 t_a0 (by decide)).trans e475
          have e505 := (Zfr.ai fq18 tv29 (by decide)).trans e476
          have e506 := (Zfr.gi fq18 t_a0 (by decide)).trans h1ZSq35
          have k507 := GtP_fr k477 fq18 t_a0 Wq35 (by decide)
          have sc509 : Sc q35 q18.2 a0 (0) (0) := by
            obtain ⟨yf2, z0y, x0y, x1y, x2y, x3y⟩ := pbZSeq18
            exact Sc_mk h0ZSq35 z0y h1ZSq35 ((Zfr.gi (ci := 12) fq18 t_a0 (by decide)).trans h1ZSq35) e463 ((Zfr.gi (ci := 12) fq18 t_a0 (by decide)).trans e463) (by omega)
          have k508 := WyN_fr k478 fq18 t_a0 Wq35 (by decide) sc509
          have k510 := TbI_fr k480 fq18 t_a0 Wq35 (by decide) sc509
          have k511 := TbC_fr k481 fq18 t_a0 Wq35 (by decide) sc509
          have k512 := TkN_fr k482 fq18 t_a0 Wq35 (by decide)
          have F513 := Zfr.tr F483 fq18 (by decide)
          obtain ⟨bf2q18, h0ZSeq18, r0ZSeq18, r1ZSeq18, r2ZSeq18, r3ZSeq18⟩ := pbZSeq18
          obtain ⟨w_530, ew_530, lw_530, uw_530⟩ := gf_64_13 Wq18 t_a0
          exact ⟨_, rfl, Wq18, F513, ⟨bpvxc_166, bf2q18, bt2q35, bd2xc_166, bksxc_166, bklxc_166, bkwxc_166, bnaxc_166, blbxc_166, bnwxc_166, bvnxc_166, bkgxc_166, bg2xc_166, bcd2xc_166, bkixc_166, bi2xc_166, w_530, e486, h0ZSeq18, e506, e492, e487, e488, e489, e493, e494, e495, e496, e490, e497, e498, e491, e499, ew_530, tksxc_166, tklxc_166, tkwxc_166, tkgxc_166, tkixc_166, by (try dsimp only); omega, by (try dsimp only); omega, by (try dsimp only); omega, by (try dsimp only); omega, by (try dsimp only); omega, by (try dsimp only); omega, by (try dsimp only); omega, by (try dsimp only); omega, by (try dsimp only); omega, by (try dsimp only); omega, by (try dsimp only); omega, by (try dsimp only); omega, by (try dsimp only); omega, by (try dsimp only); omega, by (try dsimp only); omega, by (try dsimp only); omega, by (try dsimp only); omega, by (try dsimp only); omega, by (try dsimp only); omega, by (try dsimp only); omega, by (try dsimp only); omega, by (try dsimp only); omega, by (try dsimp only); omega, by (try dsimp only); omega, by (try dsimp only); omega, by (try dsimp only); omega, k507, k508, k510, k511, k512⟩⟩
      · have := li_6
        have := i_ge q20.1
        have := i_up q20.1
        have hq263 := i_ne hq263
        obtain ⟨w43, ew43⟩ := go_64 Wq20 t_a0
        refine wb ew43 ?_
        obtain ⟨q42, eq42, Wq42, fq42, pbZSfq42⟩ := p_Mo_wrong hn Wq20  t_a0 (by omega) (by omega) (by omega) (by omega) h0ZScq20 e255
        refine wb eq42 ?_
        have e533 := (Zfr.gi fq42 t_a0 (by decide)).trans e241
        have e534 := (Zfr.gr fq42 t_a0 (by decide)).trans e242
        have e535 := (Zfr.gr fq42 t_a0 (by decide)).trans e243
        have e536 := (Zfr.gr fq42 t_a0 (by decide)).trans e244
        have e537 := (Zfr.gr fq42 t_a0 (by decide)).trans e245
        have e538 := (Zfr.gr fq42 t_a0 (by decide)).trans e246
        have e539 := (Zfr.gi fq42 t_a0 (by decide)).trans e247
        have e540 := (Zfr.ai fq42 tksxc_166 (by decide)).trans e248
        have e541 := (Zfr.ai fq42 tklxc_166 (by decide)).trans e249
        have e542 := (Zfr.ai fq42 tkwxc_166 (by decide)).trans e250
        have e543 := (Zfr.gi fq42 t_a0 (by decide)).trans e251
        have e544 := (Zfr.ai fq42 tkgxc_166 (by decide)).trans e252
        have e545 := (Zfr.gi fq42 t_a0 (by decide)).trans e253
        have e546 := (Zfr.ai fq42 tkixc_166 (by decide)).trans e254
        have e547 := (Zfr.gi fq42 t_a0 (by decide)).trans e255
        have e548 := (Zfr.gr fq42 t_a0 (by decide)).trans h0Zkdq20
        have e549 := (Zfr.ai fq42 tkkq20 (by decide)).trans h1Zkdq20
        have k550 := GtP_fr k256 fq42 t_a0 Wq20 (by decide)
        have sc552 : Sc q20.2 q42 a0 (0) (0) := by
          obtain ⟨yf2, z0y, x0y, x1y⟩ := pbZSfq42
          exact Sc_mk h0ZScq20 z0y e255 ((Zfr.gi (ci := 12) fq42 t_a0 (by decide)).trans e255) e247 ((Zfr.gi (ci := 12) fq42 t_a0 (by decide)).trans e247) (by omega)
        have k551 := WyN_fr k257 fq42 t_a0 Wq20 (by decide) sc552
        have k553 := TbI_fr k259 fq42 t_a0 Wq20 (by decide) sc552
        have k554 := TbC_fr k260 fq42 t_a0 Wq20 (by decide) sc552
        have k555 := TkN_fr k261 fq42 t_a0 Wq20 (by decide)
        have F556 := Zfr.tr F262 fq42 (by decide)
        obtain ⟨bf2q42, h0ZSfq42, r0ZSfq42, r1ZSfq42⟩ := pbZSfq42
        unfold f_Mo_readQuestion_113
        refine wb e538 ?_
        refine wb e533 ?_
        refine wb e546 ?_
        obtain ⟨w19, ew19⟩ := go_64 Wq42 t_a0
        refine wb ew19 ?_
        obtain ⟨q18, eq18, Wq18, fq18, pbZSeq18⟩ := p_Mo_ended hn Wq42 (a1 := bi2xc_166) t_a0 (by omega) (by omega) (by omega) (by omega) h0ZSfq42 e547
        refine wb eq18 ?_
        have e559 := (Zfr.gi fq18 t_a0 (by decide)).trans e533
        have e560 := (Zfr.gr fq18 t_a0 (by decide)).trans e534
        have e561 := (Zfr.gr fq18 t_a0 (by decide)).trans e535
        have e562 := (Zfr.gr fq18 t_a0 (by decide)).trans e536
        have e563 := (Zfr.gr fq18 t_a0 (by decide)).trans e537
        have e564 := (Zfr.gr fq18 t_a0 (by decide)).trans e538
        have e565 := (Zfr.gi fq18 t_a0 (by decide)).trans e539
        have e566 := (Zfr.ai fq18 tksxc_166 (by decide)).trans e540
        have e567 := (Zfr.ai fq18 tklxc_166 (by decide)).trans e541
        have e568 := (Zfr.ai fq18 tkwxc_166 (by decide)).trans e542
        have e569 := (Zfr.gi fq18 t_a0 (by decide)).trans e543
        have e570 := (Zfr.ai fq18 tkgxc_166 (by decide)).trans e544
        have e571 := (Zfr.gi fq18 t_a0 (by decide)).trans e545
        have e572 := (Zfr.ai fq18 tkixc_166 (by decide)).trans e546
        have e573 := (Zfr.gi fq18 t_a0 (by decide)).trans e547
        have e574 := (Zfr.gr fq18 t_a0 (by decide)).trans e548
        have e575 := (Zfr.ai fq18 tkkq20 (by decide)).trans e549
        have k576 := GtP_fr k550 fq18 t_a0 Wq42 (by decide)
        have sc578 : Sc q42 q18.2 a0 (0) (0) := by
          obtain ⟨yf2, z0y, x0y, x1y, x2y, x3y⟩ := pbZSeq18
          exact Sc_mk h0ZSfq42 z0y e547 ((Zfr.gi (ci := 12) fq18 t_a0 (by decide)).trans e547) e539 ((Zfr.gi (ci := 12) fq18 t_a0 (by decide)).trans e539) (by omega)
        have k577 := WyN_fr k551 fq18 t_a0 Wq42 (by decide) sc578
        have k579 := TbI_fr k553 fq18 t_a0 Wq42 (by decide) sc578
        have k580 := TbC_fr k554 fq18 t_a0 Wq42 (by decide) sc578
        have k581 := TkN_fr k555 fq18 t_a0 Wq42 (by decide)
        have F582 := Zfr.tr F556 fq18 (by decide)
        obtain ⟨bf2q18, h0ZSeq18, r0ZSeq18, r1ZSeq18, r2ZSeq18, r3ZSeq18⟩ := pbZSeq18
        obtain ⟨w_599, ew_599, lw_599, uw_599⟩ := gf_64_13 Wq18 t_a0
        exact ⟨_, rfl, Wq18, F582, ⟨bpvxc_166, bf2q18, bt2q12, bd2xc_166, bksxc_166, bklxc_166, bkwxc_166, bnaxc_166, blbxc_166, bnwxc_166, bvnxc_166, bkgxc_166, bg2xc_166, bcd2xc_166, bkixc_166, bi2xc_166, w_599, e559, h0ZSeq18, e573, e565, e560, e561, e562, e566, e567, e568, e569, e563, e570, e571, e564, e572, ew_599, tksxc_166, tklxc_166, tkwxc_166, tkgxc_166, tkixc_166, by (try dsimp only); omega, by (try dsimp only); omega, by (try dsimp only); omega, by (try dsimp only); omega, by (try dsimp only); omega, by (try dsimp only); omega, by (try dsimp only); omega, by (try dsimp only); omega, by (try dsimp only); omega, by (try dsimp only); omega, by (try dsimp only); omega, by (try dsimp only); omega, by (try dsimp only); omega, by (try dsimp only); omega, by (try dsimp only); omega, by (try dsimp only); omega, by (try dsimp only); omega, by (try dsimp only); omega, by (try dsimp only); omega, by (try dsimp only); omega, by (try dsimp only); omega, by (try dsimp only); omega, by (try dsimp only); omega, by (try dsimp only); omega, by (try dsimp only); omega, by (try dsimp only); omega, k576, k577, k579, k580, k581⟩⟩
  · have hq28 := i_ne hq28
    unfold f_Mo_readQuestion_19
    have := vfi_e h2ZVhq3
    have L601 : ∃ b, zlp (fun a : Nat × Zc => g_Mo_readQuestion_19 nf a.1 a.2) nf (a0, q3) = some b ∧ (fun b : (Nat × Zc) => a0 = b.1 ∧ Zwt zty G b.2 ∧ Zfr G ([(64, 18), (64, 19), (64, 20), (64, 52), (64, 53), (64, 56), (64, 57), (64, 65), (64, 69), (79, 0), (80, 0), (81, 0), (82, 0), (83, 0), (84, 0), (85, 0), (86, 0), (87, 0), (88, 0), (89, 0), (90, 0), (91, 0), (92, 0), (93, 0), (94, 0), (95, 0), (96, 0), (97, 0), (98, 0), (103, 0), (104, 0), (105, 0), (106, 0), (107, 0), (108, 0), (109, 0), (110, 0), (111, 0), (112, 0), (113, 0), (114, 0), (115, 0), (116, 0), (134, 0)] : List (Nat × Nat)) q3 b.2 ∧ ZVj G b.2 a0) b := by
      refine wlp (fun a : Nat × Zc => a0 = a.1 ∧ Zwt zty G a.2 ∧ Zfr G ([(64, 18), (64, 19), (64, 20), (64, 52), (64, 53), (64, 56), (64, 57), (64, 65), (64, 69), (79, 0), (80, 0), (81, 0), (82, 0), (83, 0), (84, 0), (85, 0), (86, 0), (87, 0), (88, 0), (89, 0), (90, 0), (91, 0), (92, 0), (93, 0), (94, 0), (95, 0), (96, 0), (97, 0), (98, 0), (103, 0), (104, 0), (105, 0), (106, 0), (107, 0), (108, 0), (109, 0), (110, 0), (111, 0), (112, 0), (113, 0), (114, 0), (115, 0), (116, 0), (134, 0)] : List (Nat × Nat)) q3 a.2 ∧ ZVj G a.2 a0) (fun a => (201 - vfi a.2 a0 18).toNat) (fun b : (Nat × Zc) => a0 = b.1 ∧ Zwt zty G b.2 ∧ Zfr G ([(64, 18), (64, 19), (64, 20), (64, 52), (64, 53), (64, 56), (64, 57), (64, 65), (64, 69), (79, 0), (80, 0), (81, 0), (82, 0), (83, 0), (84, 0), (85, 0), (86, 0), (87, 0), (88, 0), (89, 0), (90, 0), (91, 0), (92, 0), (93, 0), (94, 0), (95, 0), (96, 0), (97, 0), (98, 0), (103, 0), (104, 0), (105, 0), (106, 0), (107, 0), (108, 0), (109, 0), (110, 0), (111, 0), (112, 0), (113, 0), (114, 0), (115, 0), (116, 0), (134, 0)] : List (Nat × Nat)) q3 b.2 ∧ ZVj G b.2 a0) ?_ ?_ ?_
      · rintro ⟨x0_602, c_602⟩ hI
        try dsimp only at hI ⊢
        obtain ⟨rfl, WLc_602, FLc_602, hBZVj_602⟩ := hI
        have e603 := (Zfr.gi FLc_602 t_a0 (by decide)).trans h0ZVhq3
        have e604 := (Zfr.gr FLc_602 t_a0 (by decide)).trans h4ZVhq3
        have e605 := (Zfr.gr FLc_602 t_a0 (by decide)).trans h5ZVhq3
        have e606 := (Zfr.gr FLc_602 t_a0 (by decide)).trans h6ZVhq3
        have e607 := (Zfr.gr FLc_602 t_a0 (by decide)).trans h11ZVhq3
        have e608 := (Zfr.gr FLc_602 t_a0 (by decide)).trans e25
        obtain ⟨bpv_602, bf2_602, bt2_602, bd2_602, bks_602, bkl_602, bkw_602, bna_602, blb_602, bnw_602, bvn_602, bkg_602, bg2_602, bcd2_602, bki_602, bi2_602, h0ZVj_602, h1ZVj_602, h2ZVj_602, h3ZVj_602, h4ZVj_602, h5ZVj_602, h6ZVj_602, h7ZVj_602, h8ZVj_602, h9ZVj_602, h10ZVj_602, h11ZVj_602, h12ZVj_602, h13ZVj_602, h14ZVj_602, h15ZVj_602, tks_602, tkl_602, tkw_602, tkg_602, tki_602, r0ZVj_602, r1ZVj_602, r2ZVj_602, r3ZVj_602, r4ZVj_602, r5ZVj_602, r6ZVj_602, r7ZVj_602, r8ZVj_602, r9ZVj_602, r10ZVj_602, r11ZVj_602, r12ZVj_602, r13ZVj_602, r14ZVj_602, r15ZVj_602, r16ZVj_602, r17ZVj_602, r18ZVj_602, r19ZVj_602, r20ZVj_602, r21ZVj_602, r22ZVj_602, r23ZVj_602, r24ZVj_602, k0ZVj_602, k1ZVj_602, k2ZVj_602, k3ZVj_602, k4ZVj_602⟩ := hBZVj_602
        unfold g_Mo_readQuestion_19
        have := vfi_e h2ZVj_602
        obtain ⟨w8, ew8⟩ := go_64 WLc_602 t_a0
        refine wb ew8 ?_
        have := li_44
        obtain ⟨q7, eq7, Wq7, fq7, pl0q7, pu0q7, pbZSkq7⟩ := p_Mo_takes hn WLc_602 (a1 := 44) t_a0 (by omega) (by omega) (by omega) (by omega) h1ZVj_602 h2ZVj_602
        refine wb eq7 ?_
        have e612 := (Zfr.gi fq7 t_a0 (by decide)).trans h0ZVj_602
        have e613 := (Zfr.gr fq7 t_a0 (by decide)).trans h4ZVj_602
        have e614 := (Zfr.gr fq7 t_a0 (by decide)).trans h5ZVj_602
        have e615 := (Zfr.gr fq7 t_a0 (by decide)).trans h6ZVj_602
        have e616 := (Zfr.gr fq7 t_a0 (by decide)).trans h11ZVj_602
        have e617 := (Zfr.gr fq7 t_a0 (by decide)).trans h14ZVj_602
        have e618 := (Zfr.gi fq7 t_a0 (by decide)).trans h3ZVj_602
        have e619 := (Zfr.ai fq7 tks_602 (by decide)).trans h7ZVj_602
        have e620 := (Zfr.ai fq7 tkl_602 (by decide)).trans h8ZVj_602
        have e621 := (Zfr.ai fq7 tkw_602 (by decide)).trans h9ZVj_602
        have e622 := (Zfr.gi fq7 t_a0 (by decide)).trans h10ZVj_602
        have e623 := (Zfr.ai fq7 tkg_602 (by decide)).trans h12ZVj_602
        have e624 := (Zfr.gi fq7 t_a0 (by decide)).trans h13ZVj_602
        have e625 := (Zfr.ai fq7 tki_602 (by decide)).trans h15ZVj_602
        have k626 := GtP_fr k0ZVj_602 fq7 t_a0 WLc_602 (by decide)
        have sc628 : Sc c_602 q7.2 a0 (q7.1.toInt) (0) := by
          obtain ⟨yf2, yt2, z0y, z1y, x0y, x1y, x2y, x3y, x4y, x5y, x6y⟩ := pbZSkq7
          exact Sc_mk h1ZVj_602 z0y h2ZVj_602 z1y h3ZVj_602 ((Zfr.gi (ci := 12) fq7 t_a0 (by decide)).trans h3ZVj_602) (by omega)
        have k627 := WyN_fr k1ZVj_602 fq7 t_a0 WLc_602 (by decide) sc628
        have k629 := TbI_fr k2ZVj_602 fq7 t_a0 WLc_602 (by decide) sc628
        have k630 := TbC_fr k3ZVj_602 fq7 t_a0 WLc_602 (by decide) sc628
        have k631 := TkN_fr k4ZVj_602 fq7 t_a0 WLc_602 (by decide)
        have F632 := Zfr.tr FLc_602 fq7 (by decide)
        obtain ⟨bf2q7, bt2q7, h0ZSkq7, h1ZSkq7, r0ZSkq7, r1ZSkq7, r2ZSkq7, r3ZSkq7, r4ZSkq7, r5ZSkq7, r6ZSkq7⟩ := pbZSkq7
        refine wi (fun hq633 => ?_) (fun hq633 => ?_)
        · have hq633 := i_eq hq633
          exact lInr ⟨rfl, Wq7, F632, ⟨bpv_602, bf2q7, bt2q7, bd2_602, bks_602, bkl_602, bkw_602, bna_602, blb_602, bnw_602, bvn_602, bkg_602, bg2_602, bcd2_602, bki_602, bi2_602, e612, h0ZSkq7, h1ZSkq7, e618, e613, e614, e615, e619, e620, e621, e622, e616, e623, e624, e617, e625, tks_602, tkl_602, tkw_602, tkg_602, tki_602, by (try dsimp only); omega, by (try dsimp only); omega, by (try dsimp only); omega, by (try dsimp only); omega, by (try dsimp only); omega, by (try dsimp only); omega, by (try dsimp only); omega, by (try dsimp only); omega, by (try dsimp only); omega, by (try dsimp only); omega, by (try dsimp only); omega, by (try dsimp only); omega, by (try dsimp only); omega, by (try dsimp only); omega, by (try dsimp only); omega, by (try dsimp only); omega, by (try dsimp only); omega, by (try dsimp only); omega, by (try dsimp only); omega, by (try dsimp only); omega, by (try dsimp only); omega, by (try dsimp only); omega, by (try dsimp only); omega, by (try dsimp only); omega, by (try dsimp only); omega, k626, k627, k629, k630, k631⟩⟩
        · have hq633 := i_ne hq633
          obtain ⟨w11, ew11⟩ := go_64 Wq7 t_a0
          refine wb ew11 ?_
          obtain ⟨q10, eq10, Wq10, fq10, pbZViq10⟩ := p_Mo_item hn Wq7 (ni := bi2_602) (bc := 1) t_a0 (by omega) (by omega) (by omega) (by omega) (by omega) (by omega) (by omega) (by omega) (by omega) (by omega) (by omega) (by omega) (by omega) (by omega) e612 h0ZSkq7 h1ZSkq7 e618 e616 e623 e624 e617 e625 (by omega) (by omega) (by omega) ⟨bks_602, bkl_602, bkw_602, bna_602, blb_602, bnw_602, bvn_602, e612, h0ZSkq7, h1ZSkq7, e618, e613, e614, e615, e619, e620, e621, e622, tks_602, tkl_602, tkw_602, by (try dsimp only); omega, by (try dsimp only); omega, by (try dsimp only); omega, by (try dsimp only); omega, by (try dsimp only); omega, by (try dsimp only); omega, by (try dsimp only); omega, by (try dsimp only); omega, by (try dsimp only); omega, by (try dsimp only); omega, by (try dsimp only); omega, by (try dsimp only); omega, by (try dsimp only); omega, by (try dsimp only); omega, by (try dsimp only); omega, by (try dsimp only); omega, by (try dsimp only); omega, by (try dsimp only); omega, k626, k627, k629, k630, k631⟩
          refine wb eq10 ?_
          have e670 := (Zfr.gi fq10 t_a0 (by decide)).trans e612
          have e671 := (Zfr.gr fq10 t_a0 (by decide)).trans e613
          have e672 := (Zfr.gr fq10 t_a0 (by decide)).trans e614
          have e673 := (Zfr.gr fq10 t_a0 (by decide)).trans e615
          have e674 := (Zfr.gr fq10 t_a0 (by decide)).trans e616
          have e675 := (Zfr.gr fq10 t_a0 (by decide)).trans e617
          have F676 := Zfr.tr F632 fq10 (by decide)
          obtain ⟨bf2q10, bt2q10, bd2q10, bksq10, bklq10, bkwq10, bnaq10, blbq10, bnwq10, bvnq10, bkgq10, bg2q10, bcd2q10, bkiq10, bi2q10, h0ZViq10, h1ZViq10, h2ZViq10, h3ZViq10, h4ZViq10, h5ZViq10, h6ZViq10, h7ZViq10, h8ZViq10, h9ZViq10, h10ZViq10, h11ZViq10, h12ZViq10, h13ZViq10, h14ZViq10, h15ZViq10, tksq10, tklq10, tkwq10, tkgq10, tkiq10, r0ZViq10, r1ZViq10, r2ZViq10, r3ZViq10, r4ZViq10, r5ZViq10, r6ZViq10, r7ZViq10, r8ZViq10, r9ZViq10, r10ZViq10, r11ZViq10, r12ZViq10, r13ZViq10, r14ZViq10, r15ZViq10, r16ZViq10, r17ZViq10, r18ZViq10, r19ZViq10, r20ZViq10, r21ZViq10, r22ZViq10, r23ZViq10, r24ZViq10, r25ZViq10, k0ZViq10, k1ZViq10, k2ZViq10, k3ZViq10, k4ZViq10⟩ := pbZViq10
          have := vfi_e h2ZViq10
          exact lInl ⟨rfl, Wq10, F676, ⟨bpv_602, bf2q10, bt2q10, bd2q10, bksq10, bklq10, bkwq10, bnaq10, blbq10, bnwq10, bvnq10, bkgq10, bg2q10, bcd2q10, bkiq10, bi2q10, h0ZViq10, h1ZViq10, h2ZViq10, h3ZViq10, h4ZViq10, h5ZViq10, h6ZViq10, h7ZViq10, h8ZViq10, h9ZViq10, h10ZViq10, h11ZViq10, h12ZViq10, h13ZViq10, h14ZViq10, h15ZViq10, tksq10, tklq10, tkwq10, tkgq10, tkiq10, by (try dsimp only); omega, by (try dsimp only); omega, by (try dsimp only); omega, by (try dsimp only); omega, by (try dsimp only); omega, by (try dsimp only); omega, by (try dsimp only); omega, by (try dsimp only); omega, by (try dsimp only); omega, by (try dsimp only); omega, by (try dsimp only); omega, by (try dsimp only); omega, by (try dsimp only); omega, by (try dsimp only); omega, by (try dsimp only); omega, by (try dsimp only); omega, by (try dsimp only); omega, by (try dsimp only); omega, by (try dsimp only); omega, by (try dsimp only); omega, by (try dsimp only); omega, by (try dsimp only); omega, by (try dsimp only); omega, by (try dsimp only); omega, by (try dsimp only); omega, k0ZViq10, k1ZViq10, k2ZViq10, k3ZViq10, k4ZViq10⟩⟩ (by (try dsimp only); omega)
      · exact ⟨rfl, Wq3, Zfr.rf, ⟨bpvq1, bf2q3, bt2q3, bd2q3, bksq3, bklq3, bkwq3, bnaq3, blbq3, bnwq3, bvnq3, bkgq3, bg2q3, bcd2q3, bkiq1, bi2q1, h0ZVhq3, h1ZVhq3, h2ZVhq3, h3ZVhq3, h4ZVhq3, h5ZVhq3, h6ZVhq3, h7ZVhq3, h8ZVhq3, h9ZVhq3, h10ZVhq3, h11ZVhq3, h12ZVhq3, h13ZVhq3, e25, e26, tksq3, tklq3, tkwq3, tkgq3, tkiq1, by (try dsimp only); omega, by (try dsimp only); omega, by (try dsimp only); omega, by (try dsimp only); omega, by (try dsimp only); omega, by (try dsimp only); omega, by (try dsimp only); omega, by (try dsimp only); omega, by (try dsimp only); omega, by (try dsimp only); omega, by (try dsimp only); omega, by (try dsimp only); omega, by (try dsimp only); omega, by (try dsimp only); omega, by (try dsimp only); omega, by (try dsimp only); omega, by (try dsimp only); omega, by (try dsimp only); omega, by (try dsimp only); omega, by (try dsimp only); omega, by (try dsimp only); omega, by (try dsimp only); omega, by (try dsimp only); omega, by (try dsimp only); omega, by (try dsimp only); omega, k0ZVhq3, k1ZVhq3, TbI_m k2ZVhq3 (by omega), k3ZVhq3, k4ZVhq3⟩⟩
      · (try dsimp only); omega
    obtain ⟨b, eb, hb⟩ := L601
    refine wb eb ?_
    clear eb
    obtain ⟨z0_710, c_710⟩ := b
    try dsimp only at hb ⊢
    obtain ⟨rfl, WXc_710, FXc_710, hXZVjc_710⟩ := hb
    have e711 := (Zfr.gi FXc_710 t_a0 (by decide)).trans h0ZVhq3
    have e712 := (Zfr.gr FXc_710 t_a0 (by decide)).trans h4ZVhq3
    have e713 := (Zfr.gr FXc_710 t_a0 (by decide)).trans h5ZVhq3
    have e714 := (Zfr.gr FXc_710 t_a0 (by decide)).trans h6ZVhq3
    have e715 := (Zfr.gr FXc_710 t_a0 (by decide)).trans h11ZVhq3
    have e716 := (Zfr.gr FXc_710 t_a0 (by decide)).trans e25
    have F717 := Zfr.tr F27 FXc_710 (by decide)
    obtain ⟨bpvxc_710, bf2xc_710, bt2xc_710, bd2xc_710, bksxc_710, bklxc_710, bkwxc_710, bnaxc_710, blbxc_710, bnwxc_710, bvnxc_710, bkgxc_710, bg2xc_710, bcd2xc_710, bkixc_710, bi2xc_710, h0ZVjxc_710, h1ZVjxc_710, h2ZVjxc_710, h3ZVjxc_710, h4ZVjxc_710, h5ZVjxc_710, h6ZVjxc_710, h7ZVjxc_710, h8ZVjxc_710, h9ZVjxc_710, h10ZVjxc_710, h11ZVjxc_710, h12ZVjxc_710, h13ZVjxc_710, h14ZVjxc_710, h15ZVjxc_710, tksxc_710, tklxc_710, tkwxc_710, tkgxc_710, tkixc_710, r0ZVjxc_710, r1ZVjxc_710, r2ZVjxc_710, r3ZVjxc_710, r4ZVjxc_710, r5ZVjxc_710, r6ZVjxc_710, r7ZVjxc_710, r8ZVjxc_710, r9ZVjxc_710, r10ZVjxc_710, r11ZVjxc_710, r12ZVjxc_710, r13ZVjxc_710, r14ZVjxc_710, r15ZVjxc_710, r16ZVjxc_710, r17ZVjxc_710, r18ZVjxc_710, r19ZVjxc_710, r20ZVjxc_710, r21ZVjxc_710, r22ZVjxc_710, r23ZVjxc_710, r24ZVjxc_710, k0ZVjxc_710, k1ZVjxc_710, k2ZVjxc_710, k3ZVjxc_710, k4ZVjxc_710⟩ := hXZVjc_710
    obtain ⟨w13, ew13⟩ := go_64 WXc_710 t_a0
    refine wb ew13 ?_
    have := li_103
    obtain ⟨q12, eq12, Wq12, fq12, pl0q12, pu0q12, pbZSkq12⟩ := p_Mo_takes hn WXc_710 (a1 := 103) t_a0 (by omega) (by omega) (by omega) (by omega) h1ZVjxc_710 h2ZVjxc_710
    refine wb eq12 ?_
    have e720 := (Zfr.gi fq12 t_a0 (by decide)).trans h0ZVjxc_710
    have e721 := (Zfr.gr fq12 t_a0 (by decide)).trans h4ZVjxc_710
    have e722 := (Zfr.gr fq12 t_a0 (by decide)).trans h5ZVjxc_710
    have e723 := (Zfr.gr fq12 t_a0 (by decide)).trans h6ZVjxc_710
    have e724 := (Zfr.gr fq12 t_a0 (by decide)).trans h11ZVjxc_710
    have e725 := (Zfr.gr fq12 t_a0 (by decide)).trans h14ZVjxc_710
    have e726 := (Zfr.gi fq12 t_a0 (by decide)).trans h3ZVjxc_710
    have e727 := (Zfr.ai fq12 tksxc_710 (by decide)).trans h7ZVjxc_710
    have e728 := (Zfr.ai fq12 tklxc_710 (by decide)).trans h8ZVjxc_710
    have e729 := (Zfr.ai fq12 tkwxc_710 (by decide)).trans h9ZVjxc_710
    have e730 := (Zfr.gi fq12 t_a0 (by decide)).trans h10ZVjxc_710
    have e731 := (Zfr.ai fq12 tkgxc_710 (by decide)).trans h12ZVjxc_710
    have e732 := (Zfr.gi fq12 t_a0 (by decide)).trans h13ZVjxc_710
    have e733 := (Zfr.ai fq12 tkixc_710 (by decide)).trans h15ZVjxc_710
    have k734 := GtP_fr k0ZVjxc_710 fq12 t_a0 WXc_710 (by decide)
    have sc736 : Sc c_710 q12.2 a0 (q12.1.toInt) (0) := by
      obtain ⟨yf2, yt2, z0y, z1y, x0y, x1y, x2y, x3y, x4y, x5y, x6y⟩ := pbZSkq12
      exact Sc_mk h1ZVjxc_710 z0y h2ZVjxc_710 z1y h3ZVjxc_710 ((Zfr.gi (ci := 12) fq12 t_a0 (by decide)).trans h3ZVjxc_710) (by omega)
    have k735 := WyN_fr k1ZVjxc_710 fq12 t_a0 WXc_710 (by decide) sc736
    have k737 := TbI_fr k2ZVjxc_710 fq12 t_a0 WXc_710 (by decide) sc736
    have k738 := TbC_fr k3ZVjxc_710 fq12 t_a0 WXc_710 (by decide) sc736
    have k739 := TkN_fr k4ZVjxc_710 fq12 t_a0 WXc_710 (by decide)
    have F740 := Zfr.tr F717 fq12 (by decide)
    obtain ⟨bf2q12, bt2q12, h0ZSkq12, h1ZSkq12, r0ZSkq12, r1ZSkq12, r2ZSkq12, r3ZSkq12, r4ZSkq12, r5ZSkq12, r6ZSkq12⟩ := pbZSkq12
    refine wi (fun hq741 => ?_) (fun hq741 => ?_)
    · have hq741 := i_eq hq741
      unfold f_Mo_readQuestion_113
      refine wb e725 ?_
      refine wb e720 ?_
      refine wb e733 ?_
      obtain ⟨w19, ew19⟩ := go_64 Wq12 t_a0
      refine wb ew19 ?_
      obtain ⟨q18, eq18, Wq18, fq18, pbZSeq18⟩ := p_Mo_ended hn Wq12 (a1 := bi2xc_710) t_a0 (by omega) (by omega) (by omega) (by omega) h0ZSkq12 h1ZSkq12
      refine wb eq18 ?_
      have e744 := (Zfr.gi fq18 t_a0 (by decide)).trans e720
      have e745 := (Zfr.gr fq18 t_a0 (by decide)).trans e721
      have e746 := (Zfr.gr fq18 t_a0 (by decide)).trans e722
      have e747 := (Zfr.gr fq18 t_a0 (by decide)).trans e723
      have e748 := (Zfr.gr fq18 t_a0 (by decide)).trans e724
      have e749 := (Zfr.gr fq18 t_a0 (by decide)).trans e725
      have e750 := (Zfr.gi fq18 t_a0 (by decide)).trans e726
      have e751 := (Zfr.ai fq18 tksxc_710 (by decide)).trans e727
      have e752 := (Zfr.ai fq18 tklxc_710 (by decide)).trans e728
      have e753 := (Zfr.ai fq18 tkwxc_710 (by decide)).trans e729
      have e754 := (Zfr.gi fq18 t_a0 (by decide)).trans e730
      have e755 := (Zfr.ai fq18 tkgxc_710 (by decide)).trans e731
      have e756 := (Zfr.gi fq18 t_a0 (by decide)).trans e732
      have e757 := (Zfr.ai fq18 tkixc_710 (by decide)).trans e733
      have e758 := (Zfr.gi fq18 t_a0 (by decide)).trans h1ZSkq12
      have k759 := GtP_fr k734 fq18 t_a0 Wq12 (by decide)
      have sc761 : Sc q12.2 q18.2 a0 (0) (0) := by
        obtain ⟨yf2, z0y, x0y, x1y, x2y, x3y⟩ := pbZSeq18
        exact Sc_mk h0ZSkq12 z0y h1ZSkq12 ((Zfr.gi (ci := 12) fq18 t_a0 (by decide)).trans h1ZSkq12) e726 ((Zfr.gi (ci := 12) fq18 t_a0 (by decide)).trans e726) (by omega)
      have k760 := WyN_fr k735 fq18 t_a0 Wq12 (by decide) sc761
      have k762 := TbI_fr k737 fq18 t_a0 Wq12 (by decide) sc761
      have k763 := TbC_fr k738 fq18 t_a0 Wq12 (by decide) sc761
      have k764 := TkN_fr k739 fq18 t_a0 Wq12 (by decide)
      have F765 := Zfr.tr F740 fq18 (by decide)
      obtain ⟨bf2q18, h0ZSeq18, r0ZSeq18, r1ZSeq18, r2ZSeq18, r3ZSeq18⟩ := pbZSeq18
      obtain ⟨w_782, ew_782, lw_782, uw_782⟩ := gf_64_13 Wq18 t_a0
      exact ⟨_, rfl, Wq18, F765, ⟨bpvxc_710, bf2q18, bt2q12, bd2xc_710, bksxc_710, bklxc_710, bkwxc_710, bnaxc_710, blbxc_710, bnwxc_710, bvnxc_710, bkgxc_710, bg2xc_710, bcd2xc_710, bkixc_710, bi2xc_710, w_782, e744, h0ZSeq18, e758, e750, e745, e746, e747, e751, e752, e753, e754, e748, e755, e756, e749, e757, ew_782, tksxc_710, tklxc_710, tkwxc_710, tkgxc_710, tkixc_710, by (try dsimp only); omega, by (try dsimp only); omega, by (try dsimp only); omega, by (try dsimp only); omega, by (try dsimp only); omega, by (try dsimp only); omega, by (try dsimp only); omega, by (try dsimp only); omega, by (try dsimp only); omega, by (try dsimp only); omega, by (try dsimp only); omega, by (try dsimp only); omega, by (try dsimp only); omega, by (try dsimp only); omega, by (try dsimp only); omega, by (try dsimp only); omega, by (try dsimp only); omega, by (try dsimp only); omega, by (try dsimp only); omega, by (try dsimp only); omega, by (try dsimp only); omega, by (try dsimp only); omega, by (try dsimp only); omega, by (try dsimp only); omega, by (try dsimp only); omega, by (try dsimp only); omega, k759, k760, k762, k763, k764⟩⟩
    · have hq741 := i_ne hq741
      obtain ⟨w21, ew21⟩ := go_64 Wq12 t_a0
      refine wb ew21 ?_
      obtain ⟨q20, eq20, Wq20, fq20, pbZScq20, pbZkdq20⟩ := p_Mo_kind hn Wq12  t_a0 (by omega) (by omega) (by omega) (by omega) h0ZSkq12 h1ZSkq12
      refine wb eq20 ?_
      have e785 := (Zfr.gi fq20 t_a0 (by decide)).trans e720
      have e786 := (Zfr.gr fq20 t_a0 (by decide)).trans e721
      have e787 := (Zfr.gr fq20 t_a0 (by decide)).trans e722
      have e788 := (Zfr.gr fq20 t_a0 (by decide)).trans e723
      have e789 := (Zfr.gr fq20 t_a0 (by decide)).trans e724
      have e790 := (Zfr.gr fq20 t_a0 (by decide)).trans e725
      have e791 := (Zfr.gi fq20 t_a0 (by decide)).trans e726
      have e792 := (Zfr.ai fq20 tksxc_710 (by decide)).trans e727
      have e793 := (Zfr.ai fq20 tklxc_710 (by decide)).trans e728
      have e794 := (Zfr.ai fq20 tkwxc_710 (by decide)).trans e729
      have e795 := (Zfr.gi fq20 t_a0 (by decide)).trans e730
      have e796 := (Zfr.ai fq20 tkgxc_710 (by decide)).trans e731
      have e797 := (Zfr.gi fq20 t_a0 (by decide)).trans e732
      have e798 := (Zfr.ai fq20 tkixc_710 (by decide)).trans e733
      have e799 := (Zfr.gi fq20 t_a0 (by decide)).trans h1ZSkq12
      have k800 := GtP_fr k734 fq20 t_a0 Wq12 (by decide)
      have sc802 : Sc q12.2 q20.2 a0 (0) (0) := by
        obtain ⟨yf2, z0y, x0y, x1y, x2y, x3y⟩ := pbZScq20
        exact Sc_mk h0ZSkq12 z0y h1ZSkq12 ((Zfr.gi (ci := 12) fq20 t_a0 (by decide)).trans h1ZSkq12) e726 ((Zfr.gi (ci := 12) fq20 t_a0 (by decide)).trans e726) (by omega)
      have k801 := WyN_fr k735 fq20 t_a0 Wq12 (by decide) sc802
      have k803 := TbI_fr k737 fq20 t_a0 Wq12 (by decide) sc802
      have k804 := TbC_fr k738 fq20 t_a0 Wq12 (by decide) sc802
      have k805 := TkN_fr k739 fq20 t_a0 Wq12 (by decide)
      have F806 := Zfr.tr F740 fq20 (by decide)
      obtain ⟨bf2q20, h0ZScq20, r0ZScq20, r1ZScq20, r2ZScq20, r3ZScq20⟩ := pbZScq20
      obtain ⟨bkkq20, h0Zkdq20, h1Zkdq20, tkkq20⟩ := pbZkdq20
      refine wi (fun hq807 => ?_) (fun hq807 => ?_)
      · have := li_6
        have := i_ge q20.1
        have := i_up q20.1
        have hq807 := i_eq hq807
        obtain ⟨w24, ew24⟩ := go_64 Wq20 t_a0
        refine wb ew24 ?_
        obtain ⟨q23, eq23, Wq23, fq23, pbZStq23⟩ := p_Mo_stands hn Wq20  t_a0 (by omega) (by omega) (by omega) (by omega) h0ZScq20 e799
        refine wb eq23 ?_
        have e810 := (Zfr.gi fq23 t_a0 (by decide)).trans e785
        have e811 := (Zfr.gr fq23 t_a0 (by decide)).trans e786
        have e812 := (Zfr.gr fq23 t_a0 (by decide)).trans e787
        have e813 := (Zfr.gr fq23 t_a0 (by decide)).trans e788
        have e814 := (Zfr.gr fq23 t_a0 (by decide)).trans e789
        have e815 := (Zfr.gr fq23 t_a0 (by decide)).trans e790
        have e816 := (Zfr.gi fq23 t_a0 (by decide)).trans e791
        have e817 := (Zfr.ai fq23 tksxc_710 (by decide)).trans e792
        have e818 := (Zfr.ai fq23 tklxc_710 (by decide)).trans e793
        have e819 := (Zfr.ai fq23 tkwxc_710 (by decide)).trans e794
        have e820 := (Zfr.gi fq23 t_a0 (by decide)).trans e795
        have e821 := (Zfr.ai fq23 tkgxc_710 (by decide)).trans e796
        have e822 := (Zfr.gi fq23 t_a0 (by decide)).trans e797
        have e823 := (Zfr.ai fq23 tkixc_710 (by decide)).trans e798
        have e824 := (Zfr.gi fq23 t_a0 (by decide)).trans e799
        have e825 := (Zfr.gr fq23 t_a0 (by decide)).trans h0Zkdq20
        have e826 := (Zfr.ai fq23 tkkq20 (by decide)).trans h1Zkdq20
        have k827 := GtP_fr k800 fq23 t_a0 Wq20 (by decide)
        have sc829 : Sc q20.2 q23 a0 (0) (0) := by
          obtain ⟨yf2, z0y, x0y, x1y, x2y⟩ := pbZStq23
          exact Sc_mk h0ZScq20 z0y e799 ((Zfr.gi (ci := 12) fq23 t_a0 (by decide)).trans e799) e791 ((Zfr.gi (ci := 12) fq23 t_a0 (by decide)).trans e791) (by omega)
        have k828 := WyN_fr k801 fq23 t_a0 Wq20 (by decide) sc829
        have k830 := TbI_fr k803 fq23 t_a0 Wq20 (by decide) sc829
        have k831 := TbC_fr k804 fq23 t_a0 Wq20 (by decide) sc829
        have k832 := TkN_fr k805 fq23 t_a0 Wq20 (by decide)
        have F833 := Zfr.tr F806 fq23 (by decide)
        obtain ⟨bf2q23, h0ZStq23, r0ZStq23, r1ZStq23, r2ZStq23⟩ := pbZStq23
        obtain ⟨v25, ev25, tv25⟩ := gf_64_15 Wq23 t_a0
        refine wb ev25 ?_
        refine wb e824 ?_
        obtain ⟨v27, ev27, _⟩ := ga_75 Wq23 tv25 (i := bt2q12) (by omega) (by omega)
        have ht834 := TkM_at (k832 _ _ e825 ev25) e826 ev27
        have := tkr6 ht834 (by omega)
        refine wb ev27 ?_
        refine wi (fun hq835 => ?_) (fun hq835 => ?_)
        · have hq835 := i_eq hq835
          obtain ⟨v37, ev37, tv37⟩ := gf_64_16 Wq23 t_a0
          refine wb ev37 ?_
          refine wb e824 ?_
          obtain ⟨v39, ev39, _⟩ := ga_76 Wq23 tv37 (i := bt2q12) (by omega) (by omega)
          refine wb ev39 ?_
          obtain ⟨w41, ew41⟩ := go_64 Wq23 t_a0
          refine wb ew41 ?_
          obtain ⟨q40, eq40, Wq40, fq40, pbZSfq40⟩ := p_Mo_refuse hn Wq23 (a1 := 6) (a2 := v39) t_a0 (by omega) (by omega) (by omega) (by omega) h0ZStq23
          refine wb eq40 ?_
          have e837 := (Zfr.gi fq40 t_a0 (by decide)).trans e810
          have e838 := (Zfr.gr fq40 t_a0 (by decide)).trans e811
          have e839 := (Zfr.gr fq40 t_a0 (by decide)).trans e812
          have e840 := (Zfr.gr fq40 t_a0 (by decide)).trans e813
          have e841 := (Zfr.gr fq40 t_a0 (by decide)).trans e814
          have e842 := (Zfr.gr fq40 t_a0 (by decide)).trans e815
          have e843 := (Zfr.gi fq40 t_a0 (by decide)).trans e816
          have e844 := (Zfr.ai fq40 tksxc_710 (by decide)).trans e817
          have e845 := (Zfr.ai fq40 tklxc_710 (by decide)).trans e818
          have e846 := (Zfr.ai fq40 tkwxc_710 (by decide)).trans e819
          have e847 := (Zfr.gi fq40 t_a0 (by decide)).trans e820
          have e848 := (Zfr.ai fq40 tkgxc_710 (by decide)).trans e821
          have e849 := (Zfr.gi fq40 t_a0 (by decide)).trans e822
          have e850 := (Zfr.ai fq40 tkixc_710 (by decide)).trans e823
          have e851 := (Zfr.gi fq40 t_a0 (by decide)).trans e824
          have e852 := (Zfr.gr fq40 t_a0 (by decide)).trans e825
          have e853 := (Zfr.ai fq40 tkkq20 (by decide)).trans e826
          have e854 := (Zfr.gr fq40 t_a0 (by decide)).trans ev25
          have e855 := (Zfr.ai fq40 tv25 (by decide)).trans ev27
          have e856 := (Zfr.ai fq40 tv37 (by decide)).trans ev39
          have k857 := GtP_fr k827 fq40 t_a0 Wq23 (by decide)
          have sc859 : Sc q23 q40 a0 (0) (0) := by
            obtain ⟨yf2, z0y, x0y, x1y⟩ := pbZSfq40
            exact Sc_mk h0ZStq23 z0y e824 ((Zfr.gi (ci := 12) fq40 t_a0 (by decide)).trans e824) e816 ((Zfr.gi (ci := 12) fq40 t_a0 (by decide)).trans e816) (by omega)
          have k858 := WyN_fr k828 fq40 t_a0 Wq23 (by decide) sc859
          have k860 := TbI_fr k830 fq40 t_a0 Wq23 (by decide) sc859
          have k861 := TbC_fr k831 fq40 t_a0 Wq23 (by decide) sc859
          have k862 := TkN_fr k832 fq40 t_a0 Wq23 (by decide)
          have F863 := Zfr.tr F833 fq40 (by decide)
          obtain ⟨bf2q40, h0ZSfq40, r0ZSfq40, r1ZSfq40⟩ := pbZSfq40
          unfold f_Mo_readQuestion_91
          obtain ⟨v29, ev29, tv29⟩ := gf_64_47 Wq40 t_a0
          refine wb ev29 ?_
          refine wb e837 ?_
          refine wb e854 ?_
          refine wb e851 ?_
          refine wb e855 ?_
          obtain ⟨c34, ec34, Wc34, fc34, gc34⟩ := pa_100 Wq40 tv29 (i := bpvxc_710) (by omega) (by omega) (x := v27) (rgi (by omega) (by omega))
          refine wb ec34 ?_
          have e864 := (Zfr.gi fc34 t_a0 (by decide)).trans e837
          have e865 := (Zfr.gr fc34 t_a0 (by decide)).trans e838
          have e866 := (Zfr.gr fc34 t_a0 (by decide)).trans e839
          have e867 := (Zfr.gr fc34 t_a0 (by decide)).trans e840
          have e868 := (Zfr.gr fc34 t_a0 (by decide)).trans e841
          have e869 := (Zfr.gr fc34 t_a0 (by decide)).trans e842
          have e870 := (Zfr.gi fc34 t_a0 (by decide)).trans e843
          have e871 := (Zfr.ai fc34 tksxc_710 (by decide)).trans e844
          have e872 := (Zfr.ai fc34 tklxc_710 (by decide)).trans e845
          have e873 := (Zfr.ai fc34 tkwxc_710 (by decide)).trans e846
          have e874 := (Zfr.gi fc34 t_a0 (by decide)).trans e847
          have e875 := (Zfr.ai fc34 tkgxc_710 (by decide)).trans e848
          have e876 := (Zfr.gi fc34 t_a0 (by decide)).trans e849
          have e877 := (Zfr.ai fc34 tkixc_710 (by decide)).trans e850
          have e878 := (Zfr.gi fc34 t_a0 (by decide)).trans e851
          have e879 := (Zfr.gr fc34 t_a0 (by decide)).trans e852
          have e880 := (Zfr.ai fc34 tkkq20 (by decide)).trans e853
          have e881 := (Zfr.gr fc34 t_a0 (by decide)).trans e854
          have e882 := (Zfr.ai fc34 tv25 (by decide)).trans e855
          have e883 := (Zfr.ai fc34 tv37 (by decide)).trans e856
          have e884 := (Zfr.gi fc34 t_a0 (by decide)).trans h0ZSfq40
          have e885 := (Zfr.gr fc34 t_a0 (by decide)).trans ev29
          have k886 := GtP_fr k857 fc34 t_a0 Wq40 (by decide)
          have sc888 := Sc_fr fc34 t_a0 (by decide) (by decide) (by decide)
          have k887 := WyN_fr k858 fc34 t_a0 Wq40 (by decide) sc888
          have k889 := TbI_fr k860 fc34 t_a0 Wq40 (by decide) sc888
          have k890 := TbC_fr k861 fc34 t_a0 Wq40 (by decide) sc888
          have k891 := TkN_fr k862 fc34 t_a0 Wq40 (by decide)
          have F892 := Zfr.tr F863 fc34 (by decide)
          obtain ⟨w36, ew36⟩ := go_64 Wc34 t_a0
          refine wb ew36 ?_
          obtain ⟨q35, eq35, Wq35, fq35, pbZSq35⟩ := p_Mo_pass hn Wc34  t_a0 (by omega) (by omega) (by omega) (by omega) e884 e878
          refine wb eq35 ?_
          have e895 := (Zfr.gi fq35 t_a0 (by decide)).trans e864
          have e896 := (Zfr.gr fq35 t_a0 (by decide)).trans e865
          have e897 := (Zfr.gr fq35 t_a0 (by decide)).trans e866
          have e898 := (Zfr.gr fq35 t_a0 (by decide)).trans e867
          have e899 := (Zfr.gr fq35 t_a0 (by decide)).trans e868
          have e900 := (Zfr.gr fq35 t_a0 (by decide)).trans e869
          have e901 := (Zfr.gi fq35 t_a0 (by decide)).trans e870
          have e902 := (Zfr.ai fq35 tksxc_710 (by decide)).trans e871
          have e903 := (Zfr.ai fq35 tklxc_710 (by decide)).trans e872
          have e904 := (Zfr.ai fq35 tkwxc_710 (by decide)).trans e873
          have e905 := (Zfr.gi fq35 t_a0 (by decide)).trans e874
          have e906 := (Zfr.ai fq35 tkgxc_710 (by decide)).trans e875
          have e907 := (Zfr.gi fq35 t_a0 (by decide)).trans e876
          have e908 := (Zfr.ai fq35 tkixc_710 (by decide)).trans e877
          have e909 := (Zfr.gr fq35 t_a0 (by decide)).trans e879
          have e910 := (Zfr.ai fq35 tkkq20 (by decide)).trans e880
          have e911 := (Zfr.gr fq35 t_a0 (by decide)).trans e881
          have e912 := (Zfr.ai fq35 tv25 (by decide)).trans e882
          have e913 := (Zfr.ai fq35 tv37 (by decide)).trans e883
          have e914 := (Zfr.gr fq35 t_a0 (by decide)).trans e885
          have e915 := (Zfr.ai fq35 tv29 (by decide)).trans gc34
          have k916 := GtP_fr k886 fq35 t_a0 Wc34 (by decide)
          have sc918 : Sc c34 q35 a0 (1) (0) := by
            obtain ⟨yf2, yt2, z0y, z1y, x0y, x1y, x2y, x3y, x4y, x5y⟩ := pbZSq35
            exact Sc_mk e884 z0y e878 z1y e870 ((Zfr.gi (ci := 12) fq35 t_a0 (by decide)).trans e870) (by omega)
          have k917 := WyN_fr k887 fq35 t_a0 Wc34 (by decide) sc918
          have k919 := TbI_fr k889 fq35 t_a0 Wc34 (by decide) sc918
          have k920 := TbC_fr k890 fq35 t_a0 Wc34 (by decide) sc918
          have k921 := TkN_fr k891 fq35 t_a0 Wc34 (by decide)
          have F922 := Zfr.tr F892 fq35 (by decide)
          obtain ⟨bf2q35, bt2q35, h0ZSq35, h1ZSq35, r0ZSq35, r1ZSq35, r2ZSq35, r3ZSq35, r4ZSq35, r5ZSq35⟩ := pbZSq35
          unfold f_Mo_readQuestion_113
          refine wb e900 ?_
          refine wb e895 ?_
          refine wb e908 ?_
          obtain ⟨w19, ew19⟩ := go_64 Wq35 t_a0
          refine wb ew19 ?_
          obtain ⟨q18, eq18, Wq18, fq18, pbZSeq18⟩ := p_Mo_ended hn Wq35 (a1 := bi2xc_710) t_a0 (by omega) (by omega) (by omega) (by omega) h0ZSq35 h1ZSq35
          refine wb eq18 ?_
          have e925 := (Zfr.gi fq18 t_a0 (by decide)).trans e895
          have e926 := (Zfr.gr fq18 t_a0 (by decide)).trans e896
          have e927 := (Zfr.gr fq18 t_a0 (by decide)).trans e897
          have e928 := (Zfr.gr fq18 t_a0 (by decide)).trans e898
          have e929 := (Zfr.gr fq18 t_a0 (by decide)).trans e899
          have e930 := (Zfr.gr fq18 t_a0 (by decide)).trans e900
          have e931 := (Zfr.gi fq18 t_a0 (by decide)).trans e901
          have e932 := (Zfr.ai fq18 tksxc_710 (by decide)).trans e902
          have e933 := (Zfr.ai fq18 tklxc_710 (by decide)).trans e903
          have e934 := (Zfr.ai fq18 tkwxc_710 (by decide)).trans e904
          have e935 := (Zfr.gi fq18 t_a0 (by decide)).trans e905
          have e936 := (Zfr.ai fq18 tkgxc_710 (by decide)).trans e906
          have e937 := (Zfr.gi fq18 t_a0 (by decide)).trans e907
          have e938 := (Zfr.ai fq18 tkixc_710 (by decide)).trans e908
          have e939 := (Zfr.gr fq18 t_a0 (by decide)).trans e909
          have e940 := (Zfr.ai fq18 tkkq20 (by decide)).trans e910
          have e941 := (Zfr.gr fq18 t_a0 (by decide)).trans e911
          have e942 := (Zfr.ai fq18 tv25 (by decide)).trans e912
          have e943 := (Zfr.ai fq18 tv37 (by decide)).trans e913
          have e944 := (Zfr.gr fq18 t_a0 (by decide)).trans e914
          have e945 := (Zfr.ai fq18 tv29 (by decide)).trans e915
          have e946 := (Zfr.gi fq18 t_a0 (by decide)).trans h1ZSq35
          have k947 := GtP_fr k916 fq18 t_a0 Wq35 (by decide)
          have sc949 : Sc q35 q18.2 a0 (0) (0) := by
            obtain ⟨yf2, z0y, x0y, x1y, x2y, x3y⟩ := pbZSeq18
            exact Sc_mk h0ZSq35 z0y h1ZSq35 ((Zfr.gi (ci := 12) fq18 t_a0 (by decide)).trans h1ZSq35) e901 ((Zfr.gi (ci := 12) fq18 t_a0 (by decide)).trans e901) (by omega)
          have k948 := WyN_fr k917 fq18 t_a0 Wq35 (by decide) sc949
          have k950 := TbI_fr k919 fq18 t_a0 Wq35 (by decide) sc949
          have k951 := TbC_fr k920 fq18 t_a0 Wq35 (by decide) sc949
          have k952 := TkN_fr k921 fq18 t_a0 Wq35 (by decide)
          have F953 := Zfr.tr F922 fq18 (by decide)
          obtain ⟨bf2q18, h0ZSeq18, r0ZSeq18, r1ZSeq18, r2ZSeq18, r3ZSeq18⟩ := pbZSeq18
          obtain ⟨w_970, ew_970, lw_970, uw_970⟩ := gf_64_13 Wq18 t_a0
          exact ⟨_, rfl, Wq18, F953, ⟨bpvxc_710, bf2q18, bt2q35, bd2xc_710, bksxc_710, bklxc_710, bkwxc_710, bnaxc_710, blbxc_710, bnwxc_710, bvnxc_710, bkgxc_710, bg2xc_710, bcd2xc_710, bkixc_710, bi2xc_710, w_970, e925, h0ZSeq18, e946, e931, e926, e927, e928, e932, e933, e934, e935, e929, e936, e937, e930, e938, ew_970, tksxc_710, tklxc_710, tkwxc_710, tkgxc_710, tkixc_710, by (try dsimp only); omega, by (try dsimp only); omega, by (try dsimp only); omega, by (try dsimp only); omega, by (try dsimp only); omega, by (try dsimp only); omega, by (try dsimp only); omega, by (try dsimp only); omega, by (try dsimp only); omega, by (try dsimp only); omega, by (try dsimp only); omega, by (try dsimp only); omega, by (try dsimp only); omega, by (try dsimp only); omega, by (try dsimp only); omega, by (try dsimp only); omega, by (try dsimp only); omega, by (try dsimp only); omega, by (try dsimp only); omega, by (try dsimp only); omega, by (try dsimp only); omega, by (try dsimp only); omega, by (try dsimp only); omega, by (try dsimp only); omega, by (try dsimp only); omega, by (try dsimp only); omega, k947, k948, k950, k951, k952⟩⟩
        · have hq835 := i_ne hq835
          unfold f_Mo_readQuestion_91
          obtain ⟨v29, ev29, tv29⟩ := gf_64_47 Wq23 t_a0
          refine wb ev29 ?_
          refine wb e810 ?_
          refine wb ev25 ?_
          refine wb e824 ?_
          refine wb ev27 ?_
          obtain ⟨c34, ec34, Wc34, fc34, gc34⟩ := pa_100 Wq23 tv29 (i := bpvxc_710) (by omega) (by omega) (x := v27) (rgi (by omega) (by omega))
          refine wb ec34 ?_
          have e971 := (Zfr.gi fc34 t_a0 (by decide)).trans e810
          have e972 := (Zfr.gr fc34 t_a0 (by decide)).trans e811
          have e973 := (Zfr.gr fc34 t_a0 (by decide)).trans e812
          have e974 := (Zfr.gr fc34 t_a0 (by decide)).trans e813
          have e975 := (Zfr.gr fc34 t_a0 (by decide)).trans e814
          have e976 := (Zfr.gr fc34 t_a0 (by decide)).trans e815
          have e977 := (Zfr.gi fc34 t_a0 (by decide)).trans e816
          have e978 := (Zfr.ai fc34 tksxc_710 (by decide)).trans e817
          have e979 := (Zfr.ai fc34 tklxc_710 (by decide)).trans e818
          have e980 := (Zfr.ai fc34 tkwxc_710 (by decide)).trans e819
          have e981 := (Zfr.gi fc34 t_a0 (by decide)).trans e820
          have e982 := (Zfr.ai fc34 tkgxc_710 (by decide)).trans e821
          have e983 := (Zfr.gi fc34 t_a0 (by decide)).trans e822
          have e984 := (Zfr.ai fc34 tkixc_710 (by decide)).trans e823
          have e985 := (Zfr.gi fc34 t_a0 (by decide)).trans e824
          have e986 := (Zfr.gr fc34 t_a0 (by decide)).trans e825
          have e987 := (Zfr.ai fc34 tkkq20 (by decide)).trans e826
          have e988 := (Zfr.gi fc34 t_a0 (by decide)).trans h0ZStq23
          have e989 := (Zfr.gr fc34 t_a0 (by decide)).trans ev25
          have e990 := (Zfr.ai fc34 tv25 (by decide)).trans ev27
          have e991 := (Zfr.gr fc34 t_a0 (by decide)).trans ev29
          have k992 := GtP_fr k827 fc34 t_a0 Wq23 (by decide)
          have sc994 := Sc_fr fc34 t_a0 (by decide) (by decide) (by decide)
          have k993 := WyN_fr k828 fc34 t_a0 Wq23 (by decide) sc994
          have k995 := TbI_fr k830 fc34 t_a0 Wq23 (by decide) sc994
          have k996 := TbC_fr k831 fc34 t_a0 Wq23 (by decide) sc994
          have k997 := TkN_fr k832 fc34 t_a0 Wq23 (by decide)
          have F998 := Zfr.tr F833 fc34 (by decide)
          obtain ⟨w36, ew36⟩ := go_64 Wc34 t_a0
          refine wb ew36 ?_
          obtain ⟨q35, eq35, Wq35, fq35, pbZSq35⟩ := p_Mo_pass hn Wc34  t_a0 (by omega) (by omega) (by omega) (by omega) e988 e985
          refine wb eq35 ?_
          have e1001 := (Zfr.gi fq35 t_a0 (by decide)).trans e971
          have e1002 := (Zfr.gr fq35 t_a0 (by decide)).trans e972
          have e1003 := (Zfr.gr fq35 t_a0 (by decide)).trans e973
          have e1004 := (Zfr.gr fq35 t_a0 (by decide)).trans e974
          have e1005 := (Zfr.gr fq35 t_a0 (by decide)).trans e975
          have e1006 := (Zfr.gr fq35 t_a0 (by decide)).trans e976
          have e1007 := (Zfr.gi fq35 t_a0 (by decide)).trans e977
          have e1008 := (Zfr.ai fq35 tksxc_710 (by decide)).trans e978
          have e1009 := (Zfr.ai fq35 tklxc_710 (by decide)).trans e979
          have e1010 := (Zfr.ai fq35 tkwxc_710 (by decide)).trans e980
          have e1011 := (Zfr.gi fq35 t_a0 (by decide)).trans e981
          have e1012 := (Zfr.ai fq35 tkgxc_710 (by decide)).trans e982
          have e1013 := (Zfr.gi fq35 t_a0 (by decide)).trans e983
          have e1014 := (Zfr.ai fq35 tkixc_710 (by decide)).trans e984
          have e1015 := (Zfr.gr fq35 t_a0 (by decide)).trans e986
          have e1016 := (Zfr.ai fq35 tkkq20 (by decide)).trans e987
          have e1017 := (Zfr.gr fq35 t_a0 (by decide)).trans e989
          have e1018 := (Zfr.ai fq35 tv25 (by decide)).trans e990
          have e1019 := (Zfr.gr fq35 t_a0 (by decide)).trans e991
          have e1020 := (Zfr.ai fq35 tv29 (by decide)).trans gc34
          have k1021 := GtP_fr k992 fq35 t_a0 Wc34 (by decide)
          have sc1023 : Sc c34 q35 a0 (1) (0) := by
            obtain ⟨yf2, yt2, z0y, z1y, x0y, x1y, x2y, x3y, x4y, x5y⟩ := pbZSq35
            exact Sc_mk e988 z0y e985 z1y e977 ((Zfr.gi (ci := 12) fq35 t_a0 (by decide)).trans e977) (by omega)
          have k1022 := WyN_fr k993 fq35 t_a0 Wc34 (by decide) sc1023
          have k1024 := TbI_fr k995 fq35 t_a0 Wc34 (by decide) sc1023
          have k1025 := TbC_fr k996 fq35 t_a0 Wc34 (by decide) sc1023
          have k1026 := TkN_fr k997 fq35 t_a0 Wc34 (by decide)
          have F1027 := Zfr.tr F998 fq35 (by decide)
          obtain ⟨bf2q35, bt2q35, h0ZSq35, h1ZSq35, r0ZSq35, r1ZSq35, r2ZSq35, r3ZSq35, r4ZSq35, r5ZSq35⟩ := pbZSq35
          unfold f_Mo_readQuestion_113
          refine wb e1006 ?_
          refine wb e1001 ?_
          refine wb e1014 ?_
          obtain ⟨w19, ew19⟩ := go_64 Wq35 t_a0
          refine wb ew19 ?_
          obtain ⟨q18, eq18, Wq18, fq18, pbZSeq18⟩ := p_Mo_ended hn Wq35 (a1 := bi2xc_710) t_a0 (by omega) (by omega) (by omega) (by omega) h0ZSq35 h1ZSq35
          refine wb eq18 ?_
          have e1030 := (Zfr.gi fq18 t_a0 (by decide)).trans e1001
          have e1031 := (Zfr.gr fq18 t_a0 (by decide)).trans e1002
          have e1032 := (Zfr.gr fq18 t_a0 (by decide)).trans e1003
          have e1033 := (Zfr.gr fq18 t_a0 (by decide)).trans e1004
          have e1034 := (Zfr.gr fq18 t_a0 (by decide)).trans e1005
          have e1035 := (Zfr.gr fq18 t_a0 (by decide)).trans e1006
          have e1036 := (Zfr.gi fq18 t_a0 (by decide)).trans e1007
          have e1037 := (Zfr.ai fq18 tksxc_710 (by decide)).trans e1008
          have e1038 := (Zfr.ai fq18 tklxc_710 (by decide)).trans e1009
          have e1039 := (Zfr.ai fq18 tkwxc_710 (by decide)).trans e1010
          have e1040 := (Zfr.gi fq18 t_a0 (by decide)).trans e1011
          have e1041 := (Zfr.ai fq18 tkgxc_710 (by decide)).trans e1012
          have e1042 := (Zfr.gi fq18 t_a0 (by decide)).trans e1013
          have e1043 := (Zfr.ai fq18 tkixc_710 (by decide)).trans e1014
          have e1044 := (Zfr.gr fq18 t_a0 (by decide)).trans e1015
          have e1045 := (Zfr.ai fq18 tkkq20 (by decide)).trans e1016
          have e1046 := (Zfr.gr fq18 t_a0 (by decide)).trans e1017
          have e1047 := (Zfr.ai fq18 tv25 (by decide)).trans e1018
          have e1048 := (Zfr.gr fq18 t_a0 (by decide)).trans e1019
          have e1049 := (Zfr.ai fq18 tv29 (by decide)).trans e1020
          have e1050 := (Zfr.gi fq18 t_a0 (by decide)).trans h1ZSq35
          have k1051 := GtP_fr k1021 fq18 t_a0 Wq35 (by decide)
          have sc1053 : Sc q35 q18.2 a0 (0) (0) := by
            obtain ⟨yf2, z0y, x0y, x1y, x2y, x3y⟩ := pbZSeq18
            exact Sc_mk h0ZSq35 z0y h1ZSq35 ((Zfr.gi (ci := 12) fq18 t_a0 (by decide)).trans h1ZSq35) e1007 ((Zfr.gi (ci := 12) fq18 t_a0 (by decide)).trans e1007) (by omega)
          have k1052 := WyN_fr k1022 fq18 t_a0 Wq35 (by decide) sc1053
          have k1054 := TbI_fr k1024 fq18 t_a0 Wq35 (by decide) sc1053
          have k1055 := TbC_fr k1025 fq18 t_a0 Wq35 (by decide) sc1053
          have k1056 := TkN_fr k1026 fq18 t_a0 Wq35 (by decide)
          have F1057 := Zfr.tr F1027 fq18 (by decide)
          obtain ⟨bf2q18, h0ZSeq18, r0ZSeq18, r1ZSeq18, r2ZSeq18, r3ZSeq18⟩ := pbZSeq18
          obtain ⟨w_1074, ew_1074, lw_1074, uw_1074⟩ := gf_64_13 Wq18 t_a0
          exact ⟨_, rfl, Wq18, F1057, ⟨bpvxc_710, bf2q18, bt2q35, bd2xc_710, bksxc_710, bklxc_710, bkwxc_710, bnaxc_710, blbxc_710, bnwxc_710, bvnxc_710, bkgxc_710, bg2xc_710, bcd2xc_710, bkixc_710, bi2xc_710, w_1074, e1030, h0ZSeq18, e1050, e1036, e1031, e1032, e1033, e1037, e1038, e1039, e1040, e1034, e1041, e1042, e1035, e1043, ew_1074, tksxc_710, tklxc_710, tkwxc_710, tkgxc_710, tkixc_710, by (try dsimp only); omega, by (try dsimp only); omega, by (try dsimp only); omega, by (try dsimp only); omega, by (try dsimp only); omega, by (try dsimp only); omega, by (try dsimp only); omega, by (try dsimp only); omega, by (try dsimp only); omega, by (try dsimp only); omega, by (try dsimp only); omega, by (try dsimp only); omega, by (try dsimp only); omega, by (try dsimp only); omega, by (try dsimp only); omega, by (try dsimp only); omega, by (try dsimp only); omega, by (try dsimp only); omega, by (try dsimp only); omega, by (try dsimp only); omega, by (try dsimp only); omega, by (try dsimp only); omega, by (try dsimp only); omega, by (try dsimp only); omega, by (try dsimp only); omega, by (try dsimp only); omega, k1051, k1052, k1054, k1055, k1056⟩⟩
      · have := li_6
        have := i_ge q20.1
        have := i_up q20.1
        have hq807 := i_ne hq807
        obtain ⟨w43, ew43⟩ := go_64 Wq20 t_a0
        refine wb ew43 ?_
        obtain ⟨q42, eq42, Wq42, fq42, pbZSfq42⟩ := p_Mo_wrong hn Wq20  t_a0 (by omega) (by omega) (by omega) (by omega) h0ZScq20 e799
        refine wb eq42 ?_
        have e1077 := (Zfr.gi fq42 t_a0 (by decide)).trans e785
        have e1078 := (Zfr.gr fq42 t_a0 (by decide)).trans e786
        have e1079 := (Zfr.gr fq42 t_a0 (by decide)).trans e787
        have e1080 := (Zfr.gr fq42 t_a0 (by decide)).trans e788
        have e1081 := (Zfr.gr fq42 t_a0 (by decide)).trans e789
        have e1082 := (Zfr.gr fq42 t_a0 (by decide)).trans e790
        have e1083 := (Zfr.gi fq42 t_a0 (by decide)).trans e791
        have e1084 := (Zfr.ai fq42 tksxc_710 (by decide)).trans e792
        have e1085 := (Zfr.ai fq42 tklxc_710 (by decide)).trans e793
        have e1086 := (Zfr.ai fq42 tkwxc_710 (by decide)).trans e794
        have e1087 := (Zfr.gi fq42 t_a0 (by decide)).trans e795
        have e1088 := (Zfr.ai fq42 tkgxc_710 (by decide)).trans e796
        have e1089 := (Zfr.gi fq42 t_a0 (by decide)).trans e797
        have e1090 := (Zfr.ai fq42 tkixc_710 (by decide)).trans e798
        have e1091 := (Zfr.gi fq42 t_a0 (by decide)).trans e799
        have e1092 := (Zfr.gr fq42 t_a0 (by decide)).trans h0Zkdq20
        have e1093 := (Zfr.ai fq42 tkkq20 (by decide)).trans h1Zkdq20
        have k1094 := GtP_fr k800 fq42 t_a0 Wq20 (by decide)
        have sc1096 : Sc q20.2 q42 a0 (0) (0) := by
          obtain ⟨yf2, z0y, x0y, x1y⟩ := pbZSfq42
          exact Sc_mk h0ZScq20 z0y e799 ((Zfr.gi (ci := 12) fq42 t_a0 (by decide)).trans e799) e791 ((Zfr.gi (ci := 12) fq42 t_a0 (by decide)).trans e791) (by omega)
        have k1095 := WyN_fr k801 fq42 t_a0 Wq20 (by decide) sc1096
        have k1097 := TbI_fr k803 fq42 t_a0 Wq20 (by decide) sc1096
        have k1098 := TbC_fr k804 fq42 t_a0 Wq20 (by decide) sc1096
        have k1099 := TkN_fr k805 fq42 t_a0 Wq20 (by decide)
        have F1100 := Zfr.tr F806 fq42 (by decide)
        obtain ⟨bf2q42, h0ZSfq42, r0ZSfq42, r1ZSfq42⟩ := pbZSfq42
        unfold f_Mo_readQuestion_113
        refine wb e1082 ?_
        refine wb e1077 ?_
        refine wb e1090 ?_
        obtain ⟨w19, ew19⟩ := go_64 Wq42 t_a0
        refine wb ew19 ?_
        obtain ⟨q18, eq18, Wq18, fq18, pbZSeq18⟩ := p_Mo_ended hn Wq42 (a1 := bi2xc_710) t_a0 (by omega) (by omega) (by omega) (by omega) h0ZSfq42 e1091
        refine wb eq18 ?_
        have e1103 := (Zfr.gi fq18 t_a0 (by decide)).trans e1077
        have e1104 := (Zfr.gr fq18 t_a0 (by decide)).trans e1078
        have e1105 := (Zfr.gr fq18 t_a0 (by decide)).trans e1079
        have e1106 := (Zfr.gr fq18 t_a0 (by decide)).trans e1080
        have e1107 := (Zfr.gr fq18 t_a0 (by decide)).trans e1081
        have e1108 := (Zfr.gr fq18 t_a0 (by decide)).trans e1082
        have e1109 := (Zfr.gi fq18 t_a0 (by decide)).trans e1083
        have e1110 := (Zfr.ai fq18 tksxc_710 (by decide)).trans e1084
        have e1111 := (Zfr.ai fq18 tklxc_710 (by decide)).trans e1085
        have e1112 := (Zfr.ai fq18 tkwxc_710 (by decide)).trans e1086
        have e1113 := (Zfr.gi fq18 t_a0 (by decide)).trans e1087
        have e1114 := (Zfr.ai fq18 tkgxc_710 (by decide)).trans e1088
        have e1115 := (Zfr.gi fq18 t_a0 (by decide)).trans e1089
        have e1116 := (Zfr.ai fq18 tkixc_710 (by decide)).trans e1090
        have e1117 := (Zfr.gi fq18 t_a0 (by decide)).trans e1091
        have e1118 := (Zfr.gr fq18 t_a0 (by decide)).trans e1092
        have e1119 := (Zfr.ai fq18 tkkq20 (by decide)).trans e1093
        have k1120 := GtP_fr k1094 fq18 t_a0 Wq42 (by decide)
        have sc1122 : Sc q42 q18.2 a0 (0) (0) := by
          obtain ⟨yf2, z0y, x0y, x1y, x2y, x3y⟩ := pbZSeq18
          exact Sc_mk h0ZSfq42 z0y e1091 ((Zfr.gi (ci := 12) fq18 t_a0 (by decide)).trans e1091) e1083 ((Zfr.gi (ci := 12) fq18 t_a0 (by decide)).trans e1083) (by omega)
        have k1121 := WyN_fr k1095 fq18 t_a0 Wq42 (by decide) sc1122
        have k1123 := TbI_fr k1097 fq18 t_a0 Wq42 (by decide) sc1122
        have k1124 := TbC_fr k1098 fq18 t_a0 Wq42 (by decide) sc1122
        have k1125 := TkN_fr k1099 fq18 t_a0 Wq42 (by decide)
        have F1126 := Zfr.tr F1100 fq18 (by decide)
        obtain ⟨bf2q18, h0ZSeq18, r0ZSeq18, r1ZSeq18, r2ZSeq18, r3ZSeq18⟩ := pbZSeq18
        obtain ⟨w_1143, ew_1143, lw_1143, uw_1143⟩ := gf_64_13 Wq18 t_a0
        exact ⟨_, rfl, Wq18, F1126, ⟨bpvxc_710, bf2q18, bt2q12, bd2xc_710, bksxc_710, bklxc_710, bkwxc_710, bnaxc_710, blbxc_710, bnwxc_710, bvnxc_710, bkgxc_710, bg2xc_710, bcd2xc_710, bkixc_710, bi2xc_710, w_1143, e1103, h0ZSeq18, e1117, e1109, e1104, e1105, e1106, e1110, e1111, e1112, e1113, e1107, e1114, e1115, e1108, e1116, ew_1143, tksxc_710, tklxc_710, tkwxc_710, tkgxc_710, tkixc_710, by (try dsimp only); omega, by (try dsimp only); omega, by (try dsimp only); omega, by (try dsimp only); omega, by (try dsimp only); omega, by (try dsimp only); omega, by (try dsimp only); omega, by (try dsimp only); omega, by (try dsimp only); omega, by (try dsimp only); omega, by (try dsimp only); omega, by (try dsimp only); omega, by (try dsimp only); omega, by (try dsimp only); omega, by (try dsimp only); omega, by (try dsimp only); omega, by (try dsimp only); omega, by (try dsimp only); omega, by (try dsimp only); omega, by (try dsimp only); omega, by (try dsimp only); omega, by (try dsimp only); omega, by (try dsimp only); omega, by (try dsimp only); omega, by (try dsimp only); omega, by (try dsimp only); omega, k1120, k1121, k1123, k1124, k1125⟩⟩

end ZzT
