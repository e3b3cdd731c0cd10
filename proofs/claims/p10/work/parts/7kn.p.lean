section ZzT
abbrev M_Mo_ended : List (Nat × Nat) := [(64, 19), (64, 20), (64, 21)]
set_option maxRecDepth 100000 in
set_option maxHeartbeats 400000 in
theorem p_Mo_ended {nf : Nat} (hn : 8589934592 ≤ nf) {G : List Nat} {c : Zc} (W : Zwt zty G c) {a0 : Nat} {a1 : Int32} {fv : Int32} {tv : Int32} (t_a0 : G[a0]? = some 64) (pl_fv : 0 ≤ fv.toInt) (pu_fv : fv.toInt ≤ 6) (pl_tv : 0 ≤ tv.toInt) (pu_tv : tv.toInt ≤ 200) (eh_fv : zgi c a0 12 19 = some fv) (eh_tv : zgi c a0 12 18 = some tv) : ∃ q, f_Mo_ended nf a0 a1 c = some q ∧ Zwt zty G q.2 ∧ Zfr G M_Mo_ended c q.2 ∧ ZSe G q.2 a0 fv a1 q.1 := by
  have F0 : Zfr G M_Mo_ended c c := Zfr.rf
  unfold f_Mo_ended
  refine wb eh_fv ?_
  refine wi (fun hq1 => ?_) (fun hq1 => ?_)
  · have := li_0
    have hq1 := i_eq hq1
    obtain ⟨w9, ew9⟩ := go_64 W t_a0
    refine wb ew9 ?_
    obtain ⟨q8, eq8, Wq8, fq8, pbZScq8, pbZkdq8⟩ := p_Mo_kind hn W  t_a0 (by omega) (by omega) (by omega) (by omega) eh_fv eh_tv
    refine wb eq8 ?_
    have e4 := (Zfr.gi fq8 t_a0 (by decide)).trans eh_tv
    have F5 := Zfr.tr F0 fq8 (by decide)
    obtain ⟨bf2q8, h0ZScq8, r0ZScq8, r1ZScq8, r2ZScq8, r3ZScq8⟩ := pbZScq8
    obtain ⟨bkkq8, h0Zkdq8, h1Zkdq8, tkkq8⟩ := pbZkdq8
    refine wi (fun hq6 => ?_) (fun hq6 => ?_)
    · have := i_ge q8.1
      have := i_up q8.1
      have hq6 := i_eq hq6
      unfold f_Mo_ended_18
      refine wb h0ZScq8 ?_
      refine wi (fun hq7 => ?_) (fun hq7 => ?_)
      · have hq7 := i_eq hq7
        exact ⟨_, rfl, Wq8, F5, ⟨bf2q8, h0ZScq8, by (try dsimp only); omega, by (try dsimp only); omega, by (try dsimp only); omega, by (try dsimp only); omega⟩⟩
      · have hq7 := i_ne hq7
        obtain ⟨v5, ev5, _⟩ := gf_64_20 Wq8 t_a0
        refine wb ev5 ?_
        obtain ⟨c6, ec6, Wc6, fc6, gc6⟩ := pf_64_21 Wq8 t_a0 (x := v5) (trivial)
        refine wb ec6 ?_
        have e9 := (Zfr.gi fc6 t_a0 (by decide)).trans h0ZScq8
        have F10 := Zfr.tr F5 fc6 (by decide)
        refine wb e9 ?_
        have := li_m10
        have := i_sub (a := (-10)) (b := bf2q8) (by omega) (by omega)
        exact ⟨_, rfl, Wc6, F10, ⟨bf2q8, e9, by (try dsimp only); omega, by (try dsimp only); omega, by (try dsimp only); omega, by (try dsimp only); omega⟩⟩
    · have := i_ge q8.1
      have := i_up q8.1
      have hq6 := i_ne hq6
      obtain ⟨w12, ew12⟩ := go_64 Wq8 t_a0
      refine wb ew12 ?_
      obtain ⟨q11, eq11, Wq11, fq11, pbZSfq11⟩ := p_Mo_wrong hn Wq8  t_a0 (by omega) (by omega) (by omega) (by omega) h0ZScq8 e4
      refine wb eq11 ?_
      have F14 := Zfr.tr F5 fq11 (by decide)
      obtain ⟨bf2q11, h0ZSfq11, r0ZSfq11, r1ZSfq11⟩ := pbZSfq11
      unfold f_Mo_ended_18
      refine wb h0ZSfq11 ?_
      refine wi (fun hq15 => ?_) (fun hq15 => ?_)
      · have hq15 := i_eq hq15
        exfalso
        omega
      · have hq15 := i_ne hq15
        obtain ⟨v5, ev5, _⟩ := gf_64_20 Wq11 t_a0
        refine wb ev5 ?_
        obtain ⟨c6, ec6, Wc6, fc6, gc6⟩ := pf_64_21 Wq11 t_a0 (x := v5) (trivial)
        refine wb ec6 ?_
        have e16 := (Zfr.gi fc6 t_a0 (by decide)).trans h0ZSfq11
        have F17 := Zfr.tr F14 fc6 (by decide)
        refine wb e16 ?_
        have := li_m10
        have := i_sub (a := (-10)) (b := bf2q11) (by omega) (by omega)
        exact ⟨_, rfl, Wc6, F17, ⟨bf2q11, e16, by (try dsimp only); omega, by (try dsimp only); omega, by (try dsimp only); omega, by (try dsimp only); omega⟩⟩
  · have := li_0
    have hq1 := i_ne hq1
    unfold f_Mo_ended_18
    refine wb eh_fv ?_
    refine wi (fun hq19 => ?_) (fun hq19 => ?_)
    · have hq19 := i_eq hq19
      exfalso
      omega
    · have hq19 := i_ne hq19
      obtain ⟨v5, ev5, _⟩ := gf_64_20 W t_a0
      refine wb ev5 ?_
      obtain ⟨c6, ec6, Wc6, fc6, gc6⟩ := pf_64_21 W t_a0 (x := v5) (trivial)
      refine wb ec6 ?_
      have e20 := (Zfr.gi fc6 t_a0 (by decide)).trans eh_fv
      have F21 := Zfr.tr F0 fc6 (by decide)
      refine wb e20 ?_
      have := li_m10
      have := i_sub (a := (-10)) (b := fv) (by omega) (by omega)
      exact ⟨_, rfl, Wc6, F21, ⟨fv, e20, by (try dsimp only); omega, by (try dsimp only); omega, by (try dsimp only); omega, by (try dsimp only); omega⟩⟩

abbrev M_Mo_readQuestion : List (Nat × Nat) := [(64, 13), (64, 17), (64, 18), (64, 19), (64, 20), (64, 21), (64, 25), (64, 52), (64, 53), (64, 56), (64, 57), (64, 65), (64, 69), (74, 0), (75, 0), (76, 0), (79, 0), (80, 0), (81, 0), (82, 0), (83, 0), (84, 0), (85, 0), (86, 0), (87, 0), (88, 0), (89, 0), (90, 0), (91, 0), (92, 0), (93, 0), (94, 0), (95, 0), (96, 0), (97, 0), (98, 0), (99, 0), (100, 0), (103, 0), (104, 0), (105, 0), (106, 0), (107, 0), (108, 0), (109, 0), (110, 0), (111, 0), (112, 0), (113, 0), (114, 0), (115, 0), (116, 0), (134, 0)]
set_option maxRecDepth 100000 in
set_option maxHeartbeats 4000000 in
theorem p_Mo_readQuestion {nf : Nat} (hn : 8589934592 ≤ nf) {G : List Nat} {c : Zc} (W : Zwt zty G c) {a0 : Nat}  (t_a0 : G[a0]? = some 64) (hb_Zwo : Zwo G c a0) : ∃ q, f_Mo_readQuestion nf a0 c = some q ∧ Zwt zty G q.2 ∧ Zfr G M_Mo_readQuestion c q.2 ∧ ZVk G q.2 a0 q.1 := by
  have F0 : Zfr G M_Mo_readQuestion c c := Zfr.rf
  unfold f_Mo_readQuestion
  obtain ⟨k0Zwo0, k1Zwo0⟩ := hb_Zwo
  obtain ⟨w2, ew2⟩ := go_64 W t_a0
  refine wb ew2 ?_
  obtain ⟨q1, eq1, Wq1, fq1, pbZVBq1⟩ := p_Mo_begin hn W  t_a0 ⟨k0Zwo0, k1Zwo0⟩
  refine wb eq1 ?_
  have F1 := Zfr.tr F0 fq1 (by decide)
  obtain ⟨bpvq1, bf2q1, bt2q1, bd2q1, bksq1, bklq1, bkwq1, bnaq1, blbq1, bnwq1, bvnq1, bkgq1, bg2q1, bcd2q1, bkiq1, bi2q1, btp2q1, h0ZVBq1, h1ZVBq1, h2ZVBq1, h3ZVBq1, h4ZVBq1, h5ZVBq1, h6ZVBq1, h7ZVBq1, h8ZVBq1, h9ZVBq1, h10ZVBq1, h11ZVBq1, h12ZVBq1, h13ZVBq1, h14ZVBq1, h15ZVBq1, h16ZVBq1, tksq1, tklq1, tkwq1, tkgq1, tkiq1, r0ZVBq1, r1ZVBq1, r2ZVBq1, r3ZVBq1, r4ZVBq1, r5ZVBq1, r6ZVBq1, r7ZVBq1, r8ZVBq1, r9ZVBq1, r10ZVBq1, r11ZVBq1, r12ZVBq1, k0ZVBq1, k1ZVBq1, k2ZVBq1, k3ZVBq1, k4ZVBq1⟩ := pbZVBq1
  obtain ⟨w4, ew4⟩ := go_64 Wq1 t_a0
  refine wb ew4 ?_
  have := li_0
  have := li_1
  obtain ⟨q3, eq3, Wq3, fq3, pbZVhq3⟩ := p_Mo_patterns hn Wq1 (ni := 0) (bc := 1) t_a0 (by omega) (by omega) (by omega) (by omega) (by omega) (by omega) (by omega) (by omega) (by omega) (by omega) (by omega) (by omega) h0ZVBq1 h1ZVBq1 h2ZVBq1 h3ZVBq1 h11ZVBq1 h12ZVBq1 h13ZVBq1 (by omega) ⟨bksq1, bklq1, bkwq1, bnaq1, blbq1, bnwq1, bvnq1, h0ZVBq1, h1ZVBq1, h2ZVBq1, h3ZVBq1, h4ZVBq1, h5ZVBq1, h6ZVBq1, h7ZVBq1, h8ZVBq1, h9ZVBq1, h10ZVBq1, tksq1, tklq1, tkwq1, by (try dsimp only); omega, by (try dsimp only); omega, by (try dsimp only); omega, by (try dsimp only); omega, by (try dsimp only); omega, by (try dsimp only); omega, by (try dsimp only); omega, by (try dsimp only); omega, by (try dsimp only); omega, by (try dsimp only); omega, by (try dsimp only); omega, by (try dsimp only); omega, by (try dsimp only); omega, by (try dsimp only); omega, by (try dsimp only); omega, by (try dsimp only); omega, by (try dsimp only); omega, by (try dsimp only); omega, k0ZVBq1, k1ZVBq1, k2ZVBq1, k3ZVBq1, k4ZVBq1⟩
  refine wb eq3 ?_
  have e20 := (Zfr.gi fq3 t_a0 (by decide)).trans h0ZVBq1
  have e21 := (Zfr.gr fq3 t_a0 (by decide)).trans h4ZVBq1
  have e22 := (Zfr.gr fq3 t_a0 (by decide)).trans h5ZVBq1
  have e23 := (Zfr.gr fq3 t_a0 (by decide)).trans h6ZVBq1
  have e24 := (Zfr.gr fq3 t_a0 (by decide)).trans h11ZVBq1
  have e25 := (Zfr.gr fq3 t_a0 (by decide)).trans h14ZVBq1
  have e26 := (Zfr.ai fq3 tkiq1 (by decide)).trans h15ZVBq1
  have e27 := (Zfr.gi fq3 t_a0 (by decide)).trans h16ZVBq1
  have F28 := Zfr.tr F1 fq3 (by decide)
  obtain ⟨bf2q3, bt2q3, bd2q3, bksq3, bklq3, bkwq3, bnaq3, blbq3, bnwq3, bvnq3, bkgq3, bg2q3, bcd2q3, h0ZVhq3, h1ZVhq3, h2ZVhq3, h3ZVhq3, h4ZVhq3, h5ZVhq3, h6ZVhq3, h7ZVhq3, h8ZVhq3, h9ZVhq3, h10ZVhq3, h11ZVhq3, h12ZVhq3, h13ZVhq3, tksq3, tklq3, tkwq3, tkgq3, r0ZVhq3, r1ZVhq3, r2ZVhq3, r3ZVhq3, r4ZVhq3, r5ZVhq3, r6ZVhq3, r7ZVhq3, r8ZVhq3, r9ZVhq3, r10ZVhq3, r11ZVhq3, r12ZVhq3, r13ZVhq3, r14ZVhq3, r15ZVhq3, r16ZVhq3, r17ZVhq3, r18ZVhq3, r19ZVhq3, r20ZVhq3, r21ZVhq3, r22ZVhq3, r23ZVhq3, k0ZVhq3, k1ZVhq3, k2ZVhq3, k3ZVhq3, k4ZVhq3⟩ := pbZVhq3
  refine wb h1ZVhq3 ?_
  refine wi (fun hq29 => ?_) (fun hq29 => ?_)
  · have hq29 := i_eq hq29
    obtain ⟨w45, ew45⟩ := go_64 Wq3 t_a0
    refine wb ew45 ?_
    obtain ⟨q44, eq44, Wq44, fq44, pbZViq44⟩ := p_Mo_item hn Wq3 (ni := 0) (bc := 1) t_a0 (by omega) (by omega) (by omega) (by omega) (by omega) (by omega) (by omega) (by omega) (by omega) (by omega) (by omega) (by omega) (by omega) (by omega) h0ZVhq3 h1ZVhq3 h2ZVhq3 h3ZVhq3 h11ZVhq3 h12ZVhq3 h13ZVhq3 e25 e26 (by omega) (by omega) (by omega) ⟨bksq3, bklq3, bkwq3, bnaq3, blbq3, bnwq3, bvnq3, h0ZVhq3, h1ZVhq3, h2ZVhq3, h3ZVhq3, h4ZVhq3, h5ZVhq3, h6ZVhq3, h7ZVhq3, h8ZVhq3, h9ZVhq3, h10ZVhq3, tksq3, tklq3, tkwq3, by (try dsimp only); omega, by (try dsimp only); omega, by (try dsimp only); omega, by (try dsimp only); omega, by (try dsimp only); omega, by (try dsimp only); omega, by (try dsimp only); omega, by (try dsimp only); omega, by (try dsimp only); omega, by (try dsimp only); omega, by (try dsimp only); omega, by (try dsimp only); omega, by (try dsimp only); omega, by (try dsimp only); omega, by (try dsimp only); omega, by (try dsimp only); omega, by (try dsimp only); omega, by (try dsimp only); omega, k0ZVhq3, k1ZVhq3, k2ZVhq3, k3ZVhq3, k4ZVhq3⟩
    refine wb eq44 ?_
    have e50 := (Zfr.gi fq44 t_a0 (by decide)).trans h0ZVhq3
    have e51 := (Zfr.gr fq44 t_a0 (by decide)).trans h4ZVhq3
    have e52 := (Zfr.gr fq44 t_a0 (by decide)).trans h5ZVhq3
    have e53 := (Zfr.gr fq44 t_a0 (by decide)).trans h6ZVhq3
    have e54 := (Zfr.gr fq44 t_a0 (by decide)).trans h11ZVhq3
    have e55 := (Zfr.gr fq44 t_a0 (by decide)).trans e25
    have e56 := (Zfr.gi fq44 t_a0 (by decide)).trans e27
    have F57 := Zfr.tr F28 fq44 (by decide)
    obtain ⟨bf2q44, bt2q44, bd2q44, bksq44, bklq44, bkwq44, bnaq44, blbq44, bnwq44, bvnq44, bkgq44, bg2q44, bcd2q44, bkiq44, bi2q44, h0ZViq44, h1ZViq44, h2ZViq44, h3ZViq44, h4ZViq44, h5ZViq44, h6ZViq44, h7ZViq44, h8ZViq44, h9ZViq44, h10ZViq44, h11ZViq44, h12ZViq44, h13ZViq44, h14ZViq44, h15ZViq44, tksq44, tklq44, tkwq44, tkgq44, tkiq44, r0ZViq44, r1ZViq44, r2ZViq44, r3ZViq44, r4ZViq44, r5ZViq44, r6ZViq44, r7ZViq44, r8ZViq44, r9ZViq44, r10ZViq44, r11ZViq44, r12ZViq44, r13ZViq44, r14ZViq44, r15ZViq44, r16ZViq44, r17ZViq44, r18ZViq44, r19ZViq44, r20ZViq44, r21ZViq44, r22ZViq44, r23ZViq44, r24ZViq44, r25ZViq44, k0ZViq44, k1ZViq44, k2ZViq44, k3ZViq44, k4ZViq44⟩ := pbZViq44
    unfold f_Mo_readQuestion_19
    have := vfi_e h2ZViq44
    have L59 : ∃ b, zlp (fun a : Nat × Zc => g_Mo_readQuestion_19 nf a.1 a.2) nf (a0, q44) = some b ∧ (fun b : (Nat × Zc) => a0 = b.1 ∧ Zwt zty G b.2 ∧ Zfr G ([(64, 18), (64, 19), (64, 20), (64, 52), (64, 53), (64, 56), (64, 57), (64, 65), (64, 69), (79, 0), (80, 0), (81, 0), (82, 0), (83, 0), (84, 0), (85, 0), (86, 0), (87, 0), (88, 0), (89, 0), (90, 0), (91, 0), (92, 0), (93, 0), (94, 0), (95, 0), (96, 0), (97, 0), (98, 0), (103, 0), (104, 0), (105, 0), (106, 0), (107, 0), (108, 0), (109, 0), (110, 0), (111, 0), (112, 0), (113, 0), (114, 0), (115, 0), (116, 0), (134, 0)] : List (Nat × Nat)) q44 b.2 ∧ ZVj G b.2 a0) b := by
      refine wlp (fun a : Nat × Zc => a0 = a.1 ∧ Zwt zty G a.2 ∧ Zfr G ([(64, 18), (64, 19), (64, 20), (64, 52), (64, 53), (64, 56), (64, 57), (64, 65), (64, 69), (79, 0), (80, 0), (81, 0), (82, 0), (83, 0), (84, 0), (85, 0), (86, 0), (87, 0), (88, 0), (89, 0), (90, 0), (91, 0), (92, 0), (93, 0), (94, 0), (95, 0), (96, 0), (97, 0), (98, 0), (103, 0), (104, 0), (105, 0), (106, 0), (107, 0), (108, 0), (109, 0), (110, 0), (111, 0), (112, 0), (113, 0), (114, 0), (115, 0), (116, 0), (134, 0)] : List (Nat × Nat)) q44 a.2 ∧ ZVj G a.2 a0) (fun a => (201 - vfi a.2 a0 18).toNat) (fun b : (Nat × Zc) => a0 = b.1 ∧ Zwt zty G b.2 ∧ Zfr G ([(64, 18), (64, 19), (64, 20), (64, 52), (64, 53), (64, 56), (64, 57), (64, 65), (64, 69), (79, 0), (80, 0), (81, 0), (82, 0), (83, 0), (84, 0), (85, 0), (86, 0), (87, 0), (88, 0), (89, 0), (90, 0), (91, 0), (92, 0), (93, 0), (94, 0), (95, 0), (96, 0), (97, 0), (98, 0), (103, 0), (104, 0), (105, 0), (106, 0), (107, 0), (108, 0), (109, 0), (110, 0), (111, 0), (112, 0), (113, 0), (114, 0), (115, 0), (116, 0), (134, 0)] : List (Nat × Nat)) q44 b.2 ∧ ZVj G b.2 a0) ?_ ?_ ?_
      · rintro ⟨x0_60, c_60⟩ hI
        try dsimp only at hI ⊢
        obtain ⟨rfl, WLc_60, FLc_60, hBZVj_60⟩ := hI
        have e61 := (Zfr.gi FLc_60 t_a0 (by decide)).trans h0ZViq44
        have e62 := (Zfr.gr FLc_60 t_a0 (by decide)).trans h4ZViq44
        have e63 := (Zfr.gr FLc_60 t_a0 (by decide)).trans h5ZViq44
        have e64 := (Zfr.gr FLc_60 t_a0 (by decide)).trans h6ZViq44
        have e65 := (Zfr.gr FLc_60 t_a0 (by decide)).trans h11ZViq44
        have e66 := (Zfr.gr FLc_60 t_a0 (by decide)).trans h14ZViq44
        have e67 := (Zfr.gi FLc_60 t_a0 (by decide)).trans e56
        obtain ⟨bpv_60, bf2_60, bt2_60, bd2_60, bks_60, bkl_60, bkw_60, bna_60, blb_60, bnw_60, bvn_60, bkg_60, bg2_60, bcd2_60, bki_60, bi2_60, h0ZVj_60, h1ZVj_60, h2ZVj_60, h3ZVj_60, h4ZVj_60, h5ZVj_60, h6ZVj_60, h7ZVj_60, h8ZVj_60, h9ZVj_60, h10ZVj_60, h11ZVj_60, h12ZVj_60, h13ZVj_60, h14ZVj_60, h15ZVj_60, tks_60, tkl_60, tkw_60, tkg_60, tki_60, r0ZVj_60, r1ZVj_60, r2ZVj_60, r3ZVj_60, r4ZVj_60, r5ZVj_60, r6ZVj_60, r7ZVj_60, r8ZVj_60, r9ZVj_60, r10ZVj_60, r11ZVj_60, r12ZVj_60, r13ZVj_60, r14ZVj_60, r15ZVj_60, r16ZVj_60, r17ZVj_60, r18ZVj_60, r19ZVj_60, r20ZVj_60, r21ZVj_60, r22ZVj_60, r23ZVj_60, r24ZVj_60, k0ZVj_60, k1ZVj_60, k2ZVj_60, k3ZVj_60, k4ZVj_60⟩ := hBZVj_60
        unfold g_Mo_readQuestion_19
        have := vfi_e h2ZVj_60
        obtain ⟨w8, ew8⟩ := go_64 WLc_60 t_a0
        refine wb ew8 ?_
        have := li_44
        obtain ⟨q7, eq7, Wq7, fq7, pl0q7, pu0q7, pbZSkq7⟩ := p_Mo_takes hn WLc_60 (a1 := 44) t_a0 (by omega) (by omega) (by omega) (by omega) h1ZVj_60 h2ZVj_60
        refine wb eq7 ?_
        have e71 := (Zfr.gi fq7 t_a0 (by decide)).trans h0ZVj_60
        have e72 := (Zfr.gr fq7 t_a0 (by decide)).trans h4ZVj_60
        have e73 := (Zfr.gr fq7 t_a0 (by decide)).trans h5ZVj_60
        have e74 := (Zfr.gr fq7 t_a0 (by decide)).trans h6ZVj_60
        have e75 := (Zfr.gr fq7 t_a0 (by decide)).trans h11ZVj_60
        have e76 := (Zfr.gr fq7 t_a0 (by decide)).trans h14ZVj_60
        have e77 := (Zfr.gi fq7 t_a0 (by decide)).trans e67
        have e78 := (Zfr.gi fq7 t_a0 (by decide)).trans h3ZVj_60
        have e79 := (Zfr.ai fq7 tks_60 (by decide)).trans h7ZVj_60
        have e80 := (Zfr.ai fq7 tkl_60 (by decide)).trans h8ZVj_60
        have e81 := (Zfr.ai fq7 tkw_60 (by decide)).trans h9ZVj_60
        have e82 := (Zfr.gi fq7 t_a0 (by decide)).trans h10ZVj_60
        have e83 := (Zfr.ai fq7 tkg_60 (by decide)).trans h12ZVj_60
        have e84 := (Zfr.gi fq7 t_a0 (by decide)).trans h13ZVj_60
        have e85 := (Zfr.ai fq7 tki_60 (by decide)).trans h15ZVj_60
        have k86 := GtP_fr k0ZVj_60 fq7 t_a0 WLc_60 (by decide)
        have sc88 : Sc c_60 q7.2 a0 (q7.1.toInt) (0) := by
          obtain ⟨yf2, yt2, z0y, z1y, x0y, x1y, x2y, x3y, x4y, x5y, x6y⟩ := pbZSkq7
          exact Sc_mk h1ZVj_60 z0y h2ZVj_60 z1y h3ZVj_60 ((Zfr.gi (ci := 12) fq7 t_a0 (by decide)).trans h3ZVj_60) (by omega)
        have k87 := WyN_fr k1ZVj_60 fq7 t_a0 WLc_60 (by decide) sc88
        have k89 := TbI_fr k2ZVj_60 fq7 t_a0 WLc_60 (by decide) sc88
        have k90 := TbC_fr k3ZVj_60 fq7 t_a0 WLc_60 (by decide) sc88
        have k91 := TkN_fr k4ZVj_60 fq7 t_a0 WLc_60 (by decide)
        have F92 := Zfr.tr FLc_60 fq7 (by decide)
        obtain ⟨bf2q7, bt2q7, h0ZSkq7, h1ZSkq7, r0ZSkq7, r1ZSkq7, r2ZSkq7, r3ZSkq7, r4ZSkq7, r5ZSkq7, r6ZSkq7⟩ := pbZSkq7
        refine wi (fun hq93 => ?_) (fun hq93 => ?_)
        · have hq93 := i_eq hq93
          exact lInr ⟨rfl, Wq7, F92, ⟨bpv_60, bf2q7, bt2q7, bd2_60, bks_60, bkl_60, bkw_60, bna_60, blb_60, bnw_60, bvn_60, bkg_60, bg2_60, bcd2_60, bki_60, bi2_60, e71, h0ZSkq7, h1ZSkq7, e78, e72, e73, e74, e79, e80, e81, e82, e75, e83, e84, e76, e85, tks_60, tkl_60, tkw_60, tkg_60, tki_60, by (try dsimp only); omega, by (try dsimp only); omega, by (try dsimp only); omega, by (try dsimp only); omega, by (try dsimp only); omega, by (try dsimp only); omega, by (try dsimp only); omega, by (try dsimp only); omega, by (try dsimp only); omega, by (try dsimp only); omega, by (try dsimp only); omega, by (try dsimp only); omega, by (try dsimp only); omega, by (try dsimp only); omega, by (try dsimp only); omega, by (try dsimp only); omega, by (try dsimp only); omega, by (try dsimp only); omega, by (try dsimp only); omega, by (try dsimp only); omega, by (try dsimp only); omega, by (try dsimp only); omega, by (try dsimp only); omega, by (try dsimp only); omega, by (try dsimp only); omega, k86, k87, k89, k90, k91⟩⟩
        · have hq93 := i_ne hq93
          obtain ⟨w11, ew11⟩ := go_64 Wq7 t_a0
          refine wb ew11 ?_
          obtain ⟨q10, eq10, Wq10, fq10, pbZViq10⟩ := p_Mo_item hn Wq7 (ni := bi2_60) (bc := 1) t_a0 (by omega) (by omega) (by omega) (by omega) (by omega) (by omega) (by omega) (by omega) (by omega) (by omega) (by omega) (by omega) (by omega) (by omega) e71 h0ZSkq7 h1ZSkq7 e78 e75 e83 e84 e76 e85 (by omega) (by omega) (by omega) ⟨bks_60, bkl_60, bkw_60, bna_60, blb_60, bnw_60, bvn_60, e71, h0ZSkq7, h1ZSkq7, e78, e72, e73, e74, e79, e80, e81, e82, tks_60, tkl_60, tkw_60, by (try dsimp only); omega, by (try dsimp only); omega, by (try dsimp only); omega, by (try dsimp only); omega, by (try dsimp only); omega, by (try dsimp only); omega, by (try dsimp only); omega, by (try dsimp only); omega, by (try dsimp only); omega, by (try dsimp only); omega, by (try dsimp only); omega, by (try dsimp only); omega, by (try dsimp only); omega, by (try dsimp only); omega, by (try dsimp only); omega, by (try dsimp only); omega, by (try dsimp only); omega, by (try dsimp only); omega, k86, k87, k89, k90, k91⟩
          refine wb eq10 ?_
          have e130 := (Zfr.gi fq10 t_a0 (by decide)).trans e71
          have e131 := (Zfr.gr fq10 t_a0 (by decide)).trans e72
          have e132 := (Zfr.gr fq10 t_a0 (by decide)).trans e73
          have e133 := (Zfr.gr fq10 t_a0 (by decide)).trans e74
          have e134 := (Zfr.gr fq10 t_a0 (by decide)).trans e75
          have e135 := (Zfr.gr fq10 t_a0 (by decide)).trans e76
          have e136 := (Zfr.gi fq10 t_a0 (by decide)).trans e77
          have F137 := Zfr.tr F92 fq10 (by decide)
          obtain ⟨bf2q10, bt2q10, bd2q10, bksq10, bklq10, bkwq10, bnaq10, blbq10, bnwq10, bvnq10, bkgq10, bg2q10, bcd2q10, bkiq10, bi2q10, h0ZViq10, h1ZViq10, h2ZViq10, h3ZViq10, h4ZViq10, h5ZViq10, h6ZViq10, h7ZViq10, h8ZViq10, h9ZViq10, h10ZViq10, h11ZViq10, h12ZViq10, h13ZViq10, h14ZViq10, h15ZViq10, tksq10, tklq10, tkwq10, tkgq10, tkiq10, r0ZViq10, r1ZViq10, r2ZViq10, r3ZViq10, r4ZViq10, r5ZViq10, r6ZViq10, r7ZViq10, r8ZViq10, r9ZViq10, r10ZViq10, r11ZViq10, r12ZViq10, r13ZViq10, r14ZViq10, r15ZViq10, r16ZViq10, r17ZViq10, r18ZViq10, r19ZViq10, r20ZViq10, r21ZViq10, r22ZViq10, r23ZViq10, r24ZViq10, r25ZViq10, k0ZViq10, k1ZViq10, k2ZViq10, k3ZViq10, k4ZViq10⟩ := pbZViq10
          have := vfi_e h2ZViq10
          exact lInl ⟨rfl, Wq10, F137, ⟨bpv_60, bf2q10, bt2q10, bd2q10, bksq10, bklq10, bkwq10, bnaq10, blbq10, bnwq10, bvnq10, bkgq10, bg2q10, bcd2q10, bkiq10, bi2q10, h0ZViq10, h1ZViq10, h2ZViq10, h3ZViq10, h4ZViq10, h5ZViq10, h6ZViq10, h7ZViq10, h8ZViq10, h9ZViq10, h10ZViq10, h11ZViq10, h12ZViq10, h13ZViq10, h14ZViq10, h15ZViq10, tksq10, tklq10, tkwq10, tkgq10, tkiq10, by (try dsimp only); omega, by (try dsimp only); omega, by (try dsimp only); omega, by (try dsimp only); omega, by (try dsimp only); omega, by (try dsimp only); omega, by (try dsimp only); omega, by (try dsimp only); omega, by (try dsimp only); omega, by (try dsimp only); omega, by (try dsimp only); omega, by (try dsimp only); omega, by (try dsimp only); omega, by (try dsimp only); omega, by (try dsimp only); omega, by (try dsimp only); omega, by (try dsimp only); omega, by (try dsimp only); omega, by (try dsimp only); omega, by (try dsimp only); omega, by (try dsimp only); omega, by (try dsimp only); omega, by (try dsimp only); omega, by (try dsimp only); omega, by (try dsimp only); omega, k0ZViq10, k1ZViq10, k2ZViq10, k3ZViq10, k4ZViq10⟩⟩ (by (try dsimp only); omega)
      · exact ⟨rfl, Wq44, Zfr.rf, ⟨bpvq1, bf2q44, bt2q44, bd2q44, bksq44, bklq44, bkwq44, bnaq44, blbq44, bnwq44, bvnq44, bkgq44, bg2q44, bcd2q44, bkiq44, bi2q44, h0ZViq44, h1ZViq44, h2ZViq44, h3ZViq44, h4ZViq44, h5ZViq44, h6ZViq44, h7ZViq44, h8ZViq44, h9ZViq44, h10ZViq44, h11ZViq44, h12ZViq44, h13ZViq44, h14ZViq44, h15ZViq44, tksq44, tklq44, tkwq44, tkgq44, tkiq44, by (try dsimp only); omega, by (try dsimp only); omega, by (try dsimp only); omega, by (try dsimp only); omega, by (try dsimp only); omega, by (try dsimp only); omega, by (try dsimp only); omega, by (try dsimp only); omega, by (try dsimp only); omega, by (try dsimp only); omega, by (try dsimp only); omega, by (try dsimp only); omega, by (try dsimp only); omega, by (try dsimp only); omega, by (try dsimp only); omega, by (try dsimp only); omega, by (try dsimp only); omega, by (try dsimp only); omega, by (try dsimp only); omega, by (try dsimp only); omega, by (try dsimp only); omega, by (try dsimp only); omega, by (try dsimp only); omega, by (try dsimp only); omega, by (try dsimp only); omega, k0ZViq44, k1ZViq44, k2ZViq44, k3ZViq44, k4ZViq44⟩⟩
      · (try dsimp only); omega
    obtain ⟨b, eb, hb⟩ := L59
    refine wb eb ?_
    clear eb
    obtain ⟨z0_171, c_171⟩ := b
    try dsimp only at hb ⊢
    obtain ⟨rfl, WXc_171, FXc_171, hXZVjc_171⟩ := hb
    have e172 := (Zfr.gi FXc_171 t_a0 (by decide)).trans h0ZViq44
    have e173 := (Zfr.gr FXc_171 t_a0 (by decide)).trans h4ZViq44
    have e174 := (Zfr.gr FXc_171 t_a0 (by decide)).trans h5ZViq44
    have e175 := (Zfr.gr FXc_171 t_a0 (by decide)).trans h6ZViq44
    have e176 := (Zfr.gr FXc_171 t_a0 (by decide)).trans h11ZViq44
    have e177 := (Zfr.gr FXc_171 t_a0 (by decide)).trans h14ZViq44
    have e178 := (Zfr.gi FXc_171 t_a0 (by decide)).trans e56
    have F179 := Zfr.tr F57 FXc_171 (by decide)
    obtain ⟨bpvxc_171, bf2xc_171, bt2xc_171, bd2xc_171, bksxc_171, bklxc_171, bkwxc_171, bnaxc_171, blbxc_171, bnwxc_171, bvnxc_171, bkgxc_171, bg2xc_171, bcd2xc_171, bkixc_171, bi2xc_171, h0ZVjxc_171, h1ZVjxc_171, h2ZVjxc_171, h3ZVjxc_171, h4ZVjxc_171, h5ZVjxc_171, h6ZVjxc_171, h7ZVjxc_171, h8ZVjxc_171, h9ZVjxc_171, h10ZVjxc_171, h11ZVjxc_171, h12ZVjxc_171, h13ZVjxc_171, h14ZVjxc_171, h15ZVjxc_171, tksxc_171, tklxc_171, tkwxc_171, tkgxc_171, tkixc_171, r0ZVjxc_171, r1ZVjxc_171, r2ZVjxc_171, r3ZVjxc_171, r4ZVjxc_171, r5ZVjxc_171, r6ZVjxc_171, r7ZVjxc_171, r8ZVjxc_171, r9ZVjxc_171, r10ZVjxc_171, r11ZVjxc_171, r12ZVjxc_171, r13ZVjxc_171, r14ZVjxc_171, r15ZVjxc_171, r16ZVjxc_171, r17ZVjxc_171, r18ZVjxc_171, r19ZVjxc_171, r20ZVjxc_171, r21ZVjxc_171, r22ZVjxc_171, r23ZVjxc_171, r24ZVjxc_171, k0ZVjxc_171, k1ZVjxc_171, k2ZVjxc_171, k3ZVjxc_171, k4ZVjxc_171⟩ := hXZVjc_171
    obtain ⟨w13, ew13⟩ := go_64 WXc_171 t_a0
    refine wb ew13 ?_
    have := li_103
    obtain ⟨q12, eq12, Wq12, fq12, pl0q12, pu0q12, pbZSkq12⟩ := p_Mo_takes hn WXc_171 (a1 := 103) t_a0 (by omega) (by omega) (by omega) (by omega) h1ZVjxc_171 h2ZVjxc_171
    refine wb eq12 ?_
    have e182 := (Zfr.gi fq12 t_a0 (by decide)).trans h0ZVjxc_171
    have e183 := (Zfr.gr fq12 t_a0 (by decide)).trans h4ZVjxc_171
    have e184 := (Zfr.gr fq12 t_a0 (by decide)).trans h5ZVjxc_171
    have e185 := (Zfr.gr fq12 t_a0 (by decide)).trans h6ZVjxc_171
    have e186 := (Zfr.gr fq12 t_a0 (by decide)).trans h11ZVjxc_171
    have e187 := (Zfr.gr fq12 t_a0 (by decide)).trans h14ZVjxc_171
    have e188 := (Zfr.gi fq12 t_a0 (by decide)).trans e178
    have e189 := (Zfr.gi fq12 t_a0 (by decide)).trans h3ZVjxc_171
    have e190 := (Zfr.ai fq12 tksxc_171 (by decide)).trans h7ZVjxc_171
    have e191 := (Zfr.ai fq12 tklxc_171 (by decide)).trans h8ZVjxc_171
    have e192 := (Zfr.ai fq12 tkwxc_171 (by decide)).trans h9ZVjxc_171
    have e193 := (Zfr.gi fq12 t_a0 (by decide)).trans h10ZVjxc_171
    have e194 := (Zfr.ai fq12 tkgxc_171 (by decide)).trans h12ZVjxc_171
    have e195 := (Zfr.gi fq12 t_a0 (by decide)).trans h13ZVjxc_171
    have e196 := (Zfr.ai fq12 tkixc_171 (by decide)).trans h15ZVjxc_171
    have k197 := GtP_fr k0ZVjxc_171 fq12 t_a0 WXc_171 (by decide)
    have sc199 : Sc c_171 q12.2 a0 (q12.1.toInt) (0) := by
      obtain ⟨yf2, yt2, z0y, z1y, x0y, x1y, x2y, x3y, x4y, x5y, x6y⟩ := pbZSkq12
      exact Sc_mk h1ZVjxc_171 z0y h2ZVjxc_171 z1y h3ZVjxc_171 ((Zfr.gi (ci := 12) fq12 t_a0 (by decide)).trans h3ZVjxc_171) (by omega)
    have k198 := WyN_fr k1ZVjxc_171 fq12 t_a0 WXc_171 (by decide) sc199
    have k200 := TbI_fr k2ZVjxc_171 fq12 t_a0 WXc_171 (by decide) sc199
    have k201 := TbC_fr k3ZVjxc_171 fq12 t_a0 WXc_171 (by decide) sc199
    have k202 := TkN_fr k4ZVjxc_171 fq12 t_a0 WXc_171 (by decide)
    have F203 := Zfr.tr F179 fq12 (by decide)
    obtain ⟨bf2q12, bt2q12, h0ZSkq12, h1ZSkq12, r0ZSkq12, r1ZSkq12, r2ZSkq12, r3ZSkq12, r4ZSkq12, r5ZSkq12, r6ZSkq12⟩ := pbZSkq12
    refine wi (fun hq204 => ?_) (fun hq204 => ?_)
    · have hq204 := i_eq hq204
      unfold f_Mo_readQuestion_113
      refine wb e187 ?_
      refine wb e182 ?_
      refine wb e196 ?_
      obtain ⟨w19, ew19⟩ := go_64 Wq12 t_a0
      refine wb ew19 ?_
      obtain ⟨q18, eq18, Wq18, fq18, pbZSeq18⟩ := p_Mo_ended hn Wq12 (a1 := bi2xc_171) t_a0 (by omega) (by omega) (by omega) (by omega) h0ZSkq12 h1ZSkq12
      refine wb eq18 ?_
      have e207 := (Zfr.gi fq18 t_a0 (by decide)).trans e182
      have e208 := (Zfr.gr fq18 t_a0 (by decide)).trans e183
      have e209 := (Zfr.gr fq18 t_a0 (by decide)).trans e184
      have e210 := (Zfr.gr fq18 t_a0 (by decide)).trans e185
      have e211 := (Zfr.gr fq18 t_a0 (by decide)).trans e186
      have e212 := (Zfr.gr fq18 t_a0 (by decide)).trans e187
      have e213 := (Zfr.gi fq18 t_a0 (by decide)).trans e188
      have e214 := (Zfr.gi fq18 t_a0 (by decide)).trans e189
      have e215 := (Zfr.ai fq18 tksxc_171 (by decide)).trans e190
      have e216 := (Zfr.ai fq18 tklxc_171 (by decide)).trans e191
      have e217 := (Zfr.ai fq18 tkwxc_171 (by decide)).trans e192
      have e218 := (Zfr.gi fq18 t_a0 (by decide)).trans e193
      have e219 := (Zfr.ai fq18 tkgxc_171 (by decide)).trans e194
      have e220 := (Zfr.gi fq18 t_a0 (by decide)).trans e195
      have e221 := (Zfr.ai fq18 tkixc_171 (by decide)).trans e196
      have e222 := (Zfr.gi fq18 t_a0 (by decide)).trans h1ZSkq12
      have k223 := GtP_fr k197 fq18 t_a0 Wq12 (by decide)
      have sc225 : Sc q12.2 q18.2 a0 (0) (0) := by
        obtain ⟨yf2, z0y, x0y, x1y, x2y, x3y⟩ := pbZSeq18
        exact Sc_mk h0ZSkq12 z0y h1ZSkq12 ((Zfr.gi (ci := 12) fq18 t_a0 (by decide)).trans h1ZSkq12) e189 ((Zfr.gi (ci := 12) fq18 t_a0 (by decide)).trans e189) (by omega)
      have k224 := WyN_fr k198 fq18 t_a0 Wq12 (by decide) sc225
      have k226 := TbI_fr k200 fq18 t_a0 Wq12 (by decide) sc225
      have k227 := TbC_fr k201 fq18 t_a0 Wq12 (by decide) sc225
      have k228 := TkN_fr k202 fq18 t_a0 Wq12 (by decide)
      have F229 := Zfr.tr F203 fq18 (by decide)
      obtain ⟨bf2q18, h0ZSeq18, r0ZSeq18, r1ZSeq18, r2ZSeq18, r3ZSeq18⟩ := pbZSeq18
      exact ⟨_, rfl, Wq18, F229, ⟨bpvxc_171, bf2q18, bt2q12, bd2xc_171, bksxc_171, bklxc_171, bkwxc_171, bnaxc_171, blbxc_171, bnwxc_171, bvnxc_171, bkgxc_171, bg2xc_171, bcd2xc_171, bkixc_171, bi2xc_171, btp2q1, e207, h0ZSeq18, e222, e214, e208, e209, e210, e215, e216, e217, e218, e211, e219, e220, e212, e221, e213, tksxc_171, tklxc_171, tkwxc_171, tkgxc_171, tkixc_171, by (try dsimp only); omega, by (try dsimp only); omega, by (try dsimp only); omega, by (try dsimp only); omega, by (try dsimp only); omega, by (try dsimp only); omega, by (try dsimp only); omega, by (try dsimp only); omega, by (try dsimp only); omega, by (try dsimp only); omega, by (try dsimp only); omega, by (try dsimp only); omega, by (try dsimp only); omega, by (try dsimp only); omega, by (try dsimp only); omega, by (try dsimp only); omega, by (try dsimp only); omega, by (try dsimp only); omega, by (try dsimp only); omega, by (try dsimp only); omega, by (try dsimp only); omega, by (try dsimp only); omega, by (try dsimp only); omega, by (try dsimp only); omega, by (try dsimp only); omega, by (try dsimp only); omega, k223, k224, k226, k227, k228⟩⟩
    · have hq204 := i_ne hq204
      obtain ⟨w21, ew21⟩ := go_64 Wq12 t_a0
      refine wb ew21 ?_
      obtain ⟨q20, eq20, Wq20, fq20, pbZScq20, pbZkdq20⟩ := p_Mo_kind hn Wq12  t_a0 (by omega) (by omega) (by omega) (by omega) h0ZSkq12 h1ZSkq12
      refine wb eq20 ?_
      have e249 := (Zfr.gi fq20 t_a0 (by decide)).trans e182
      have e250 := (Zfr.gr fq20 t_a0 (by decide)).trans e183
      have e251 := (Zfr.gr fq20 t_a0 (by decide)).trans e184
      have e252 := (Zfr.gr fq20 t_a0 (by decide)).trans e185
      have e253 := (Zfr.gr fq20 t_a0 (by decide)).trans e186
      have e254 := (Zfr.gr fq20 t_a0 (by decide)).trans e187
      have e255 := (Zfr.gi fq20 t_a0 (by decide)).trans e188
      have e256 := (Zfr.gi fq20 t_a0 (by decide)).trans e189
      have e257 := (Zfr.ai fq20 tksxc_171 (by decide)).trans e190
      have e258 := (Zfr.ai fq20 tklxc_171 (by decide)).trans e191
      have e259 := (Zfr.ai fq20 tkwxc_171 (by decide)).trans e192
      have e260 := (Zfr.gi fq20 t_a0 (by decide)).trans e193
      have e261 := (Zfr.ai fq20 tkgxc_171 (by decide)).trans e194
      have e262 := (Zfr.gi fq20 t_a0 (by decide)).trans e195
      have e263 := (Zfr.ai fq20 tkixc_171 (by decide)).trans e196
      have e264 := (Zfr.gi fq20 t_a0 (by decide)).trans h1ZSkq12
      have k265 := GtP_fr k197 fq20 t_a0 Wq12 (by decide)
      have sc267 : Sc q12.2 q20.2 a0 (0) (0) := by
        obtain ⟨yf2, z0y, x0y, x1y, x2y, x3y⟩ := pbZScq20
        exact Sc_mk h0ZSkq12 z0y h1ZSkq12 ((Zfr.gi (ci := 12) fq20 t_a0 (by decide)).trans h1ZSkq12) e189 ((Zfr.gi (ci := 12) fq20 t_a0 (by decide)).trans e189) (by omega)
      have k266 := WyN_fr k198 fq20 t_a0 Wq12 (by decide) sc267
      have k268 := TbI_fr k200 fq20 t_a0 Wq12 (by decide) sc267
      have k269 := TbC_fr k201 fq20 t_a0 Wq12 (by decide) sc267
      have k270 := TkN_fr k202 fq20 t_a0 Wq12 (by decide)
      have F271 := Zfr.tr F203 fq20 (by decide)
      obtain ⟨bf2q20, h0ZScq20, r0ZScq20, r1ZScq20, r2ZScq20, r3ZScq20⟩ := pbZScq20
      obtain ⟨bkkq20, h0Zkdq20, h1Zkdq20, tkkq20⟩ := pbZkdq20
      refine wi (fun hq272 => ?_) (fun hq272 => ?_)
      · have := li_6
        have := i_ge q20.1
        have := i_up q20.1
        have hq272 := i_eq hq272
        obtain ⟨w24, ew24⟩ := go_64 Wq20 t_a0
        refine wb ew24 ?_
        obtain ⟨q23, eq23, Wq23, fq23, pbZStq23⟩ := p_Mo_stands hn Wq20  t_a0 (by omega) (by omega) (by omega) (by omega) h0ZScq20 e264
        refine wb eq23 ?_
        have e275 := (Zfr.gi fq23 t_a0 (by decide)).trans e249
        have e276 := (Zfr.gr fq23 t_a0 (by decide)).trans e250
        have e277 := (Zfr.gr fq23 t_a0 (by decide)).trans e251
        have e278 := (Zfr.gr fq23 t_a0 (by decide)).trans e252
        have e279 := (Zfr.gr fq23 t_a0 (by decide)).trans e253
        have e280 := (Zfr.gr fq23 t_a0 (by decide)).trans e254
        have e281 := (Zfr.gi fq23 t_a0 (by decide)).trans e255
        have e282 := (Zfr.gi fq23 t_a0 (by decide)).trans e256
        have e283 := (Zfr.ai fq23 tksxc_171 (by decide)).trans e257
        have e284 := (Zfr.ai fq23 tklxc_171 (by decide)).trans e258
        have e285 := (Zfr.ai fq23 tkwxc_171 (by decide)).trans e259
        have e286 := (Zfr.gi fq23 t_a0 (by decide)).trans e260
        have e287 := (Zfr.ai fq23 tkgxc_171 (by decide)).trans e261
        have e288 := (Zfr.gi fq23 t_a0 (by decide)).trans e262
        have e289 := (Zfr.ai fq23 tkixc_171 (by decide)).trans e263
        have e290 := (Zfr.gi fq23 t_a0 (by decide)).trans e264
        have e291 := (Zfr.gr fq23 t_a0 (by decide)).trans h0Zkdq20
        have e292 := (Zfr.ai fq23 tkkq20 (by decide)).trans h1Zkdq20
        have k293 := GtP_fr k265 fq23 t_a0 Wq20 (by decide)
        have sc295 : Sc q20.2 q23 a0 (0) (0) := by
          obtain ⟨yf2, z0y, x0y, x1y, x2y⟩ := pbZStq23
          exact Sc_mk h0ZScq20 z0y e264 ((Zfr.gi (ci := 12) fq23 t_a0 (by decide)).trans e264) e256 ((Zfr.gi (ci := 12) fq23 t_a0 (by decide)).trans e256) (by omega)
        have k294 := WyN_fr k266 fq23 t_a0 Wq20 (by decide) sc295
        have k296 := TbI_fr k268 fq23 t_a0 Wq20 (by decide) sc295
        have k297 := TbC_fr k269 fq23 t_a0 Wq20 (by decide) sc295
        have k298 := TkN_fr k270 fq23 t_a0 Wq20 (by decide)
        have F299 := Zfr.tr F271 fq23 (by decide)
        obtain ⟨bf2q23, h0ZStq23, r0ZStq23, r1ZStq23, r2ZStq23⟩ := pbZStq23
        obtain ⟨v25, ev25, tv25⟩ := gf_64_15 Wq23 t_a0
        refine wb ev25 ?_
        refine wb e290 ?_
        obtain ⟨v27, ev27, _⟩ := ga_75 Wq23 tv25 (i := bt2q12) (by omega) (by omega)
        have ht300 := TkM_at (k298 _ _ e291 ev25) e292 ev27
        have := tkr6 ht300 (by omega)
        refine wb ev27 ?_
        refine wi (fun hq301 => ?_) (fun hq301 => ?_)
        · have hq301 := i_eq hq301
          obtain ⟨v37, ev37, tv37⟩ := gf_64_16 Wq23 t_a0
          refine wb ev37 ?_
          refine wb e290 ?_
          obtain ⟨v39, ev39, _⟩ := ga_76 Wq23 tv37 (i := bt2q12) (by omega) (by omega)
          refine wb ev39 ?_
          obtain ⟨w41, ew41⟩ := go_64 Wq23 t_a0
          refine wb ew41 ?_
          obtain ⟨q40, eq40, Wq40, fq40, pbZSfq40⟩ := p_Mo_refuse hn Wq23 (a1 := 6) (a2 := v39) t_a0 (by omega) (by omega) (by omega) (by omega) h0ZStq23
          refine wb eq40 ?_
          have e303 := (Zfr.gi fq40 t_a0 (by decide)).trans e275
          have e304 := (Zfr.gr fq40 t_a0 (by decide)).trans e276
          have e305 := (Zfr.gr fq40 t_a0 (by decide)).trans e277
          have e306 := (Zfr.gr fq40 t_a0 (by decide)).trans e278
          have e307 := (Zfr.gr fq40 t_a0 (by decide)).trans e279
          have e308 := (Zfr.gr fq40 t_a0 (by decide)).trans e280
          have e309 := (Zfr.gi fq40 t_a0 (by decide)).trans e281
          have e310 := (Zfr.gi fq40 t_a0 (by decide)).trans e282
          have e311 := (Zfr.ai fq40 tksxc_171 (by decide)).trans e283
          have e312 := (Zfr.ai fq40 tklxc_171 (by decide)).trans e284
          have e313 := (Zfr.ai fq40 tkwxc_171 (by decide)).trans e285
          have e314 := (Zfr.gi fq40 t_a0 (by decide)).trans e286
          have e315 := (Zfr.ai fq40 tkgxc_171 (by decide)).trans e287
          have e316 := (Zfr.gi fq40 t_a0 (by decide)).trans e288
          have e317 := (Zfr.ai fq40 tkixc_171 (by decide)).trans e289
          have e318 := (Zfr.gi fq40 t_a0 (by decide)).trans e290
          have e319 := (Zfr.gr fq40 t_a0 (by decide)).trans e291
          have e320 := (Zfr.ai fq40 tkkq20 (by decide)).trans e292
          have e321 := (Zfr.gr fq40 t_a0 (by decide)).trans ev25
          have e322 := (Zfr.ai fq40 tv25 (by decide)).trans ev27
          have e323 := (Zfr.ai fq40 tv37 (by decide)).trans ev39
          have k324 := GtP_fr k293 fq40 t_a0 Wq23 (by decide)
          have sc326 : Sc q23 q40 a0 (0) (0) := by
            obtain ⟨yf2, z0y, x0y, x1y⟩ := pbZSfq40
            exact Sc_mk h0ZStq23 z0y e290 ((Zfr.gi (ci := 12) fq40 t_a0 (by decide)).trans e290) e282 ((Zfr.gi (ci := 12) fq40 t_a0 (by decide)).trans e282) (by omega)
          have k325 := WyN_fr k294 fq40 t_a0 Wq23 (by decide) sc326
          have k327 := TbI_fr k296 fq40 t_a0 Wq23 (by decide) sc326
          have k328 := TbC_fr k297 fq40 t_a0 Wq23 (by decide) sc326
          have k329 := TkN_fr k298 fq40 t_a0 Wq23 (by decide)
          have F330 := Zfr.tr F299 fq40 (by decide)
          obtain ⟨bf2q40, h0ZSfq40, r0ZSfq40, r1ZSfq40⟩ := pbZSfq40
          unfold f_Mo_readQuestion_91
          obtain ⟨v29, ev29, tv29⟩ := gf_64_47 Wq40 t_a0
          refine wb ev29 ?_
          refine wb e303 ?_
          refine wb e321 ?_
          refine wb e318 ?_
          refine wb e322 ?_
          obtain ⟨c34, ec34, Wc34, fc34, gc34⟩ := pa_100 Wq40 tv29 (i := bpvxc_171) (by omega) (by omega) (x := v27) (rgi (by omega) (by omega))
          refine wb ec34 ?_
          have e331 := (Zfr.gi fc34 t_a0 (by decide)).trans e303
          have e332 := (Zfr.gr fc34 t_a0 (by decide)).trans e304
          have e333 := (Zfr.gr fc34 t_a0 (by decide)).trans e305
          have e334 := (Zfr.gr fc34 t_a0 (by decide)).trans e306
          have e335 := (Zfr.gr fc34 t_a0 (by decide)).trans e307
          have e336 := (Zfr.gr fc34 t_a0 (by decide)).trans e308
          have e337 := (Zfr.gi fc34 t_a0 (by decide)).trans e309
          have e338 := (Zfr.gi fc34 t_a0 (by decide)).trans e310
          have e339 := (Zfr.ai fc34 tksxc_171 (by decide)).trans e311
          have e340 := (Zfr.ai fc34 tklxc_171 (by decide)).trans e312
          have e341 := (Zfr.ai fc34 tkwxc_171 (by decide)).trans e313
          have e342 := (Zfr.gi fc34 t_a0 (by decide)).trans e314
          have e343 := (Zfr.ai fc34 tkgxc_171 (by decide)).trans e315
          have e344 := (Zfr.gi fc34 t_a0 (by decide)).trans e316
          have e345 := (Zfr.ai fc34 tkixc_171 (by decide)).trans e317
          have e346 := (Zfr.gi fc34 t_a0 (by decide)).trans e318
          have e347 := (Zfr.gr fc34 t_a0 (by decide)).trans e319
          have e348 := (Zfr.ai fc34 tkkq20 (by decide)).trans e320
          have e349 := (Zfr.gr fc34 t_a0 (by decide)).trans e321
          have e350 := (Zfr.ai fc34 tv25 (by decide)).trans e322
          have e351 := (Zfr.ai fc34 tv37 (by decide)).trans e323
          have e352 := (Zfr.gi fc34 t_a0 (by decide)).trans h0ZSfq40
          have e353 := (Zfr.gr fc34 t_a0 (by decide)).trans ev29
          have k354 := GtP_fr k324 fc34 t_a0 Wq40 (by decide)
          have sc356 := Sc_fr fc34 t_a0 (by decide) (by decide) (by decide)
          have k355 := WyN_fr k325 fc34 t_a0 Wq40 (by decide) sc356
          have k357 := TbI_fr k327 fc34 t_a0 Wq40 (by decide) sc356
          have k358 := TbC_fr k328 fc34 t_a0 Wq40 (by decide) sc356
          have k359 := TkN_fr k329 fc34 t_a0 Wq40 (by decide)
          have F360 := Zfr.tr F330 fc34 (by decide)
          obtain ⟨w36, ew36⟩ := go_64 Wc34 t_a0
          refine wb ew36 ?_
          obtain ⟨q35, eq35, Wq35, fq35, pbZSq35⟩ := p_Mo_pass hn Wc34  t_a0 (by omega) (by omega) (by omega) (by omega) e352 e346
          refine wb eq35 ?_
          have e363 := (Zfr.gi fq35 t_a0 (by decide)).trans e331
          have e364 := (Zfr.gr fq35 t_a0 (by decide)).trans e332
          have e365 := (Zfr.gr fq35 t_a0 (by decide)).trans e333
          have e366 := (Zfr.gr fq35 t_a0 (by decide)).trans e334
          have e367 := (Zfr.gr fq35 t_a0 (by decide)).trans e335
          have e368 := (Zfr.gr fq35 t_a0 (by decide)).trans e336
          have e369 := (Zfr.gi fq35 t_a0 (by decide)).trans e337
          have e370 := (Zfr.gi fq35 t_a0 (by decide)).trans e338
          have e371 := (Zfr.ai fq35 tksxc_171 (by decide)).trans e339
          have e372 := (Zfr.ai fq35 tklxc_171 (by decide)).trans e340
          have e373 := (Zfr.ai fq35 tkwxc_171 (by decide)).trans e341
          have e374 := (Zfr.gi fq35 t_a0 (by decide)).trans e342
          have e375 := (Zfr.ai fq35 tkgxc_171 (by decide)).trans e343
          have e376 := (Zfr.gi fq35 t_a0 (by decide)).trans e344
          have e377 := (Zfr.ai fq35 tkixc_171 (by decide)).trans e345
          have e378 := (Zfr.gr fq35 t_a0 (by decide)).trans e347
          have e379 := (Zfr.ai fq35 tkkq20 (by decide)).trans e348
          have e380 := (Zfr.gr fq35 t_a0 (by decide)).trans e349
          have e381 := (Zfr.ai fq35 tv25 (by decide)).trans e350
          have e382 := (Zfr.ai fq35 tv37 (by decide)).trans e351
          have e383 := (Zfr.gr fq35 t_a0 (by decide)).trans e353
          have e384 := (Zfr.ai fq35 tv29 (by decide)).trans gc34
          have k385 := GtP_fr k354 fq35 t_a0 Wc34 (by decide)
          have sc387 : Sc c34 q35 a0 (1) (0) := by
            obtain ⟨yf2, yt2, z0y, z1y, x0y, x1y, x2y, x3y, x4y, x5y⟩ := pbZSq35
            exact Sc_mk e352 z0y e346 z1y e338 ((Zfr.gi (ci := 12) fq35 t_a0 (by decide)).trans e338) (by omega)
          have k386 := WyN_fr k355 fq35 t_a0 Wc34 (by decide) sc387
          have k388 := TbI_fr k357 fq35 t_a0 Wc34 (by decide) sc387
          have k389 := TbC_fr k358 fq35 t_a0 Wc34 (by decide) sc387
          have k390 := TkN_fr k359 fq35 t_a0 Wc34 (by decide)
          have F391 := Zfr.tr F360 fq35 (by decide)
          obtain ⟨bf2q35, bt2q35, h0ZSq35, h1ZSq35, r0ZSq35, r1ZSq35, r2ZSq35, r3ZSq35, r4ZSq35, r5ZSq35⟩ := pbZSq35
          unfold f_Mo_readQuestion_113
          refine wb e368 ?_
          refine wb e363 ?_
          refine wb e377 ?_
          obtain ⟨w19, ew19⟩ := go_64 Wq35 t_a0
          refine wb ew19 ?_
          obtain ⟨q18, eq18, Wq18, fq18, pbZSeq18⟩ := p_Mo_ended hn Wq35 (a1 := bi2xc_171) t_a0 (by omega) (by omega) (by omega) (by omega) h0ZSq35 h1ZSq35
          refine wb eq18 ?_
          have e394 := (Zfr.gi fq18 t_a0 (by decide)).trans e363
          have e395 := (Zfr.gr fq18 t_a0 (by decide)).trans e364
          have e396 := (Zfr.gr fq18 t_a0 (by decide)).trans e365
          have e397 := (Zfr.gr fq18 t_a0 (by decide)).trans e366
          have e398 := (Zfr.gr fq18 t_a0 (by decide)).trans e367
          have e399 := (Zfr.gr fq18 t_a0 (by decide)).trans e368
          have e400 := (Zfr.gi fq18 t_a0 (by decide)).trans e369
          have e401 := (Zfr.gi fq18 t_a0 (by decide)).trans e370
          have e402 := (Zfr.ai fq18 tksxc_171 (by decide)).trans e371
          have e403 := (Zfr.ai fq18 tklxc_171 (by decide)).trans e372
          have e404 := (Zfr.ai fq18 tkwxc_171 (by decide)).trans e373
          have e405 := (Zfr.gi fq18 t_a0 (by decide)).trans e374
          have e406 := (Zfr.ai fq18 tkgxc_171 (by decide)).trans e375
          have e407 := (Zfr.gi fq18 t_a0 (by decide)).trans e376
          have e408 := (Zfr.ai fq18 tkixc_171 (by decide)).trans e377
          have e409 := (Zfr.gr fq18 t_a0 (by decide)).trans e378
          have e410 := (Zfr.ai fq18 tkkq20 (by decide)).trans e379
          have e411 := (Zfr.gr fq18 t_a0 (by decide)).trans e380
          have e412 := (Zfr.ai fq18 tv25 (by decide)).trans e381
          have e413 := (Zfr.ai fq18 tv37 (by decide)).trans e382
          have e414 := (Zfr.gr fq18 t_a0 (by decide)).trans e383
          have e415 := (Zfr.ai fq18 tv29 (by decide)).trans e384
          have e416 := (Zfr.gi fq18 t_a0 (by decide)).trans h1ZSq35
          have k417 := GtP_fr k385 fq18 t_a0 Wq35 (by decide)
          have sc419 : Sc q35 q18.2 a0 (0) (0) := by
            obtain ⟨yf2, z0y, x0y, x1y, x2y, x3y⟩ := pbZSeq18
            exact Sc_mk h0ZSq35 z0y h1ZSq35 ((Zfr.gi (ci := 12) fq18 t_a0 (by decide)).trans h1ZSq35) e370 ((Zfr.gi (ci := 12) fq18 t_a0 (by decide)).trans e370) (by omega)
          have k418 := WyN_fr k386 fq18 t_a0 Wq35 (by decide) sc419
          have k420 := TbI_fr k388 fq18 t_a0 Wq35 (by decide) sc419
          have k421 := TbC_fr k389 fq18 t_a0 Wq35 (by decide) sc419
          have k422 := TkN_fr k390 fq18 t_a0 Wq35 (by decide)
          have F423 := Zfr.tr F391 fq18 (by decide)
          obtain ⟨bf2q18, h0ZSeq18, r0ZSeq18, r1ZSeq18, r2ZSeq18, r3ZSeq18⟩ := pbZSeq18
          exact ⟨_, rfl, Wq18, F423, ⟨bpvxc_171, bf2q18, bt2q35, bd2xc_171, bksxc_171, bklxc_171, bkwxc_171, bnaxc_171, blbxc_171, bnwxc_171, bvnxc_171, bkgxc_171, bg2xc_171, bcd2xc_171, bkixc_171, bi2xc_171, btp2q1, e394, h0ZSeq18, e416, e401, e395, e396, e397, e402, e403, e404, e405, e398, e406, e407, e399, e408, e400, tksxc_171, tklxc_171, tkwxc_171, tkgxc_171, tkixc_171, by (try dsimp only); omega, by (try dsimp only); omega, by (try dsimp only); omega, by (try dsimp only); omega, by (try dsimp only); omega, by (try dsimp only); omega, by (try dsimp only); omega, by (try dsimp only); omega, by (try dsimp only); omega, by (try dsimp only); omega, by (try dsimp only); omega, by (try dsimp only); omega, by (try dsimp only); omega, by (try dsimp only); omega, by (try dsimp only); omega, by (try dsimp only); omega, by (try dsimp only); omega, by (try dsimp only); omega, by (try dsimp only); omega, by (try dsimp only); omega, by (try dsimp only); omega, by (try dsimp only); omega, by (try dsimp only); omega, by (try dsimp only); omega, by (try dsimp only); omega, by (try dsimp only); omega, k417, k418, k420, k421, k422⟩⟩
        · have hq301 := i_ne hq301
          unfold f_Mo_readQuestion_91
          obtain ⟨v29, ev29, tv29⟩ := gf_64_47 Wq23 t_a0
          refine wb ev29 ?_
          refine wb e275 ?_
          refine wb ev25 ?_
          refine wb e290 ?_
          refine wb ev27 ?_
          obtain ⟨c34, ec34, Wc34, fc34, gc34⟩ := pa_100 Wq23 tv29 (i := bpvxc_171) (by omega) (by omega) (x := v27) (rgi (by omega) (by omega))
          refine wb ec34 ?_
          have e441 := (Zfr.gi fc34 t_a0 (by decide)).trans e275
          have e442 := (Zfr.gr fc34 t_a0 (by decide)).trans e276
          have e443 := (Zfr.gr fc34 t_a0 (by decide)).trans e277
          have e444 := (Zfr.gr fc34 t_a0 (by decide)).trans e278
          have e445 := (Zfr.gr fc34 t_a0 (by decide)).trans e279
          have e446 := (Zfr.gr fc34 t_a0 (by decide)).trans e280
          have e447 := (Zfr.gi fc34 t_a0 (by decide)).trans e281
          have e448 := (Zfr.gi fc34 t_a0 (by decide)).trans e282
          have e449 := (Zfr.ai fc34 tksxc_171 (by decide)).trans e283
          have e450 := (Zfr.ai fc34 tklxc_171 (by decide)).trans e284
          have e451 := (Zfr.ai fc34 tkwxc_171 (by decide)).trans e285
          have e452 := (Zfr.gi fc34 t_a0 (by decide)).trans e286
          have e453 := (Zfr.ai fc34 tkgxc_171 (by decide)).trans e287
          have e454 := (Zfr.gi fc34 t_a0 (by decide)).trans e288
          have e455 := (Zfr.ai fc34 tkixc_171 (by decide)).trans e289
          have e456 := (Zfr.gi fc34 t_a0 (by decide)).trans e290
          have e457 := (Zfr.gr fc34 t_a0 (by decide)).trans e291
          have e458 := (Zfr.ai fc34 tkkq20 (by decide)).trans e292
          have e459 := (Zfr.gi fc34 t_a0 (by decide)).trans h0ZStq23
          have e460 := (Zfr.gr fc34 t_a0 (by decide)).trans ev25
          have e461 := (Zfr.ai fc34 tv25 (by decide)).trans ev27
          have e462 := (Zfr.gr fc34 t_a0 (by decide)).trans ev29
          have k463 := GtP_fr k293 fc34 t_a0 Wq23 (by decide)
          have sc465 := Sc_fr fc34 t_a0 (by decide) (by decide) (by decide)
          have k464 := WyN_fr k294 fc34 t_a0 Wq23 (by decide) sc465
          have k466 := TbI_fr k296 fc34 t_a0 Wq23 (by decide) sc465
          have k467 := TbC_fr k297 fc34 t_a0 Wq23 (by decide) sc465
          have k468 := TkN_fr k298 fc34 t_a0 Wq23 (by decide)
          have F469 := Zfr.tr F299 fc34 (by decide)
          obtain ⟨w36, ew36⟩ := go_64 Wc34 t_a0
          refine wb ew36 ?_
          obtain ⟨q35, eq35, Wq35, fq35, pbZSq35⟩ := p_Mo_pass hn Wc34  t_a0 (by omega) (by omega) (by omega) (by omega) e459 e456
          refine wb eq35 ?_
          have e472 := (Zfr.gi fq35 t_a0 (by decide)).trans e441
          have e473 := (Zfr.gr fq35 t_a0 (by decide)).trans e442
          have e474 := (Zfr.gr fq35 t_a0 (by decide)).trans e443
          have e475 := (Zfr.gr fq35 t_a0 (by decide)).trans e444
          have e476 := (Zfr.gr fq35 t_a0 (by decide)).trans e445
          have e477 := (Zfr.gr fq35 t_a0 (by decide)).trans e446
          have e478 := (Zfr.gi fq35 t_a0 (by decide)).trans e447
          have e479 := (Zfr.gi fq35 t_a0 (by decide)).trans e448
          have e480 := (Zfr.ai fq35 tksxc_171 (by decide)).trans e449
          have e481 := (Zfr.ai fq35 tklxc_171 (by decide)).trans e450
          have e482 := (Zfr.ai fq35 tkwxc_171 (by decide)).trans e451
          have e483 := (Zfr.gi fq35 t_a0 (by decide)).trans e452
          have e484 := (Zfr.ai fq35 tkgxc_171 (by decide)).trans e453
          have e485 := (Zfr.gi fq35 t_a0 (by decide)).trans e454
          have e486 := (Zfr.ai fq35 tkixc_171 (by decide)).trans e455
          have e487 := (Zfr.gr fq35 t_a0 (by decide)).trans e457
          have e488 := (Zfr.ai fq35 tkkq20 (by decide)).trans e458
          have e489 := (Zfr.gr fq35 t_a0 (by decide)).trans e460
          have e490 := (Zfr.ai fq35 tv25 (by decide)).trans e461
          have e491 := (Zfr.gr fq35 t_a0 (by decide)).trans e462
          have e492 := (Zfr.ai fq35 tv29 (by decide)).trans gc34
          have k493 := GtP_fr k463 fq35 t_a0 Wc34 (by decide)
          have sc495 : Sc c34 q35 a0 (1) (0) := by
            obtain ⟨yf2, yt2, z0y, z1y, x0y, x1y, x2y, x3y, x4y, x5y⟩ := pbZSq35
            exact Sc_mk e459 z0y e456 z1y e448 ((Zfr.gi (ci := 12) fq35 t_a0 (by decide)).trans e448) (by omega)
          have k494 := WyN_fr k464 fq35 t_a0 Wc34 (by decide) sc495
          have k496 := TbI_fr k466 fq35 t_a0 Wc34 (by decide) sc495
          have k497 := TbC_fr k467 fq35 t_a0 Wc34 (by decide) sc495
          have k498 := TkN_fr k468 fq35 t_a0 Wc34 (by decide)
          have F499 := Zfr.tr F469 fq35 (by decide)
          obtain ⟨bf2q35, bt2q35, h0ZSq35, h1ZSq35, r0ZSq35, r1ZSq35, r2ZSq35, r3ZSq35, r4ZSq35, r5ZSq35⟩ := pbZSq35
          unfold f_Mo_readQuestion_113
          refine wb e477 ?_
          refine wb e472 ?_
          refine wb e486 ?_
          obtain ⟨w19, ew19⟩ := go_64 Wq35 t_a0
          refine wb ew19 ?_
          obtain ⟨q18, eq18, Wq18, fq18, pbZSeq18⟩ := p_Mo_ended hn Wq35 (a1 := bi2xc_171) t_a0 (by omega) (by omega) (by omega) (by omega) h0ZSq35 h1ZSq35
          refine wb eq18 ?_
          have e502 := (Zfr.gi fq18 t_a0 (by decide)).trans e472
          have e503 := (Zfr.gr fq18 t_a0 (by decide)).trans e473
          have e504 := (Zfr.gr fq18 t_a0 (by decide)).trans e474
          have e505 := (Zfr.gr fq18 t_a0 (by decide)).trans e475
          have e506 := (Zfr.gr fq18 t_a0 (by decide)).trans e476
          have e507 := (Zfr.gr fq18 t_a0 (by decide)).trans e477
          have e508 := (Zfr.gi fq18 t_a0 (by decide)).trans e478
          have e509 := (Zfr.gi fq18 t_a0 (by decide)).trans e479
          have e510 := (Zfr.ai fq18 tksxc_171 (by decide)).trans e480
          have e511 := (Zfr.ai fq18 tklxc_171 (by decide)).trans e481
          have e512 := (Zfr.ai fq18 tkwxc_171 (by decide)).trans e482
          have e513 := (Zfr.gi fq18 t_a0 (by decide)).trans e483
          have e514 := (Zfr.ai fq18 tkgxc_171 (by decide)).trans e484
          have e515 := (Zfr.gi fq18 t_a0 (by decide)).trans e485
          have e516 := (Zfr.ai fq18 tkixc_171 (by decide)).trans e486
          have e517 := (Zfr.gr fq18 t_a0 (by decide)).trans e487
          have e518 := (Zfr.ai fq18 tkkq20 (by decide)).trans e488
          have e519 := (Zfr.gr fq18 t_a0 (by decide)).trans e489
          have e520 := (Zfr.ai fq18 tv25 (by decide)).trans e490
          have e521 := (Zfr.gr fq18 t_a0 (by decide)).trans e491
          have e522 := (Zfr.ai fq18 tv29 (by decide)).trans e492
          have e523 := (Zfr.gi fq18 t_a0 (by decide)).trans h1ZSq35
          have k524 := GtP_fr k493 fq18 t_a0 Wq35 (by decide)
          have sc526 : Sc q35 q18.2 a0 (0) (0) := by
            obtain ⟨yf2, z0y, x0y, x1y, x2y, x3y⟩ := pbZSeq18
            exact Sc_mk h0ZSq35 z0y h1ZSq35 ((Zfr.gi (ci := 12) fq18 t_a0 (by decide)).trans h1ZSq35) e479 ((Zfr.gi (ci := 12) fq18 t_a0 (by decide)).trans e479) (by omega)
          have k525 := WyN_fr k494 fq18 t_a0 Wq35 (by decide) sc526
          have k527 := TbI_fr k496 fq18 t_a0 Wq35 (by decide) sc526
          have k528 := TbC_fr k497 fq18 t_a0 Wq35 (by decide) sc526
          have k529 := TkN_fr k498 fq18 t_a0 Wq35 (by decide)
          have F530 := Zfr.tr F499 fq18 (by decide)
          obtain ⟨bf2q18, h0ZSeq18, r0ZSeq18, r1ZSeq18, r2ZSeq18, r3ZSeq18⟩ := pbZSeq18
          exact ⟨_, rfl, Wq18, F530, ⟨bpvxc_171, bf2q18, bt2q35, bd2xc_171, bksxc_171, bklxc_171, bkwxc_171, bnaxc_171, blbxc_171, bnwxc_171, bvnxc_171, bkgxc_171, bg2xc_171, bcd2xc_171, bkixc_171, bi2xc_171, btp2q1, e502, h0ZSeq18, e523, e509, e503, e504, e505, e510, e511, e512, e513, e506, e514, e515, e507, e516, e508, tksxc_171, tklxc_171, tkwxc_171, tkgxc_171, tkixc_171, by (try dsimp only); omega, by (try dsimp only); omega, by (try dsimp only); omega, by (try dsimp only); omega, by (try dsimp only); omega, by (try dsimp only); omega, by (try dsimp only); omega, by (try dsimp only); omega, by (try dsimp only); omega, by (try dsimp only); omega, by (try dsimp only); omega, by (try dsimp only); omega, by (try dsimp only); omega, by (try dsimp only); omega, by (try dsimp only); omega, by (try dsimp only); omega, by (try dsimp only); omega, by (try dsimp only); omega, by (try dsimp only); omega, by (try dsimp only); omega, by (try dsimp only); omega, by (try dsimp only); omega, by (try dsimp only); omega, by (try dsimp only); omega, by (try dsimp only); omega, by (try dsimp only); omega, k524, k525, k527, k528, k529⟩⟩
      · have := li_6
        have := i_ge q20.1
        have := i_up q20.1
        have hq272 := i_ne hq272
        obtain ⟨w43, ew43⟩ := go_64 Wq20 t_a0
        refine wb ew43 ?_
        obtain ⟨q42, eq42, Wq42, fq42, pbZSfq42⟩ := p_Mo_wrong hn Wq20  t_a0 (by omega) (by omega) (by omega) (by omega) h0ZScq20 e264
        refine wb eq42 ?_
        have e550 := (Zfr.gi fq42 t_a0 (by decide)).trans e249
        have e551 := (Zfr.gr fq42 t_a0 (by decide)).trans e250
        have e552 := (Zfr.gr fq42 t_a0 (by decide)).trans e251
        have e553 := (Zfr.gr fq42 t_a0 (by decide)).trans e252
        have e554 := (Zfr.gr fq42 t_a0 (by decide)).trans e253
        have e555 := (Zfr.gr fq42 t_a0 (by decide)).trans e254
        have e556 := (Zfr.gi fq42 t_a0 (by decide)).trans e255
        have e557 := (Zfr.gi fq42 t_a0 (by decide)).trans e256
        have e558 := (Zfr.ai fq42 tksxc_171 (by decide)).trans e257
        have e559 := (Zfr.ai fq42 tklxc_171 (by decide)).trans e258
        have e560 := (Zfr.ai fq42 tkwxc_171 (by decide)).trans e259
        have e561 := (Zfr.gi fq42 t_a0 (by decide)).trans e260
        have e562 := (Zfr.ai fq42 tkgxc_171 (by decide)).trans e261
        have e563 := (Zfr.gi fq42 t_a0 (by decide)).trans e262
        have e564 := (Zfr.ai fq42 tkixc_171 (by decide)).trans e263
        have e565 := (Zfr.gi fq42 t_a0 (by decide)).trans e264
        have e566 := (Zfr.gr fq42 t_a0 (by decide)).trans h0Zkdq20
        have e567 := (Zfr.ai fq42 tkkq20 (by decide)).trans h1Zkdq20
        have k568 := GtP_fr k265 fq42 t_a0 Wq20 (by decide)
        have sc570 : Sc q20.2 q42 a0 (0) (0) := by
          obtain ⟨yf2, z0y, x0y, x1y⟩ := pbZSfq42
          exact Sc_mk h0ZScq20 z0y e264 ((Zfr.gi (ci := 12) fq42 t_a0 (by decide)).trans e264) e256 ((Zfr.gi (ci := 12) fq42 t_a0 (by decide)).trans e256) (by omega)
        have k569 := WyN_fr k266 fq42 t_a0 Wq20 (by decide) sc570
        have k571 := TbI_fr k268 fq42 t_a0 Wq20 (by decide) sc570
        have k572 := TbC_fr k269 fq42 t_a0 Wq20 (by decide) sc570
        have k573 := TkN_fr k270 fq42 t_a0 Wq20 (by decide)
        have F574 := Zfr.tr F271 fq42 (by decide)
        obtain ⟨bf2q42, h0ZSfq42, r0ZSfq42, r1ZSfq42⟩ := pbZSfq42
        unfold f_Mo_readQuestion_113
        refine wb e555 ?_
        refine wb e550 ?_
        refine wb e564 ?_
        obtain ⟨w19, ew19⟩ := go_64 Wq42 t_a0
        refine wb ew19 ?_
        obtain ⟨q18, eq18, Wq18, fq18, pbZSeq18⟩ := p_Mo_ended hn Wq42 (a1 := bi2xc_171) t_a0 (by omega) (by omega) (by omega) (by omega) h0ZSfq42 e565
        refine wb eq18 ?_
        have e577 := (Zfr.gi fq18 t_a0 (by decide)).trans e550
        have e578 := (Zfr.gr fq18 t_a0 (by decide)).trans e551
        have e579 := (Zfr.gr fq18 t_a0 (by decide)).trans e552
        have e580 := (Zfr.gr fq18 t_a0 (by decide)).trans e553
        have e581 := (Zfr.gr fq18 t_a0 (by decide)).trans e554
        have e582 := (Zfr.gr fq18 t_a0 (by decide)).trans e555
        have e583 := (Zfr.gi fq18 t_a0 (by decide)).trans e556
        have e584 := (Zfr.gi fq18 t_a0 (by decide)).trans e557
        have e585 := (Zfr.ai fq18 tksxc_171 (by decide)).trans e558
        have e586 := (Zfr.ai fq18 tklxc_171 (by decide)).trans e559
        have e587 := (Zfr.ai fq18 tkwxc_171 (by decide)).trans e560
        have e588 := (Zfr.gi fq18 t_a0 (by decide)).trans e561
        have e589 := (Zfr.ai fq18 tkgxc_171 (by decide)).trans e562
        have e590 := (Zfr.gi fq18 t_a0 (by decide)).trans e563
        have e591 := (Zfr.ai fq18 tkixc_171 (by decide)).trans e564
        have e592 := (Zfr.gi fq18 t_a0 (by decide)).trans e565
        have e593 := (Zfr.gr fq18 t_a0 (by decide)).trans e566
        have e594 := (Zfr.ai fq18 tkkq20 (by decide)).trans e567
        have k595 := GtP_fr k568 fq18 t_a0 Wq42 (by decide)
        have sc597 : Sc q42 q18.2 a0 (0) (0) := by
          obtain ⟨yf2, z0y, x0y, x1y, x2y, x3y⟩ := pbZSeq18
          exact Sc_mk h0ZSfq42 z0y e565 ((Zfr.gi (ci := 12) fq18 t_a0 (by decide)).trans e565) e557 ((Zfr.gi (ci := 12) fq18 t_a0 (by decide)).trans e557) (by omega)
        have k596 := WyN_fr k569 fq18 t_a0 Wq42 (by decide) sc597
        have k598 := TbI_fr k571 fq18 t_a0 Wq42 (by decide) sc597
        have k599 := TbC_fr k572 fq18 t_a0 Wq42 (by decide) sc597
        have k600 := TkN_fr k573 fq18 t_a0 Wq42 (by decide)
        have F601 := Zfr.tr F574 fq18 (by decide)
        obtain ⟨bf2q18, h0ZSeq18, r0ZSeq18, r1ZSeq18, r2ZSeq18, r3ZSeq18⟩ := pbZSeq18
        exact ⟨_, rfl, Wq18, F601, ⟨bpvxc_171, bf2q18, bt2q12, bd2xc_171, bksxc_171, bklxc_171, bkwxc_171, bnaxc_171, blbxc_171, bnwxc_171, bvnxc_171, bkgxc_171, bg2xc_171, bcd2xc_171, bkixc_171, bi2xc_171, btp2q1, e577, h0ZSeq18, e592, e584, e578, e579, e580, e585, e586, e587, e588, e581, e589, e590, e582, e591, e583, tksxc_171, tklxc_171, tkwxc_171, tkgxc_171, tkixc_171, by (try dsimp only); omega, by (try dsimp only); omega, by (try dsimp only); omega, by (try dsimp only); omega, by (try dsimp only); omega, by (try dsimp only); omega, by (try dsimp only); omega, by (try dsimp only); omega, by (try dsimp only); omega, by (try dsimp only); omega, by (try dsimp only); omega, by (try dsimp only); omega, by (try dsimp only); omega, by (try dsimp only); omega, by (try dsimp only); omega, by (try dsimp only); omega, by (try dsimp only); omega, by (try dsimp only); omega, by (try dsimp only); omega, by (try dsimp only); omega, by (try dsimp only); omega, by (try dsimp only); omega, by (try dsimp only); omega, by (try dsimp only); omega, by (try dsimp only); omega, by (try dsimp only); omega, k595, k596, k598, k599, k600⟩⟩
  · have hq29 := i_ne hq29
    unfold f_Mo_readQuestion_19
    have := vfi_e h2ZVhq3
    have L620 : ∃ b, zlp (fun a : Nat × Zc => g_Mo_readQuestion_19 nf a.1 a.2) nf (a0, q3) = some b ∧ (fun b : (Nat × Zc) => a0 = b.1 ∧ Zwt zty G b.2 ∧ Zfr G ([(64, 18), (64, 19), (64, 20), (64, 52), (64, 53), (64, 56), (64, 57), (64, 65), (64, 69), (79, 0), (80, 0), (81, 0), (82, 0), (83, 0), (84, 0), (85, 0), (86, 0), (87, 0), (88, 0), (89, 0), (90, 0), (91, 0), (92, 0), (93, 0), (94, 0), (95, 0), (96, 0), (97, 0), (98, 0), (103, 0), (104, 0), (105, 0), (106, 0), (107, 0), (108, 0), (109, 0), (110, 0), (111, 0), (112, 0), (113, 0), (114, 0), (115, 0), (116, 0), (134, 0)] : List (Nat × Nat)) q3 b.2 ∧ ZVj G b.2 a0) b := by
      refine wlp (fun a : Nat × Zc => a0 = a.1 ∧ Zwt zty G a.2 ∧ Zfr G ([(64, 18), (64, 19), (64, 20), (64, 52), (64, 53), (64, 56), (64, 57), (64, 65), (64, 69), (79, 0), (80, 0), (81, 0), (82, 0), (83, 0), (84, 0), (85, 0), (86, 0), (87, 0), (88, 0), (89, 0), (90, 0), (91, 0), (92, 0), (93, 0), (94, 0), (95, 0), (96, 0), (97, 0), (98, 0), (103, 0), (104, 0), (105, 0), (106, 0), (107, 0), (108, 0), (109, 0), (110, 0), (111, 0), (112, 0), (113, 0), (114, 0), (115, 0), (116, 0), (134, 0)] : List (Nat × Nat)) q3 a.2 ∧ ZVj G a.2 a0) (fun a => (201 - vfi a.2 a0 18).toNat) (fun b : (Nat × Zc) => a0 = b.1 ∧ Zwt zty G b.2 ∧ Zfr G ([(64, 18), (64, 19), (64, 20), (64, 52), (64, 53), (64, 56), (64, 57), (64, 65), (64, 69), (79, 0), (80, 0), (81, 0), (82, 0), (83, 0), (84, 0), (85, 0), (86, 0), (87, 0), (88, 0), (89, 0), (90, 0), (91, 0), (92, 0), (93, 0), (94, 0), (95, 0), (96, 0), (97, 0), (98, 0), (103, 0), (104, 0), (105, 0), (106, 0), (107, 0), (108, 0), (109, 0), (110, 0), (111, 0), (112, 0), (113, 0), (114, 0), (115, 0), (116, 0), (134, 0)] : List (Nat × Nat)) q3 b.2 ∧ ZVj G b.2 a0) ?_ ?_ ?_
      · rintro ⟨x0_621, c_621⟩ hI
        try dsimp only at hI ⊢
        obtain ⟨rfl, WLc_621, FLc_621, hBZVj_621⟩ := hI
        have e622 := (Zfr.gi FLc_621 t_a0 (by decide)).trans h0ZVhq3
        have e623 := (Zfr.gr FLc_621 t_a0 (by decide)).trans h4ZVhq3
        have e624 := (Zfr.gr FLc_621 t_a0 (by decide)).trans h5ZVhq3
        have e625 := (Zfr.gr FLc_621 t_a0 (by decide)).trans h6ZVhq3
        have e626 := (Zfr.gr FLc_621 t_a0 (by decide)).trans h11ZVhq3
        have e627 := (Zfr.gr FLc_621 t_a0 (by decide)).trans e25
        have e628 := (Zfr.gi FLc_621 t_a0 (by decide)).trans e27
        obtain ⟨bpv_621, bf2_621, bt2_621, bd2_621, bks_621, bkl_621, bkw_621, bna_621, blb_621, bnw_621, bvn_621, bkg_621, bg2_621, bcd2_621, bki_621, bi2_621, h0ZVj_621, h1ZVj_621, h2ZVj_621, h3ZVj_621, h4ZVj_621, h5ZVj_621, h6ZVj_621, h7ZVj_621, h8ZVj_621, h9ZVj_621, h10ZVj_621, h11ZVj_621, h12ZVj_621, h13ZVj_621, h14ZVj_621, h15ZVj_621, tks_621, tkl_621, tkw_621, tkg_621, tki_621, r0ZVj_621, r1ZVj_621, r2ZVj_621, r3ZVj_621, r4ZVj_621, r5ZVj_621, r6ZVj_621, r7ZVj_621, r8ZVj_621, r9ZVj_621, r10ZVj_621, r11ZVj_621, r12ZVj_621, r13ZVj_621, r14ZVj_621, r15ZVj_621, r16ZVj_621, r17ZVj_621, r18ZVj_621, r19ZVj_621, r20ZVj_621, r21ZVj_621, r22ZVj_621, r23ZVj_621, r24ZVj_621, k0ZVj_621, k1ZVj_621, k2ZVj_621, k3ZVj_621, k4ZVj_621⟩ := hBZVj_621
        unfold g_Mo_readQuestion_19
        have := vfi_e h2ZVj_621
        obtain ⟨w8, ew8⟩ := go_64 WLc_621 t_a0
        refine wb ew8 ?_
        have := li_44
        obtain ⟨q7, eq7, Wq7, fq7, pl0q7, pu0q7, pbZSkq7⟩ := p_Mo_takes hn WLc_621 (a1 := 44) t_a0 (by omega) (by omega) (by omega) (by omega) h1ZVj_621 h2ZVj_621
        refine wb eq7 ?_
        have e632 := (Zfr.gi fq7 t_a0 (by decide)).trans h0ZVj_621
        have e633 := (Zfr.gr fq7 t_a0 (by decide)).trans h4ZVj_621
        have e634 := (Zfr.gr fq7 t_a0 (by decide)).trans h5ZVj_621
        have e635 := (Zfr.gr fq7 t_a0 (by decide)).trans h6ZVj_621
        have e636 := (Zfr.gr fq7 t_a0 (by decide)).trans h11ZVj_621
        have e637 := (Zfr.gr fq7 t_a0 (by decide)).trans h14ZVj_621
        have e638 := (Zfr.gi fq7 t_a0 (by decide)).trans e628
        have e639 := (Zfr.gi fq7 t_a0 (by decide)).trans h3ZVj_621
        have e640 := (Zfr.ai fq7 tks_621 (by decide)).trans h7ZVj_621
        have e641 := (Zfr.ai fq7 tkl_621 (by decide)).trans h8ZVj_621
        have e642 := (Zfr.ai fq7 tkw_621 (by decide)).trans h9ZVj_621
        have e643 := (Zfr.gi fq7 t_a0 (by decide)).trans h10ZVj_621
        have e644 := (Zfr.ai fq7 tkg_621 (by decide)).trans h12ZVj_621
        have e645 := (Zfr.gi fq7 t_a0 (by decide)).trans h13ZVj_621
        have e646 := (Zfr.ai fq7 tki_621 (by decide)).trans h15ZVj_621
        have k647 := GtP_fr k0ZVj_621 fq7 t_a0 WLc_621 (by decide)
        have sc649 : Sc c_621 q7.2 a0 (q7.1.toInt) (0) := by
          obtain ⟨yf2, yt2, z0y, z1y, x0y, x1y, x2y, x3y, x4y, x5y, x6y⟩ := pbZSkq7
          exact Sc_mk h1ZVj_621 z0y h2ZVj_621 z1y h3ZVj_621 ((Zfr.gi (ci := 12) fq7 t_a0 (by decide)).trans h3ZVj_621) (by omega)
        have k648 := WyN_fr k1ZVj_621 fq7 t_a0 WLc_621 (by decide) sc649
        have k650 := TbI_fr k2ZVj_621 fq7 t_a0 WLc_621 (by decide) sc649
        have k651 := TbC_fr k3ZVj_621 fq7 t_a0 WLc_621 (by decide) sc649
        have k652 := TkN_fr k4ZVj_621 fq7 t_a0 WLc_621 (by decide)
        have F653 := Zfr.tr FLc_621 fq7 (by decide)
        obtain ⟨bf2q7, bt2q7, h0ZSkq7, h1ZSkq7, r0ZSkq7, r1ZSkq7, r2ZSkq7, r3ZSkq7, r4ZSkq7, r5ZSkq7, r6ZSkq7⟩ := pbZSkq7
        refine wi (fun hq654 => ?_) (fun hq654 => ?_)
        · have hq654 := i_eq hq654
          exact lInr ⟨rfl, Wq7, F653, ⟨bpv_621, bf2q7, bt2q7, bd2_621, bks_621, bkl_621, bkw_621, bna_621, blb_621, bnw_621, bvn_621, bkg_621, bg2_621, bcd2_621, bki_621, bi2_621, e632, h0ZSkq7, h1ZSkq7, e639, e633, e634, e635, e640, e641, e642, e643, e636, e644, e645, e637, e646, tks_621, tkl_621, tkw_621, tkg_621, tki_621, by (try dsimp only); omega, by (try dsimp only); omega, by (try dsimp only); omega, by (try dsimp only); omega, by (try dsimp only); omega, by (try dsimp only); omega, by (try dsimp only); omega, by (try dsimp only); omega, by (try dsimp only); omega, by (try dsimp only); omega, by (try dsimp only); omega, by (try dsimp only); omega, by (try dsimp only); omega, by (try dsimp only); omega, by (try dsimp only); omega, by (try dsimp only); omega, by (try dsimp only); omega, by (try dsimp only); omega, by (try dsimp only); omega, by (try dsimp only); omega, by (try dsimp only); omega, by (try dsimp only); omega, by (try dsimp only); omega, by (try dsimp only); omega, by (try dsimp only); omega, k647, k648, k650, k651, k652⟩⟩
        · have hq654 := i_ne hq654
          obtain ⟨w11, ew11⟩ := go_64 Wq7 t_a0
          refine wb ew11 ?_
          obtain ⟨q10, eq10, Wq10, fq10, pbZViq10⟩ := p_Mo_item hn Wq7 (ni := bi2_621) (bc := 1) t_a0 (by omega) (by omega) (by omega) (by omega) (by omega) (by omega) (by omega) (by omega) (by omega) (by omega) (by omega) (by omega) (by omega) (by omega) e632 h0ZSkq7 h1ZSkq7 e639 e636 e644 e645 e637 e646 (by omega) (by omega) (by omega) ⟨bks_621, bkl_621, bkw_621, bna_621, blb_621, bnw_621, bvn_621, e632, h0ZSkq7, h1ZSkq7, e639, e633, e634, e635, e640, e641, e642, e643, tks_621, tkl_621, tkw_621, by (try dsimp only); omega, by (try dsimp only); omega, by (try dsimp only); omega, by (try dsimp only); omega, by (try dsimp only); omega, by (try dsimp only); omega, by (try dsimp only); omega, by (try dsimp only); omega, by (try dsimp only); omega, by (try dsimp only); omega, by (try dsimp only); omega, by (try dsimp only); omega, by (try dsimp only); omega, by (try dsimp only); omega, by (try dsimp only); omega, by (try dsimp only); omega, by (try dsimp only); omega, by (try dsimp only); omega, k647, k648, k650, k651, k652⟩
          refine wb eq10 ?_
          have e691 := (Zfr.gi fq10 t_a0 (by decide)).trans e632
          have e692 := (Zfr.gr fq10 t_a0 (by decide)).trans e633
          have e693 := (Zfr.gr fq10 t_a0 (by decide)).trans e634
          have e694 := (Zfr.gr fq10 t_a0 (by decide)).trans e635
          have e695 := (Zfr.gr fq10 t_a0 (by decide)).trans e636
          have e696 := (Zfr.gr fq10 t_a0 (by decide)).trans e637
          have e697 := (Zfr.gi fq10 t_a0 (by decide)).trans e638
          have F698 := Zfr.tr F653 fq10 (by decide)
          obtain ⟨bf2q10, bt2q10, bd2q10, bksq10, bklq10, bkwq10, bnaq10, blbq10, bnwq10, bvnq10, bkgq10, bg2q10, bcd2q10, bkiq10, bi2q10, h0ZViq10, h1ZViq10, h2ZViq10, h3ZViq10, h4ZViq10, h5ZViq10, h6ZViq10, h7ZViq10, h8ZViq10, h9ZViq10, h10ZViq10, h11ZViq10, h12ZViq10, h13ZViq10, h14ZViq10, h15ZViq10, tksq10, tklq10, tkwq10, tkgq10, tkiq10, r0ZViq10, r1ZViq10, r2ZViq10, r3ZViq10, r4ZViq10, r5ZViq10, r6ZViq10, r7ZViq10, r8ZViq10, r9ZViq10, r10ZViq10, r11ZViq10, r12ZViq10, r13ZViq10, r14ZViq10, r15ZViq10, r16ZViq10, r17ZViq10, r18ZViq10, r19ZViq10, r20ZViq10, r21ZViq10, r22ZViq10, r23ZViq10, r24ZViq10, r25ZViq10, k0ZViq10, k1ZViq10, k2ZViq10, k3ZViq10, k4ZViq10⟩ := pbZViq10
          have := vfi_e h2ZViq10
          exact lInl ⟨rfl, Wq10, F698, ⟨bpv_621, bf2q10, bt2q10, bd2q10, bksq10, bklq10, bkwq10, bnaq10, blbq10, bnwq10, bvnq10, bkgq10, bg2q10, bcd2q10, bkiq10, bi2q10, h0ZViq10, h1ZViq10, h2ZViq10, h3ZViq10, h4ZViq10, h5ZViq10, h6ZViq10, h7ZViq10, h8ZViq10, h9ZViq10, h10ZViq10, h11ZViq10, h12ZViq10, h13ZViq10, h14ZViq10, h15ZViq10, tksq10, tklq10, tkwq10, tkgq10, tkiq10, by (try dsimp only); omega, by (try dsimp only); omega, by (try dsimp only); omega, by (try dsimp only); omega, by (try dsimp only); omega, by (try dsimp only); omega, by (try dsimp only); omega, by (try dsimp only); omega, by (try dsimp only); omega, by (try dsimp only); omega, by (try dsimp only); omega, by (try dsimp only); omega, by (try dsimp only); omega, by (try dsimp only); omega, by (try dsimp only); omega, by (try dsimp only); omega, by (try dsimp only); omega, by (try dsimp only); omega, by (try dsimp only); omega, by (try dsimp only); omega, by (try dsimp only); omega, by (try dsimp only); omega, by (try dsimp only); omega, by (try dsimp only); omega, by (try dsimp only); omega, k0ZViq10, k1ZViq10, k2ZViq10, k3ZViq10, k4ZViq10⟩⟩ (by (try dsimp only); omega)
      · exact ⟨rfl, Wq3, Zfr.rf, ⟨bpvq1, bf2q3, bt2q3, bd2q3, bksq3, bklq3, bkwq3, bnaq3, blbq3, bnwq3, bvnq3, bkgq3, bg2q3, bcd2q3, bkiq1, bi2q1, h0ZVhq3, h1ZVhq3, h2ZVhq3, h3ZVhq3, h4ZVhq3, h5ZVhq3, h6ZVhq3, h7ZVhq3, h8ZVhq3, h9ZVhq3, h10ZVhq3, h11ZVhq3, h12ZVhq3, h13ZVhq3, e25, e26, tksq3, tklq3, tkwq3, tkgq3, tkiq1, by (try dsimp only); omega, by (try dsimp only); omega, by (try dsimp only); omega, by (try dsimp only); omega, by (try dsimp only); omega, by (try dsimp only); omega, by (try dsimp only); omega, by (try dsimp only); omega, by (try dsimp only); omega, by (try dsimp only); omega, by (try dsimp only); omega, by (try dsimp only); omega, by (try dsimp only); omega, by (try dsimp only); omega, by (try dsimp only); omega, by (try dsimp only); omega, by (try dsimp only); omega, by (try dsimp only); omega, by (try dsimp only); omega, by (try dsimp only); omega, by (try dsimp only); omega, by (try dsimp only); omega, by (try dsimp only); omega, by (try dsimp only); omega, by (try dsimp only); omega, k0ZVhq3, k1ZVhq3, TbI_m k2ZVhq3 (by omega), k3ZVhq3, k4ZVhq3⟩⟩
      · (try dsimp only); omega
    obtain ⟨b, eb, hb⟩ := L620
    refine wb eb ?_
    clear eb
    obtain ⟨z0_732, c_732⟩ := b
    try dsimp only at hb ⊢
    obtain ⟨rfl, WXc_732, FXc_732, hXZVjc_732⟩ := hb
    have e733 := (Zfr.gi FXc_732 t_a0 (by decide)).trans h0ZVhq3
    have e734 := (Zfr.gr FXc_732 t_a0 (by decide)).trans h4ZVhq3
    have e735 := (Zfr.gr FXc_732 t_a0 (by decide)).trans h5ZVhq3
    have e736 := (Zfr.gr FXc_732 t_a0 (by decide)).trans h6ZVhq3
    have e737 := (Zfr.gr FXc_732 t_a0 (by decide)).trans h11ZVhq3
    have e738 := (Zfr.gr FXc_732 t_a0 (by decide)).trans e25
    have e739 := (Zfr.gi FXc_732 t_a0 (by decide)).trans e27
    have F740 := Zfr.tr F28 FXc_732 (by decide)
    obtain ⟨bpvxc_732, bf2xc_732, bt2xc_732, bd2xc_732, bksxc_732, bklxc_732, bkwxc_732, bnaxc_732, blbxc_732, bnwxc_732, bvnxc_732, bkgxc_732, bg2xc_732, bcd2xc_732, bkixc_732, bi2xc_732, h0ZVjxc_732, h1ZVjxc_732, h2ZVjxc_732, h3ZVjxc_732, h4ZVjxc_732, h5ZVjxc_732, h6ZVjxc_732, h7ZVjxc_732, h8ZVjxc_732, h9ZVjxc_732, h10ZVjxc_732, h11ZVjxc_732, h12ZVjxc_732, h13ZVjxc_732, h14ZVjxc_732, h15ZVjxc_732, tksxc_732, tklxc_732, tkwxc_732, tkgxc_732, tkixc_732, r0ZVjxc_732, r1ZVjxc_732, r2ZVjxc_732, r3ZVjxc_732, r4ZVjxc_732, r5ZVjxc_732, r6ZVjxc_732, r7ZVjxc_732, r8ZVjxc_732, r9ZVjxc_732, r10ZVjxc_732, r11ZVjxc_732, r12ZVjxc_732, r13ZVjxc_732, r14ZVjxc_732, r15ZVjxc_732, r16ZVjxc_732, r17ZVjxc_732, r18ZVjxc_732, r19ZVjxc_732, r20ZVjxc_732, r21ZVjxc_732, r22ZVjxc_732, r23ZVjxc_732, r24ZVjxc_732, k0ZVjxc_732, k1ZVjxc_732, k2ZVjxc_732, k3ZVjxc_732, k4ZVjxc_732⟩ := hXZVjc_732
    obtain ⟨w13, ew13⟩ := go_64 WXc_732 t_a0
    refine wb ew13 ?_
    have := li_103
    obtain ⟨q12, eq12, Wq12, fq12, pl0q12, pu0q12, pbZSkq12⟩ := p_Mo_takes hn WXc_732 (a1 := 103) t_a0 (by omega) (by omega) (by omega) (by omega) h1ZVjxc_732 h2ZVjxc_732
    refine wb eq12 ?_
    have e743 := (Zfr.gi fq12 t_a0 (by decide)).trans h0ZVjxc_732
    have e744 := (Zfr.gr fq12 t_a0 (by decide)).trans h4ZVjxc_732
    have e745 := (Zfr.gr fq12 t_a0 (by decide)).trans h5ZVjxc_732
    have e746 := (Zfr.gr fq12 t_a0 (by decide)).trans h6ZVjxc_732
    have e747 := (Zfr.gr fq12 t_a0 (by decide)).trans h11ZVjxc_732
    have e748 := (Zfr.gr fq12 t_a0 (by decide)).trans h14ZVjxc_732
    have e749 := (Zfr.gi fq12 t_a0 (by decide)).trans e739
    have e750 := (Zfr.gi fq12 t_a0 (by decide)).trans h3ZVjxc_732
    have e751 := (Zfr.ai fq12 tksxc_732 (by decide)).trans h7ZVjxc_732
    have e752 := (Zfr.ai fq12 tklxc_732 (by decide)).trans h8ZVjxc_732
    have e753 := (Zfr.ai fq12 tkwxc_732 (by decide)).trans h9ZVjxc_732
    have e754 := (Zfr.gi fq12 t_a0 (by decide)).trans h10ZVjxc_732
    have e755 := (Zfr.ai fq12 tkgxc_732 (by decide)).trans h12ZVjxc_732
    have e756 := (Zfr.gi fq12 t_a0 (by decide)).trans h13ZVjxc_732
    have e757 := (Zfr.ai fq12 tkixc_732 (by decide)).trans h15ZVjxc_732
    have k758 := GtP_fr k0ZVjxc_732 fq12 t_a0 WXc_732 (by decide)
    have sc760 : Sc c_732 q12.2 a0 (q12.1.toInt) (0) := by
      obtain ⟨yf2, yt2, z0y, z1y, x0y, x1y, x2y, x3y, x4y, x5y, x6y⟩ := pbZSkq12
      exact Sc_mk h1ZVjxc_732 z0y h2ZVjxc_732 z1y h3ZVjxc_732 ((Zfr.gi (ci := 12) fq12 t_a0 (by decide)).trans h3ZVjxc_732) (by omega)
    have k759 := WyN_fr k1ZVjxc_732 fq12 t_a0 WXc_732 (by decide) sc760
    have k761 := TbI_fr k2ZVjxc_732 fq12 t_a0 WXc_732 (by decide) sc760
    have k762 := TbC_fr k3ZVjxc_732 fq12 t_a0 WXc_732 (by decide) sc760
    have k763 := TkN_fr k4ZVjxc_732 fq12 t_a0 WXc_732 (by decide)
    have F764 := Zfr.tr F740 fq12 (by decide)
    obtain ⟨bf2q12, bt2q12, h0ZSkq12, h1ZSkq12, r0ZSkq12, r1ZSkq12, r2ZSkq12, r3ZSkq12, r4ZSkq12, r5ZSkq12, r6ZSkq12⟩ := pbZSkq12
    refine wi (fun hq765 => ?_) (fun hq765 => ?_)
    · have hq765 := i_eq hq765
      unfold f_Mo_readQuestion_113
      refine wb e748 ?_
      refine wb e743 ?_
      refine wb e757 ?_
      obtain ⟨w19, ew19⟩ := go_64 Wq12 t_a0
      refine wb ew19 ?_
      obtain ⟨q18, eq18, Wq18, fq18, pbZSeq18⟩ := p_Mo_ended hn Wq12 (a1 := bi2xc_732) t_a0 (by omega) (by omega) (by omega) (by omega) h0ZSkq12 h1ZSkq12
      refine wb eq18 ?_
      have e768 := (Zfr.gi fq18 t_a0 (by decide)).trans e743
      have e769 := (Zfr.gr fq18 t_a0 (by decide)).trans e744
      have e770 := (Zfr.gr fq18 t_a0 (by decide)).trans e745
      have e771 := (Zfr.gr fq18 t_a0 (by decide)).trans e746
      have e772 := (Zfr.gr fq18 t_a0 (by decide)).trans e747
      have e773 := (Zfr.gr fq18 t_a0 (by decide)).trans e748
      have e774 := (Zfr.gi fq18 t_a0 (by decide)).trans e749
      have e775 := (Zfr.gi fq18 t_a0 (by decide)).trans e750
      have e776 := (Zfr.ai fq18 tksxc_732 (by decide)).trans e751
      have e777 := (Zfr.ai fq18 tklxc_732 (by decide)).trans e752
      have e778 := (Zfr.ai fq18 tkwxc_732 (by decide)).trans e753
      have e779 := (Zfr.gi fq18 t_a0 (by decide)).trans e754
      have e780 := (Zfr.ai fq18 tkgxc_732 (by decide)).trans e755
      have e781 := (Zfr.gi fq18 t_a0 (by decide)).trans e756
      have e782 := (Zfr.ai fq18 tkixc_732 (by decide)).trans e757
      have e783 := (Zfr.gi fq18 t_a0 (by decide)).trans h1ZSkq12
      have k784 := GtP_fr k758 fq18 t_a0 Wq12 (by decide)
      have sc786 : Sc q12.2 q18.2 a0 (0) (0) := by
        obtain ⟨yf2, z0y, x0y, x1y, x2y, x3y⟩ := pbZSeq18
        exact Sc_mk h0ZSkq12 z0y h1ZSkq12 ((Zfr.gi (ci := 12) fq18 t_a0 (by decide)).trans h1ZSkq12) e750 ((Zfr.gi (ci := 12) fq18 t_a0 (by decide)).trans e750) (by omega)
      have k785 := WyN_fr k759 fq18 t_a0 Wq12 (by decide) sc786
      have k787 := TbI_fr k761 fq18 t_a0 Wq12 (by decide) sc786
      have k788 := TbC_fr k762 fq18 t_a0 Wq12 (by decide) sc786
      have k789 := TkN_fr k763 fq18 t_a0 Wq12 (by decide)
      have F790 := Zfr.tr F764 fq18 (by decide)
      obtain ⟨bf2q18, h0ZSeq18, r0ZSeq18, r1ZSeq18, r2ZSeq18, r3ZSeq18⟩ := pbZSeq18
      exact ⟨_, rfl, Wq18, F790, ⟨bpvxc_732, bf2q18, bt2q12, bd2xc_732, bksxc_732, bklxc_732, bkwxc_732, bnaxc_732, blbxc_732, bnwxc_732, bvnxc_732, bkgxc_732, bg2xc_732, bcd2xc_732, bkixc_732, bi2xc_732, btp2q1, e768, h0ZSeq18, e783, e775, e769, e770, e771, e776, e777, e778, e779, e772, e780, e781, e773, e782, e774, tksxc_732, tklxc_732, tkwxc_732, tkgxc_732, tkixc_732, by (try dsimp only); omega, by (try dsimp only); omega, by (try dsimp only); omega, by (try dsimp only); omega, by (try dsimp only); omega, by (try dsimp only); omega, by (try dsimp only); omega, by (try dsimp only); omega, by (try dsimp only); omega, by (try dsimp only); omega, by (try dsimp only); omega, by (try dsimp only); omega, by (try dsimp only); omega, by (try dsimp only); omega, by (try dsimp only); omega, by (try dsimp only); omega, by (try dsimp only); omega, by (try dsimp only); omega, by (try dsimp only); omega, by (try dsimp only); omega, by (try dsimp only); omega, by (try dsimp only); omega, by (try dsimp only); omega, by (try dsimp only); omega, by (try dsimp only); omega, by (try dsimp only); omega, k784, k785, k787, k788, k789⟩⟩
    · have hq765 := i_ne hq765
      obtain ⟨w21, ew21⟩ := go_64 Wq12 t_a0
      refine wb ew21 ?_
      obtain ⟨q20, eq20, Wq20, fq20, pbZScq20, pbZkdq20⟩ := p_Mo_kind hn Wq12  t_a0 (by omega) (by omega) (by omega) (by omega) h0ZSkq12 h1ZSkq12
      refine wb eq20 ?_
      have e810 := (Zfr.gi fq20 t_a0 (by decide)).trans e743
      have e811 := (Zfr.gr fq20 t_a0 (by decide)).trans e744
      have e812 := (Zfr.gr fq20 t_a0 (by decide)).trans e745
      have e813 := (Zfr.gr fq20 t_a0 (by decide)).trans e746
      have e814 := (Zfr.gr fq20 t_a0 (by decide)).trans e747
      have e815 := (Zfr.gr fq20 t_a0 (by decide)).trans e748
      have e816 := (Zfr.gi fq20 t_a0 (by decide)).trans e749
      have e817 := (Zfr.gi fq20 t_a0 (by decide)).trans e750
      have e818 := (Zfr.ai fq20 tksxc_732 (by decide)).trans e751
      have e819 := (Zfr.ai fq20 tklxc_732 (by decide)).trans e752
      have e820 := (Zfr.ai fq20 tkwxc_732 (by decide)).trans e753
      have e821 := (Zfr.gi fq20 t_a0 (by decide)).trans e754
      have e822 := (Zfr.ai fq20 tkgxc_732 (by decide)).trans e755
      have e823 := (Zfr.gi fq20 t_a0 (by decide)).trans e756
      have e824 := (Zfr.ai fq20 tkixc_732 (by decide)).trans e757
      have e825 := (Zfr.gi fq20 t_a0 (by decide)).trans h1ZSkq12
      have k826 := GtP_fr k758 fq20 t_a0 Wq12 (by decide)
      have sc828 : Sc q12.2 q20.2 a0 (0) (0) := by
        obtain ⟨yf2, z0y, x0y, x1y, x2y, x3y⟩ := pbZScq20
        exact Sc_mk h0ZSkq12 z0y h1ZSkq12 ((Zfr.gi (ci := 12) fq20 t_a0 (by decide)).trans h1ZSkq12) e750 ((Zfr.gi (ci := 12) fq20 t_a0 (by decide)).trans e750) (by omega)
      have k827 := WyN_fr k759 fq20 t_a0 Wq12 (by decide) sc828
      have k829 := TbI_fr k761 fq20 t_a0 Wq12 (by decide) sc828
      have k830 := TbC_fr k762 fq20 t_a0 Wq12 (by decide) sc828
      have k831 := TkN_fr k763 fq20 t_a0 Wq12 (by decide)
      have F832 := Zfr.tr F764 fq20 (by decide)
      obtain ⟨bf2q20, h0ZScq20, r0ZScq20, r1ZScq20, r2ZScq20, r3ZScq20⟩ := pbZScq20
      obtain ⟨bkkq20, h0Zkdq20, h1Zkdq20, tkkq20⟩ := pbZkdq20
      refine wi (fun hq833 => ?_) (fun hq833 => ?_)
      · have := li_6
        have := i_ge q20.1
        have := i_up q20.1
        have hq833 := i_eq hq833
        obtain ⟨w24, ew24⟩ := go_64 Wq20 t_a0
        refine wb ew24 ?_
        obtain ⟨q23, eq23, Wq23, fq23, pbZStq23⟩ := p_Mo_stands hn Wq20  t_a0 (by omega) (by omega) (by omega) (by omega) h0ZScq20 e825
        refine wb eq23 ?_
        have e836 := (Zfr.gi fq23 t_a0 (by decide)).trans e810
        have e837 := (Zfr.gr fq23 t_a0 (by decide)).trans e811
        have e838 := (Zfr.gr fq23 t_a0 (by decide)).trans e812
        have e839 := (Zfr.gr fq23 t_a0 (by decide)).trans e813
        have e840 := (Zfr.gr fq23 t_a0 (by decide)).trans e814
        have e841 := (Zfr.gr fq23 t_a0 (by decide)).trans e815
        have e842 := (Zfr.gi fq23 t_a0 (by decide)).trans e816
        have e843 := (Zfr.gi fq23 t_a0 (by decide)).trans e817
        have e844 := (Zfr.ai fq23 tksxc_732 (by decide)).trans e818
        have e845 := (Zfr.ai fq23 tklxc_732 (by decide)).trans e819
        have e846 := (Zfr.ai fq23 tkwxc_732 (by decide)).trans e820
        have e847 := (Zfr.gi fq23 t_a0 (by decide)).trans e821
        have e848 := (Zfr.ai fq23 tkgxc_732 (by decide)).trans e822
        have e849 := (Zfr.gi fq23 t_a0 (by decide)).trans e823
        have e850 := (Zfr.ai fq23 tkixc_732 (by decide)).trans e824
        have e851 := (Zfr.gi fq23 t_a0 (by decide)).trans e825
        have e852 := (Zfr.gr fq23 t_a0 (by decide)).trans h0Zkdq20
        have e853 := (Zfr.ai fq23 tkkq20 (by decide)).trans h1Zkdq20
        have k854 := GtP_fr k826 fq23 t_a0 Wq20 (by decide)
        have sc856 : Sc q20.2 q23 a0 (0) (0) := by
          obtain ⟨yf2, z0y, x0y, x1y, x2y⟩ := pbZStq23
          exact Sc_mk h0ZScq20 z0y e825 ((Zfr.gi (ci := 12) fq23 t_a0 (by decide)).trans e825) e817 ((Zfr.gi (ci := 12) fq23 t_a0 (by decide)).trans e817) (by omega)
        have k855 := WyN_fr k827 fq23 t_a0 Wq20 (by decide) sc856
        have k857 := TbI_fr k829 fq23 t_a0 Wq20 (by decide) sc856
        have k858 := TbC_fr k830 fq23 t_a0 Wq20 (by decide) sc856
        have k859 := TkN_fr k831 fq23 t_a0 Wq20 (by decide)
        have F860 := Zfr.tr F832 fq23 (by decide)
        obtain ⟨bf2q23, h0ZStq23, r0ZStq23, r1ZStq23, r2ZStq23⟩ := pbZStq23
        obtain ⟨v25, ev25, tv25⟩ := gf_64_15 Wq23 t_a0
        refine wb ev25 ?_
        refine wb e851 ?_
        obtain ⟨v27, ev27, _⟩ := ga_75 Wq23 tv25 (i := bt2q12) (by omega) (by omega)
        have ht861 := TkM_at (k859 _ _ e852 ev25) e853 ev27
        have := tkr6 ht861 (by omega)
        refine wb ev27 ?_
        refine wi (fun hq862 => ?_) (fun hq862 => ?_)
        · have hq862 := i_eq hq862
          obtain ⟨v37, ev37, tv37⟩ := gf_64_16 Wq23 t_a0
          refine wb ev37 ?_
          refine wb e851 ?_
          obtain ⟨v39, ev39, _⟩ := ga_76 Wq23 tv37 (i := bt2q12) (by omega) (by omega)
          refine wb ev39 ?_
          obtain ⟨w41, ew41⟩ := go_64 Wq23 t_a0
          refine wb ew41 ?_
          obtain ⟨q40, eq40, Wq40, fq40, pbZSfq40⟩ := p_Mo_refuse hn Wq23 (a1 := 6) (a2 := v39) t_a0 (by omega) (by omega) (by omega) (by omega) h0ZStq23
          refine wb eq40 ?_
          have e864 := (Zfr.gi fq40 t_a0 (by decide)).trans e836
          have e865 := (Zfr.gr fq40 t_a0 (by decide)).trans e837
          have e866 := (Zfr.gr fq40 t_a0 (by decide)).trans e838
          have e867 := (Zfr.gr fq40 t_a0 (by decide)).trans e839
          have e868 := (Zfr.gr fq40 t_a0 (by decide)).trans e840
          have e869 := (Zfr.gr fq40 t_a0 (by decide)).trans e841
          have e870 := (Zfr.gi fq40 t_a0 (by decide)).trans e842
          have e871 := (Zfr.gi fq40 t_a0 (by decide)).trans e843
          have e872 := (Zfr.ai fq40 tksxc_732 (by decide)).trans e844
          have e873 := (Zfr.ai fq40 tklxc_732 (by decide)).trans e845
          have e874 := (Zfr.ai fq40 tkwxc_732 (by decide)).trans e846
          have e875 := (Zfr.gi fq40 t_a0 (by decide)).trans e847
          have e876 := (Zfr.ai fq40 tkgxc_732 (by decide)).trans e848
          have e877 := (Zfr.gi fq40 t_a0 (by decide)).trans e849
          have e878 := (Zfr.ai fq40 tkixc_732 (by decide)).trans e850
          have e879 := (Zfr.gi fq40 t_a0 (by decide)).trans e851
          have e880 := (Zfr.gr fq40 t_a0 (by decide)).trans e852
          have e881 := (Zfr.ai fq40 tkkq20 (by decide)).trans e853
          have e882 := (Zfr.gr fq40 t_a0 (by decide)).trans ev25
          have e883 := (Zfr.ai fq40 tv25 (by decide)).trans ev27
          have e884 := (Zfr.ai fq40 tv37 (by decide)).trans ev39
          have k885 := GtP_fr k854 fq40 t_a0 Wq23 (by decide)
          have sc887 : Sc q23 q40 a0 (0) (0) := by
            obtain ⟨yf2, z0y, x0y, x1y⟩ := pbZSfq40
            exact Sc_mk h0ZStq23 z0y e851 ((Zfr.gi (ci := 12) fq40 t_a0 (by decide)).trans e851) e843 ((Zfr.gi (ci := 12) fq40 t_a0 (by decide)).trans e843) (by omega)
          have k886 := WyN_fr k855 fq40 t_a0 Wq23 (by decide) sc887
          have k888 := TbI_fr k857 fq40 t_a0 Wq23 (by decide) sc887
          have k889 := TbC_fr k858 fq40 t_a0 Wq23 (by decide) sc887
          have k890 := TkN_fr k859 fq40 t_a0 Wq23 (by decide)
          have F891 := Zfr.tr F860 fq40 (by decide)
          obtain ⟨bf2q40, h0ZSfq40, r0ZSfq40, r1ZSfq40⟩ := pbZSfq40
          unfold f_Mo_readQuestion_91
          obtain ⟨v29, ev29, tv29⟩ := gf_64_47 Wq40 t_a0
          refine wb ev29 ?_
          refine wb e864 ?_
          refine wb e882 ?_
          refine wb e879 ?_
          refine wb e883 ?_
          obtain ⟨c34, ec34, Wc34, fc34, gc34⟩ := pa_100 Wq40 tv29 (i := bpvxc_732) (by omega) (by omega) (x := v27) (rgi (by omega) (by omega))
          refine wb ec34 ?_
          have e892 := (Zfr.gi fc34 t_a0 (by decide)).trans e864
          have e893 := (Zfr.gr fc34 t_a0 (by decide)).trans e865
          have e894 := (Zfr.gr fc34 t_a0 (by decide)).trans e866
          have e895 := (Zfr.gr fc34 t_a0 (by decide)).trans e867
          have e896 := (Zfr.gr fc34 t_a0 (by decide)).trans e868
          have e897 := (Zfr.gr fc34 t_a0 (by decide)).trans e869
          have e898 := (Zfr.gi fc34 t_a0 (by decide)).trans e870
          have e899 := (Zfr.gi fc34 t_a0 (by decide)).trans e871
          have e900 := (Zfr.ai fc34 tksxc_732 (by decide)).trans e872
          have e901 := (Zfr.ai fc34 tklxc_732 (by decide)).trans e873
          have e902 := (Zfr.ai fc34 tkwxc_732 (by decide)).trans e874
          have e903 := (Zfr.gi fc34 t_a0 (by decide)).trans e875
          have e904 := (Zfr.ai fc34 tkgxc_732 (by decide)).trans e876
          have e905 := (Zfr.gi fc34 t_a0 (by decide)).trans e877
          have e906 := (Zfr.ai fc34 tkixc_732 (by decide)).trans e878
          have e907 := (Zfr.gi fc34 t_a0 (by decide)).trans e879
          have e908 := (Zfr.gr fc34 t_a0 (by decide)).trans e880
          have e909 := (Zfr.ai fc34 tkkq20 (by decide)).trans e881
          have e910 := (Zfr.gr fc34 t_a0 (by decide)).trans e882
          have e911 := (Zfr.ai fc34 tv25 (by decide)).trans e883
          have e912 := (Zfr.ai fc34 tv37 (by decide)).trans e884
          have e913 := (Zfr.gi fc34 t_a0 (by decide)).trans h0ZSfq40
          have e914 := (Zfr.gr fc34 t_a0 (by decide)).trans ev29
          have k915 := GtP_fr k885 fc34 t_a0 Wq40 (by decide)
          have sc917 := Sc_fr fc34 t_a0 (by decide) (by decide) (by decide)
          have k916 := WyN_fr k886 fc34 t_a0 Wq40 (by decide) sc917
          have k918 := TbI_fr k888 fc34 t_a0 Wq40 (by decide) sc917
          have k919 := TbC_fr k889 fc34 t_a0 Wq40 (by decide) sc917
          have k920 := TkN_fr k890 fc34 t_a0 Wq40 (by decide)
          have F921 := Zfr.tr F891 fc34 (by decide)
          obtain ⟨w36, ew36⟩ := go_64 Wc34 t_a0
          refine wb ew36 ?_
          obtain ⟨q35, eq35, Wq35, fq35, pbZSq35⟩ := p_Mo_pass hn Wc34  t_a0 (by omega) (by omega) (by omega) (by omega) e913 e907
          refine wb eq35 ?_
          have e924 := (Zfr.gi fq35 t_a0 (by decide)).trans e892
          have e925 := (Zfr.gr fq35 t_a0 (by decide)).trans e893
          have e926 := (Zfr.gr fq35 t_a0 (by decide)).trans e894
          have e927 := (Zfr.gr fq35 t_a0 (by decide)).trans e895
          have e928 := (Zfr.gr fq35 t_a0 (by decide)).trans e896
          have e929 := (Zfr.gr fq35 t_a0 (by decide)).trans e897
          have e930 := (Zfr.gi fq35 t_a0 (by decide)).trans e898
          have e931 := (Zfr.gi fq35 t_a0 (by decide)).trans e899
          have e932 := (Zfr.ai fq35 tksxc_732 (by decide)).trans e900
          have e933 := (Zfr.ai fq35 tklxc_732 (by decide)).trans e901
          have e934 := (Zfr.ai fq35 tkwxc_732 (by decide)).trans e902
          have e935 := (Zfr.gi fq35 t_a0 (by decide)).trans e903
          have e936 := (Zfr.ai fq35 tkgxc_732 (by decide)).trans e904
          have e937 := (Zfr.gi fq35 t_a0 (by decide)).trans e905
          have e938 := (Zfr.ai fq35 tkixc_732 (by decide)).trans e906
          have e939 := (Zfr.gr fq35 t_a0 (by decide)).trans e908
          have e940 := (Zfr.ai fq35 tkkq20 (by decide)).trans e909
          have e941 := (Zfr.gr fq35 t_a0 (by decide)).trans e910
          have e942 := (Zfr.ai fq35 tv25 (by decide)).trans e911
          have e943 := (Zfr.ai fq35 tv37 (by decide)).trans e912
          have e944 := (Zfr.gr fq35 t_a0 (by decide)).trans e914
          have e945 := (Zfr.ai fq35 tv29 (by decide)).trans gc34
          have k946 := GtP_fr k915 fq35 t_a0 Wc34 (by decide)
          have sc948 : Sc c34 q35 a0 (1) (0) := by
            obtain ⟨yf2, yt2, z0y, z1y, x0y, x1y, x2y, x3y, x4y, x5y⟩ := pbZSq35
            exact Sc_mk e913 z0y e907 z1y e899 ((Zfr.gi (ci := 12) fq35 t_a0 (by decide)).trans e899) (by omega)
          have k947 := WyN_fr k916 fq35 t_a0 Wc34 (by decide) sc948
          have k949 := TbI_fr k918 fq35 t_a0 Wc34 (by decide) sc948
          have k950 := TbC_fr k919 fq35 t_a0 Wc34 (by decide) sc948
          have k951 := TkN_fr k920 fq35 t_a0 Wc34 (by decide)
          have F952 := Zfr.tr F921 fq35 (by decide)
          obtain ⟨bf2q35, bt2q35, h0ZSq35, h1ZSq35, r0ZSq35, r1ZSq35, r2ZSq35, r3ZSq35, r4ZSq35, r5ZSq35⟩ := pbZSq35
          unfold f_Mo_readQuestion_113
          refine wb e929 ?_
          refine wb e924 ?_
          refine wb e938 ?_
          obtain ⟨w19, ew19⟩ := go_64 Wq35 t_a0
          refine wb ew19 ?_
          obtain ⟨q18, eq18, Wq18, fq18, pbZSeq18⟩ := p_Mo_ended hn Wq35 (a1 := bi2xc_732) t_a0 (by omega) (by omega) (by omega) (by omega) h0ZSq35 h1ZSq35
          refine wb eq18 ?_
          have e955 := (Zfr.gi fq18 t_a0 (by decide)).trans e924
          have e956 := (Zfr.gr fq18 t_a0 (by decide)).trans e925
          have e957 := (Zfr.gr fq18 t_a0 (by decide)).trans e926
          have e958 := (Zfr.gr fq18 t_a0 (by decide)).trans e927
          have e959 := (Zfr.gr fq18 t_a0 (by decide)).trans e928
          have e960 := (Zfr.gr fq18 t_a0 (by decide)).trans e929
          have e961 := (Zfr.gi fq18 t_a0 (by decide)).trans e930
          have e962 := (Zfr.gi fq18 t_a0 (by decide)).trans e931
          have e963 := (Zfr.ai fq18 tksxc_732 (by decide)).trans e932
          have e964 := (Zfr.ai fq18 tklxc_732 (by decide)).trans e933
          have e965 := (Zfr.ai fq18 tkwxc_732 (by decide)).trans e934
          have e966 := (Zfr.gi fq18 t_a0 (by decide)).trans e935
          have e967 := (Zfr.ai fq18 tkgxc_732 (by decide)).trans e936
          have e968 := (Zfr.gi fq18 t_a0 (by decide)).trans e937
          have e969 := (Zfr.ai fq18 tkixc_732 (by decide)).trans e938
          have e970 := (Zfr.gr fq18 t_a0 (by decide)).trans e939
          have e971 := (Zfr.ai fq18 tkkq20 (by decide)).trans e940
          have e972 := (Zfr.gr fq18 t_a0 (by decide)).trans e941
          have e973 := (Zfr.ai fq18 tv25 (by decide)).trans e942
          have e974 := (Zfr.ai fq18 tv37 (by decide)).trans e943
          have e975 := (Zfr.gr fq18 t_a0 (by decide)).trans e944
          have e976 := (Zfr.ai fq18 tv29 (by decide)).trans e945
          have e977 := (Zfr.gi fq18 t_a0 (by decide)).trans h1ZSq35
          have k978 := GtP_fr k946 fq18 t_a0 Wq35 (by decide)
          have sc980 : Sc q35 q18.2 a0 (0) (0) := by
            obtain ⟨yf2, z0y, x0y, x1y, x2y, x3y⟩ := pbZSeq18
            exact Sc_mk h0ZSq35 z0y h1ZSq35 ((Zfr.gi (ci := 12) fq18 t_a0 (by decide)).trans h1ZSq35) e931 ((Zfr.gi (ci := 12) fq18 t_a0 (by decide)).trans e931) (by omega)
          have k979 := WyN_fr k947 fq18 t_a0 Wq35 (by decide) sc980
          have k981 := TbI_fr k949 fq18 t_a0 Wq35 (by decide) sc980
          have k982 := TbC_fr k950 fq18 t_a0 Wq35 (by decide) sc980
          have k983 := TkN_fr k951 fq18 t_a0 Wq35 (by decide)
          have F984 := Zfr.tr F952 fq18 (by decide)
          obtain ⟨bf2q18, h0ZSeq18, r0ZSeq18, r1ZSeq18, r2ZSeq18, r3ZSeq18⟩ := pbZSeq18
          exact ⟨_, rfl, Wq18, F984, ⟨bpvxc_732, bf2q18, bt2q35, bd2xc_732, bksxc_732, bklxc_732, bkwxc_732, bnaxc_732, blbxc_732, bnwxc_732, bvnxc_732, bkgxc_732, bg2xc_732, bcd2xc_732, bkixc_732, bi2xc_732, btp2q1, e955, h0ZSeq18, e977, e962, e956, e957, e958, e963, e964, e965, e966, e959, e967, e968, e960, e969, e961, tksxc_732, tklxc_732, tkwxc_732, tkgxc_732, tkixc_732, by (try dsimp only); omega, by (try dsimp only); omega, by (try dsimp only); omega, by (try dsimp only); omega, by (try dsimp only); omega, by (try dsimp only); omega, by (try dsimp only); omega, by (try dsimp only); omega, by (try dsimp only); omega, by (try dsimp only); omega, by (try dsimp only); omega, by (try dsimp only); omega, by (try dsimp only); omega, by (try dsimp only); omega, by (try dsimp only); omega, by (try dsimp only); omega, by (try dsimp only); omega, by (try dsimp only); omega, by (try dsimp only); omega, by (try dsimp only); omega, by (try dsimp only); omega, by (try dsimp only); omega, by (try dsimp only); omega, by (try dsimp only); omega, by (try dsimp only); omega, by (try dsimp only); omega, k978, k979, k981, k982, k983⟩⟩
        · have hq862 := i_ne hq862
          unfold f_Mo_readQuestion_91
          obtain ⟨v29, ev29, tv29⟩ := gf_64_47 Wq23 t_a0
          refine wb ev29 ?_
          refine wb e836 ?_
          refine wb ev25 ?_
          refine wb e851 ?_
          refine wb ev27 ?_
          obtain ⟨c34, ec34, Wc34, fc34, gc34⟩ := pa_100 Wq23 tv29 (i := bpvxc_732) (by omega) (by omega) (x := v27) (rgi (by omega) (by omega))
          refine wb ec34 ?_
          have e1002 := (Zfr.gi fc34 t_a0 (by decide)).trans e836
          have e1003 := (Zfr.gr fc34 t_a0 (by decide)).trans e837
          have e1004 := (Zfr.gr fc34 t_a0 (by decide)).trans e838
          have e1005 := (Zfr.gr fc34 t_a0 (by decide)).trans e839
          have e1006 := (Zfr.gr fc34 t_a0 (by decide)).trans e840
          have e1007 := (Zfr.gr fc34 t_a0 (by decide)).trans e841
          have e1008 := (Zfr.gi fc34 t_a0 (by decide)).trans e842
          have e1009 := (Zfr.gi fc34 t_a0 (by decide)).trans e843
          have e1010 := (Zfr.ai fc34 tksxc_732 (by decide)).trans e844
          have e1011 := (Zfr.ai fc34 tklxc_732 (by decide)).trans e845
          have e1012 := (Zfr.ai fc34 tkwxc_732 (by decide)).trans e846
          have e1013 := (Zfr.gi fc34 t_a0 (by decide)).trans e847
          have e1014 := (Zfr.ai fc34 tkgxc_732 (by decide)).trans e848
          have e1015 := (Zfr.gi fc34 t_a0 (by decide)).trans e849
          have e1016 := (Zfr.ai fc34 tkixc_732 (by decide)).trans e850
          have e1017 := (Zfr.gi fc34 t_a0 (by decide)).trans e851
          have e1018 := (Zfr.gr fc34 t_a0 (by decide)).trans e852
          have e1019 := (Zfr.ai fc34 tkkq20 (by decide)).trans e853
          have e1020 := (Zfr.gi fc34 t_a0 (by decide)).trans h0ZStq23
          have e1021 := (Zfr.gr fc34 t_a0 (by decide)).trans ev25
          have e1022 := (Zfr.ai fc34 tv25 (by decide)).trans ev27
          have e1023 := (Zfr.gr fc34 t_a0 (by decide)).trans ev29
          have k1024 := GtP_fr k854 fc34 t_a0 Wq23 (by decide)
          have sc1026 := Sc_fr fc34 t_a0 (by decide) (by decide) (by decide)
          have k1025 := WyN_fr k855 fc34 t_a0 Wq23 (by decide) sc1026
          have k1027 := TbI_fr k857 fc34 t_a0 Wq23 (by decide) sc1026
          have k1028 := TbC_fr k858 fc34 t_a0 Wq23 (by decide) sc1026
          have k1029 := TkN_fr k859 fc34 t_a0 Wq23 (by decide)
          have F1030 := Zfr.tr F860 fc34 (by decide)
          obtain ⟨w36, ew36⟩ := go_64 Wc34 t_a0
          refine wb ew36 ?_
          obtain ⟨q35, eq35, Wq35, fq35, pbZSq35⟩ := p_Mo_pass hn Wc34  t_a0 (by omega) (by omega) (by omega) (by omega) e1020 e1017
          refine wb eq35 ?_
          have e1033 := (Zfr.gi fq35 t_a0 (by decide)).trans e1002
          have e1034 := (Zfr.gr fq35 t_a0 (by decide)).trans e1003
          have e1035 := (Zfr.gr fq35 t_a0 (by decide)).trans e1004
          have e1036 := (Zfr.gr fq35 t_a0 (by decide)).trans e1005
          have e1037 := (Zfr.gr fq35 t_a0 (by decide)).trans e1006
          have e1038 := (Zfr.gr fq35 t_a0 (by decide)).trans e1007
          have e1039 := (Zfr.gi fq35 t_a0 (by decide)).trans e1008
          have e1040 := (Zfr.gi fq35 t_a0 (by decide)).trans e1009
          have e1041 := (Zfr.ai fq35 tksxc_732 (by decide)).trans e1010
          have e1042 := (Zfr.ai fq35 tklxc_732 (by decide)).trans e1011
          have e1043 := (Zfr.ai fq35 tkwxc_732 (by decide)).trans e1012
          have e1044 := (Zfr.gi fq35 t_a0 (by decide)).trans e1013
          have e1045 := (Zfr.ai fq35 tkgxc_732 (by decide)).trans e1014
          have e1046 := (Zfr.gi fq35 t_a0 (by decide)).trans e1015
          have e1047 := (Zfr.ai fq35 tkixc_732 (by decide)).trans e1016
          have e1048 := (Zfr.gr fq35 t_a0 (by decide)).trans e1018
          have e1049 := (Zfr.ai fq35 tkkq20 (by decide)).trans e1019
          have e1050 := (Zfr.gr fq35 t_a0 (by decide)).trans e1021
          have e1051 := (Zfr.ai fq35 tv25 (by decide)).trans e1022
          have e1052 := (Zfr.gr fq35 t_a0 (by decide)).trans e1023
          have e1053 := (Zfr.ai fq35 tv29 (by decide)).trans gc34
          have k1054 := GtP_fr k1024 fq35 t_a0 Wc34 (by decide)
          have sc1056 : Sc c34 q35 a0 (1) (0) := by
            obtain ⟨yf2, yt2, z0y, z1y, x0y, x1y, x2y, x3y, x4y, x5y⟩ := pbZSq35
            exact Sc_mk e1020 z0y e1017 z1y e1009 ((Zfr.gi (ci := 12) fq35 t_a0 (by decide)).trans e1009) (by omega)
          have k1055 := WyN_fr k1025 fq35 t_a0 Wc34 (by decide) sc1056
          have k1057 := TbI_fr k1027 fq35 t_a0 Wc34 (by decide) sc1056
          have k1058 := TbC_fr k1028 fq35 t_a0 Wc34 (by decide) sc1056
          have k1059 := TkN_fr k1029 fq35 t_a0 Wc34 (by decide)
          have F1060 := Zfr.tr F1030 fq35 (by decide)
          obtain ⟨bf2q35, bt2q35, h0ZSq35, h1ZSq35, r0ZSq35, r1ZSq35, r2ZSq35, r3ZSq35, r4ZSq35, r5ZSq35⟩ := pbZSq35
          unfold f_Mo_readQuestion_113
          refine wb e1038 ?_
          refine wb e1033 ?_
          refine wb e1047 ?_
          obtain ⟨w19, ew19⟩ := go_64 Wq35 t_a0
          refine wb ew19 ?_
          obtain ⟨q18, eq18, Wq18, fq18, pbZSeq18⟩ := p_Mo_ended hn Wq35 (a1 := bi2xc_732) t_a0 (by omega) (by omega) (by omega) (by omega) h0ZSq35 h1ZSq35
          refine wb eq18 ?_
          have e1063 := (Zfr.gi fq18 t_a0 (by decide)).trans e1033
          have e1064 := (Zfr.gr fq18 t_a0 (by decide)).trans e1034
          have e1065 := (Zfr.gr fq18 t_a0 (by decide)).trans e1035
          have e1066 := (Zfr.gr fq18 t_a0 (by decide)).trans e1036
          have e1067 := (Zfr.gr fq18 t_a0 (by decide)).trans e1037
          have e1068 := (Zfr.gr fq18 t_a0 (by decide)).trans e1038
          have e1069 := (Zfr.gi fq18 t_a0 (by decide)).trans e1039
          have e1070 := (Zfr.gi fq18 t_a0 (by decide)).trans e1040
          have e1071 := (Zfr.ai fq18 tksxc_732 (by decide)).trans e1041
          have e1072 := (Zfr.ai fq18 tklxc_732 (by decide)).trans e1042
          have e1073 := (Zfr.ai fq18 tkwxc_732 (by decide)).trans e1043
          have e1074 := (Zfr.gi fq18 t_a0 (by decide)).trans e1044
          have e1075 := (Zfr.ai fq18 tkgxc_732 (by decide)).trans e1045
          have e1076 := (Zfr.gi fq18 t_a0 (by decide)).trans e1046
          have e1077 := (Zfr.ai fq18 tkixc_732 (by decide)).trans e1047
          have e1078 := (Zfr.gr fq18 t_a0 (by decide)).trans e1048
          have e1079 := (Zfr.ai fq18 tkkq20 (by decide)).trans e1049
          have e1080 := (Zfr.gr fq18 t_a0 (by decide)).trans e1050
          have e1081 := (Zfr.ai fq18 tv25 (by decide)).trans e1051
          have e1082 := (Zfr.gr fq18 t_a0 (by decide)).trans e1052
          have e1083 := (Zfr.ai fq18 tv29 (by decide)).trans e1053
          have e1084 := (Zfr.gi fq18 t_a0 (by decide)).trans h1ZSq35
          have k1085 := GtP_fr k1054 fq18 t_a0 Wq35 (by decide)
          have sc1087 : Sc q35 q18.2 a0 (0) (0) := by
            obtain ⟨yf2, z0y, x0y, x1y, x2y, x3y⟩ := pbZSeq18
            exact Sc_mk h0ZSq35 z0y h1ZSq35 ((Zfr.gi (ci := 12) fq18 t_a0 (by decide)).trans h1ZSq35) e1040 ((Zfr.gi (ci := 12) fq18 t_a0 (by decide)).trans e1040) (by omega)
          have k1086 := WyN_fr k1055 fq18 t_a0 Wq35 (by decide) sc1087
          have k1088 := TbI_fr k1057 fq18 t_a0 Wq35 (by decide) sc1087
          have k1089 := TbC_fr k1058 fq18 t_a0 Wq35 (by decide) sc1087
          have k1090 := TkN_fr k1059 fq18 t_a0 Wq35 (by decide)
          have F1091 := Zfr.tr F1060 fq18 (by decide)
          obtain ⟨bf2q18, h0ZSeq18, r0ZSeq18, r1ZSeq18, r2ZSeq18, r3ZSeq18⟩ := pbZSeq18
          exact ⟨_, rfl, Wq18, F1091, ⟨bpvxc_732, bf2q18, bt2q35, bd2xc_732, bksxc_732, bklxc_732, bkwxc_732, bnaxc_732, blbxc_732, bnwxc_732, bvnxc_732, bkgxc_732, bg2xc_732, bcd2xc_732, bkixc_732, bi2xc_732, btp2q1, e1063, h0ZSeq18, e1084, e1070, e1064, e1065, e1066, e1071, e1072, e1073, e1074, e1067, e1075, e1076, e1068, e1077, e1069, tksxc_732, tklxc_732, tkwxc_732, tkgxc_732, tkixc_732, by (try dsimp only); omega, by (try dsimp only); omega, by (try dsimp only); omega, by (try dsimp only); omega, by (try dsimp only); omega, by (try dsimp only); omega, by (try dsimp only); omega, by (try dsimp only); omega, by (try dsimp only); omega, by (try dsimp only); omega, by (try dsimp only); omega, by (try dsimp only); omega, by (try dsimp only); omega, by (try dsimp only); omega, by (try dsimp only); omega, by (try dsimp only); omega, by (try dsimp only); omega, by (try dsimp only); omega, by (try dsimp only); omega, by (try dsimp only); omega, by (try dsimp only); omega, by (try dsimp only); omega, by (try dsimp only); omega, by (try dsimp only); omega, by (try dsimp only); omega, by (try dsimp only); omega, k1085, k1086, k1088, k1089, k1090⟩⟩
      · have := li_6
        have := i_ge q20.1
        have := i_up q20.1
        have hq833 := i_ne hq833
        obtain ⟨w43, ew43⟩ := go_64 Wq20 t_a0
        refine wb ew43 ?_
        obtain ⟨q42, eq42, Wq42, fq42, pbZSfq42⟩ := p_Mo_wrong hn Wq20  t_a0 (by omega) (by omega) (by omega) (by omega) h0ZScq20 e825
        refine wb eq42 ?_
        have e1111 := (Zfr.gi fq42 t_a0 (by decide)).trans e810
        have e1112 := (Zfr.gr fq42 t_a0 (by decide)).trans e811
        have e1113 := (Zfr.gr fq42 t_a0 (by decide)).trans e812
        have e1114 := (Zfr.gr fq42 t_a0 (by decide)).trans e813
        have e1115 := (Zfr.gr fq42 t_a0 (by decide)).trans e814
        have e1116 := (Zfr.gr fq42 t_a0 (by decide)).trans e815
        have e1117 := (Zfr.gi fq42 t_a0 (by decide)).trans e816
        have e1118 := (Zfr.gi fq42 t_a0 (by decide)).trans e817
        have e1119 := (Zfr.ai fq42 tksxc_732 (by decide)).trans e818
        have e1120 := (Zfr.ai fq42 tklxc_732 (by decide)).trans e819
        have e1121 := (Zfr.ai fq42 tkwxc_732 (by decide)).trans e820
        have e1122 := (Zfr.gi fq42 t_a0 (by decide)).trans e821
        have e1123 := (Zfr.ai fq42 tkgxc_732 (by decide)).trans e822
        have e1124 := (Zfr.gi fq42 t_a0 (by decide)).trans e823
        have e1125 := (Zfr.ai fq42 tkixc_732 (by decide)).trans e824
        have e1126 := (Zfr.gi fq42 t_a0 (by decide)).trans e825
        have e1127 := (Zfr.gr fq42 t_a0 (by decide)).trans h0Zkdq20
        have e1128 := (Zfr.ai fq42 tkkq20 (by decide)).trans h1Zkdq20
        have k1129 := GtP_fr k826 fq42 t_a0 Wq20 (by decide)
        have sc1131 : Sc q20.2 q42 a0 (0) (0) := by
          obtain ⟨yf2, z0y, x0y, x1y⟩ := pbZSfq42
          exact Sc_mk h0ZScq20 z0y e825 ((Zfr.gi (ci := 12) fq42 t_a0 (by decide)).trans e825) e817 ((Zfr.gi (ci := 12) fq42 t_a0 (by decide)).trans e817) (by omega)
        have k1130 := WyN_fr k827 fq42 t_a0 Wq20 (by decide) sc1131
        have k1132 := TbI_fr k829 fq42 t_a0 Wq20 (by decide) sc1131
        have k1133 := TbC_fr k830 fq42 t_a0 Wq20 (by decide) sc1131
        have k1134 := TkN_fr k831 fq42 t_a0 Wq20 (by decide)
        have F1135 := Zfr.tr F832 fq42 (by decide)
        obtain ⟨bf2q42, h0ZSfq42, r0ZSfq42, r1ZSfq42⟩ := pbZSfq42
        unfold f_Mo_readQuestion_113
        refine wb e1116 ?_
        refine wb e1111 ?_
        refine wb e1125 ?_
        obtain ⟨w19, ew19⟩ := go_64 Wq42 t_a0
        refine wb ew19 ?_
        obtain ⟨q18, eq18, Wq18, fq18, pbZSeq18⟩ := p_Mo_ended hn Wq42 (a1 := bi2xc_732) t_a0 (by omega) (by omega) (by omega) (by omega) h0ZSfq42 e1126
        refine wb eq18 ?_
        have e1138 := (Zfr.gi fq18 t_a0 (by decide)).trans e1111
        have e1139 := (Zfr.gr fq18 t_a0 (by decide)).trans e1112
        have e1140 := (Zfr.gr fq18 t_a0 (by decide)).trans e1113
        have e1141 := (Zfr.gr fq18 t_a0 (by decide)).trans e1114
        have e1142 := (Zfr.gr fq18 t_a0 (by decide)).trans e1115
        have e1143 := (Zfr.gr fq18 t_a0 (by decide)).trans e1116
        have e1144 := (Zfr.gi fq18 t_a0 (by decide)).trans e1117
        have e1145 := (Zfr.gi fq18 t_a0 (by decide)).trans e1118
        have e1146 := (Zfr.ai fq18 tksxc_732 (by decide)).trans e1119
        have e1147 := (Zfr.ai fq18 tklxc_732 (by decide)).trans e1120
        have e1148 := (Zfr.ai fq18 tkwxc_732 (by decide)).trans e1121
        have e1149 := (Zfr.gi fq18 t_a0 (by decide)).trans e1122
        have e1150 := (Zfr.ai fq18 tkgxc_732 (by decide)).trans e1123
        have e1151 := (Zfr.gi fq18 t_a0 (by decide)).trans e1124
        have e1152 := (Zfr.ai fq18 tkixc_732 (by decide)).trans e1125
        have e1153 := (Zfr.gi fq18 t_a0 (by decide)).trans e1126
        have e1154 := (Zfr.gr fq18 t_a0 (by decide)).trans e1127
        have e1155 := (Zfr.ai fq18 tkkq20 (by decide)).trans e1128
        have k1156 := GtP_fr k1129 fq18 t_a0 Wq42 (by decide)
        have sc1158 : Sc q42 q18.2 a0 (0) (0) := by
          obtain ⟨yf2, z0y, x0y, x1y, x2y, x3y⟩ := pbZSeq18
          exact Sc_mk h0ZSfq42 z0y e1126 ((Zfr.gi (ci := 12) fq18 t_a0 (by decide)).trans e1126) e1118 ((Zfr.gi (ci := 12) fq18 t_a0 (by decide)).trans e1118) (by omega)
        have k1157 := WyN_fr k1130 fq18 t_a0 Wq42 (by decide) sc1158
        have k1159 := TbI_fr k1132 fq18 t_a0 Wq42 (by decide) sc1158
        have k1160 := TbC_fr k1133 fq18 t_a0 Wq42 (by decide) sc1158
        have k1161 := TkN_fr k1134 fq18 t_a0 Wq42 (by decide)
        have F1162 := Zfr.tr F1135 fq18 (by decide)
        obtain ⟨bf2q18, h0ZSeq18, r0ZSeq18, r1ZSeq18, r2ZSeq18, r3ZSeq18⟩ := pbZSeq18
        exact ⟨_, rfl, Wq18, F1162, ⟨bpvxc_732, bf2q18, bt2q12, bd2xc_732, bksxc_732, bklxc_732, bkwxc_732, bnaxc_732, blbxc_732, bnwxc_732, bvnxc_732, bkgxc_732, bg2xc_732, bcd2xc_732, bkixc_732, bi2xc_732, btp2q1, e1138, h0ZSeq18, e1153, e1145, e1139, e1140, e1141, e1146, e1147, e1148, e1149, e1142, e1150, e1151, e1143, e1152, e1144, tksxc_732, tklxc_732, tkwxc_732, tkgxc_732, tkixc_732, by (try dsimp only); omega, by (try dsimp only); omega, by (try dsimp only); omega, by (try dsimp only); omega, by (try dsimp only); omega, by (try dsimp only); omega, by (try dsimp only); omega, by (try dsimp only); omega, by (try dsimp only); omega, by (try dsimp only); omega, by (try dsimp only); omega, by (try dsimp only); omega, by (try dsimp only); omega, by (try dsimp only); omega, by (try dsimp only); omega, by (try dsimp only); omega, by (try dsimp only); omega, by (try dsimp only); omega, by (try dsimp only); omega, by (try dsimp only); omega, by (try dsimp only); omega, by (try dsimp only); omega, by (try dsimp only); omega, by (try dsimp only); omega, by (try dsimp only); omega, by (try dsimp only); omega, k1156, k1157, k1159, k1160, k1161⟩⟩

end ZzT
