section ZzT
abbrev M_Mo_pattern : List (Nat × Nat) := [(64, 18), (64, 19), (64, 20), (64, 53), (64, 57), (64, 65), (79, 0), (80, 0), (82, 0), (83, 0), (84, 0), (85, 0), (86, 0), (87, 0), (88, 0), (89, 0), (90, 0), (91, 0), (92, 0), (93, 0), (94, 0), (95, 0), (105, 0), (106, 0), (107, 0), (108, 0), (109, 0), (110, 0), (111, 0), (112, 0), (113, 0), (134, 0)]
set_option maxRecDepth 100000 in
set_option maxHeartbeats 400000 in
theorem p_Mo_pattern {nf : Nat} (hn : 8589934592 ≤ nf) {G : List Nat} {c : Zc} (W : Zwt zty G c) {a0 : Nat} {ni : Int32} {bc : Int32} {pv : Int32} {fv : Int32} {tv : Int32} {dv : Int32} (t_a0 : G[a0]? = some 64) (pl_pv : 0 ≤ pv.toInt) (pu_pv : pv.toInt ≤ 8) (pl_fv : 0 ≤ fv.toInt) (pu_fv : fv.toInt ≤ 6) (pl_tv : 0 ≤ tv.toInt) (pu_tv : tv.toInt ≤ 200) (pl_dv : 0 ≤ dv.toInt) (pu_dv : dv.toInt ≤ 11) (eh_pv : zgi c a0 12 25 = some pv) (eh_fv : zgi c a0 12 19 = some fv) (eh_tv : zgi c a0 12 18 = some tv) (eh_dv : zgi c a0 12 53 = some dv) (hb_ZV : ZV G c a0 pv fv tv dv ni bc) : ∃ q, f_Mo_pattern nf a0 c = some q ∧ Zwt zty G q ∧ Zfr G M_Mo_pattern c q ∧ ZVq G q a0 pv fv tv dv ni bc 2 := by
  have F0 : Zfr G M_Mo_pattern c c := Zfr.rf
  unfold f_Mo_pattern
  obtain ⟨bks0, bkl0, bkw0, bna0, blb0, bnw0, bvn0, h0ZV0, h1ZV0, h2ZV0, h3ZV0, h4ZV0, h5ZV0, h6ZV0, h7ZV0, h8ZV0, h9ZV0, h10ZV0, tks0, tkl0, tkw0, r0ZV0, r1ZV0, r2ZV0, r3ZV0, r4ZV0, r5ZV0, r6ZV0, r7ZV0, r8ZV0, r9ZV0, r10ZV0, r11ZV0, r12ZV0, r13ZV0, r14ZV0, r15ZV0, r16ZV0, r17ZV0, k0ZV0, k1ZV0, k2ZV0, k3ZV0, k4ZV0⟩ := hb_ZV
  obtain ⟨w2, ew2⟩ := go_64 W t_a0
  refine wb ew2 ?_
  obtain ⟨q1, eq1, Wq1, fq1, pbZNnq1⟩ := p_Mo_nodeOf hn W (ni := ni) (bc := bc) (n1 := bnw0) t_a0 (by omega) (by omega) (by omega) (by omega) (by omega) (by omega) (by omega) (by omega) h0ZV0 h1ZV0 h2ZV0 h3ZV0 ⟨bks0, bkl0, bna0, blb0, bvn0, h0ZV0, h1ZV0, h2ZV0, h3ZV0, h4ZV0, h5ZV0, h7ZV0, h8ZV0, h10ZV0, tks0, tkl0, by (try dsimp only); omega, by (try dsimp only); omega, by (try dsimp only); omega, by (try dsimp only); omega, by (try dsimp only); omega, by (try dsimp only); omega, by (try dsimp only); omega, by (try dsimp only); omega, by (try dsimp only); omega, by (try dsimp only); omega, by (try dsimp only); omega, by (try dsimp only); omega, by (try dsimp only); omega, by (try dsimp only); omega, by (try dsimp only); omega, by (try dsimp only); omega, k0ZV0, k1ZV0, k2ZV0, k3ZV0, k4ZV0⟩
  refine wb eq1 ?_
  have e14 := (Zfr.gi fq1 t_a0 (by decide)).trans h0ZV0
  have e15 := (Zfr.gi fq1 t_a0 (by decide)).trans h3ZV0
  have e16 := (Zfr.gr fq1 t_a0 (by decide)).trans h4ZV0
  have e17 := (Zfr.gr fq1 t_a0 (by decide)).trans h5ZV0
  have e18 := (Zfr.gr fq1 t_a0 (by decide)).trans h6ZV0
  have e19 := (Zfr.ai fq1 tkl0 (by decide)).trans h8ZV0
  have e20 := (Zfr.ai fq1 tkw0 (by decide)).trans h9ZV0
  have F21 := Zfr.tr F0 fq1 (by decide)
  have := li_2
  obtain ⟨bf2q1, bt2q1, bd2q1, bksq1, bklq1, bnaq1, blbq1, bvnq1, h0ZNnq1, h1ZNnq1, h2ZNnq1, h3ZNnq1, h4ZNnq1, h5ZNnq1, h6ZNnq1, h7ZNnq1, h8ZNnq1, tksq1, tklq1, r0ZNnq1, r1ZNnq1, r2ZNnq1, r3ZNnq1, r4ZNnq1, r5ZNnq1, r6ZNnq1, r7ZNnq1, r8ZNnq1, r9ZNnq1, r10ZNnq1, r11ZNnq1, r12ZNnq1, r13ZNnq1, r14ZNnq1, r15ZNnq1, r16ZNnq1, r17ZNnq1, r18ZNnq1, k0ZNnq1, k1ZNnq1, k2ZNnq1, k3ZNnq1, k4ZNnq1⟩ := pbZNnq1
  unfold f_Mo_pattern_5
  have := vfi_e h2ZNnq1
  have := vfi_e h1ZNnq1
  have L30 : ∃ b, zlp (fun a : Nat × Int32 × Zc => g_Mo_pattern_5 nf a.1 a.2.1 a.2.2) nf (a0, q1.1, q1.2) = some b ∧ (fun b : (Zc) => Zwt zty G b ∧ Zfr G ([(64, 18), (64, 19), (64, 20), (64, 53), (64, 57), (64, 65), (79, 0), (80, 0), (82, 0), (83, 0), (84, 0), (85, 0), (86, 0), (87, 0), (88, 0), (89, 0), (90, 0), (91, 0), (92, 0), (93, 0), (94, 0), (95, 0), (105, 0), (106, 0), (107, 0), (108, 0), (109, 0), (110, 0), (111, 0), (112, 0), (113, 0), (134, 0)] : List (Nat × Nat)) q1.2 b ∧ ZVr G b a0 pv bf2q1 bt2q1 bd2q1 ni bc) b := by
    refine wlp (fun a : Nat × Int32 × Zc => a0 = a.1 ∧ Zwt zty G a.2.2 ∧ Zfr G ([(64, 18), (64, 19), (64, 20), (64, 53), (64, 57), (64, 65), (79, 0), (80, 0), (82, 0), (83, 0), (84, 0), (85, 0), (86, 0), (87, 0), (88, 0), (89, 0), (90, 0), (91, 0), (92, 0), (93, 0), (94, 0), (95, 0), (105, 0), (106, 0), (107, 0), (108, 0), (109, 0), (110, 0), (111, 0), (112, 0), (113, 0), (134, 0)] : List (Nat × Nat)) q1.2 a.2.2 ∧ ZVs G a.2.2 a0 pv bf2q1 bt2q1 bd2q1 ni bc a.2.1) (fun a => (7 * (201 - vfi a.2.2 a0 18) + (6 - vfi a.2.2 a0 19)).toNat) (fun b : (Zc) => Zwt zty G b ∧ Zfr G ([(64, 18), (64, 19), (64, 20), (64, 53), (64, 57), (64, 65), (79, 0), (80, 0), (82, 0), (83, 0), (84, 0), (85, 0), (86, 0), (87, 0), (88, 0), (89, 0), (90, 0), (91, 0), (92, 0), (93, 0), (94, 0), (95, 0), (105, 0), (106, 0), (107, 0), (108, 0), (109, 0), (110, 0), (111, 0), (112, 0), (113, 0), (134, 0)] : List (Nat × Nat)) q1.2 b ∧ ZVr G b a0 pv bf2q1 bt2q1 bd2q1 ni bc) ?_ ?_ ?_
    · rintro ⟨x0_31, x1_31, c_31⟩ hI
      try dsimp only at hI ⊢
      obtain ⟨rfl, WLc_31, FLc_31, hBZVs_31⟩ := hI
      have e32 := (Zfr.gi FLc_31 t_a0 (by decide)).trans h0ZNnq1
      have e33 := (Zfr.gr FLc_31 t_a0 (by decide)).trans h4ZNnq1
      have e34 := (Zfr.gr FLc_31 t_a0 (by decide)).trans h5ZNnq1
      have e35 := (Zfr.gr FLc_31 t_a0 (by decide)).trans e18
      obtain ⟨bf2_31, bt2_31, bd2_31, bks_31, bkl_31, bkw_31, bna_31, blb_31, bnw_31, bvn_31, h0ZVs_31, h1ZVs_31, h2ZVs_31, h3ZVs_31, h4ZVs_31, h5ZVs_31, h6ZVs_31, h7ZVs_31, h8ZVs_31, h9ZVs_31, h10ZVs_31, tks_31, tkl_31, tkw_31, r0ZVs_31, r1ZVs_31, r2ZVs_31, r3ZVs_31, r4ZVs_31, r5ZVs_31, r6ZVs_31, r7ZVs_31, r8ZVs_31, r9ZVs_31, r10ZVs_31, r11ZVs_31, r12ZVs_31, r13ZVs_31, r14ZVs_31, r15ZVs_31, r16ZVs_31, r17ZVs_31, r18ZVs_31, r19ZVs_31, r20ZVs_31, k0ZVs_31, k1ZVs_31, k2ZVs_31, k3ZVs_31, k4ZVs_31⟩ := hBZVs_31
      unfold g_Mo_pattern_5
      have := vfi_e h2ZVs_31
      have := vfi_e h1ZVs_31
      refine wb h1ZVs_31 ?_
      refine wi (fun hq38 => ?_) (fun hq38 => ?_)
      · have := li_0
        have hq38 := i_eq hq38
        obtain ⟨w6, ew6⟩ := go_64 WLc_31 t_a0
        refine wb ew6 ?_
        obtain ⟨q5, eq5, Wq5, fq5, pbZScq5, pbZkdq5⟩ := p_Mo_kind hn WLc_31  t_a0 (by omega) (by omega) (by omega) (by omega) h1ZVs_31 h2ZVs_31
        refine wb eq5 ?_
        have e41 := (Zfr.gi fq5 t_a0 (by decide)).trans h0ZVs_31
        have e42 := (Zfr.gr fq5 t_a0 (by decide)).trans h4ZVs_31
        have e43 := (Zfr.gr fq5 t_a0 (by decide)).trans h5ZVs_31
        have e44 := (Zfr.gr fq5 t_a0 (by decide)).trans h6ZVs_31
        have e45 := (Zfr.gi fq5 t_a0 (by decide)).trans h2ZVs_31
        have e46 := (Zfr.gi fq5 t_a0 (by decide)).trans h3ZVs_31
        have e47 := (Zfr.ai fq5 tks_31 (by decide)).trans h7ZVs_31
        have e48 := (Zfr.ai fq5 tkl_31 (by decide)).trans h8ZVs_31
        have e49 := (Zfr.ai fq5 tkw_31 (by decide)).trans h9ZVs_31
        have e50 := (Zfr.gi fq5 t_a0 (by decide)).trans h10ZVs_31
        have k51 := GtP_fr k0ZVs_31 fq5 t_a0 WLc_31 (by decide)
        have sc53 : Sc c_31 q5.2 a0 (0) (0) := by
          obtain ⟨yf2, z0y, x0y, x1y, x2y, x3y⟩ := pbZScq5
          exact Sc_mk h1ZVs_31 z0y h2ZVs_31 ((Zfr.gi (ci := 12) fq5 t_a0 (by decide)).trans h2ZVs_31) h3ZVs_31 ((Zfr.gi (ci := 12) fq5 t_a0 (by decide)).trans h3ZVs_31) (by omega)
        have k52 := WyN_fr k1ZVs_31 fq5 t_a0 WLc_31 (by decide) sc53
        have k54 := TbI_fr k2ZVs_31 fq5 t_a0 WLc_31 (by decide) sc53
        have k55 := TbC_fr k3ZVs_31 fq5 t_a0 WLc_31 (by decide) sc53
        have k56 := TkN_fr k4ZVs_31 fq5 t_a0 WLc_31 (by decide)
        have F57 := Zfr.tr FLc_31 fq5 (by decide)
        obtain ⟨bf2q5, h0ZScq5, r0ZScq5, r1ZScq5, r2ZScq5, r3ZScq5⟩ := pbZScq5
        obtain ⟨bkkq5, h0Zkdq5, h1Zkdq5, tkkq5⟩ := pbZkdq5
        refine wi (fun hq58 => ?_) (fun hq58 => ?_)
        · have := li_45
          have := i_ge q5.1
          have := i_up q5.1
          have hq58 := i_eq hq58
          unfold f_Mo_pattern_36
          obtain ⟨w9, ew9⟩ := go_64 Wq5 t_a0
          refine wb ew9 ?_
          obtain ⟨q8, eq8, Wq8, fq8, pbZVnq8⟩ := p_Mo_way hn Wq5 (a1 := x1_31) (ni := ni) (bc := bc) t_a0 (by omega) (by omega) (by omega) (by omega) (by omega) (by omega) (by omega) (by omega) (by omega) (by omega) e41 h0ZScq5 e45 e46 ⟨bks_31, bkl_31, bkw_31, bna_31, blb_31, bnw_31, bvn_31, e41, h0ZScq5, e45, e46, e42, e43, e44, e47, e48, e49, e50, tks_31, tkl_31, tkw_31, by (try dsimp only); omega, by (try dsimp only); omega, by (try dsimp only); omega, by (try dsimp only); omega, by (try dsimp only); omega, by (try dsimp only); omega, by (try dsimp only); omega, by (try dsimp only); omega, by (try dsimp only); omega, by (try dsimp only); omega, by (try dsimp only); omega, by (try dsimp only); omega, by (try dsimp only); omega, by (try dsimp only); omega, by (try dsimp only); omega, by (try dsimp only); omega, by (try dsimp only); omega, by (try dsimp only); omega, k51, k52, k54, k55, k56⟩
          refine wb eq8 ?_
          have e74 := (Zfr.gi fq8 t_a0 (by decide)).trans e41
          have e75 := (Zfr.gr fq8 t_a0 (by decide)).trans e42
          have e76 := (Zfr.gr fq8 t_a0 (by decide)).trans e43
          have e77 := (Zfr.gr fq8 t_a0 (by decide)).trans e44
          have e78 := (Zfr.gr fq8 t_a0 (by decide)).trans h0Zkdq5
          have e79 := (Zfr.ai fq8 tkkq5 (by decide)).trans h1Zkdq5
          have F80 := Zfr.tr F57 fq8 (by decide)
          have := li_1
          obtain ⟨bf2q8, bt2q8, bd2q8, bksq8, bklq8, bkwq8, bnaq8, blbq8, bnwq8, bvnq8, h0ZVnq8, h1ZVnq8, h2ZVnq8, h3ZVnq8, h4ZVnq8, h5ZVnq8, h6ZVnq8, h7ZVnq8, h8ZVnq8, h9ZVnq8, h10ZVnq8, tksq8, tklq8, tkwq8, r0ZVnq8, r1ZVnq8, r2ZVnq8, r3ZVnq8, r4ZVnq8, r5ZVnq8, r6ZVnq8, r7ZVnq8, r8ZVnq8, r9ZVnq8, r10ZVnq8, r11ZVnq8, r12ZVnq8, r13ZVnq8, r14ZVnq8, r15ZVnq8, r16ZVnq8, r17ZVnq8, r18ZVnq8, r19ZVnq8, r20ZVnq8, k0ZVnq8, k1ZVnq8, k2ZVnq8, k3ZVnq8, k4ZVnq8⟩ := pbZVnq8
          have := vfi_e h2ZVnq8
          have := vfi_e h1ZVnq8
          exact lInl ⟨rfl, Wq8, F80, ⟨bf2q8, bt2q8, bd2q8, bksq8, bklq8, bkwq8, bnaq8, blbq8, bnwq8, bvnq8, h0ZVnq8, h1ZVnq8, h2ZVnq8, h3ZVnq8, h4ZVnq8, h5ZVnq8, h6ZVnq8, h7ZVnq8, h8ZVnq8, h9ZVnq8, h10ZVnq8, tksq8, tklq8, tkwq8, by (try dsimp only); omega, by (try dsimp only); omega, by (try dsimp only); omega, by (try dsimp only); omega, by (try dsimp only); omega, by (try dsimp only); omega, by (try dsimp only); omega, by (try dsimp only); omega, by (try dsimp only); omega, by (try dsimp only); omega, by (try dsimp only); omega, by (try dsimp only); omega, by (try dsimp only); omega, by (try dsimp only); omega, by (try dsimp only); omega, by (try dsimp only); omega, by (try dsimp only); omega, by (try dsimp only); omega, by (try dsimp only); omega, by (try dsimp only); omega, by (try dsimp only); omega, k0ZVnq8, k1ZVnq8, k2ZVnq8, k3ZVnq8, k4ZVnq8⟩⟩ (by (try dsimp only); omega)
        · have := li_45
          have := i_ge q5.1
          have := i_up q5.1
          have hq58 := i_ne hq58
          refine wb h0Zkdq5 ?_
          refine wb e45 ?_
          refine wb h1Zkdq5 ?_
          refine wi (fun hq94 => ?_) (fun hq94 => ?_)
          · have := li_202
            have hq94 := i_eq hq94
            unfold f_Mo_pattern_36
            obtain ⟨w9, ew9⟩ := go_64 Wq5 t_a0
            refine wb ew9 ?_
            obtain ⟨q8, eq8, Wq8, fq8, pbZVnq8⟩ := p_Mo_way hn Wq5 (a1 := x1_31) (ni := ni) (bc := bc) t_a0 (by omega) (by omega) (by omega) (by omega) (by omega) (by omega) (by omega) (by omega) (by omega) (by omega) e41 h0ZScq5 e45 e46 ⟨bks_31, bkl_31, bkw_31, bna_31, blb_31, bnw_31, bvn_31, e41, h0ZScq5, e45, e46, e42, e43, e44, e47, e48, e49, e50, tks_31, tkl_31, tkw_31, by (try dsimp only); omega, by (try dsimp only); omega, by (try dsimp only); omega, by (try dsimp only); omega, by (try dsimp only); omega, by (try dsimp only); omega, by (try dsimp only); omega, by (try dsimp only); omega, by (try dsimp only); omega, by (try dsimp only); omega, by (try dsimp only); omega, by (try dsimp only); omega, by (try dsimp only); omega, by (try dsimp only); omega, by (try dsimp only); omega, by (try dsimp only); omega, by (try dsimp only); omega, by (try dsimp only); omega, k51, k52, k54, k55, k56⟩
            refine wb eq8 ?_
            have e110 := (Zfr.gi fq8 t_a0 (by decide)).trans e41
            have e111 := (Zfr.gr fq8 t_a0 (by decide)).trans e42
            have e112 := (Zfr.gr fq8 t_a0 (by decide)).trans e43
            have e113 := (Zfr.gr fq8 t_a0 (by decide)).trans e44
            have e114 := (Zfr.gr fq8 t_a0 (by decide)).trans h0Zkdq5
            have e115 := (Zfr.ai fq8 tkkq5 (by decide)).trans h1Zkdq5
            have F116 := Zfr.tr F57 fq8 (by decide)
            have := li_1
            obtain ⟨bf2q8, bt2q8, bd2q8, bksq8, bklq8, bkwq8, bnaq8, blbq8, bnwq8, bvnq8, h0ZVnq8, h1ZVnq8, h2ZVnq8, h3ZVnq8, h4ZVnq8, h5ZVnq8, h6ZVnq8, h7ZVnq8, h8ZVnq8, h9ZVnq8, h10ZVnq8, tksq8, tklq8, tkwq8, r0ZVnq8, r1ZVnq8, r2ZVnq8, r3ZVnq8, r4ZVnq8, r5ZVnq8, r6ZVnq8, r7ZVnq8, r8ZVnq8, r9ZVnq8, r10ZVnq8, r11ZVnq8, r12ZVnq8, r13ZVnq8, r14ZVnq8, r15ZVnq8, r16ZVnq8, r17ZVnq8, r18ZVnq8, r19ZVnq8, r20ZVnq8, k0ZVnq8, k1ZVnq8, k2ZVnq8, k3ZVnq8, k4ZVnq8⟩ := pbZVnq8
            have := vfi_e h2ZVnq8
            have := vfi_e h1ZVnq8
            exact lInl ⟨rfl, Wq8, F116, ⟨bf2q8, bt2q8, bd2q8, bksq8, bklq8, bkwq8, bnaq8, blbq8, bnwq8, bvnq8, h0ZVnq8, h1ZVnq8, h2ZVnq8, h3ZVnq8, h4ZVnq8, h5ZVnq8, h6ZVnq8, h7ZVnq8, h8ZVnq8, h9ZVnq8, h10ZVnq8, tksq8, tklq8, tkwq8, by (try dsimp only); omega, by (try dsimp only); omega, by (try dsimp only); omega, by (try dsimp only); omega, by (try dsimp only); omega, by (try dsimp only); omega, by (try dsimp only); omega, by (try dsimp only); omega, by (try dsimp only); omega, by (try dsimp only); omega, by (try dsimp only); omega, by (try dsimp only); omega, by (try dsimp only); omega, by (try dsimp only); omega, by (try dsimp only); omega, by (try dsimp only); omega, by (try dsimp only); omega, by (try dsimp only); omega, by (try dsimp only); omega, by (try dsimp only); omega, by (try dsimp only); omega, k0ZVnq8, k1ZVnq8, k2ZVnq8, k3ZVnq8, k4ZVnq8⟩⟩ (by (try dsimp only); omega)
          · have := li_202
            have hq94 := i_ne hq94
            exact lInr ⟨Wq5, F57, ⟨bf2q5, bt2_31, bd2_31, bks_31, bkl_31, bkw_31, bna_31, blb_31, bnw_31, bvn_31, e41, h0ZScq5, e45, e46, e42, e43, e44, e47, e48, e49, e50, tks_31, tkl_31, tkw_31, by (try dsimp only); omega, by (try dsimp only); omega, by (try dsimp only); omega, by (try dsimp only); omega, by (try dsimp only); omega, by (try dsimp only); omega, by (try dsimp only); omega, by (try dsimp only); omega, by (try dsimp only); omega, by (try dsimp only); omega, by (try dsimp only); omega, by (try dsimp only); omega, by (try dsimp only); omega, by (try dsimp only); omega, by (try dsimp only); omega, by (try dsimp only); omega, by (try dsimp only); omega, by (try dsimp only); omega, by (try dsimp only); omega, by (try dsimp only); omega, k51, k52, k54, k55, k56⟩⟩
      · have := li_0
        have hq38 := i_ne hq38
        exact lInr ⟨WLc_31, FLc_31, ⟨bf2_31, bt2_31, bd2_31, bks_31, bkl_31, bkw_31, bna_31, blb_31, bnw_31, bvn_31, h0ZVs_31, h1ZVs_31, h2ZVs_31, h3ZVs_31, h4ZVs_31, h5ZVs_31, h6ZVs_31, h7ZVs_31, h8ZVs_31, h9ZVs_31, h10ZVs_31, tks_31, tkl_31, tkw_31, by (try dsimp only); omega, by (try dsimp only); omega, by (try dsimp only); omega, by (try dsimp only); omega, by (try dsimp only); omega, by (try dsimp only); omega, by (try dsimp only); omega, by (try dsimp only); omega, by (try dsimp only); omega, by (try dsimp only); omega, by (try dsimp only); omega, by (try dsimp only); omega, by (try dsimp only); omega, by (try dsimp only); omega, by (try dsimp only); omega, by (try dsimp only); omega, by (try dsimp only); omega, by (try dsimp only); omega, by (try dsimp only); omega, by (try dsimp only); omega, k0ZVs_31, k1ZVs_31, k2ZVs_31, k3ZVs_31, k4ZVs_31⟩⟩
    · exact ⟨rfl, Wq1, Zfr.rf, ⟨bf2q1, bt2q1, bd2q1, bksq1, bklq1, bkw0, bnaq1, blbq1, bnw0, bvnq1, h0ZNnq1, h1ZNnq1, h2ZNnq1, h3ZNnq1, h4ZNnq1, h5ZNnq1, e18, h6ZNnq1, h7ZNnq1, e20, h8ZNnq1, tksq1, tklq1, tkw0, by (try dsimp only); omega, by (try dsimp only); omega, by (try dsimp only); omega, by (try dsimp only); omega, by (try dsimp only); omega, by (try dsimp only); omega, by (try dsimp only); omega, by (try dsimp only); omega, by (try dsimp only); omega, by (try dsimp only); omega, by (try dsimp only); omega, by (try dsimp only); omega, by (try dsimp only); omega, by (try dsimp only); omega, by (try dsimp only); omega, by (try dsimp only); omega, by (try dsimp only); omega, by (try dsimp only); omega, by (try dsimp only); omega, by (try dsimp only); omega, by (try dsimp only); omega, k0ZNnq1, k1ZNnq1, k2ZNnq1, k3ZNnq1, k4ZNnq1⟩⟩
    · (try dsimp only); omega
  obtain ⟨b, eb, hb⟩ := L30
  refine wb eb ?_
  clear eb
  obtain c_163 := b
  try dsimp only at hb ⊢
  obtain ⟨WXc_163, FXc_163, hXZVrc_163⟩ := hb
  have e164 := (Zfr.gi FXc_163 t_a0 (by decide)).trans h0ZNnq1
  have e165 := (Zfr.gr FXc_163 t_a0 (by decide)).trans h4ZNnq1
  have e166 := (Zfr.gr FXc_163 t_a0 (by decide)).trans h5ZNnq1
  have e167 := (Zfr.gr FXc_163 t_a0 (by decide)).trans e18
  have F168 := Zfr.tr F21 FXc_163 (by decide)
  obtain ⟨bf2xc_163, bt2xc_163, bd2xc_163, bksxc_163, bklxc_163, bkwxc_163, bnaxc_163, blbxc_163, bnwxc_163, bvnxc_163, h0ZVrxc_163, h1ZVrxc_163, h2ZVrxc_163, h3ZVrxc_163, h4ZVrxc_163, h5ZVrxc_163, h6ZVrxc_163, h7ZVrxc_163, h8ZVrxc_163, h9ZVrxc_163, h10ZVrxc_163, tksxc_163, tklxc_163, tkwxc_163, r0ZVrxc_163, r1ZVrxc_163, r2ZVrxc_163, r3ZVrxc_163, r4ZVrxc_163, r5ZVrxc_163, r6ZVrxc_163, r7ZVrxc_163, r8ZVrxc_163, r9ZVrxc_163, r10ZVrxc_163, r11ZVrxc_163, r12ZVrxc_163, r13ZVrxc_163, r14ZVrxc_163, r15ZVrxc_163, r16ZVrxc_163, r17ZVrxc_163, r18ZVrxc_163, r19ZVrxc_163, k0ZVrxc_163, k1ZVrxc_163, k2ZVrxc_163, k3ZVrxc_163, k4ZVrxc_163⟩ := hXZVrc_163
  unfold f_Mo_pattern_45
  exact ⟨_, rfl, WXc_163, F168, ⟨bf2xc_163, bt2xc_163, bd2xc_163, bksxc_163, bklxc_163, bkwxc_163, bnaxc_163, blbxc_163, bnwxc_163, bvnxc_163, h0ZVrxc_163, h1ZVrxc_163, h2ZVrxc_163, h3ZVrxc_163, h4ZVrxc_163, h5ZVrxc_163, h6ZVrxc_163, h7ZVrxc_163, h8ZVrxc_163, h9ZVrxc_163, h10ZVrxc_163, tksxc_163, tklxc_163, tkwxc_163, by (try dsimp only); omega, by (try dsimp only); omega, by (try dsimp only); omega, by (try dsimp only); omega, by (try dsimp only); omega, by (try dsimp only); omega, by (try dsimp only); omega, by (try dsimp only); omega, by (try dsimp only); omega, by (try dsimp only); omega, by (try dsimp only); omega, by (try dsimp only); omega, by (try dsimp only); omega, by (try dsimp only); omega, by (try dsimp only); omega, by (try dsimp only); omega, by (try dsimp only); omega, by (try dsimp only); omega, by (try dsimp only); omega, by (try dsimp only); omega, k0ZVrxc_163, k1ZVrxc_163, k2ZVrxc_163, k3ZVrxc_163, k4ZVrxc_163⟩⟩

end ZzT
