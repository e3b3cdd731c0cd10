section ZzT
abbrev M_Mo_parse_122 : List (Nat × Nat) := [(64, 52), (103, 0), (104, 0)]
set_option maxRecDepth 100000 in
set_option maxHeartbeats 4000000 in
theorem p_Mo_parse_122 {nf : Nat} (hn : 8589934592 ≤ nf) {G : List Nat} {c : Zc} (W : Zwt zty G c) {x0 : Nat} {ni : Int32} {bc : Int32} {pv : Int32} {fv : Int32} {tv : Int32} {dv : Int32} {cd : Int32} (t_x0 : G[x0]? = some 64) (pl_pv : 0 ≤ pv.toInt) (pu_pv : pv.toInt ≤ 8) (pl_fv : 0 ≤ fv.toInt) (pu_fv : fv.toInt ≤ 6) (pl_tv : 0 ≤ tv.toInt) (pu_tv : tv.toInt ≤ 200) (pl_dv : 0 ≤ dv.toInt) (pu_dv : dv.toInt ≤ 11) (eh_pv : zgi c x0 12 25 = some pv) (eh_fv : zgi c x0 12 19 = some fv) (eh_tv : zgi c x0 12 18 = some tv) (eh_dv : zgi c x0 12 53 = some dv) (eh_cd : zgi c x0 12 52 = some cd) (pp_4 : (¬ fv.toInt = 0 ∨ cd.toInt ≤ 300)) (hb_ZV : ZV G c x0 pv fv tv dv ni bc) : ∃ q, f_Mo_parse_122 nf x0 c = some q ∧ Zwt zty G q ∧ Zfr G M_Mo_parse_122 c q ∧ CdW c q x0 99 0 ∧ ZVr G q x0 pv fv tv dv ni bc := by
  have F0 : Zfr G M_Mo_parse_122 c c := Zfr.rf
  unfold f_Mo_parse_122
  obtain ⟨bks0, bkl0, bkw0, bna0, blb0, bnw0, bvn0, h0ZV0, h1ZV0, h2ZV0, h3ZV0, h4ZV0, h5ZV0, h6ZV0, h7ZV0, h8ZV0, h9ZV0, h10ZV0, tks0, tkl0, tkw0, r0ZV0, r1ZV0, r2ZV0, r3ZV0, r4ZV0, r5ZV0, r6ZV0, r7ZV0, r8ZV0, r9ZV0, r10ZV0, r11ZV0, r12ZV0, r13ZV0, r14ZV0, r15ZV0, r16ZV0, r17ZV0, k0ZV0, k1ZV0, k2ZV0, k3ZV0, k4ZV0⟩ := hb_ZV
  obtain ⟨w29, ew29⟩ := go_64 W t_x0
  refine wb ew29 ?_
  obtain ⟨xq, xe, lw_2, uw_2⟩ := gf_64_52 W t_x0
  rw [eh_cd] at xe; cases xe
  have := li_99
  have := li_0
  obtain ⟨q28, eq28, Wq28, fq28, po0q28⟩ := p_Mo_code hn W (a1 := 99) (a2 := 0) t_x0 h1ZV0 eh_cd (by omega)
  refine wb eq28 ?_
  have e6 := (Zfr.gi fq28 t_x0 (by decide)).trans h0ZV0
  have e7 := (Zfr.gi fq28 t_x0 (by decide)).trans h1ZV0
  have e8 := (Zfr.gi fq28 t_x0 (by decide)).trans h2ZV0
  have e9 := (Zfr.gi fq28 t_x0 (by decide)).trans h3ZV0
  have e10 := (Zfr.gr fq28 t_x0 (by decide)).trans h4ZV0
  have e11 := (Zfr.gr fq28 t_x0 (by decide)).trans h5ZV0
  have e12 := (Zfr.gr fq28 t_x0 (by decide)).trans h6ZV0
  have e13 := (Zfr.ai fq28 tks0 (by decide)).trans h7ZV0
  have e14 := (Zfr.ai fq28 tkl0 (by decide)).trans h8ZV0
  have e15 := (Zfr.ai fq28 tkw0 (by decide)).trans h9ZV0
  have e16 := (Zfr.gi fq28 t_x0 (by decide)).trans h10ZV0
  have k17 := GtP_cd k0ZV0 fq28 t_x0 W po0q28
  have sc19 := Sc_fr fq28 t_x0 (by decide) (by decide) (by decide)
  have k18 := WyN_fr k1ZV0 fq28 t_x0 W (by decide) sc19
  have k20 := TbI_cd k2ZV0 fq28 t_x0 W po0q28
  have k21 := TbC_cd k3ZV0 fq28 t_x0 W po0q28
  have k22 := TkN_fr k4ZV0 fq28 t_x0 W (by decide)
  have F23 := Zfr.tr F0 fq28 (by decide)
  exact ⟨_, rfl, Wq28, F23, po0q28, ⟨fv, tv, dv, bks0, bkl0, bkw0, bna0, blb0, bnw0, bvn0, e6, e7, e8, e9, e10, e11, e12, e13, e14, e15, e16, tks0, tkl0, tkw0, by (try dsimp only); omega, by (try dsimp only); omega, by (try dsimp only); omega, by (try dsimp only); omega, by (try dsimp only); omega, by (try dsimp only); omega, by (try dsimp only); omega, by (try dsimp only); omega, by (try dsimp only); omega, by (try dsimp only); omega, by (try dsimp only); omega, by (try dsimp only); omega, by (try dsimp only); omega, by (try dsimp only); omega, by (try dsimp only); omega, by (try dsimp only); omega, by (try dsimp only); omega, by (try dsimp only); omega, by (try dsimp only); omega, by (try dsimp only); omega, k17, k18, k20, k21, k22⟩⟩

end ZzT
