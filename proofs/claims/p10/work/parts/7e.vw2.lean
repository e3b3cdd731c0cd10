section ZzT
section
variable {G : List Nat} {M : List (Nat × Nat)} {c c' : Zc} {m : Nat}
theorem WfA_of {s x : Int32} (W : Zwt zty G c) (t : G[m]? = some 64) (hs : 0 ≤ s.toInt) (hs8 : s.toInt ≤ 8) (hx : 0 ≤ x.toInt) (hx5 : x.toInt ≤ 511) (h : CdE (vaf c m 50) (vaf c m 51) s.toInt.toNat x.toInt.toNat 512) : WfA c m ((512 * s) + x) := by
  obtain ⟨n, d, h1, h2, h3, h4⟩ := h
  refine ⟨n, by omega, fun kc ka e1 e2 => ?_⟩
  obtain ⟨k, e, tc⟩ := gf_64_50 W t
  rw [e1] at e; cases e
  obtain ⟨k, e, ta⟩ := gf_64_51 W t
  rw [e2] at e; cases e
  obtain ⟨f, hf, _⟩ := wt_cell W tc rfl
  obtain ⟨g, hg, _⟩ := wt_cell W ta rfl
  have ef : vaf c m 50 = f := by unfold vaf vpl; rw [e1]; exact rdf_e hf
  have eg : vaf c m 51 = g := by unfold vaf vpl; rw [e2]; exact rdf_e hg
  rw [ef, eg] at h3
  rw [ef] at h4
  have l : (512 : Int32).toInt = 512 := by decide
  have m1 := i_mull (a := 512) (b := s) (n := 512) l (by omega) (by omega)
  have m2 := i_add (a := 512 * s) (b := x) (by omega) (by omega)
  have hi : (512 * s + x).toInt.toNat = 512 * s.toInt.toNat + x.toInt.toNat := by omega
  rw [← hi] at h3 h4
  have := WFr_of (r := 0) hf hg (i0 := 512 * s + x) (by omega) (n := n) (d := d) (by omega) h2 h3 (fun i hq => ⟨f i.toInt.toNat, rd_ai hf (by omega) (by omega), by rw [show i.toInt.toNat = (512 * s + x).toInt.toNat + n by omega]; exact h4⟩)
  exact this
theorem TxS_of {s : Int32} (W : Zwt zty G c) (t : G[m]? = some 64) (hs : 0 ≤ s.toInt) (hs8 : s.toInt ≤ 8) (h : TzF (vaf c m) s.toInt.toNat) : TxS c m s := by
  obtain ⟨h1, h2, h3⟩ := h
  refine ⟨?_, ?_, ?_⟩
  · intro kw nw kf kt w a b e1 e2 e3 e4 l1 l2 e5 e6
    obtain ⟨k, e, tk⟩ := gf_64_31 W t
    rw [e1] at e; cases e
    obtain ⟨x, ex, lx, ux⟩ := ga_84 W tk (i := s) (by omega) (by omega)
    rw [e2] at ex; cases ex
    obtain ⟨r2, _⟩ := vaf_r e1 e2
    obtain ⟨r5, _⟩ := vaf_r e3 e5
    obtain ⟨r6, _⟩ := vaf_r e4 e6
    have := h1 (w.toInt - 11 * s.toInt).toNat (by omega) (by rw [← r2]; omega)
    rw [show 11 * s.toInt.toNat + (w.toInt - 11 * s.toInt).toNat = w.toInt.toNat by omega, ← r5, ← r6] at this
    exact this
  · intro kc x e1 e2
    obtain ⟨k, e, tk⟩ := gf_64_46 W t
    rw [e1] at e; cases e
    obtain ⟨y, ex, lx, ux⟩ := ga_99 W tk (i := s) (by omega) (by omega)
    rw [e2] at ex; cases ex
    obtain ⟨r2, _⟩ := vaf_r e1 e2
    rw [← r2] at h2
    rcases h2 with q | q
    · exact .inl q
    · by_cases z : x.toInt < 0
      · exact .inl z
      · exact .inr (WfA_of W t hs hs8 (by omega) ux q)
  · intro ki ni ks kd k v x e1 e2 e3 e4 l1 l2 e5 e6
    obtain ⟨k', e, tk⟩ := gf_64_43 W t
    rw [e1] at e; cases e
    obtain ⟨y, ex, lx, ux⟩ := ga_96 W tk (i := s) (by omega) (by omega)
    rw [e2] at ex; cases ex
    have l : (8 : Int32).toInt = 8 := by decide
    have m1 := i_mull (a := 8) (b := s) (n := 8) l (by omega) (by omega)
    have m2 := i_add (a := 8 * s) (b := k) (by omega) (by omega)
    obtain ⟨k', e, tk⟩ := gf_64_45 W t
    rw [e4] at e; cases e
    obtain ⟨y, ex, ly, uy⟩ := ga_98 W tk (i := 8 * s + k) (by omega) (by omega)
    rw [e6] at ex; cases ex
    obtain ⟨r2, _⟩ := vaf_r e1 e2
    obtain ⟨r5, _⟩ := vaf_r e3 e5
    obtain ⟨r6, _⟩ := vaf_r e4 e6
    have := h3 k.toInt.toNat (by omega) (by rw [← r2]; omega)
    rw [show 8 * s.toInt.toNat + k.toInt.toNat = (8 * s + k).toInt.toNat by omega, ← r5, ← r6] at this
    exact this.imp id (fun q => WfA_of W t hs hs8 ly uy q)
theorem GtM_of (W : Zwt zty G c) (t : G[m]? = some 64) (h : GtW c m) : GtM c m := by
  intro k kt ks v s e1 e2 l1 l2 e3 hv e4
  obtain ⟨r3, _⟩ := vaf_r e1 e3
  obtain ⟨r4, _⟩ := vaf_r e2 e4
  obtain ⟨k', e, tk⟩ := gf_64_22 W t
  rw [e2] at e; cases e
  obtain ⟨y, ex, ly, uy⟩ := ga_77 W tk (i := k) (by omega) (by omega)
  rw [e4] at ex; cases ex
  have := h.1 k.toInt.toNat (by omega) (by rw [← r3]; exact hv)
  rw [← r4] at this
  refine ⟨TxS_of W t ly uy this.1, fun h4 => ?_⟩
  have hg := this.2 (by omega)
  intro k1 k2 a b f1 f2 f3 f4
  obtain ⟨q1, _⟩ := vaf_r f1 f3
  obtain ⟨q2, _⟩ := vaf_r f2 f4
  unfold TzG s7 at hg
  rw [← q1, ← q2] at hg
  exact hg
end
-- code and frame
abbrev M_Mo_code : List (Nat × Nat) := [(64, 52), (103, 0), (104, 0)]
def CdW (c q : Zc) (m : Nat) (v a : Int32) : Prop := (vfi c m 19 ≠ 0 → q = c) ∧ (vfi c m 19 = 0 → vaf q m 50 = upd (vaf c m 50) (512 * (vfi c m 25).toNat + (vfi c m 52).toNat) v ∧ vaf q m 51 = upd (vaf c m 51) (512 * (vfi c m 25).toNat + (vfi c m 52).toNat) a ∧ vfi q m 52 = vfi c m 52 + 1)
theorem p_Mo_code {nf : Nat} (hn : 8589934592 ≤ nf) {G : List Nat} {c : Zc} (W : Zwt zty G c) {a0 : Nat} {a1 a2 : Int32} {fv cd : Int32} (t_a0 : G[a0]? = some 64) (eh_fv : zgi c a0 12 19 = some fv) (eh_cd : zgi c a0 12 52 = some cd) (pp_0 : ¬ fv.toInt = 0 ∨ cd.toInt ≤ 300) : ∃ q, f_Mo_code nf a0 a1 a2 c = some q ∧ Zwt zty G q ∧ Zfr G M_Mo_code c q ∧ CdW c q a0 a1 a2 := by
  unfold f_Mo_code
  refine wb eh_fv ?_
  have l0 : (0 : Int32).toInt = 0 := by decide
  have ef := vfi_e eh_fv
  refine wi (fun hq => ?_) (fun hq => ?_)
  · have hq := i_eq hq
    obtain ⟨v3, e3, t3⟩ := gf_64_50 W t_a0
    refine wb e3 ?_
    obtain ⟨v4, e4, l4, u4⟩ := gf_64_25 W t_a0
    refine wb e4 ?_
    refine wb eh_cd ?_
    obtain ⟨x5, e5, l5, u5⟩ := gf_64_52 W t_a0
    rw [eh_cd] at e5; cases e5
    have l : (512 : Int32).toInt = 512 := by decide
    have m1 := i_mull (a := 512) (b := v4) (n := 512) l (by omega) (by omega)
    have m2 := i_add (a := 512 * v4) (b := cd) (by omega) (by omega)
    obtain ⟨c6, e6, W6, f6, g6⟩ := pa_103 W t3 (i := 512 * v4 + cd) (by omega) (by omega) (x := a1) trivial
    refine wb e6 ?_
    obtain ⟨v7, e7, t7⟩ := gf_64_51 W6 t_a0
    refine wb e7 ?_
    have e8 := (Zfr.gi (ci := 12) f6 t_a0 (show (64, 25) ∉ [(103, 0)] by decide)).trans e4
    refine wb e8 ?_
    have e9 := (Zfr.gi (ci := 12) f6 t_a0 (show (64, 52) ∉ [(103, 0)] by decide)).trans eh_cd
    refine wb e9 ?_
    obtain ⟨c10, e10, W10, f10, g10⟩ := pa_104 W6 t7 (i := 512 * v4 + cd) (by omega) (by omega) (x := a2) trivial
    refine wb e10 ?_
    have e11 := (Zfr.gi (ci := 12) f10 t_a0 (show (64, 52) ∉ [(104, 0)] by decide)).trans e9
    refine wb e11 ?_
    have l1 : (1 : Int32).toInt = 1 := by decide
    have m3 := i_add (a := cd) (b := 1) (by omega) (by omega)
    obtain ⟨c12, e12, W12, f12, g12⟩ := pf_64_52 W10 t_a0 (x := cd + 1) (rgi (by omega) (by omega))
    refine wb e12 ?_
    unfold f_Mo_code_55
    refine ⟨_, rfl, W12, Zfr.tr (Zfr.tr (Zfr.mo f6 (by decide)) f10 (by decide)) f12 (by decide), fun z => absurd (by omega) z, fun _ => ?_⟩
    have a50 := vaf_fr f12 t_a0 (gf_64_50 W10 t_a0) (by decide) (by decide)
    have b50 := vaf_fr f10 t_a0 (gf_64_50 W6 t_a0) (by decide) (by decide)
    have a51 := vaf_fr f12 t_a0 (gf_64_51 W10 t_a0) (by decide) (by decide)
    have b51 := vaf_fr f6 t_a0 (gf_64_51 W t_a0) (by decide) (by decide)
    have k50 := (vaf_w e3 e6).1
    have k51 := (vaf_w e7 e10).1
    have hi : 512 * (vfi c a0 25).toNat + (vfi c a0 52).toNat = (512 * v4 + cd).toInt.toNat := by rw [vfi_e e4, vfi_e eh_cd]; omega
    rw [hi, a50, b50, k50, a51, k51, b51, vfi_e g12, vfi_e eh_cd]
    exact ⟨rfl, rfl, by omega⟩
  · have hq := i_ne hq
    unfold f_Mo_code_55
    exact ⟨_, rfl, W, Zfr.rf, fun _ => rfl, fun z => absurd z (by omega)⟩
abbrev M_Mo_frame : List (Nat × Nat) := [(64, 69), (114, 0), (115, 0), (116, 0)]
def FrW (c q : Zc) (m : Nat) (s : Int32) : Prop := vaf q m 66 = upd (vaf c m 66) (vfi c m 69).toNat s ∧ vaf q m 67 = upd (vaf c m 67) (vfi c m 69).toNat 0 ∧ vaf q m 68 = upd (vaf c m 68) (vfi c m 69).toNat 0 ∧ vfi q m 69 = vfi c m 69 + 1
theorem p_Mo_frame {nf : Nat} (hn : 8589934592 ≤ nf) {G : List Nat} {c : Zc} (W : Zwt zty G c) {a0 : Nat} {a1 : Int32} {fr : Int32} (t_a0 : G[a0]? = some 64) (pl_fr : 0 ≤ fr.toInt) (pu_fr : fr.toInt ≤ 999) (eh_fr : zgi c a0 12 69 = some fr) : ∃ q, f_Mo_frame nf a0 a1 c = some q ∧ Zwt zty G q ∧ Zfr G M_Mo_frame c q ∧ FrW c q a0 a1 := by
  unfold f_Mo_frame
  obtain ⟨v1, e1, t1⟩ := gf_64_66 W t_a0
  refine wb e1 ?_
  refine wb eh_fr ?_
  obtain ⟨c3, e3, W3, f3, g3⟩ := pa_114 W t1 (i := fr) (by omega) (by omega) (x := a1) trivial
  refine wb e3 ?_
  obtain ⟨v4, e4, t4⟩ := gf_64_67 W3 t_a0
  refine wb e4 ?_
  have h3 := (Zfr.gi (ci := 12) f3 t_a0 (show (64, 69) ∉ [(114, 0)] by decide)).trans eh_fr
  refine wb h3 ?_
  obtain ⟨c6, e6, W6, f6, g6⟩ := pa_115 W3 t4 (i := fr) (by omega) (by omega) (x := 0) trivial
  refine wb e6 ?_
  obtain ⟨v7, e7, t7⟩ := gf_64_68 W6 t_a0
  refine wb e7 ?_
  have h6 := (Zfr.gi (ci := 12) f6 t_a0 (show (64, 69) ∉ [(115, 0)] by decide)).trans h3
  refine wb h6 ?_
  obtain ⟨c9, e9, W9, f9, g9⟩ := pa_116 W6 t7 (i := fr) (by omega) (by omega) (x := 0) trivial
  refine wb e9 ?_
  have h9 := (Zfr.gi (ci := 12) f9 t_a0 (show (64, 69) ∉ [(116, 0)] by decide)).trans h6
  refine wb h9 ?_
  have l1 : (1 : Int32).toInt = 1 := by decide
  have m3 := i_add (a := fr) (b := 1) (by omega) (by omega)
  obtain ⟨c11, e11, W11, f11, g11⟩ := pf_64_69 W9 t_a0 (x := fr + 1) (rgi (by omega) (by omega))
  refine wb e11 ?_
  refine ⟨_, rfl, W11, Zfr.tr (Zfr.tr (Zfr.tr (Zfr.mo f3 (by decide)) f6 (by decide)) f9 (by decide)) f11 (by decide), ?_, ?_, ?_, ?_⟩
  · rw [vaf_fr f11 t_a0 (gf_64_66 W9 t_a0) (by decide) (by decide), vaf_fr f9 t_a0 (gf_64_66 W6 t_a0) (by decide) (by decide), vaf_fr f6 t_a0 (gf_64_66 W3 t_a0) (by decide) (by decide), (vaf_w e1 e3).1, vfi_e eh_fr]
  · rw [vaf_fr f11 t_a0 (gf_64_67 W9 t_a0) (by decide) (by decide), vaf_fr f9 t_a0 (gf_64_67 W6 t_a0) (by decide) (by decide), (vaf_w e4 e6).1, vaf_fr f3 t_a0 (gf_64_67 W t_a0) (by decide) (by decide), vfi_e eh_fr]
  · rw [vaf_fr f11 t_a0 (gf_64_68 W9 t_a0) (by decide) (by decide), (vaf_w e7 e9).1, vaf_fr f6 t_a0 (gf_64_68 W3 t_a0) (by decide) (by decide), vaf_fr f3 t_a0 (gf_64_68 W t_a0) (by decide) (by decide), vfi_e eh_fr]
  · rw [vfi_e g11, vfi_e eh_fr]; omega
end ZzT
