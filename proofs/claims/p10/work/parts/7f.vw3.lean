section ZzT
/-- what a step of the reader tells: no fault behind it means none before it, j tokens more, e deeper -/
def Sc (c c' : Zc) (m : Nat) (j e : Int) : Prop := vfi c' m 19 = 0 → vfi c m 19 = 0 ∧ vfi c m 18 + j ≤ vfi c' m 18 ∧ vfi c m 53 + e ≤ vfi c' m 53
/-- the draft's first n ways have their ends -/
def WyN (c : Zc) (m : Nat) (n : Int32) : Prop := vfi c m 19 = 0 → ∀ w : Nat, w < 11 → (w : Int) < n.toInt → s7 (vaf c m 33 (11 * (vfi c m 25).toNat + w)) ∧ s7 (vaf c m 34 (11 * (vfi c m 25).toNat + w))
/-- the draft's first n items can be worked out -/
def TbI (c : Zc) (m : Nat) (n : Int32) : Prop := vfi c m 19 = 0 → ∀ k : Nat, k < 8 → (k : Int) < n.toInt → (vaf c m 44 (8 * (vfi c m 25).toNat + k)).toInt = 109 ∨ CdE (vaf c m 50) (vaf c m 51) (vfi c m 25).toNat (vaf c m 45 (8 * (vfi c m 25).toNat + k)).toInt.toNat (vfi c m 52).toNat
/-- and its condition -/
def TbC (c : Zc) (m : Nat) (b : Int32) : Prop := b.toInt ≠ 0 → vfi c m 19 = 0 → (vaf c m 46 (vfi c m 25).toNat).toInt < 0 ∨ CdE (vaf c m 50) (vaf c m 51) (vfi c m 25).toNat (vaf c m 46 (vfi c m 25).toNat).toInt.toNat (vfi c m 52).toNat
def TkN (c : Zc) (m : Nat) : Prop := ∀ kk vv, zgr c m 12 14 = some kk → zgr c m 12 15 = some vv → TkM c kk vv
section
variable {G : List Nat} {M : List (Nat × Nat)} {c c' q : Zc} {m k t : Nat} {n b i x pv v a : Int32} {j e : Int}
theorem Sc_fr (F : Zfr G M c c') (tm : G[m]? = some 64) (h1 : (64, 19) ∉ M) (h2 : (64, 18) ∉ M) (h3 : (64, 53) ∉ M) : Sc c c' m 0 0 := by
  intro h
  rw [vfi_fr F tm h1] at h
  rw [vfi_fr F tm h2, vfi_fr F tm h3]
  exact ⟨h, by omega, by omega⟩
theorem TkN_fr (h : TkN c m) (F : Zfr G M c c') (tm : G[m]? = some 64) (W : Zwt zty G c) (hM : (64, 14) ∉ M ∧ (64, 15) ∉ M ∧ (74, 0) ∉ M ∧ (75, 0) ∉ M) : TkN c' m := by
  intro kk vv e1 e2
  rw [Zfr.gr F tm hM.1] at e1
  rw [Zfr.gr F tm hM.2.1] at e2
  obtain ⟨k, e, tk⟩ := gf_64_14 W tm
  rw [e1] at e; cases e
  obtain ⟨k, e, tv⟩ := gf_64_15 W tm
  rw [e2] at e; cases e
  exact TkM_fr (h kk vv e1 e2) F tk tv hM.2.2.1 hM.2.2.2
theorem WyN_fr (h : WyN c m n) (F : Zfr G M c c') (tm : G[m]? = some 64) (W : Zwt zty G c) (hM : ∀ x ∈ ([(64, 25), (64, 33), (64, 34), (86, 0), (87, 0)] : List (Nat × Nat)), x ∉ M) (hs : Sc c c' m j e) : WyN c' m n := by
  intro hf
  rw [vaf_fr F tm (gf_64_33 W tm) (hM _ (by decide)) (hM _ (by decide)), vaf_fr F tm (gf_64_34 W tm) (hM _ (by decide)) (hM _ (by decide)), vfi_fr F tm (hM _ (by decide))]
  exact h (hs hf).1
theorem WyN_flt {fv : Int32} (e : zgi c m 12 19 = some fv) (h : ¬ fv.toInt = 0) : WyN c m n := fun hf => absurd (by rw [vfi_e e] at hf; exact hf) h
theorem WyN_0 (h : n.toInt ≤ 0) : WyN c m n := fun _ w _ hl => absurd hl (by omega)
theorem WyN_w33 (h : WyN c m n) (W : Zwt zty G c) (tm : G[m]? = some 64) (F : Zfr G [(86, 0)] c c') (ep : zgi c m 12 25 = some pv) (ee : zgr c m 12 33 = some k) (w : zsi c k t i x = some c') (hi : 11 * pv.toInt + n.toInt ≤ i.toInt) (hp : 0 ≤ pv.toInt) : WyN c' m n := by
  intro hf u hu hl
  rw [vfi_fr F tm (by decide)] at hf
  rw [vfi_fr F tm (by decide), (vaf_w ee w).1, vaf_fr F tm (gf_64_34 W tm) (by decide) (by decide), upd_n (by rw [vfi_e ep]; omega)]
  exact h hf u hu hl
theorem WyN_w34 (h : WyN c m n) (W : Zwt zty G c) (tm : G[m]? = some 64) (F : Zfr G [(87, 0)] c c') (ep : zgi c m 12 25 = some pv) (ee : zgr c m 12 34 = some k) (w : zsi c k t i x = some c') (hi : 11 * pv.toInt + n.toInt ≤ i.toInt) (hp : 0 ≤ pv.toInt) : WyN c' m n := by
  intro hf u hu hl
  rw [vfi_fr F tm (by decide)] at hf
  rw [vfi_fr F tm (by decide), (vaf_w ee w).1, vaf_fr F tm (gf_64_33 W tm) (by decide) (by decide), upd_n (by rw [vfi_e ep]; omega)]
  exact h hf u hu hl
theorem WyN_up {n' : Int32} (h : WyN c m n) (ep : zgi c m 12 25 = some pv) (hp : 0 ≤ pv.toInt) (hn : n'.toInt = n.toInt + 1) (hn0 : 0 ≤ n.toInt) {k2 : Nat} (e3 : zgr c m 12 33 = some k) (e4 : zgr c m 12 34 = some k2) (hi : i.toInt = 11 * pv.toInt + n.toInt) (r3 : zai c k 0 i = some v) (r4 : zai c k2 0 i = some a) {fv : Int32} (ef : zgi c m 12 19 = some fv) (hv : ¬ fv.toInt = 0 ∨ ((0 ≤ v.toInt ∧ v.toInt ≤ 7) ∧ 0 ≤ a.toInt ∧ a.toInt ≤ 7)) : WyN c m n' := by
  intro hf u hu hl
  rcases Int.lt_or_le u n.toInt with z | z
  · exact h hf u hu z
  · have hu2 : 11 * (vfi c m 25).toNat + u = i.toInt.toNat := by rw [vfi_e ep]; omega
    rw [hu2, ← (vaf_r e3 r3).1, ← (vaf_r e4 r4).1]
    rw [vfi_e ef] at hf
    exact hv.resolve_left (fun z => z hf)
abbrev TBV : List (Nat × Nat) := [(64, 25), (64, 44), (64, 45), (64, 46), (64, 50), (64, 51), (64, 52), (97, 0), (98, 0), (99, 0), (103, 0), (104, 0)]
theorem TbI_fr (h : TbI c m n) (F : Zfr G M c c') (tm : G[m]? = some 64) (W : Zwt zty G c) (hM : ∀ x ∈ ([(64, 25), (64, 44), (64, 45), (64, 50), (64, 51), (64, 52), (97, 0), (98, 0), (103, 0), (104, 0)] : List (Nat × Nat)), x ∉ M) (hs : Sc c c' m j e) : TbI c' m n := by
  intro hf
  rw [vaf_fr F tm (gf_64_44 W tm) (hM _ (by decide)) (hM _ (by decide)), vaf_fr F tm (gf_64_45 W tm) (hM _ (by decide)) (hM _ (by decide)), vaf_fr F tm (gf_64_50 W tm) (hM _ (by decide)) (hM _ (by decide)), vaf_fr F tm (gf_64_51 W tm) (hM _ (by decide)) (hM _ (by decide)), vfi_fr F tm (hM (64, 25) (by decide)), vfi_fr F tm (hM (64, 52) (by decide))]
  exact h (hs hf).1
theorem TbC_fr (h : TbC c m b) (F : Zfr G M c c') (tm : G[m]? = some 64) (W : Zwt zty G c) (hM : ∀ x ∈ ([(64, 25), (64, 46), (64, 50), (64, 51), (64, 52), (99, 0), (103, 0), (104, 0)] : List (Nat × Nat)), x ∉ M) (hs : Sc c c' m j e) : TbC c' m b := by
  intro hb hf
  rw [vaf_fr F tm (gf_64_46 W tm) (hM _ (by decide)) (hM _ (by decide)), vaf_fr F tm (gf_64_50 W tm) (hM _ (by decide)) (hM _ (by decide)), vaf_fr F tm (gf_64_51 W tm) (hM _ (by decide)) (hM _ (by decide)), vfi_fr F tm (hM (64, 25) (by decide)), vfi_fr F tm (hM (64, 52) (by decide))]
  exact h hb (hs hf).1
theorem TbI_flt {fv : Int32} (e : zgi c m 12 19 = some fv) (h : ¬ fv.toInt = 0) : TbI c m n := fun hf => absurd (by rw [vfi_e e] at hf; exact hf) h
theorem TbC_flt {fv : Int32} (e : zgi c m 12 19 = some fv) (h : ¬ fv.toInt = 0) : TbC c m b := fun _ hf => absurd (by rw [vfi_e e] at hf; exact hf) h
theorem TbI_0 (h : n.toInt ≤ 0) : TbI c m n := fun _ w _ hl => absurd hl (by omega)
theorem TbC_0 (h : b.toInt = 0) : TbC c m b := fun z => absurd h z
theorem TbI_w44 (h : TbI c m n) (W : Zwt zty G c) (tm : G[m]? = some 64) (F : Zfr G [(97, 0)] c c') (ep : zgi c m 12 25 = some pv) (ee : zgr c m 12 44 = some k) (w : zsi c k t i x = some c') (hi : 8 * pv.toInt + n.toInt ≤ i.toInt) (hp : 0 ≤ pv.toInt) : TbI c' m n := by
  intro hf u hu hl
  rw [vfi_fr F tm (by decide)] at hf
  rw [vfi_fr (j := 25) F tm (by decide), vfi_fr (j := 52) F tm (by decide), (vaf_w ee w).1, vaf_fr F tm (gf_64_45 W tm) (by decide) (by decide), vaf_fr F tm (gf_64_50 W tm) (by decide) (by decide), vaf_fr F tm (gf_64_51 W tm) (by decide) (by decide), upd_n (by rw [vfi_e ep]; omega)]
  exact h hf u hu hl
theorem TbI_w45 (h : TbI c m n) (W : Zwt zty G c) (tm : G[m]? = some 64) (F : Zfr G [(98, 0)] c c') (ep : zgi c m 12 25 = some pv) (ee : zgr c m 12 45 = some k) (w : zsi c k t i x = some c') (hi : 8 * pv.toInt + n.toInt ≤ i.toInt) (hp : 0 ≤ pv.toInt) : TbI c' m n := by
  intro hf u hu hl
  rw [vfi_fr F tm (by decide)] at hf
  rw [vfi_fr (j := 25) F tm (by decide), vfi_fr (j := 52) F tm (by decide), (vaf_w ee w).1, vaf_fr F tm (gf_64_44 W tm) (by decide) (by decide), vaf_fr F tm (gf_64_50 W tm) (by decide) (by decide), vaf_fr F tm (gf_64_51 W tm) (by decide) (by decide), upd_n (by rw [vfi_e ep]; omega)]
  exact h hf u hu hl
-- code
theorem Cdw_0 (w : CdW c q m v a) (hf : vfi c m 19 = 0) : ∀ i, i < (vfi c m 52).toNat → vaf q m 50 (512 * (vfi c m 25).toNat + i) = vaf c m 50 (512 * (vfi c m 25).toNat + i) ∧ vaf q m 51 (512 * (vfi c m 25).toNat + i) = vaf c m 51 (512 * (vfi c m 25).toNat + i) := by
  intro i hi
  obtain ⟨h1, h2, h3⟩ := w.2 hf
  rw [h1, h2]
  exact ⟨upd_n (by omega), upd_n (by omega)⟩
theorem TbI_cd (h : TbI c m n) (F : Zfr G M_Mo_code c q) (tm : G[m]? = some 64) (W : Zwt zty G c) (w : CdW c q m v a) : TbI q m n := by
  intro hf u hu hl
  have e19 := vfi_fr (j := 19) F tm (by decide)
  rw [e19] at hf
  rw [vfi_fr (j := 25) F tm (by decide), vaf_fr F tm (gf_64_44 W tm) (by decide) (by decide), vaf_fr F tm (gf_64_45 W tm) (by decide) (by decide)]
  refine (h hf u hu hl).imp id (fun z => CdE_m (CdE_cg (fun i _ hi => Cdw_0 w hf i hi) z) ?_)
  rw [(w.2 hf).2.2]; omega
theorem TbC_cd (h : TbC c m b) (F : Zfr G M_Mo_code c q) (tm : G[m]? = some 64) (W : Zwt zty G c) (w : CdW c q m v a) : TbC q m b := by
  intro hb hf
  have e19 := vfi_fr (j := 19) F tm (by decide)
  rw [e19] at hf
  rw [vfi_fr (j := 25) F tm (by decide), vaf_fr F tm (gf_64_46 W tm) (by decide) (by decide)]
  refine (h hb hf).imp id (fun z => CdE_m (CdE_cg (fun i _ hi => Cdw_0 w hf i hi) z) ?_)
  rw [(w.2 hf).2.2]; omega
theorem GtP_cd (h : GtP c m) (F : Zfr G M_Mo_code c q) (tm : G[m]? = some 64) (W : Zwt zty G c) (w : CdW c q m v a) : GtP q m := by
  by_cases hf : vfi c m 19 = 0
  · obtain ⟨h1, h2, h3⟩ := w.2 hf
    obtain ⟨pv, ep, lp, up⟩ := gf_64_25 W tm
    obtain ⟨cd, ec, lc, uc⟩ := gf_64_52 W tm
    refine ⟨GtW_q h.1 (vaf_fr F tm (gf_64_22 W tm) (by decide) (by decide)) (vaf_fr F tm (gf_64_23 W tm) (by decide) (by decide)) (vfi_fr F tm (by decide)) (fun s hs j hj i l u => ?_), by rw [vfi_fr (j := 25) F tm (by decide), vfi_fr (j := 24) F tm (by decide)]; exact h.2⟩
    rw [← h.2, vfi_e ep] at hs
    rw [vfi_e ep, vfi_e ec] at h1 h2
    simp only [List.mem_cons, List.not_mem_nil, or_false] at hj
    rcases hj with rfl | rfl | rfl | rfl | rfl | rfl | rfl | rfl | rfl | rfl | rfl
    · rw [vaf_fr F tm (gf_64_31 W tm) (by decide) (by decide)]
    · rw [vaf_fr F tm (gf_64_33 W tm) (by decide) (by decide)]
    · rw [vaf_fr F tm (gf_64_34 W tm) (by decide) (by decide)]
    · rw [vaf_fr F tm (gf_64_43 W tm) (by decide) (by decide)]
    · rw [vaf_fr F tm (gf_64_44 W tm) (by decide) (by decide)]
    · rw [vaf_fr F tm (gf_64_45 W tm) (by decide) (by decide)]
    · rw [vaf_fr F tm (gf_64_46 W tm) (by decide) (by decide)]
    · rw [vaf_fr F tm (gf_64_48 W tm) (by decide) (by decide)]
    · rw [vaf_fr F tm (gf_64_49 W tm) (by decide) (by decide)]
    · rw [show sdj 50 = 512 by decide] at l u
      rw [h1, upd_n (by omega)]
    · rw [show sdj 51 = 512 by decide] at l u
      rw [h2, upd_n (by omega)]
  · rw [w.1 hf]; exact h
end
-- frames of expressions
def fw1 (s f : Int) : Int := if (f = 2 ∧ (s = 0 ∨ s = 1 ∨ s = 3 ∨ s = 4)) ∨ (f = 4 ∧ s = 2) then 1 else 0
def fw2 (s f : Int) : Int := if (f = 2 ∧ (s = 0 ∨ s = 1 ∨ s = 3 ∨ s = 4)) ∨ (f = 4 ∧ s = 2) ∨ (f = 1 ∧ (s = 2 ∨ s = 5)) then 1 else 0
def fw3 (s f : Int) : Int := if (s = 2 ∨ s = 5) ∧ (f = 1 ∨ f = 2) then 1 else 0
def ph (s f : Int) : Int := if f = 0 then 11 - 2 * s else 1
def dl (s f : Int) : Int := if f = 0 then 0 else 1 + fw1 s f
def sm (w : Int → Int → Int) (a b : Nat → Int32) : Nat → Int
  | 0 => 0
  | n + 1 => sm w a b n + w (a n).toInt (b n).toInt
theorem sm_cg {w : Int → Int → Int} {a b a' b' : Nat → Int32} : ∀ {n : Nat}, (∀ i, i < n → a' i = a i ∧ b' i = b i) → sm w a' b' n = sm w a b n := by
  intro n
  induction n with
  | zero => intro _; rfl
  | succ n ih =>
    intro h
    unfold sm
    rw [ih (fun i hi => h i (by omega)), (h n (by omega)).1, (h n (by omega)).2]
theorem sm_nn {w : Int → Int → Int} {a b : Nat → Int32} (hw : ∀ x y, 0 ≤ w x y) : ∀ {n : Nat}, 0 ≤ sm w a b n := by
  intro n
  induction n with
  | zero => exact Int.le_refl _
  | succ n ih => unfold sm; have := hw (a n).toInt (b n).toInt; omega
theorem fw1_nn (s f : Int) : 0 ≤ fw1 s f := by unfold fw1; split <;> omega
theorem fw2_nn (s f : Int) : 0 ≤ fw2 s f := by unfold fw2; split <;> omega
theorem fw3_nn (s f : Int) : 0 ≤ fw3 s f := by unfold fw3; split <;> omega
def okF (s f o : Int32) (tt : Int) (i : Nat) : Prop := (0 ≤ s.toInt ∧ s.toInt ≤ 5 ∧ (i : Int) ≤ 4 * tt + s.toInt) ∧ (0 ≤ f.toInt ∧ f.toInt ≤ 4 ∧ (s.toInt = 2 ∨ f.toInt ≤ 2)) ∧ ((s.toInt = 2 ∧ f.toInt = 4) ∨ ((s.toInt = 3 ∨ s.toInt = 4) ∧ f.toInt = 2) → twoC o)
theorem okF_t {s f o : Int32} {tt tt' : Int} {i : Nat} (h : okF s f o tt i) (hl : tt ≤ tt') : okF s f o tt' i := ⟨⟨h.1.1, h.1.2.1, by have := h.1.2.2; omega⟩, h.2⟩
theorem sm_ph {a b o : Nat → Int32} {tt : Int} : ∀ {n : Nat}, (∀ i, i < n → okF (a i) (b i) (o i) tt i) → 0 ≤ sm ph a b n := by
  intro n
  induction n with
  | zero => intro _; exact Int.le_refl _
  | succ n ih =>
    intro h
    unfold sm
    have h1 := ih (fun i hi => h i (by omega))
    have h2 := (h n (by omega)).1
    have : 0 ≤ ph (a n).toInt (b n).toInt := by unfold ph; split <;> omega
    omega
/-- what lies below frame k: depth, codes, deepness and measure, each with what the frame adds -/
def PB (c : Zc) (m s0 k : Nat) (δ τ ε π μ : Int) : Prop := vfi c m 19 = 0 → (∀ i : Nat, i < k → okF (vaf c m 66 i) (vaf c m 67 i) (vaf c m 68 i) (vfi c m 18) i ∧ 1 ≤ (vaf c m 67 i).toInt) ∧ (∃ (n : Nat) (d : Int), (s0 : Int) + n = vfi c m 52 ∧ Cdp (vaf c m 50) (vaf c m 51) (512 * (vfi c m 25).toNat + s0) n d ∧ sm fw1 (vaf c m 66) (vaf c m 67) k + δ ≤ d) ∧ vfi c m 52 + sm fw2 (vaf c m 66) (vaf c m 67) k + τ ≤ vfi c m 18 ∧ sm fw3 (vaf c m 66) (vaf c m 67) k + ε ≤ vfi c m 53 ∧ 16 * (200 - vfi c m 18) + sm ph (vaf c m 66) (vaf c m 67) k + π ≤ μ
def TpK (c : Zc) (m k : Nat) (s f o : Int32) : Prop := vaf c m 66 k = s ∧ vaf c m 67 k = f ∧ vaf c m 68 k = o
abbrev PBV : List (Nat × Nat) := [(64, 25), (64, 52), (64, 66), (64, 67), (64, 68), (64, 50), (64, 51), (114, 0), (115, 0), (116, 0), (103, 0), (104, 0)]
section
variable {G : List Nat} {M : List (Nat × Nat)} {c c' q : Zc} {m k s0 : Nat} {δ τ ε π μ j e : Int} {s f o : Int32}
theorem PB_sc (h : PB c m s0 k δ τ ε π μ) (F : Zfr G M c c') (t : G[m]? = some 64) (W : Zwt zty G c) (hM : ∀ x ∈ PBV, x ∉ M) (hs : Sc c c' m j e) (hj : 0 ≤ j) : PB c' m s0 k δ (τ + j) (ε + e) (π + 16 * j) μ := by
  intro hf
  obtain ⟨f0, f1, f2⟩ := hs hf
  obtain ⟨h1, h2, h3, h4, h5⟩ := h f0
  rw [vaf_fr F t (gf_64_66 W t) (hM _ (by decide)) (hM _ (by decide)), vaf_fr F t (gf_64_67 W t) (hM _ (by decide)) (hM _ (by decide)), vaf_fr F t (gf_64_68 W t) (hM _ (by decide)) (hM _ (by decide)), vaf_fr F t (gf_64_50 W t) (hM _ (by decide)) (hM _ (by decide)), vaf_fr F t (gf_64_51 W t) (hM _ (by decide)) (hM _ (by decide)), vfi_fr F t (hM (64, 25) (by decide)), vfi_fr F t (hM (64, 52) (by decide))]
  exact ⟨fun i hi => ⟨okF_t (h1 i hi).1 (by omega), (h1 i hi).2⟩, h2, by omega, by omega, by omega⟩
theorem PB_m {δ' τ' ε' π' : Int} (h : PB c m s0 k δ τ ε π μ) (h1 : δ' ≤ δ) (h2 : τ' ≤ τ) (h3 : ε' ≤ ε) (h4 : π' ≤ π) : PB c m s0 k δ' τ' ε' π' μ := by
  intro hf
  obtain ⟨a1, ⟨n, d, a2, a3, a4⟩, a5, a6, a7⟩ := h hf
  exact ⟨a1, ⟨n, d, a2, a3, by omega⟩, by omega, by omega, by omega⟩
theorem PB_cg (h : PB c m s0 k δ τ ε π μ) (e18 : vfi c' m 18 = vfi c m 18) (e19 : vfi c' m 19 = vfi c m 19) (e25 : vfi c' m 25 = vfi c m 25) (e52 : vfi c' m 52 = vfi c m 52) (e53 : vfi c' m 53 = vfi c m 53) (e50 : vaf c' m 50 = vaf c m 50) (e51 : vaf c' m 51 = vaf c m 51) (hc : ∀ i, i < k → vaf c' m 66 i = vaf c m 66 i ∧ vaf c' m 67 i = vaf c m 67 i ∧ vaf c' m 68 i = vaf c m 68 i) : PB c' m s0 k δ τ ε π μ := by
  intro hf
  rw [e19] at hf
  obtain ⟨a1, a2, a3, a4, a5⟩ := h hf
  rw [e18, e25, e52, e53, e50, e51, sm_cg (fun i hi => ⟨(hc i hi).1, (hc i hi).2.1⟩), sm_cg (fun i hi => ⟨(hc i hi).1, (hc i hi).2.1⟩), sm_cg (fun i hi => ⟨(hc i hi).1, (hc i hi).2.1⟩), sm_cg (fun i hi => ⟨(hc i hi).1, (hc i hi).2.1⟩)]
  refine ⟨fun i hi => ?_, a2, a3, a4, a5⟩
  rw [(hc i hi).1, (hc i hi).2.1, (hc i hi).2.2]
  exact a1 i hi
theorem PB_w67 {kk t : Nat} {i x : Int32} (h : PB c m s0 k δ τ ε π μ) (W : Zwt zty G c) (tm : G[m]? = some 64) (F : Zfr G [(115, 0)] c c') (ee : zgr c m 12 67 = some kk) (w : zsi c kk t i x = some c') (hk : i.toInt.toNat = k) : PB c' m s0 k δ τ ε π μ :=
  PB_cg h (vfi_fr F tm (by decide)) (vfi_fr F tm (by decide)) (vfi_fr F tm (by decide)) (vfi_fr F tm (by decide)) (vfi_fr F tm (by decide)) (vaf_fr F tm (gf_64_50 W tm) (by decide) (by decide)) (vaf_fr F tm (gf_64_51 W tm) (by decide) (by decide)) (fun u hu => ⟨by rw [vaf_fr F tm (gf_64_66 W tm) (by decide) (by decide)], by rw [(vaf_w ee w).1, upd_n (by omega)], by rw [vaf_fr F tm (gf_64_68 W tm) (by decide) (by decide)]⟩)
theorem PB_w68 {kk t : Nat} {i x : Int32} (h : PB c m s0 k δ τ ε π μ) (W : Zwt zty G c) (tm : G[m]? = some 64) (F : Zfr G [(116, 0)] c c') (ee : zgr c m 12 68 = some kk) (w : zsi c kk t i x = some c') (hk : i.toInt.toNat = k) : PB c' m s0 k δ τ ε π μ :=
  PB_cg h (vfi_fr F tm (by decide)) (vfi_fr F tm (by decide)) (vfi_fr F tm (by decide)) (vfi_fr F tm (by decide)) (vfi_fr F tm (by decide)) (vaf_fr F tm (gf_64_50 W tm) (by decide) (by decide)) (vaf_fr F tm (gf_64_51 W tm) (by decide) (by decide)) (fun u hu => ⟨by rw [vaf_fr F tm (gf_64_66 W tm) (by decide) (by decide)], by rw [vaf_fr F tm (gf_64_67 W tm) (by decide) (by decide)], by rw [(vaf_w ee w).1, upd_n (by omega)]⟩)
theorem TpK_fr (h : TpK c m k s f o) (F : Zfr G M c c') (t : G[m]? = some 64) (W : Zwt zty G c) (hM : ∀ x ∈ ([(64, 66), (64, 67), (64, 68), (114, 0), (115, 0), (116, 0)] : List (Nat × Nat)), x ∉ M) : TpK c' m k s f o := by
  unfold TpK
  rw [vaf_fr F t (gf_64_66 W t) (hM _ (by decide)) (hM _ (by decide)), vaf_fr F t (gf_64_67 W t) (hM _ (by decide)) (hM _ (by decide)), vaf_fr F t (gf_64_68 W t) (hM _ (by decide)) (hM _ (by decide))]
  exact h
theorem TpK_w67 {kk t : Nat} {i x : Int32} (h : TpK c m k s f o) (W : Zwt zty G c) (tm : G[m]? = some 64) (F : Zfr G [(115, 0)] c c') (ee : zgr c m 12 67 = some kk) (w : zsi c kk t i x = some c') (hk : i.toInt.toNat = k) : TpK c' m k s x o := by
  unfold TpK
  rw [vaf_fr F tm (gf_64_66 W tm) (by decide) (by decide), (vaf_w ee w).1, vaf_fr F tm (gf_64_68 W tm) (by decide) (by decide), hk]
  exact ⟨h.1, upd_s, h.2.2⟩
theorem TpK_w68 {kk t : Nat} {i x : Int32} (h : TpK c m k s f o) (W : Zwt zty G c) (tm : G[m]? = some 64) (F : Zfr G [(116, 0)] c c') (ee : zgr c m 12 68 = some kk) (w : zsi c kk t i x = some c') (hk : i.toInt.toNat = k) : TpK c' m k s f x := by
  unfold TpK
  rw [vaf_fr F tm (gf_64_66 W tm) (by decide) (by decide), vaf_fr F tm (gf_64_67 W tm) (by decide) (by decide), (vaf_w ee w).1, hk]
  exact ⟨h.1, h.2.1, upd_s⟩
theorem PB_cd {v a : Int32} {δ' : Int} (h : PB c m s0 k δ τ ε π μ) (F : Zfr G M_Mo_code c q) (t : G[m]? = some 64) (W : Zwt zty G c) (w : CdW c q m v a) (hv : (pushC v a ∧ δ' = δ + 1) ∨ (oneC v ∧ 1 ≤ δ ∧ δ' = δ) ∨ (twoC v ∧ 2 ≤ δ ∧ δ' = δ - 1)) : PB q m s0 k δ' (τ - 1) ε π μ := by
  intro hf
  rw [vfi_fr F t (by decide)] at hf
  obtain ⟨a1, ⟨n, d, b1, b2, b3⟩, a3, a4, a5⟩ := h hf
  obtain ⟨c1, c2, c3⟩ := w.2 hf
  rw [vaf_fr F t (gf_64_66 W t) (by decide) (by decide), vaf_fr F t (gf_64_67 W t) (by decide) (by decide), vaf_fr F t (gf_64_68 W t) (by decide) (by decide), vfi_fr (j := 25) F t (by decide), vfi_fr (j := 18) F t (by decide), vfi_fr (j := 53) F t (by decide), c3]
  have hnn := sm_nn (w := fw1) (a := vaf c m 66) (b := vaf c m 67) fw1_nn (n := k)
  have hx : 512 * (vfi c m 25).toNat + s0 + n = 512 * (vfi c m 25).toNat + (vfi c m 52).toNat := by omega
  refine ⟨a1, ?_, by omega, a4, a5⟩
  have hb : Cdp (vaf q m 50) (vaf q m 51) (512 * (vfi c m 25).toNat + s0) n d := Cdp_cg (fun i hi => by
    rw [c1, c2]; exact ⟨upd_n (by omega), upd_n (by omega)⟩) b2
  have ev : vaf q m 50 (512 * (vfi c m 25).toNat + s0 + n) = v := by rw [hx, c1, upd_s]
  have ea : vaf q m 51 (512 * (vfi c m 25).toNat + s0 + n) = a := by rw [hx, c2, upd_s]
  rcases hv with ⟨z, y⟩ | ⟨z, y, y2⟩ | ⟨z, y, y2⟩
  · exact ⟨n + 1, d + 1, by omega, ⟨d, hb, .inl ⟨by rw [ev, ea]; exact z, rfl⟩⟩, by omega⟩
  · exact ⟨n + 1, d, by omega, ⟨d, hb, .inr (.inl ⟨by rw [ev]; exact z, by omega, rfl⟩)⟩, by omega⟩
  · exact ⟨n + 1, d - 1, by omega, ⟨d, hb, .inr (.inr ⟨by rw [ev]; exact z, by omega, rfl⟩)⟩, by omega⟩
theorem PB_nm {fv cd tv : Int32} (h : PB c m s0 k δ τ ε π μ) (ef : zgi c m 12 19 = some fv) (ec : zgi c m 12 52 = some cd) (et : zgi c m 12 18 = some tv) : ¬ fv.toInt = 0 ∨ cd.toInt + τ ≤ tv.toInt := by
  by_cases z : fv.toInt = 0
  · right
    obtain ⟨_, _, a3, _, _⟩ := h ((vfi_e ef).trans z)
    have hnn := sm_nn (w := fw2) (a := vaf c m 66) (b := vaf c m 67) fw2_nn (n := k)
    rw [vfi_e ec, vfi_e et] at a3
    omega
  · exact .inl z
theorem PB_dp {fv dv : Int32} (h : PB c m s0 k δ τ ε π μ) (ef : zgi c m 12 19 = some fv) (ed : zgi c m 12 53 = some dv) : ¬ fv.toInt = 0 ∨ ε ≤ dv.toInt := by
  by_cases z : fv.toInt = 0
  · right
    obtain ⟨_, _, _, a4, _⟩ := h ((vfi_e ef).trans z)
    have hnn := sm_nn (w := fw3) (a := vaf c m 66) (b := vaf c m 67) fw3_nn (n := k)
    rw [vfi_e ed] at a4
    omega
  · exact .inl z
end
/-- the head of the loop of frames -/
def PI (c : Zc) (m s0 : Nat) (μ : Int) : Prop := vfi c m 19 = 0 → (vfi c m 69 = 0 ∧ PB c m s0 0 1 1 0 1 μ) ∨ ∃ k : Nat, vfi c m 69 = k + 1 ∧ okF (vaf c m 66 k) (vaf c m 67 k) (vaf c m 68 k) (vfi c m 18) k ∧ PB c m s0 k (dl (vaf c m 66 k).toInt (vaf c m 67 k).toInt) (1 + fw2 (vaf c m 66 k).toInt (vaf c m 67 k).toInt) (fw3 (vaf c m 66 k).toInt (vaf c m 67 k).toInt) (ph (vaf c m 66 k).toInt (vaf c m 67 k).toInt + 1) μ
section
variable {G : List Nat} {M : List (Nat × Nat)} {c c' q : Zc} {m k s0 : Nat} {δ τ ε π μ j e : Int} {s f o : Int32}
theorem PI_flt {fv : Int32} (e : zgi c m 12 19 = some fv) (h : ¬ fv.toInt = 0) : PI c m s0 μ := fun hf => absurd (by rw [vfi_e e] at hf; exact hf) h
theorem PI_open {fv n a1 : Int32} {ks kf ko t : Nat} (h : PI c m s0 μ) (ef : zgi c m 12 19 = some fv) (hf : fv.toInt = 0) (en : zgi c m 12 69 = some n) (hk : a1.toInt = n.toInt - 1) (h1 : 1 ≤ n.toInt) (e1 : zgr c m 12 66 = some ks) (r1 : zai c ks t a1 = some s) (e2 : zgr c m 12 67 = some kf) (r2 : zai c kf t a1 = some f) (e3 : zgr c m 12 68 = some ko) (r3 : zai c ko t a1 = some o) : okF s f o (vfi c m 18) a1.toInt.toNat ∧ PB c m s0 a1.toInt.toNat (dl s.toInt f.toInt) (1 + fw2 s.toInt f.toInt) (fw3 s.toInt f.toInt) (ph s.toInt f.toInt + 1) μ ∧ TpK c m a1.toInt.toNat s f o := by
  have g1 := (vaf_r e1 r1).1
  have g2 := (vaf_r e2 r2).1
  have g3 := (vaf_r e3 r3).1
  rcases h ((vfi_e ef).trans hf) with ⟨z, _⟩ | ⟨k, z, h2, h3⟩
  · rw [vfi_e en] at z; omega
  · rw [vfi_e en] at z
    have : k = a1.toInt.toNat := by omega
    subst this
    rw [← g1, ← g2, ← g3] at h2
    rw [← g1, ← g2] at h3
    exact ⟨h2, h3, g1.symm, g2.symm, g3.symm⟩
theorem PI_pop {n : Int32} (h : PB c m s0 k δ τ ε π μ) (h1 : 1 ≤ δ) (h2 : 1 ≤ τ) (h3 : 0 ≤ ε) (h4 : 2 ≤ π) (en : zgi c m 12 69 = some n) (hk : n.toInt.toNat = k) (hn : 0 ≤ n.toInt) : PI c m s0 (μ - 1) := by
  intro hf
  obtain ⟨a1, ⟨n', d, b1, b2, b3⟩, a3, a4, a5⟩ := h hf
  rw [vfi_e en]
  cases k with
  | zero => exact .inl ⟨by omega, fun _ => ⟨a1, ⟨n', d, b1, b2, by omega⟩, by omega, by omega, by omega⟩⟩
  | succ k =>
    obtain ⟨q1, q2⟩ := a1 k (by omega)
    refine .inr ⟨k, by omega, q1, fun _ => ?_⟩
    unfold sm at b3 a3 a4 a5
    have hd : dl (vaf c m 66 k).toInt (vaf c m 67 k).toInt = 1 + fw1 (vaf c m 66 k).toInt (vaf c m 67 k).toInt := by unfold dl; rw [if_neg (by omega)]
    rw [hd]
    exact ⟨fun i hi => a1 i (by omega), ⟨n', d, b1, b2, by omega⟩, by omega, by omega, by omega⟩
/-- a frame s that waits at f, and a frame s' above it -/
def psh (s f s' δ τ ε π : Int) : Prop := fw1 s f ≤ δ ∧ fw2 s f + 1 ≤ τ ∧ fw3 s f ≤ ε ∧ ph s f + ph s' 0 + 2 ≤ π ∧ 0 ≤ s' ∧ s' ≤ 5 ∧ 1 ≤ f
theorem PI_push {n s' : Int32} (h : PB c m s0 k δ τ ε π μ) (tp : TpK c m k s f o) (hs : psh s.toInt f.toInt s'.toInt δ τ ε π) (hs5 : 0 ≤ s.toInt ∧ s.toInt ≤ 5) (hf4 : 0 ≤ f.toInt ∧ f.toInt ≤ 4 ∧ (s.toInt = 2 ∨ f.toInt ≤ 2)) (tw : (s.toInt = 2 ∧ f.toInt = 4) ∨ ((s.toInt = 3 ∨ s.toInt = 4) ∧ f.toInt = 2) → twoC o) {fv tv : Int32} (ef : zgi c m 12 19 = some fv) (et : zgi c m 12 18 = some tv) (bd : ¬ fv.toInt = 0 ∨ ((k : Int) ≤ 4 * tv.toInt + s.toInt ∧ (s.toInt + 1 ≤ s'.toInt ∨ ((k : Int) + 4 ≤ 4 * tv.toInt + s.toInt ∧ s.toInt ≤ s'.toInt + 3)))) (F : Zfr G M_Mo_frame c q) (t : G[m]? = some 64) (W : Zwt zty G c) (w : FrW c q m s') (en : zgi c m 12 69 = some n) (hk : n.toInt = k + 1) : PI q m s0 (μ - 1) := by
  intro hf
  have e19 := vfi_fr (j := 19) F t (by decide)
  have e18 := vfi_fr (j := 18) F t (by decide)
  have e25 := vfi_fr (j := 25) F t (by decide)
  have e52 := vfi_fr (j := 52) F t (by decide)
  have e53 := vfi_fr (j := 53) F t (by decide)
  have e50 := vaf_fr F t (gf_64_50 W t) (by decide) (by decide)
  have e51 := vaf_fr F t (gf_64_51 W t) (by decide) (by decide)
  rw [e19] at hf
  obtain ⟨q1, q2, q3, q4⟩ := w
  obtain ⟨y1, y2, y3, y4, y5⟩ := hs
  have bd := bd.resolve_left (fun z => z (by rw [← vfi_e ef]; exact hf))
  rw [← vfi_e et] at bd
  have o1 : okF s f o (vfi c m 18) k := ⟨⟨hs5.1, hs5.2, bd.1⟩, hf4, tw⟩
  have hn : (vfi c m 69).toNat = k + 1 := by rw [vfi_e en]; omega
  rw [hn] at q1 q2 q3
  refine .inr ⟨k + 1, by rw [q4, vfi_e en, hk]; omega, ?_, ?_⟩
  · rw [q1, q2, q3, upd_s, upd_s, upd_s, e18]
    have l0 : (0 : Int32).toInt = 0 := by decide
    refine ⟨⟨y5.1, y5.2.1, ?_⟩, ⟨by omega, by omega, .inr (by omega)⟩, fun z => ?_⟩
    · omega
    · omega
  · rw [q1, q2, upd_s, upd_s]
    have l0 : (0 : Int32).toInt = 0 := by decide
    rw [l0]
    have h' : PB q m s0 k δ τ ε π μ := PB_cg h e18 e19 e25 e52 e53 e50 e51 (fun i hi => by
      rw [q1, q2, q3]; exact ⟨upd_n (by omega), upd_n (by omega), upd_n (by omega)⟩)
    intro hf2
    obtain ⟨a1, ⟨n', d, b1, b2, b3⟩, a3, a4, a5⟩ := h' hf2
    have t1 : vaf q m 66 k = s := by rw [q1, upd_n (by omega)]; exact tp.1
    have t2 : vaf q m 67 k = f := by rw [q2, upd_n (by omega)]; exact tp.2.1
    have t3 : vaf q m 68 k = o := by rw [q3, upd_n (by omega)]; exact tp.2.2
    have z1 : dl s'.toInt 0 = 0 := by unfold dl; rw [if_pos rfl]
    have z2 : fw2 s'.toInt 0 = 0 := by unfold fw2; rw [if_neg (by omega)]
    have z3 : fw3 s'.toInt 0 = 0 := by unfold fw3; rw [if_neg (by omega)]
    rw [z1, z2, z3]
    unfold sm
    rw [t1, t2]
    refine ⟨fun i hi => ?_, ⟨n', d, b1, b2, by omega⟩, by omega, by omega, by omega⟩
    rcases Nat.lt_or_ge i k with z | z
    · exact a1 i z
    · have : i = k := by omega
      subst this
      rw [t1, t2, t3, e18]
      exact ⟨o1, y5.2.2⟩
theorem PI_fr (h : PI c m s0 μ) (F : Zfr G M c c') (t : G[m]? = some 64) (W : Zwt zty G c) (hM : (∀ x ∈ PBV, x ∉ M) ∧ (64, 69) ∉ M) (h1 : (64, 19) ∉ M) (h2 : (64, 18) ∉ M) (h3 : (64, 53) ∉ M) : PI c' m s0 μ := by
  intro hf
  have hs := Sc_fr F t h1 h2 h3
  rw [vfi_fr F t h1] at hf
  rw [vfi_fr F t hM.2, vaf_fr F t (gf_64_66 W t) (hM.1 _ (by decide)) (hM.1 _ (by decide)), vaf_fr F t (gf_64_67 W t) (hM.1 _ (by decide)) (hM.1 _ (by decide)), vaf_fr F t (gf_64_68 W t) (hM.1 _ (by decide)) (hM.1 _ (by decide)), vfi_fr F t h2]
  refine (h hf).imp (fun ⟨a, b⟩ => ⟨a, PB_m (PB_sc b F t W hM.1 hs (by omega)) (by omega) (by omega) (by omega) (by omega)⟩) (fun ⟨k, a, b, d⟩ => ⟨k, a, b, PB_m (PB_sc d F t W hM.1 hs (by omega)) (by omega) (by omega) (by omega) (by omega)⟩)
end
-- the frames' figures
theorem w_J {s f : Int32} (hs : s.toInt = 0 ∨ s.toInt = 1 ∨ s.toInt = 3 ∨ s.toInt = 4) (h0 : 0 ≤ f.toInt) (h2 : f.toInt ≤ 2) : (f.toInt = 0 ∧ dl s.toInt f.toInt = 0 ∧ fw2 s.toInt f.toInt = 0 ∧ fw3 s.toInt f.toInt = 0 ∧ ph s.toInt f.toInt = 11 - 2 * s.toInt) ∨ (f.toInt = 1 ∧ dl s.toInt f.toInt = 1 ∧ fw2 s.toInt f.toInt = 0 ∧ fw3 s.toInt f.toInt = 0 ∧ ph s.toInt f.toInt = 1) ∨ (f.toInt = 2 ∧ dl s.toInt f.toInt = 2 ∧ fw2 s.toInt f.toInt = 1 ∧ fw3 s.toInt f.toInt = 0 ∧ ph s.toInt f.toInt = 1) := by
  generalize s.toInt = s at *
  generalize f.toInt = f at *
  rcases (by omega : f = 0 ∨ f = 1 ∨ f = 2) with rfl | rfl | rfl <;> rcases hs with rfl | rfl | rfl | rfl <;> decide
theorem w_F {s f : Int32} (hs : s.toInt = 2) (h0 : 0 ≤ f.toInt) (h2 : f.toInt ≤ 4) : (f.toInt = 0 ∧ dl s.toInt f.toInt = 0 ∧ fw2 s.toInt f.toInt = 0 ∧ fw3 s.toInt f.toInt = 0 ∧ ph s.toInt f.toInt = 7) ∨ (f.toInt = 1 ∧ dl s.toInt f.toInt = 1 ∧ fw2 s.toInt f.toInt = 1 ∧ fw3 s.toInt f.toInt = 1 ∧ ph s.toInt f.toInt = 1) ∨ (f.toInt = 2 ∧ dl s.toInt f.toInt = 1 ∧ fw2 s.toInt f.toInt = 0 ∧ fw3 s.toInt f.toInt = 1 ∧ ph s.toInt f.toInt = 1) ∨ (f.toInt = 3 ∧ dl s.toInt f.toInt = 1 ∧ fw2 s.toInt f.toInt = 0 ∧ fw3 s.toInt f.toInt = 0 ∧ ph s.toInt f.toInt = 1) ∨ (f.toInt = 4 ∧ dl s.toInt f.toInt = 2 ∧ fw2 s.toInt f.toInt = 1 ∧ fw3 s.toInt f.toInt = 0 ∧ ph s.toInt f.toInt = 1) := by
  generalize s.toInt = s at *
  generalize f.toInt = f at *
  subst hs
  rcases (by omega : f = 0 ∨ f = 1 ∨ f = 2 ∨ f = 3 ∨ f = 4) with rfl | rfl | rfl | rfl | rfl <;> decide
theorem w_U {s f : Int32} (hs : s.toInt = 5) (h0 : 0 ≤ f.toInt) (h2 : f.toInt ≤ 2) : (f.toInt = 0 ∧ dl s.toInt f.toInt = 0 ∧ fw2 s.toInt f.toInt = 0 ∧ fw3 s.toInt f.toInt = 0 ∧ ph s.toInt f.toInt = 1) ∨ (f.toInt = 1 ∧ dl s.toInt f.toInt = 1 ∧ fw2 s.toInt f.toInt = 1 ∧ fw3 s.toInt f.toInt = 1 ∧ ph s.toInt f.toInt = 1) ∨ (f.toInt = 2 ∧ dl s.toInt f.toInt = 1 ∧ fw2 s.toInt f.toInt = 0 ∧ fw3 s.toInt f.toInt = 1 ∧ ph s.toInt f.toInt = 1) := by
  generalize s.toInt = s at *
  generalize f.toInt = f at *
  subst hs
  rcases (by omega : f = 0 ∨ f = 1 ∨ f = 2) with rfl | rfl | rfl <;> decide
theorem psN {s f s' : Int32} {δ τ ε π : Int} (hs : s.toInt = 2) (hf : f.toInt = 1) (hs' : s'.toInt = 2) (h1 : 0 ≤ δ) (h2 : 2 ≤ τ) (h3 : 1 ≤ ε) (h4 : 10 ≤ π) : psh s.toInt f.toInt s'.toInt δ τ ε π := by
  rw [hs, hf, hs']
  have a1 : fw1 2 1 = 0 := by decide
  have a2 : fw2 2 1 + 1 = 2 := by decide
  have a3 : fw3 2 1 = 1 := by decide
  have a4 : ph 2 1 + ph 2 0 + 2 = 10 := by decide
  exact ⟨by omega, by omega, by omega, by omega, by omega, by omega, by omega⟩
theorem psB {s f s' : Int32} {δ τ ε π : Int} (hs : s.toInt = 2) (hf : f.toInt = 2) (hs' : s'.toInt = 0) (h1 : 0 ≤ δ) (h2 : 1 ≤ τ) (h3 : 1 ≤ ε) (h4 : 14 ≤ π) : psh s.toInt f.toInt s'.toInt δ τ ε π := by
  rw [hs, hf, hs']
  have a1 : fw1 2 2 = 0 := by decide
  have a2 : fw2 2 2 + 1 = 1 := by decide
  have a3 : fw3 2 2 = 1 := by decide
  have a4 : ph 2 2 + ph 0 0 + 2 = 14 := by decide
  exact ⟨by omega, by omega, by omega, by omega, by omega, by omega, by omega⟩
theorem psE {s f s' : Int32} {δ τ ε π : Int} (hs : s.toInt = 2) (hf : f.toInt = 3) (hs' : s'.toInt = 3) (h1 : 0 ≤ δ) (h2 : 1 ≤ τ) (h3 : 0 ≤ ε) (h4 : 8 ≤ π) : psh s.toInt f.toInt s'.toInt δ τ ε π := by
  rw [hs, hf, hs']
  have a1 : fw1 2 3 = 0 := by decide
  have a2 : fw2 2 3 + 1 = 1 := by decide
  have a3 : fw3 2 3 = 0 := by decide
  have a4 : ph 2 3 + ph 3 0 + 2 = 8 := by decide
  exact ⟨by omega, by omega, by omega, by omega, by omega, by omega, by omega⟩
theorem psR {s f s' : Int32} {δ τ ε π : Int} (hs : s.toInt = 2) (hf : f.toInt = 4) (hs' : s'.toInt = 3) (h1 : 1 ≤ δ) (h2 : 2 ≤ τ) (h3 : 0 ≤ ε) (h4 : 8 ≤ π) : psh s.toInt f.toInt s'.toInt δ τ ε π := by
  rw [hs, hf, hs']
  have a1 : fw1 2 4 = 1 := by decide
  have a2 : fw2 2 4 + 1 = 2 := by decide
  have a3 : fw3 2 4 = 0 := by decide
  have a4 : ph 2 4 + ph 3 0 + 2 = 8 := by decide
  exact ⟨by omega, by omega, by omega, by omega, by omega, by omega, by omega⟩
theorem psM {s f s' : Int32} {δ τ ε π : Int} (hs : s.toInt = 5) (hf : f.toInt = 1) (hs' : s'.toInt = 5) (h1 : 0 ≤ δ) (h2 : 2 ≤ τ) (h3 : 1 ≤ ε) (h4 : 4 ≤ π) : psh s.toInt f.toInt s'.toInt δ τ ε π := by
  rw [hs, hf, hs']
  have a1 : fw1 5 1 = 0 := by decide
  have a2 : fw2 5 1 + 1 = 2 := by decide
  have a3 : fw3 5 1 = 1 := by decide
  have a4 : ph 5 1 + ph 5 0 + 2 = 4 := by decide
  exact ⟨by omega, by omega, by omega, by omega, by omega, by omega, by omega⟩
theorem psP {s f s' : Int32} {δ τ ε π : Int} (hs : s.toInt = 5) (hf : f.toInt = 2) (hs' : s'.toInt = 3) (h1 : 0 ≤ δ) (h2 : 1 ≤ τ) (h3 : 1 ≤ ε) (h4 : 8 ≤ π) : psh s.toInt f.toInt s'.toInt δ τ ε π := by
  rw [hs, hf, hs']
  have a1 : fw1 5 2 = 0 := by decide
  have a2 : fw2 5 2 + 1 = 1 := by decide
  have a3 : fw3 5 2 = 1 := by decide
  have a4 : ph 5 2 + ph 3 0 + 2 = 8 := by decide
  exact ⟨by omega, by omega, by omega, by omega, by omega, by omega, by omega⟩
theorem psj01 {s f s' : Int32} {δ τ ε π : Int} (hs : s.toInt = 0) (hf : f.toInt = 1) (hs' : s'.toInt = 1) (h1 : 0 ≤ δ) (h2 : 1 ≤ τ) (h3 : 0 ≤ ε) (h4 : 12 ≤ π) : psh s.toInt f.toInt s'.toInt δ τ ε π := by
  rw [hs, hf, hs']
  have a1 : fw1 0 1 = 0 := by decide
  have a2 : fw2 0 1 + 1 = 1 := by decide
  have a3 : fw3 0 1 = 0 := by decide
  have a4 : ph 0 1 + ph 1 0 + 2 = 12 := by decide
  exact ⟨by omega, by omega, by omega, by omega, by omega, by omega, by omega⟩
theorem psj02 {s f s' : Int32} {δ τ ε π : Int} (hs : s.toInt = 0) (hf : f.toInt = 2) (hs' : s'.toInt = 1) (h1 : 1 ≤ δ) (h2 : 2 ≤ τ) (h3 : 0 ≤ ε) (h4 : 12 ≤ π) : psh s.toInt f.toInt s'.toInt δ τ ε π := by
  rw [hs, hf, hs']
  have a1 : fw1 0 2 = 1 := by decide
  have a2 : fw2 0 2 + 1 = 2 := by decide
  have a3 : fw3 0 2 = 0 := by decide
  have a4 : ph 0 2 + ph 1 0 + 2 = 12 := by decide
  exact ⟨by omega, by omega, by omega, by omega, by omega, by omega, by omega⟩
theorem psj11 {s f s' : Int32} {δ τ ε π : Int} (hs : s.toInt = 1) (hf : f.toInt = 1) (hs' : s'.toInt = 2) (h1 : 0 ≤ δ) (h2 : 1 ≤ τ) (h3 : 0 ≤ ε) (h4 : 10 ≤ π) : psh s.toInt f.toInt s'.toInt δ τ ε π := by
  rw [hs, hf, hs']
  have a1 : fw1 1 1 = 0 := by decide
  have a2 : fw2 1 1 + 1 = 1 := by decide
  have a3 : fw3 1 1 = 0 := by decide
  have a4 : ph 1 1 + ph 2 0 + 2 = 10 := by decide
  exact ⟨by omega, by omega, by omega, by omega, by omega, by omega, by omega⟩
theorem psj12 {s f s' : Int32} {δ τ ε π : Int} (hs : s.toInt = 1) (hf : f.toInt = 2) (hs' : s'.toInt = 2) (h1 : 1 ≤ δ) (h2 : 2 ≤ τ) (h3 : 0 ≤ ε) (h4 : 10 ≤ π) : psh s.toInt f.toInt s'.toInt δ τ ε π := by
  rw [hs, hf, hs']
  have a1 : fw1 1 2 = 1 := by decide
  have a2 : fw2 1 2 + 1 = 2 := by decide
  have a3 : fw3 1 2 = 0 := by decide
  have a4 : ph 1 2 + ph 2 0 + 2 = 10 := by decide
  exact ⟨by omega, by omega, by omega, by omega, by omega, by omega, by omega⟩
theorem psj31 {s f s' : Int32} {δ τ ε π : Int} (hs : s.toInt = 3) (hf : f.toInt = 1) (hs' : s'.toInt = 4) (h1 : 0 ≤ δ) (h2 : 1 ≤ τ) (h3 : 0 ≤ ε) (h4 : 6 ≤ π) : psh s.toInt f.toInt s'.toInt δ τ ε π := by
  rw [hs, hf, hs']
  have a1 : fw1 3 1 = 0 := by decide
  have a2 : fw2 3 1 + 1 = 1 := by decide
  have a3 : fw3 3 1 = 0 := by decide
  have a4 : ph 3 1 + ph 4 0 + 2 = 6 := by decide
  exact ⟨by omega, by omega, by omega, by omega, by omega, by omega, by omega⟩
theorem psj32 {s f s' : Int32} {δ τ ε π : Int} (hs : s.toInt = 3) (hf : f.toInt = 2) (hs' : s'.toInt = 4) (h1 : 1 ≤ δ) (h2 : 2 ≤ τ) (h3 : 0 ≤ ε) (h4 : 6 ≤ π) : psh s.toInt f.toInt s'.toInt δ τ ε π := by
  rw [hs, hf, hs']
  have a1 : fw1 3 2 = 1 := by decide
  have a2 : fw2 3 2 + 1 = 2 := by decide
  have a3 : fw3 3 2 = 0 := by decide
  have a4 : ph 3 2 + ph 4 0 + 2 = 6 := by decide
  exact ⟨by omega, by omega, by omega, by omega, by omega, by omega, by omega⟩
theorem psj41 {s f s' : Int32} {δ τ ε π : Int} (hs : s.toInt = 4) (hf : f.toInt = 1) (hs' : s'.toInt = 5) (h1 : 0 ≤ δ) (h2 : 1 ≤ τ) (h3 : 0 ≤ ε) (h4 : 4 ≤ π) : psh s.toInt f.toInt s'.toInt δ τ ε π := by
  rw [hs, hf, hs']
  have a1 : fw1 4 1 = 0 := by decide
  have a2 : fw2 4 1 + 1 = 1 := by decide
  have a3 : fw3 4 1 = 0 := by decide
  have a4 : ph 4 1 + ph 5 0 + 2 = 4 := by decide
  exact ⟨by omega, by omega, by omega, by omega, by omega, by omega, by omega⟩
theorem psj42 {s f s' : Int32} {δ τ ε π : Int} (hs : s.toInt = 4) (hf : f.toInt = 2) (hs' : s'.toInt = 5) (h1 : 1 ≤ δ) (h2 : 2 ≤ τ) (h3 : 0 ≤ ε) (h4 : 4 ≤ π) : psh s.toInt f.toInt s'.toInt δ τ ε π := by
  rw [hs, hf, hs']
  have a1 : fw1 4 2 = 1 := by decide
  have a2 : fw2 4 2 + 1 = 2 := by decide
  have a3 : fw3 4 2 = 0 := by decide
  have a4 : ph 4 2 + ph 5 0 + 2 = 4 := by decide
  exact ⟨by omega, by omega, by omega, by omega, by omega, by omega, by omega⟩
theorem psJ {s f s' : Int32} {δ τ ε π : Int} (hs : s.toInt = 0 ∨ s.toInt = 1 ∨ s.toInt = 3 ∨ s.toInt = 4) (hs' : s'.toInt = s.toInt + 1) (hf : (f.toInt = 1 ∧ 0 ≤ δ ∧ 1 ≤ τ) ∨ (f.toInt = 2 ∧ 1 ≤ δ ∧ 2 ≤ τ)) (h3 : 0 ≤ ε) (h4 : 14 - 2 * s'.toInt ≤ π) : psh s.toInt f.toInt s'.toInt δ τ ε π := by
  rcases hf with ⟨f1, f2, f3⟩ | ⟨f1, f2, f3⟩ <;> rcases hs with z | z | z | z
  · exact psj01 z f1 (by omega) f2 f3 h3 (by omega)
  · exact psj11 z f1 (by omega) f2 f3 h3 (by omega)
  · exact psj31 z f1 (by omega) f2 f3 h3 (by omega)
  · exact psj41 z f1 (by omega) f2 f3 h3 (by omega)
  · exact psj02 z f1 (by omega) f2 f3 h3 (by omega)
  · exact psj12 z f1 (by omega) f2 f3 h3 (by omega)
  · exact psj32 z f1 (by omega) f2 f3 h3 (by omega)
  · exact psj42 z f1 (by omega) f2 f3 h3 (by omega)
end ZzT
