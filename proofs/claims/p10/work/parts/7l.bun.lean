section ZzT

def TzD (c : Zc) (m : Nat) (k : Int32) : Prop := TzF (vaf c m) (vfi c m 25).toNat ∧ (4 ≤ k.toInt → TzG (vaf c m) (vfi c m 25).toNat)
def AcN (c : Zc) (m : Nat) (n : Int32) : Prop := (cn 0 (vaf c m 3) 100 : Int) = n.toInt
def FrG (c : Zc) (m g : Nat) : Prop := vaf c m 3 g = 0
section
variable {G : List Nat} {M : List (Nat × Nat)} {c c' q : Zc} {m k t : Nat} {n n' v x i pv kq : Int32} {g : Nat}
theorem TzD_1 (ep : zgi c m 12 25 = some pv) (h : TzF (vaf c m) pv.toInt.toNat) (hk : kq.toInt ≤ 3) : TzD c m kq := ⟨by rw [vfi_e ep]; exact h, fun z => by omega⟩
theorem TzD_2 {kA kB : Nat} {gA gB : Int32} (ep : zgi c m 12 25 = some pv) (h : TzF (vaf c m) pv.toInt.toNat) (eA : zgr c m 12 48 = some kA) (rA : zai c kA 0 pv = some gA) (eB : zgr c m 12 49 = some kB) (rB : zai c kB 0 pv = some gB) (hA : 0 ≤ gA.toInt ∧ gA.toInt ≤ 7) (hB : 0 ≤ gB.toInt ∧ gB.toInt ≤ 7) : TzD c m kq := by
  refine ⟨by rw [vfi_e ep]; exact h, fun _ => ?_⟩
  rw [vfi_e ep]
  unfold TzG s7
  rw [← (vaf_r eA rA).1, ← (vaf_r eB rB).1]
  exact ⟨hA, hB⟩
theorem AcN_fr (h : AcN c m n) (F : Zfr G M c c') (tm : G[m]? = some 64) (W : Zwt zty G c) (hM : (64, 3) ∉ M ∧ (67, 0) ∉ M) : AcN c' m n := by
  unfold AcN
  rw [vaf_fr F tm (gf_64_3 W tm) hM.1 hM.2]
  exact h
theorem FrG_fr (h : FrG c m g) (F : Zfr G M c c') (tm : G[m]? = some 64) (W : Zwt zty G c) (hM : (64, 3) ∉ M ∧ (67, 0) ∉ M) : FrG c' m g := by
  unfold FrG
  rw [vaf_fr F tm (gf_64_3 W tm) hM.1 hM.2]
  exact h
theorem FrG_ne (h : FrG c m g) (e : zgr c m 12 3 = some k) (r : zai c k t i = some v) : v.toInt = 0 ∨ ¬ i.toInt = (g : Int) := by
  by_cases z : i.toInt = (g : Int)
  · left
    have hr := (vaf_r e r).1
    rw [show i.toInt.toNat = g by omega, show vaf c m 3 g = 0 from h] at hr
    rw [hr]; decide
  · exact .inr z
theorem z_ne {x : Int32} (h : ¬ x.toInt = 0) : x ≠ 0 := fun q => h (by rw [q]; decide)
theorem z_eq {x : Int32} (h : x.toInt = 0) : x = 0 := Int32.toInt_inj.mp (h.trans (by decide))
theorem AcN_up (h : AcN c m n) (e : zgr c m 12 3 = some k) (r : zai c k t i = some v) (w : zsi c k t i x = some c') (hi : i.toInt < 100) (hv : v.toInt = 0) (hx : ¬ x.toInt = 0) (hn : n'.toInt = n.toInt + 1) : AcN c' m n' := by
  have h1 := vaf_r e r
  unfold AcN at *
  rw [(vaf_w e w).1]
  have u := cn_up (z := 0) (f := vaf c m 3) (x := x) (i := i.toInt.toNat) (n := 100) (by omega)
  rw [← h1.1, if_pos (z_eq hv), if_neg (z_ne hx)] at u
  omega
theorem AcN_dn (h : AcN c m n) (e : zgr c m 12 3 = some k) (r : zai c k t i = some v) (w : zsi c k t i x = some c') (hi : i.toInt < 100) (hv : ¬ v.toInt = 0) (hx : x.toInt = 0) (hn : n'.toInt = n.toInt - 1) : AcN c' m n' := by
  have h1 := vaf_r e r
  unfold AcN at *
  rw [(vaf_w e w).1]
  have u := cn_up (z := 0) (f := vaf c m 3) (x := x) (i := i.toInt.toNat) (n := 100) (by omega)
  rw [← h1.1, if_neg (z_ne hv), if_pos (z_eq hx)] at u
  omega
theorem AcN_ps (h : AcN c m n) (e : zgr c m 12 3 = some k) (r : zai c k t i = some v) (hi : i.toInt < 100) (hv : ¬ v.toInt = 0) : 1 ≤ n.toInt := by
  have h1 := vaf_r e r
  unfold AcN at *
  have u := cn_up (z := 0) (f := vaf c m 3) (x := 0) (i := i.toInt.toNat) (n := 100) (by omega)
  rw [← h1.1, if_neg (z_ne hv), if_pos rfl] at u
  omega
theorem AcN_ex (h : AcN c m n) (hn : n.toInt < 100) : ∃ g : Nat, g < 100 ∧ FrG c m g := by
  unfold AcN at h
  obtain ⟨i, h1, h2⟩ := cn_ex (z := 0) (f := vaf c m 3) (n := 100) (by omega)
  exact ⟨i, h1, h2⟩
theorem GtW_w23 (h : GtW c m) (W : Zwt zty G c) (tm : G[m]? = some 64) (F : Zfr G [(78, 0)] c c') (e : zgr c m 12 23 = some k) (w : zsi c k t i x = some c') (hx : x.toInt = 0) : GtW c' m := by
  have e22 := vaf_fr F tm (gf_64_22 W tm) (by decide) (by decide)
  have e24 := vfi_fr (j := 24) F tm (by decide)
  have hq : ∀ s, Zq (vaf c m) (vaf c' m) s := by
    intro s j hj i _ _
    simp only [List.mem_cons, List.not_mem_nil, or_false] at hj
    rcases hj with rfl | rfl | rfl | rfl | rfl | rfl | rfl | rfl | rfl | rfl | rfl
    · rw [vaf_fr F tm (gf_64_31 W tm) (by decide) (by decide)]
    · rw [vaf_fr F tm (gf_64_33 W tm) (by decide) (by decide)]
    · rw [vaf_fr F tm (gf_64_34 W tm) (by decide) (by decide)]
    · rw [vaf_fr F tm (gf_64_43 W tm) (by decide) (by decide)]
    · rw [vaf_fr F tm (gf_64_44 W tm) (by decide) (by decide)]
    · rw [vaf_fr F tm (gf_64_45 W tm) (by decide) (by decide)]
    · rw [vaf_fr F tm (gf_64_46 W tm) (by decide) (by decide)]
    · rw [vaf_fr F tm (gf_64_48 W tm) (by decide) (by decide)]
    · rw [vaf_fr F tm (gf_64_49 W tm) (by decide) (by decide)]
    · rw [vaf_fr F tm (gf_64_50 W tm) (by decide) (by decide)]
    · rw [vaf_fr F tm (gf_64_51 W tm) (by decide) (by decide)]
  refine ⟨fun k hk ht => ?_, ?_⟩
  · rw [(vaf_w e w).1] at ht
    rw [e22]
    by_cases z : k = i.toInt.toNat
    · subst z
      rw [upd_s] at ht
      exact absurd hx ht
    · rw [upd_n z] at ht
      have := h.1 k hk ht
      exact ⟨TzF_q (hq _) this.1, fun h4 => TzG_q (hq _) (this.2 h4)⟩
  · unfold Dst
    rw [e22, e24]
    exact h.2
end
def Zst (G : List Nat) (c : Zc) (m : Nat) (k : Int32) : Prop := GtP c m ∧ TzD c m k
def Zgw (G : List Nat) (c : Zc) (m : Nat) : Prop := GtW c m
def Ztq (G : List Nat) (c : Zc) (m : Nat) (tp : Int32) (a : Int32) : Prop := ∃ n : Int32, zgi c m 12 13 = some n ∧ ((0 ≤ a.toInt ∧ a.toInt < 4 ∧ n.toInt = 0) ∨ (¬ (0 ≤ a.toInt ∧ a.toInt < 4) ∧ n.toInt = tp.toInt))
def Ztz (G : List Nat) (c : Zc) (m : Nat) : Prop := ∃ n : Int32, zgi c m 12 13 = some n ∧ n.toInt = 0
def Zac (G : List Nat) (c : Zc) (m : Nat) : Prop := ∃ na : Int32, zgi c m 12 8 = some na ∧ 0 ≤ na.toInt ∧ na.toInt ≤ 100 ∧ AcN c m na
def Zfe (G : List Nat) (c : Zc) (m : Nat) (k : Int32) : Prop := ∃ kt : Nat, ∃ v0 : Int32, zgr c m 12 3 = some kt ∧ zai c kt 6 k = some v0 ∧ G[kt]? = some 67 ∧ v0.toInt = 0
theorem p_Mo_settle {nf : Nat} (hn : 8589934592 ≤ nf) {G : List Nat} {c : Zc} (W : Zwt zty G c) {a0 : Nat} {a1 : Int32} (t_a0 : G[a0]? = some 64) (pl_a1 : 0 ≤ a1.toInt) (pu_a1 : a1.toInt ≤ 7) (hb : Zst G c a0 a1) : ∃ q, f_Mo_settle nf a0 a1 c = some q ∧ Zwt zty G q ∧ Zfr G M_Mo_settle c q ∧ Zgw G q a0 := q_Mo_settle hn W t_a0 pl_a1 pu_a1 hb.1 hb.2.1 hb.2.2
abbrev M_Mo_ask : List (Nat × Nat) := [(64, 10), (64, 11), (64, 25), (64, 81), (64, 87), (72, 0), (117, 0), (118, 0), (119, 0), (120, 0), (121, 0), (122, 0), (123, 0), (124, 0), (125, 0), (126, 0), (127, 0), (128, 0), (129, 0), (130, 0), (131, 0), (132, 0), (133, 0)]
set_option maxHeartbeats 1000000 in
theorem p_Mo_ask {nf : Nat} (hn : 8589934592 ≤ nf) {G : List Nat} {c : Zc} (W : Zwt zty G c) {a0 : Nat} {a1 : Int32} (t_a0 : G[a0]? = some 64) (hG : GtM c a0) : ∃ q, f_Mo_ask nf a0 a1 c = some q ∧ Zwt zty G q.2 ∧ Zfr G M_Mo_ask c q.2 := by
  unfold f_Mo_ask
  have l0 := li_0
  have l4 := li_4
  obtain ⟨q1, eq1, W1, f1, p0, p1, pl, pu⟩ := p_Mo_isIn hn W (a0 := a1) (a1 := 4)
  refine wb eq1 ?_
  refine wi (fun hq => ?_) (fun hq => ?_)
  · exact ⟨_, rfl, W1, Zfr.mo f1 (by decide)⟩
  have hq := i_ne hq
  obtain ⟨v3, e3, t3⟩ := gf_64_23 W1 t_a0
  refine wb e3 ?_
  obtain ⟨v4, e4, lv4, uv4⟩ := ga_78 W1 t3 (i := a1) (by omega) (by omega)
  refine wb e4 ?_
  refine wi (fun hv => ?_) (fun hv => ?_)
  · exact ⟨_, rfl, W1, Zfr.mo f1 (by decide)⟩
  have hv := i_ne hv
  obtain ⟨w7, e7⟩ := go_64 W1 t_a0
  refine wb e7 ?_
  have g1 := GtM_fr hG f1 t_a0 W (by decide)
  obtain ⟨q6, eq6, W6, f6⟩ := p_Mo_workRules hn W1 t_a0 g1
  refine wb eq6 ?_
  have g6 := GtM_fr g1 f6 t_a0 W1 (by decide)
  have F6 : Zfr G M_Mo_ask c q6 := Zfr.tr (Zfr.mo f1 (by decide)) f6 (by decide)
  obtain ⟨v8, e8, _, _⟩ := gf_64_11 W6 t_a0
  refine wb e8 ?_
  unfold f_Mo_ask_50
  refine wi (fun hz => ?_) (fun hz => ?_)
  case refine_2 => exact ⟨_, rfl, W6, F6⟩
  obtain ⟨v10, e10, t10⟩ := gf_64_22 W6 t_a0
  refine wb e10 ?_
  obtain ⟨v11, e11, l11, u11⟩ := ga_77 W6 t10 (i := a1) (by omega) (by omega)
  refine wb e11 ?_
  obtain ⟨w13, e13⟩ := go_64 W6 t_a0
  refine wb e13 ?_
  obtain ⟨nd, end_, ld, ud⟩ := gf_64_0 W6 t_a0
  obtain ⟨ks, eks, tks⟩ := gf_64_26 W6 t_a0
  obtain ⟨ns, ens, ls, us⟩ := ga_79 W6 tks (i := v11) (by omega) (by omega)
  obtain ⟨⟨qv, qc⟩, eq12, hqc, hval⟩ := p_workOf hn W6 t_a0 end_ eks ens ls us
  dsimp only at hqc hval
  subst hqc
  refine wb eq12 ?_
  refine wi (fun hl => ?_) (fun hl => ?_)
  case refine_2 => exact ⟨_, rfl, W6, F6⟩
  have hl := lg_le hl
  dsimp only at hl
  have l2 : (20000 : Int64).toInt = 20000 := by decide
  obtain ⟨w16, e16⟩ := go_64 W6 t_a0
  refine wb e16 ?_
  have hW : WkS qc a0 v11 := by
    intro nd' ks' ns' x1 x2 x3
    rw [end_] at x1; cases x1
    rw [eks] at x2; cases x2
    rw [ens] at x3; cases x3
    omega
  obtain ⟨q, eq, Wq, fq⟩ := p_Mo_answered hn W6 (a1 := a1) t_a0 (by omega) (by omega) ⟨v3, v10, v4, v11, (Zfr.gr f6 t_a0 (by decide)).trans e3, e10, (Zfr.ai f6 t3 (by decide)).trans e4, e11, t3, t10, by omega, l11, u11, g6, hW⟩
  refine wb eq ?_
  exact ⟨_, rfl, Wq, Zfr.tr F6 fq (by decide)⟩
end ZzT
