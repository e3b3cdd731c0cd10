section ZzT

/-- none of the first k entries is z -/
def LbG (c : Zc) (m : Nat) (k : Int32) : Prop := ∀ i : Nat, (i : Int) < k.toInt → (gaf c m 4 i).toInt ≠ -1
def LbM (c : Zc) (m : Nat) (k : Int32) : Prop := ∀ i : Nat, (i : Int) < k.toInt → (vaf c m 3 i).toInt ≠ 0
/-- an entry is taken: the first that is z -/
def AdS (L L' F F' T T' : Nat → Int32) (z : Int) (a1 a2 a3 r : Int32) (x x' : Int) : Prop := ((∀ i : Nat, i < 100 → (L i).toInt ≠ z) ∧ r.toInt = -3 ∧ L' = L ∧ F' = F ∧ T' = T ∧ x' = x) ∨ ∃ k : Nat, k < 100 ∧ (L k).toInt = z ∧ (∀ i : Nat, i < k → (L i).toInt ≠ z) ∧ r.toInt = k ∧ L' = upd L k a3 ∧ F' = upd F k a1 ∧ T' = upd T k a2 ∧ x' = x + 1
section
variable {G : List Nat} {M : List (Nat × Nat)} {c c' : Zc} {m p t : Nat} {k k' v : Int32}
theorem LbG_fr (h : LbG c m k) (Fr : Zfr G M c c') (tm : G[m]? = some 1) (W : Zwt zty G c) (hM : (1, 4) ∉ M ∧ (19, 0) ∉ M) : LbG c' m k := by
  unfold LbG; rw [gaf_fr Fr tm (gf_1_4 W tm) hM.1 hM.2]; exact h
theorem LbM_fr (h : LbM c m k) (Fr : Zfr G M c c') (tm : G[m]? = some 64) (W : Zwt zty G c) (hM : (64, 3) ∉ M ∧ (67, 0) ∉ M) : LbM c' m k := by
  unfold LbM; rw [vaf_fr Fr tm (gf_64_3 W tm) hM.1 hM.2]; exact h
theorem LbG_0 (h : k.toInt = 0) : LbG c m k := fun i hi => by omega
theorem LbM_0 (h : k.toInt = 0) : LbM c m k := fun i hi => by omega
theorem LbG_up (h : LbG c m k) (e : zgr c m 0 4 = some p) (r : zai c p t k = some v) (hv : ¬ v.toInt = -1) (hk : k'.toInt = k.toInt + 1) : LbG c m k' := by
  intro i hi
  have hr := gaf_r e r
  by_cases z : i = k.toInt.toNat
  · subst z; rw [← hr.1]; exact hv
  · exact h i (by omega)
theorem LbM_up (h : LbM c m k) (e : zgr c m 12 3 = some p) (r : zai c p t k = some v) (hv : ¬ v.toInt = 0) (hk : k'.toInt = k.toInt + 1) : LbM c m k' := by
  intro i hi
  have hr := vaf_r e r
  by_cases z : i = k.toInt.toNat
  · subst z; rw [← hr.1]; exact hv
  · exact h i (by omega)
theorem LbG_m (h : LbG c m k) (hk : k'.toInt ≤ k.toInt) : LbG c m k' := fun i hi => h i (by omega)
end
/-- arcs that touch node n; how many of the first k do -/
def htb (L F T : Nat → Int32) (z : Int) (n : Int32) (i : Nat) : Bool := decide ((L i).toInt ≠ z ∧ ((F i).toInt = n.toInt ∨ (T i).toInt = n.toInt))
def hct (h : Nat → Bool) : Nat → Nat
  | 0 => 0
  | k + 1 => hct h k + (if h k = true then 1 else 0)
theorem hct_s {h : Nat → Bool} {k : Nat} : hct h (k + 1) = hct h k + (if h k = true then 1 else 0) := rfl
/-- the entries A behind the first k: those that touch n are z, x of them -/
def StF (A L F T : Nat → Int32) (z : Int) (n x k : Int32) : Prop := (∀ i : Nat, (A i).toInt = if i < k.toInt.toNat ∧ htb L F T z n i = true then z else (L i).toInt) ∧ x.toInt = hct (htb L F T z n) k.toInt.toNat
theorem StF_0 {A L F T : Nat → Int32} {z : Int} {n x k : Int32} (h : A = L) (hx : x.toInt = 0) (hk : k.toInt = 0) : StF A L F T z n x k := by
  have e : k.toInt.toNat = 0 := by omega
  refine ⟨fun i => ?_, ?_⟩
  · rw [h, if_neg (by omega)]
  · rw [e, hx]; rfl
theorem StF_skip {A L F T : Nat → Int32} {z : Int} {n x k k' : Int32} (h : StF A L F T z n x k) (h0 : 0 ≤ k.toInt) (hn : (A k.toInt.toNat).toInt = z ∨ (¬ (F k.toInt.toNat).toInt = n.toInt ∧ ¬ (T k.toInt.toNat).toInt = n.toInt)) (hk : k'.toInt = k.toInt + 1) : StF A L F T z n x k' := by
  obtain ⟨h1, h2⟩ := h
  have e : k'.toInt.toNat = k.toInt.toNat + 1 := by omega
  have hA := h1 k.toInt.toNat
  rw [if_neg (by omega)] at hA
  have hb : htb L F T z n k.toInt.toNat = false := by
    unfold htb
    rw [decide_eq_false_iff_not]
    omega
  refine ⟨fun i => ?_, ?_⟩
  · rw [h1 i, e]
    by_cases y : i = k.toInt.toNat
    · subst y; rw [hb]; simp
    · by_cases w : i < k.toInt.toNat
      · by_cases u : htb L F T z n i = true
        · rw [if_pos ⟨w, u⟩, if_pos ⟨by omega, u⟩]
        · rw [if_neg (fun q => u q.2), if_neg (fun q => u q.2)]
      · rw [if_neg (fun q => w q.1), if_neg (fun q => w (by omega))]
  · rw [e, h2, hct_s, hb]; simp
theorem StF_hit {A A' L F T : Nat → Int32} {z : Int} {n x x' k k' y : Int32} (h : StF A L F T z n x k) (h0 : 0 ≤ k.toInt) (hv : ¬ (A k.toInt.toNat).toInt = z) (hn : (F k.toInt.toNat).toInt = n.toInt ∨ (T k.toInt.toNat).toInt = n.toInt) (u : A' = upd A k.toInt.toNat y) (hy : y.toInt = z) (hx : x'.toInt = x.toInt + 1) (hk : k'.toInt = k.toInt + 1) : StF A' L F T z n x' k' := by
  obtain ⟨h1, h2⟩ := h
  have e : k'.toInt.toNat = k.toInt.toNat + 1 := by omega
  have hA := h1 k.toInt.toNat
  rw [if_neg (by omega)] at hA
  have hb : htb L F T z n k.toInt.toNat = true := by
    unfold htb
    rw [decide_eq_true_iff]
    omega
  refine ⟨fun i => ?_, ?_⟩
  · rw [u, e]
    by_cases q : i = k.toInt.toNat
    · subst q; rw [upd_s, if_pos ⟨by omega, hb⟩]; exact hy
    · rw [upd_n q, h1 i]
      by_cases w : i < k.toInt.toNat
      · by_cases u : htb L F T z n i = true
        · rw [if_pos ⟨w, u⟩, if_pos ⟨by omega, u⟩]
        · rw [if_neg (fun q => u q.2), if_neg (fun q => u q.2)]
      · rw [if_neg (fun q => w q.1), if_neg (fun q => w (by omega))]
  · rw [e, hx, h2, hct_s, hb]; simp
def StG (c : Zc) (g : Nat) (L F T : Nat → Int32) (n x k : Int32) : Prop := StF (gaf c g 4) L F T (-1) n x k
def StM (c : Zc) (g : Nat) (L F T : Nat → Int32) (n x k : Int32) : Prop := StF (vaf c g 3) L F T 0 n x k
section
variable {G : List Nat} {M : List (Nat × Nat)} {c c' : Zc} {m p t : Nat} {L F T : Nat → Int32} {n x x' k k' v y : Int32}
theorem StG_fr (h : StG c m L F T n x k) (Fr : Zfr G M c c') (tm : G[m]? = some 1) (W : Zwt zty G c) (hM : (1, 4) ∉ M ∧ (19, 0) ∉ M) : StG c' m L F T n x k := by
  unfold StG; rw [gaf_fr Fr tm (gf_1_4 W tm) hM.1 hM.2]; exact h
theorem StM_fr (h : StM c m L F T n x k) (Fr : Zfr G M c c') (tm : G[m]? = some 64) (W : Zwt zty G c) (hM : (64, 3) ∉ M ∧ (67, 0) ∉ M) : StM c' m L F T n x k := by
  unfold StM; rw [vaf_fr Fr tm (gf_64_3 W tm) hM.1 hM.2]; exact h
theorem StG_skip (h : StG c m L F T n x k) (e : zgr c m 0 4 = some p) (r : zai c p t k = some v) (hn : v.toInt = -1 ∨ (¬ (F k.toInt.toNat).toInt = n.toInt ∧ ¬ (T k.toInt.toNat).toInt = n.toInt)) (hk : k'.toInt = k.toInt + 1) : StG c m L F T n x k' := StF_skip h (gaf_r e r).2 (by rw [← (gaf_r e r).1]; exact hn) hk
theorem StM_skip (h : StM c m L F T n x k) (e : zgr c m 12 3 = some p) (r : zai c p t k = some v) (hn : v.toInt = 0 ∨ (¬ (F k.toInt.toNat).toInt = n.toInt ∧ ¬ (T k.toInt.toNat).toInt = n.toInt)) (hk : k'.toInt = k.toInt + 1) : StM c m L F T n x k' := StF_skip h (vaf_r e r).2 (by rw [← (vaf_r e r).1]; exact hn) hk
theorem StG_hit (h : StG c m L F T n x k) (e : zgr c m 0 4 = some p) (r : zai c p t k = some v) (hv : ¬ v.toInt = -1) (hn : (F k.toInt.toNat).toInt = n.toInt ∨ (T k.toInt.toNat).toInt = n.toInt) (u : gaf c' m 4 = upd (gaf c m 4) k.toInt.toNat (-1)) (hx : x'.toInt = x.toInt + 1) (hk : k'.toInt = k.toInt + 1) : StG c' m L F T n x' k' := StF_hit h (gaf_r e r).2 (by rw [← (gaf_r e r).1]; exact hv) hn u (by decide) hx hk
theorem StM_hit (h : StM c m L F T n x k) (e : zgr c m 12 3 = some p) (r : zai c p t k = some v) (hv : ¬ v.toInt = 0) (hn : (F k.toInt.toNat).toInt = n.toInt ∨ (T k.toInt.toNat).toInt = n.toInt) (w : zsi c p t k y = some c') (hy : y.toInt = 0) (hx : x'.toInt = x.toInt + 1) (hk : k'.toInt = k.toInt + 1) : StM c' m L F T n x' k' := StF_hit h (vaf_r e r).2 (by rw [← (vaf_r e r).1]; exact hv) hn (vaf_w e w).1 hy hx hk
theorem StG_c (h : StG c m L F T n x k) (hk : k'.toInt = k.toInt) : StG c m L F T n x k' := by
  have : k' = k := Int32.toInt_inj.mp hk
  rw [this]; exact h
theorem StM_c (h : StM c m L F T n x k) (hk : k'.toInt = k.toInt) : StM c m L F T n x k' := by
  have : k' = k := Int32.toInt_inj.mp hk
  rw [this]; exact h
end
def Za1 (G : List Nat) (c : Zc) (g : Nat) (ac : Int32) : Prop := ∃ c2 : Int32, zgi c g 0 8 = some c2 ∧ c2.toInt = ac.toInt - 1
def Zac7 (G : List Nat) (c : Zc) (m : Nat) (na : Int32) : Prop := zgi c m 12 8 = some na ∧ 0 ≤ na.toInt ∧ na.toInt ≤ 100 ∧ AcN c m na
def Zlb (G : List Nat) (c : Zc) (m : Nat) (k : Int32) : Prop := LbG c m k
def Zlf (G : List Nat) (c : Zc) (m : Nat) (k : Int32) : Prop := ∃ kl : Nat, ∃ v0 : Int32, zgr c m 0 4 = some kl ∧ zai c kl 0 k = some v0 ∧ G[kl]? = some 19 ∧ v0.toInt = -1 ∧ LbG c m k
def Zlm (G : List Nat) (c : Zc) (m : Nat) (k : Int32) : Prop := LbM c m k
def Zlg (G : List Nat) (c : Zc) (m : Nat) (k : Int32) : Prop := ∃ kt : Nat, ∃ v0 : Int32, zgr c m 12 3 = some kt ∧ zai c kt 6 k = some v0 ∧ G[kt]? = some 67 ∧ v0.toInt = 0 ∧ LbM c m k
def Zsg (G : List Nat) (c : Zc) (m : Nat) (L : Nat → Int32) (F : Nat → Int32) (T : Nat → Int32) (n : Int32) (ac : Int32) (x : Int32) (k : Int32) : Prop := ∃ na : Int32, zgi c m 0 8 = some na ∧ na.toInt + x.toInt = ac.toInt ∧ StG c m L F T n x k
def Zsq (G : List Nat) (c : Zc) (m : Nat) (L : Nat → Int32) (F : Nat → Int32) (T : Nat → Int32) (n : Int32) (ac : Int32) (x : Int32) (k : Int32) : Prop := ∃ na : Int32, zgi c m 12 8 = some na ∧ na.toInt + x.toInt = ac.toInt ∧ 0 ≤ na.toInt ∧ na.toInt ≤ 100 ∧ StM c m L F T n x k ∧ AcN c m na
abbrev M_Graph_isArc__g : List (Nat × Nat) := []
set_option maxRecDepth 100000 in
set_option maxHeartbeats 400000 in
theorem p_Graph_isArc__g {nf : Nat} (hn : 8589934592 ≤ nf) {G : List Nat} {c : Zc} (W : Zwt zty G c) {a0 : Nat} {a1 : Int32}  (t_a0 : G[a0]? = some 1) : ∃ q, f_Graph_isArc nf a0 a1 c = some q ∧ Zwt zty G q.2 ∧ Zfr G M_Graph_isArc__g c q.2 ∧ ((q.1.toInt = 0 ∧ ¬ (0 ≤ a1.toInt ∧ a1.toInt < 100 ∧ ¬ (gaf c a0 4 a1.toInt.toNat).toInt = -1)) ∨ (q.1.toInt = 1 ∧ (0 ≤ a1.toInt ∧ a1.toInt < 100 ∧ ¬ (gaf c a0 4 a1.toInt.toNat).toInt = -1))) ∧ 0 ≤ q.1.toInt ∧ q.1.toInt ≤ 1 := by
  have F0 : Zfr G M_Graph_isArc__g c c := Zfr.rf
  unfold f_Graph_isArc
  refine wi (fun hq1 => ?_) (fun hq1 => ?_)
  · have := li_0
    have := i_ge a1
    have := i_up a1
    have hq1 := i_lt hq1
    unfold f_Graph_isArc_24
    unfold f_Graph_isArc_25
    exact wz (rgi (by omega) (by omega)) ⟨W, F0, by (try dsimp only); omega, by (try dsimp only); omega, by (try dsimp only); omega⟩
  · have := li_0
    have := i_ge a1
    have := i_up a1
    have hq1 := i_nlt hq1
    refine wi (fun hq2 => ?_) (fun hq2 => ?_)
    · have := li_100
      have hq2 := i_le hq2
      unfold f_Graph_isArc_24
      unfold f_Graph_isArc_25
      exact wz (rgi (by omega) (by omega)) ⟨W, F0, by (try dsimp only); omega, by (try dsimp only); omega, by (try dsimp only); omega⟩
    · have := li_100
      have hq2 := i_nle hq2
      obtain ⟨v3, ev3, tv3⟩ := gf_1_4 W t_a0
      refine wb ev3 ?_
      obtain ⟨v4, ev4, lv4, uv4⟩ := ga_19 W tv3 (i := a1) (by omega) (by omega)
      refine wb ev4 ?_
      have hv : v4.toInt = (gaf c a0 4 a1.toInt.toNat).toInt := by rw [(gaf_r ev3 ev4).1]
      refine wi (fun hq3 => ?_) (fun hq3 => ?_)
      · have := li_m1
        have hq3 := i_eq hq3
        unfold f_Graph_isArc_24
        unfold f_Graph_isArc_25
        exact wz (rgi (by omega) (by omega)) ⟨W, F0, by (try dsimp only); omega, by (try dsimp only); omega, by (try dsimp only); omega⟩
      · have := li_m1
        have hq3 := i_ne hq3
        unfold f_Graph_isArc_25
        have := li_1
        exact wz (rgi (by omega) (by omega)) ⟨W, F0, by (try dsimp only); omega, by (try dsimp only); omega, by (try dsimp only); omega⟩

abbrev M_Graph_removeArc__g : List (Nat × Nat) := [(1, 8), (1, 9), (19, 0)]
set_option maxRecDepth 100000 in
set_option maxHeartbeats 2000000 in
theorem p_Graph_removeArc__g {nf : Nat} (hn : 8589934592 ≤ nf) {G : List Nat} {c : Zc} (W : Zwt zty G c) {a0 : Nat} {a1 : Int32} {ac : Int32} (t_a0 : G[a0]? = some 1) (pl_a1 : 0 ≤ a1.toInt) (pu_a1 : a1.toInt ≤ 99) (pl_ac : (-100) ≤ ac.toInt) (pu_ac : ac.toInt ≤ 200) (eh_ac : zgi c a0 0 8 = some ac) : ∃ q, f_Graph_removeArc nf a0 a1 c = some q ∧ Zwt zty G q ∧ Zfr G M_Graph_removeArc__g c q ∧ gaf q a0 4 = upd (gaf c a0 4) a1.toInt.toNat (-1) ∧ Za1 G q a0 ac := by
  have F0 : Zfr G M_Graph_removeArc__g c c := Zfr.rf
  unfold f_Graph_removeArc
  have vaGL : gaf c a0 4 = gaf c a0 4 := rfl
  obtain ⟨v1, ev1, tv1⟩ := gf_1_4 W t_a0
  refine wb ev1 ?_
  have := li_m1
  obtain ⟨c2, ec2, Wc2, fc2, gc2⟩ := pa_19 W tv1 (i := a1) (by omega) (by omega) (x := (-1)) (rgi (by omega) (by omega))
  refine wb ec2 ?_
  have e1 := (Zfr.gi fc2 t_a0 (by decide)).trans eh_ac
  have e2 := (Zfr.gr fc2 t_a0 (by decide)).trans ev1
  have va3 := (((gaf_w ev1 ec2).1).trans (congrArg (fun f_ => upd f_ a1.toInt.toNat (-1)) vaGL))
  have F4 := Zfr.tr F0 fc2 (by decide)
  refine wb e1 ?_
  obtain ⟨c4, ec4, Wc4, fc4, gc4⟩ := pf_1_8 Wc2 t_a0 (x := (ac - 1)) (trivial)
  refine wb ec4 ?_
  have e5 := (Zfr.gr fc4 t_a0 (by decide)).trans e2
  have e6 := (Zfr.ai fc4 tv1 (by decide)).trans gc2
  have va7 := (gaf_fr fc4 t_a0 (gf_1_4 Wc2 t_a0) (by decide) (by decide)).trans va3
  have F8 := Zfr.tr F4 fc4 (by decide)
  obtain ⟨v5, ev5, _⟩ := gf_1_9 Wc4 t_a0
  refine wb ev5 ?_
  obtain ⟨c6, ec6, Wc6, fc6, gc6⟩ := pf_1_9 Wc4 t_a0 (x := (v5 + 1)) (trivial)
  refine wb ec6 ?_
  have e9 := (Zfr.gr fc6 t_a0 (by decide)).trans e5
  have e10 := (Zfr.ai fc6 tv1 (by decide)).trans e6
  have e11 := (Zfr.gi fc6 t_a0 (by decide)).trans gc4
  have va12 := (gaf_fr fc6 t_a0 (gf_1_4 Wc4 t_a0) (by decide) (by decide)).trans va7
  have F13 := Zfr.tr F8 fc6 (by decide)
  have := li_1
  have := i_sub (a := ac) (b := 1) (by omega) (by omega)
  exact ⟨_, rfl, Wc6, F13, va12, ⟨(ac - 1), e11, by (try dsimp only); omega⟩⟩

abbrev M_PQ_drop__g : List (Nat × Nat) := [(1, 8), (1, 9), (19, 0)]
set_option maxRecDepth 100000 in
set_option maxHeartbeats 2000000 in
theorem p_PQ_drop__g {nf : Nat} (hn : 8589934592 ≤ nf) {G : List Nat} {c : Zc} (W : Zwt zty G c) {a0 : Nat} {a1 : Int32} {gp : Nat} {ac : Int32} (t_a0 : G[a0]? = some 14) (pl_ac : 0 ≤ ac.toInt) (pu_ac : ac.toInt ≤ 100) (eh_gp : zgr c a0 11 1 = some gp) (eh_ac : zgi c gp 0 8 = some ac) : ∃ q, f_PQ_drop nf a0 a1 c = some q ∧ Zwt zty G q.2 ∧ Zfr G M_PQ_drop__g c q.2 ∧ ((¬ (0 ≤ a1.toInt ∧ a1.toInt < 100 ∧ ¬ (gaf c gp 4 a1.toInt.toNat).toInt = -1) ∧ q.1.toInt = -1 ∧ gaf q.2 gp 4 = gaf c gp 4 ∧ gfi q.2 gp 8 = ac.toInt) ∨ ((0 ≤ a1.toInt ∧ a1.toInt < 100 ∧ ¬ (gaf c gp 4 a1.toInt.toNat).toInt = -1) ∧ q.1.toInt = ac.toInt - 1 ∧ gaf q.2 gp 4 = upd (gaf c gp 4) a1.toInt.toNat (-1) ∧ gfi q.2 gp 8 = ac.toInt - 1)) := by
  have F0 : Zfr G M_PQ_drop__g c c := Zfr.rf
  unfold f_PQ_drop
  obtain ⟨xq, xe, tqw_1⟩ := gf_14_1 W t_a0
  rw [eh_gp] at xe; cases xe
  have vaGL : gaf c gp 4 = gaf c gp 4 := rfl
  refine wb eh_gp ?_
  obtain ⟨w3, ew3⟩ := go_1 W tqw_1
  refine wb ew3 ?_
  obtain ⟨q2, eq2, Wq2, fq2, po0q2, pl1q2, pu1q2⟩ := p_Graph_isArc__g hn W (a1 := a1) tqw_1
  refine wb eq2 ?_
  have e2 := (Zfr.gr fq2 t_a0 (by decide)).trans eh_gp
  have e3 := (Zfr.gi fq2 tqw_1 (by decide)).trans eh_ac
  have va4 := (gaf_fr fq2 tqw_1 (gf_1_4 W tqw_1) (by decide) (by decide)).trans vaGL
  have F5 := Zfr.tr F0 fq2 (by decide)
  refine wi (fun hq6 => ?_) (fun hq6 => ?_)
  · have := li_0
    have hq6 := i_eq hq6
    have := li_m1
    exact ⟨_, rfl, Wq2, F5, .inl ⟨by omega, by (try dsimp only); omega, va4, by rw [gfi_e e3]; try omega⟩⟩
  · have := li_0
    have hq6 := i_ne hq6
    refine wb e2 ?_
    obtain ⟨w7, ew7⟩ := go_1 Wq2 tqw_1
    refine wb ew7 ?_
    obtain ⟨q6, eq6, Wq6, fq6, po0q6, pbZa1q6⟩ := p_Graph_removeArc__g hn Wq2 (a1 := a1) tqw_1 (by omega) (by omega) (by omega) (by omega) e3
    refine wb eq6 ?_
    have e8 := (Zfr.gr fq6 t_a0 (by decide)).trans e2
    have va9 := po0q6.trans (congrArg (fun f_ => (upd f_ a1.toInt.toNat (-1))) va4)
    have F10 := Zfr.tr F5 fq6 (by decide)
    obtain ⟨bc2q6, h0Za1q6, r0Za1q6⟩ := pbZa1q6
    refine wb e8 ?_
    refine wb h0Za1q6 ?_
    exact ⟨_, rfl, Wq6, F10, .inr ⟨by omega, by (try dsimp only); omega, va9, by rw [gfi_e h0Za1q6]; try omega⟩⟩

abbrev M_Mo_drop__g : List (Nat × Nat) := [(64, 8), (64, 10), (67, 0), (131, 0)]
set_option maxRecDepth 100000 in
set_option maxHeartbeats 2000000 in
theorem p_Mo_drop__g {nf : Nat} (hn : 8589934592 ≤ nf) {G : List Nat} {c : Zc} (W : Zwt zty G c) {a0 : Nat} {a1 : Int32} {ac : Int32} (t_a0 : G[a0]? = some 64) (pl_ac : 0 ≤ ac.toInt) (pu_ac : ac.toInt ≤ 100) (eh_ac : zgi c a0 12 8 = some ac) (hb_Zac7 : Zac7 G c a0 ac) : ∃ q, f_Mo_drop nf a0 a1 c = some q ∧ Zwt zty G q.2 ∧ Zfr G M_Mo_drop__g c q.2 ∧ ((¬ (0 ≤ a1.toInt ∧ a1.toInt < 100 ∧ ¬ (vaf c a0 3 a1.toInt.toNat).toInt = 0) ∧ q.1.toInt = -1 ∧ vaf q.2 a0 3 = vaf c a0 3 ∧ vfi q.2 a0 8 = ac.toInt) ∨ ((0 ≤ a1.toInt ∧ a1.toInt < 100 ∧ ¬ (vaf c a0 3 a1.toInt.toNat).toInt = 0) ∧ q.1.toInt = ac.toInt - 1 ∧ vaf q.2 a0 3 = upd (vaf c a0 3) a1.toInt.toNat (vp_nar .boolean 0) ∧ vfi q.2 a0 8 = ac.toInt - 1)) ∧ Zac G q.2 a0 := by
  have F0 : Zfr G M_Mo_drop__g c c := Zfr.rf
  unfold f_Mo_drop
  obtain ⟨h0Zac70, r0Zac70, r1Zac70, k0Zac70⟩ := hb_Zac7
  have vaMT : vaf c a0 3 = vaf c a0 3 := rfl
  have := li_100
  obtain ⟨q1, eq1, Wq1, fq1, po0q1, po1q1, pl2q1, pu2q1⟩ := p_Mo_isIn hn W (a0 := a1) (a1 := 100) 
  refine wb eq1 ?_
  have e1 := (Zfr.gi fq1 t_a0 (by decide)).trans h0Zac70
  have k2 := AcN_fr k0Zac70 fq1 t_a0 W (by decide)
  have va3 := (vaf_fr fq1 t_a0 (gf_64_3 W t_a0) (by decide) (by decide)).trans vaMT
  have F4 := Zfr.tr F0 fq1 (by decide)
  refine wi (fun hq5 => ?_) (fun hq5 => ?_)
  · have := li_0
    have hq5 := i_eq hq5
    unfold f_Mo_drop_18
    have := li_m1
    exact ⟨_, rfl, Wq1, F4, .inl ⟨by omega, by (try dsimp only); omega, va3, by rw [vfi_e e1]; try omega⟩, ⟨ac, e1, by (try dsimp only); omega, by (try dsimp only); omega, k2⟩⟩
  · have := li_0
    have hq5 := i_ne hq5
    obtain ⟨v3, ev3, tv3⟩ := gf_64_3 Wq1 t_a0
    refine wb ev3 ?_
    obtain ⟨v4, ev4, lv4, uv4⟩ := ga_67 Wq1 tv3 (i := a1) (by omega) (by omega)
    refine wb ev4 ?_
    have hv : v4.toInt = (vaf c a0 3 a1.toInt.toNat).toInt := by rw [(vaf_r ev3 ev4).1, va3]
    refine wi (fun hq7 => ?_) (fun hq7 => ?_)
    · have hq7 := i_eq hq7
      unfold f_Mo_drop_18
      have := li_m1
      exact ⟨_, rfl, Wq1, F4, .inl ⟨by omega, by (try dsimp only); omega, va3, by rw [vfi_e e1]; try omega⟩, ⟨ac, e1, by (try dsimp only); omega, by (try dsimp only); omega, k2⟩⟩
    · have hq7 := i_ne hq7
      refine wb ev3 ?_
      have := nb_0
      obtain ⟨c7, ec7, Wc7, fc7, gc7⟩ := pa_67 Wq1 tv3 (i := a1) (by omega) (by omega) (x := (vp_nar .boolean 0)) (rgi (by omega) (by omega))
      refine wb ec7 ?_
      have e9 := (Zfr.gi fc7 t_a0 (by decide)).trans e1
      have e10 := (Zfr.gr fc7 t_a0 (by decide)).trans ev3
      have := AcN_ps k2 ev3 ev4 (by omega) (by omega)
      have := li_1
      have := i_sub (a := ac) (b := 1) (by omega) (by omega)
      have k11 := AcN_dn (n' := (ac - 1)) k2 ev3 ev4 ec7 (by omega) (by omega) (by omega) (by omega)
      have va12 := (((vaf_w ev3 ec7).1).trans (congrArg (fun f_ => upd f_ a1.toInt.toNat (vp_nar .boolean 0)) va3))
      have F13 := Zfr.tr F4 fc7 (by decide)
      refine wb e9 ?_
      obtain ⟨c9, ec9, Wc9, fc9, gc9⟩ := pf_64_8 Wc7 t_a0 (x := (ac - 1)) (rgi (by omega) (by omega))
      refine wb ec9 ?_
      have e14 := (Zfr.gr fc9 t_a0 (by decide)).trans e10
      have e15 := (Zfr.ai fc9 tv3 (by decide)).trans gc7
      have k16 := AcN_fr k11 fc9 t_a0 Wc7 (by decide)
      have va17 := (vaf_fr fc9 t_a0 (gf_64_3 Wc7 t_a0) (by decide) (by decide)).trans va12
      have F18 := Zfr.tr F13 fc9 (by decide)
      obtain ⟨w11, ew11⟩ := go_64 Wc9 t_a0
      refine wb ew11 ?_
      obtain ⟨q10, eq10, Wq10, fq10⟩ := p_Mo_changed hn Wc9  t_a0
      refine wb eq10 ?_
      have e19 := (Zfr.gr fq10 t_a0 (by decide)).trans e14
      have e20 := (Zfr.ai fq10 tv3 (by decide)).trans e15
      have e21 := (Zfr.gi fq10 t_a0 (by decide)).trans gc9
      have k22 := AcN_fr k16 fq10 t_a0 Wc9 (by decide)
      have va23 := (vaf_fr fq10 t_a0 (gf_64_3 Wc9 t_a0) (by decide) (by decide)).trans va17
      have F24 := Zfr.tr F18 fq10 (by decide)
      refine wb e21 ?_
      exact ⟨_, rfl, Wq10, F24, .inr ⟨by omega, by (try dsimp only); omega, va23, by rw [vfi_e e21]; try omega⟩, ⟨(ac - 1), e21, by (try dsimp only); omega, by (try dsimp only); omega, k22⟩⟩

abbrev M_Graph_addArc__g : List (Nat × Nat) := [(1, 8), (1, 9), (17, 0), (18, 0), (19, 0), (20, 0)]
set_option maxRecDepth 100000 in
set_option maxHeartbeats 2000000 in
theorem p_Graph_addArc__g {nf : Nat} (hn : 8589934592 ≤ nf) {G : List Nat} {c : Zc} (W : Zwt zty G c) {a0 : Nat} {a1 : Int32} {a2 : Int32} {a3 : Int32} {a4 : Int32} {ac : Int32} (t_a0 : G[a0]? = some 1) (pl_a1 : 0 ≤ a1.toInt) (pu_a1 : a1.toInt ≤ 15) (pl_a2 : 0 ≤ a2.toInt) (pu_a2 : a2.toInt ≤ 15) (pl_a3 : 0 ≤ a3.toInt) (pu_a3 : a3.toInt ≤ 7) (pl_a4 : 0 ≤ a4.toInt) (pu_a4 : a4.toInt ≤ 99) (pl_ac : 0 ≤ ac.toInt) (pu_ac : ac.toInt ≤ 100) (eh_ac : zgi c a0 0 8 = some ac) : ∃ q, f_Graph_addArc nf a0 a1 a2 a3 a4 c = some q ∧ Zwt zty G q.2 ∧ Zfr G M_Graph_addArc__g c q.2 ∧ AdS (gaf c a0 4) (gaf q.2 a0 4) (gaf c a0 2) (gaf q.2 a0 2) (gaf c a0 3) (gaf q.2 a0 3) (-1) a1 a2 a3 q.1 ac.toInt (gfi q.2 a0 8) := by
  have F0 : Zfr G M_Graph_addArc__g c c := Zfr.rf
  unfold f_Graph_addArc
  have vaGL : gaf c a0 4 = gaf c a0 4 := rfl
  have vaGF : gaf c a0 2 = gaf c a0 2 := rfl
  have vaGT : gaf c a0 3 = gaf c a0 3 := rfl
  unfold f_Graph_addArc_3
  have := li_0
  have L1 : ∃ b, zlp (fun a : Nat × Int32 × Int32 × Int32 × Int32 × Int32 × Zc => g_Graph_addArc_3 nf a.1 a.2.1 a.2.2.1 a.2.2.2.1 a.2.2.2.2.1 a.2.2.2.2.2.1 a.2.2.2.2.2.2) nf (a0, a1, a2, a3, a4, 0, c) = some b ∧ (fun b : ((Nat × Int32 × Int32 × Int32 × Int32 × Int32 × Zc) ⊕ (Zc)) => (match b with | .inl b => a0 = b.1 ∧ a1 = b.2.1 ∧ a2 = b.2.2.1 ∧ a3 = b.2.2.2.1 ∧ a4 = b.2.2.2.2.1 ∧ Zwt zty G b.2.2.2.2.2.2 ∧ Zfr G ([] : List (Nat × Nat)) c b.2.2.2.2.2.2 ∧ 0 ≤ b.2.2.2.2.2.1.toInt ∧ b.2.2.2.2.2.1.toInt ≤ 99 ∧ Zlf G b.2.2.2.2.2.2 a0 b.2.2.2.2.2.1 | .inr b => Zwt zty G b ∧ Zfr G ([] : List (Nat × Nat)) c b ∧ Zlb G b a0 100)) b := by
    refine wlp (fun a : Nat × Int32 × Int32 × Int32 × Int32 × Int32 × Zc => a0 = a.1 ∧ a1 = a.2.1 ∧ a2 = a.2.2.1 ∧ a3 = a.2.2.2.1 ∧ a4 = a.2.2.2.2.1 ∧ Zwt zty G a.2.2.2.2.2.2 ∧ Zfr G ([] : List (Nat × Nat)) c a.2.2.2.2.2.2 ∧ 0 ≤ a.2.2.2.2.2.1.toInt ∧ a.2.2.2.2.2.1.toInt ≤ 100 ∧ Zlb G a.2.2.2.2.2.2 a0 a.2.2.2.2.2.1) (fun a => (100 - a.2.2.2.2.2.1.toInt).toNat) (fun b : ((Nat × Int32 × Int32 × Int32 × Int32 × Int32 × Zc) ⊕ (Zc)) => (match b with | .inl b => a0 = b.1 ∧ a1 = b.2.1 ∧ a2 = b.2.2.1 ∧ a3 = b.2.2.2.1 ∧ a4 = b.2.2.2.2.1 ∧ Zwt zty G b.2.2.2.2.2.2 ∧ Zfr G ([] : List (Nat × Nat)) c b.2.2.2.2.2.2 ∧ 0 ≤ b.2.2.2.2.2.1.toInt ∧ b.2.2.2.2.2.1.toInt ≤ 99 ∧ Zlf G b.2.2.2.2.2.2 a0 b.2.2.2.2.2.1 | .inr b => Zwt zty G b ∧ Zfr G ([] : List (Nat × Nat)) c b ∧ Zlb G b a0 100)) ?_ ?_ ?_
    · rintro ⟨x0_2, x1_2, x2_2, x3_2, x4_2, x5_2, c_2⟩ hI
      try dsimp only at hI ⊢
      obtain ⟨rfl, rfl, rfl, rfl, rfl, WLc_2, FLc_2, j3, j4, hBZlb_2⟩ := hI
      have e5 := (Zfr.gi FLc_2 t_a0 (by decide)).trans eh_ac
      have va6 := (gaf_fr FLc_2 t_a0 (gf_1_4 W t_a0) (by decide) (by decide)).trans vaGL
      have va7 := (gaf_fr FLc_2 t_a0 (gf_1_2 W t_a0) (by decide) (by decide)).trans vaGF
      have va8 := (gaf_fr FLc_2 t_a0 (gf_1_3 W t_a0) (by decide) (by decide)).trans vaGT
      have k0Zlb_2 := hBZlb_2
      unfold g_Graph_addArc_3
      refine wi (fun hq9 => ?_) (fun hq9 => ?_)
      · have := li_100
        have hq9 := i_le hq9
        exact lInr ⟨WLc_2, FLc_2, LbG_m k0Zlb_2 (by omega)⟩
      · have := li_100
        have hq9 := i_nle hq9
        obtain ⟨v2, ev2, tv2⟩ := gf_1_4 WLc_2 t_a0
        refine wb ev2 ?_
        obtain ⟨v3, ev3, lv3, uv3⟩ := ga_19 WLc_2 tv2 (i := x5_2) (by omega) (by omega)
        refine wb ev3 ?_
        refine wi (fun hq10 => ?_) (fun hq10 => ?_)
        · have := li_m1
          have hq10 := i_eq hq10
          exact lInr ⟨rfl, rfl, rfl, rfl, rfl, WLc_2, FLc_2, by (try dsimp only); omega, by (try dsimp only); omega, ⟨v2, v3, ev2, ev3, tv2, by (try dsimp only); omega, k0Zlb_2⟩⟩
        · have := li_m1
          have hq10 := i_ne hq10
          have := li_1
          have := i_add (a := x5_2) (b := 1) (by omega) (by omega)
          exact lInl ⟨rfl, rfl, rfl, rfl, rfl, WLc_2, FLc_2, by (try dsimp only); omega, by (try dsimp only); omega, LbG_up k0Zlb_2 ev2 ev3 (by omega) (by (try dsimp only); omega)⟩ (by (try dsimp only); omega)
    · exact ⟨rfl, rfl, rfl, rfl, rfl, W, Zfr.rf, by (try dsimp only); omega, by (try dsimp only); omega, LbG_0 (by omega)⟩
    · (try dsimp only); omega
  obtain ⟨b, eb, hb⟩ := L1
  refine wb eb ?_
  clear eb
  rcases b with b | b
  · obtain ⟨z0_13, z1_13, z2_13, z3_13, z4_13, z5_13, c_13⟩ := b
    try dsimp only at hb ⊢
    obtain ⟨rfl, rfl, rfl, rfl, rfl, WXc_13, FXc_13, j14, j15, hXZlfc_13⟩ := hb
    have e16 := (Zfr.gi FXc_13 t_a0 (by decide)).trans eh_ac
    have va17 := (gaf_fr FXc_13 t_a0 (gf_1_4 W t_a0) (by decide) (by decide)).trans vaGL
    have va18 := (gaf_fr FXc_13 t_a0 (gf_1_2 W t_a0) (by decide) (by decide)).trans vaGF
    have va19 := (gaf_fr FXc_13 t_a0 (gf_1_3 W t_a0) (by decide) (by decide)).trans vaGT
    have F20 := Zfr.tr F0 FXc_13 (by decide)
    obtain ⟨bklxc_13, bv0xc_13, h0Zlfxc_13, h1Zlfxc_13, tklxc_13, r0Zlfxc_13, k0Zlfxc_13⟩ := hXZlfc_13
    have hL1 := va17
    have hL0 : ∀ i : Nat, (i : Int) < z5_13.toInt → (gaf c a0 4 i).toInt ≠ -1 := by rw [← hL1]; exact k0Zlfxc_13
    have hLk : (gaf c a0 4 z5_13.toInt.toNat).toInt = -1 := by rw [← hL1, ← (gaf_r h0Zlfxc_13 h1Zlfxc_13).1]; omega
    obtain ⟨v5, ev5, tv5⟩ := gf_1_2 WXc_13 t_a0
    refine wb ev5 ?_
    obtain ⟨c6, ec6, Wc6, fc6, gc6⟩ := pa_17 WXc_13 tv5 (i := z5_13) (by omega) (by omega) (x := a1) (rgi (by omega) (by omega))
    refine wb ec6 ?_
    have e21 := (Zfr.gi fc6 t_a0 (by decide)).trans e16
    have e22 := (Zfr.gr fc6 t_a0 (by decide)).trans h0Zlfxc_13
    have e23 := (Zfr.ai fc6 tklxc_13 (by decide)).trans h1Zlfxc_13
    have va24 := (gaf_fr fc6 t_a0 (gf_1_4 WXc_13 t_a0) (by decide) (by decide)).trans va17
    have va25 := (((gaf_w ev5 ec6).1).trans (congrArg (fun f_ => upd f_ z5_13.toInt.toNat a1) va18))
    have va26 := (gaf_fr fc6 t_a0 (gf_1_3 WXc_13 t_a0) (by decide) (by decide)).trans va19
    have lb27 := LbG_fr k0Zlfxc_13 fc6 t_a0 WXc_13 (by decide)
    have F28 := Zfr.tr F20 fc6 (by decide)
    obtain ⟨v7, ev7, tv7⟩ := gf_1_3 Wc6 t_a0
    refine wb ev7 ?_
    obtain ⟨c8, ec8, Wc8, fc8, gc8⟩ := pa_18 Wc6 tv7 (i := z5_13) (by omega) (by omega) (x := a2) (rgi (by omega) (by omega))
    refine wb ec8 ?_
    have e29 := (Zfr.gi fc8 t_a0 (by decide)).trans e21
    have e30 := (Zfr.gr fc8 t_a0 (by decide)).trans e22
    have e31 := (Zfr.ai fc8 tklxc_13 (by decide)).trans e23
    have e32 := (Zfr.ai fc8 tv5 (by decide)).trans gc6
    have va33 := (gaf_fr fc8 t_a0 (gf_1_4 Wc6 t_a0) (by decide) (by decide)).trans va24
    have va34 := (gaf_fr fc8 t_a0 (gf_1_2 Wc6 t_a0) (by decide) (by decide)).trans va25
    have va35 := (((gaf_w ev7 ec8).1).trans (congrArg (fun f_ => upd f_ z5_13.toInt.toNat a2) va26))
    have lb36 := LbG_fr lb27 fc8 t_a0 Wc6 (by decide)
    have F37 := Zfr.tr F28 fc8 (by decide)
    refine wb e30 ?_
    obtain ⟨c10, ec10, Wc10, fc10, gc10⟩ := pa_19 Wc8 tklxc_13 (i := z5_13) (by omega) (by omega) (x := a3) (rgi (by omega) (by omega))
    refine wb ec10 ?_
    have e38 := (Zfr.gi fc10 t_a0 (by decide)).trans e29
    have e39 := (Zfr.gr fc10 t_a0 (by decide)).trans e30
    have e40 := (Zfr.ai fc10 tv5 (by decide)).trans e32
    have e41 := (Zfr.ai fc10 tv7 (by decide)).trans gc8
    have va42 := (((gaf_w e30 ec10).1).trans (congrArg (fun f_ => upd f_ z5_13.toInt.toNat a3) va33))
    have va43 := (gaf_fr fc10 t_a0 (gf_1_2 Wc8 t_a0) (by decide) (by decide)).trans va34
    have va44 := (gaf_fr fc10 t_a0 (gf_1_3 Wc8 t_a0) (by decide) (by decide)).trans va35
    have F45 := Zfr.tr F37 fc10 (by decide)
    obtain ⟨v11, ev11, tv11⟩ := gf_1_5 Wc10 t_a0
    refine wb ev11 ?_
    obtain ⟨c12, ec12, Wc12, fc12, gc12⟩ := pa_20 Wc10 tv11 (i := z5_13) (by omega) (by omega) (x := a4) (rgi (by omega) (by omega))
    refine wb ec12 ?_
    have e46 := (Zfr.gi fc12 t_a0 (by decide)).trans e38
    have e47 := (Zfr.gr fc12 t_a0 (by decide)).trans e39
    have e48 := (Zfr.ai fc12 tv5 (by decide)).trans e40
    have e49 := (Zfr.ai fc12 tv7 (by decide)).trans e41
    have e50 := (Zfr.ai fc12 tklxc_13 (by decide)).trans gc10
    have va51 := (gaf_fr fc12 t_a0 (gf_1_4 Wc10 t_a0) (by decide) (by decide)).trans va42
    have va52 := (gaf_fr fc12 t_a0 (gf_1_2 Wc10 t_a0) (by decide) (by decide)).trans va43
    have va53 := (gaf_fr fc12 t_a0 (gf_1_3 Wc10 t_a0) (by decide) (by decide)).trans va44
    have F54 := Zfr.tr F45 fc12 (by decide)
    refine wb e46 ?_
    obtain ⟨c14, ec14, Wc14, fc14, gc14⟩ := pf_1_8 Wc12 t_a0 (x := (ac + 1)) (trivial)
    refine wb ec14 ?_
    have e55 := (Zfr.gr fc14 t_a0 (by decide)).trans e47
    have e56 := (Zfr.ai fc14 tv5 (by decide)).trans e48
    have e57 := (Zfr.ai fc14 tv7 (by decide)).trans e49
    have e58 := (Zfr.ai fc14 tklxc_13 (by decide)).trans e50
    have e59 := (Zfr.ai fc14 tv11 (by decide)).trans gc12
    have va60 := (gaf_fr fc14 t_a0 (gf_1_4 Wc12 t_a0) (by decide) (by decide)).trans va51
    have va61 := (gaf_fr fc14 t_a0 (gf_1_2 Wc12 t_a0) (by decide) (by decide)).trans va52
    have va62 := (gaf_fr fc14 t_a0 (gf_1_3 Wc12 t_a0) (by decide) (by decide)).trans va53
    have F63 := Zfr.tr F54 fc14 (by decide)
    obtain ⟨v15, ev15, _⟩ := gf_1_9 Wc14 t_a0
    refine wb ev15 ?_
    obtain ⟨c16, ec16, Wc16, fc16, gc16⟩ := pf_1_9 Wc14 t_a0 (x := (v15 + 1)) (trivial)
    refine wb ec16 ?_
    have e64 := (Zfr.gr fc16 t_a0 (by decide)).trans e55
    have e65 := (Zfr.ai fc16 tv5 (by decide)).trans e56
    have e66 := (Zfr.ai fc16 tv7 (by decide)).trans e57
    have e67 := (Zfr.ai fc16 tklxc_13 (by decide)).trans e58
    have e68 := (Zfr.ai fc16 tv11 (by decide)).trans e59
    have e69 := (Zfr.gi fc16 t_a0 (by decide)).trans gc14
    have va70 := (gaf_fr fc16 t_a0 (gf_1_4 Wc14 t_a0) (by decide) (by decide)).trans va60
    have va71 := (gaf_fr fc16 t_a0 (gf_1_2 Wc14 t_a0) (by decide) (by decide)).trans va61
    have va72 := (gaf_fr fc16 t_a0 (gf_1_3 Wc14 t_a0) (by decide) (by decide)).trans va62
    have F73 := Zfr.tr F63 fc16 (by decide)
    have := li_1
    have := i_add (a := ac) (b := 1) (by omega) (by omega)
    exact ⟨_, rfl, Wc16, F73, .inr ⟨z5_13.toInt.toNat, by omega, hLk, (fun i hi => hL0 i (by omega)), by (try dsimp only); omega, va70, va71, va72, by rw [gfi_e e69]; omega⟩⟩
  · obtain c_75 := b
    try dsimp only at hb ⊢
    obtain ⟨WXc_75, FXc_75, hXZlbc_75⟩ := hb
    have e76 := (Zfr.gi FXc_75 t_a0 (by decide)).trans eh_ac
    have va77 := (gaf_fr FXc_75 t_a0 (gf_1_4 W t_a0) (by decide) (by decide)).trans vaGL
    have va78 := (gaf_fr FXc_75 t_a0 (gf_1_2 W t_a0) (by decide) (by decide)).trans vaGF
    have va79 := (gaf_fr FXc_75 t_a0 (gf_1_3 W t_a0) (by decide) (by decide)).trans vaGT
    have F80 := Zfr.tr F0 FXc_75 (by decide)
    have := li_100
    have k0Zlbxc_75 := hXZlbc_75
    have hL1 := va77
    have := li_100
    have hL0 : ∀ i : Nat, i < 100 → (gaf c a0 4 i).toInt ≠ -1 := fun i hi => by rw [← hL1]; exact k0Zlbxc_75 i (by omega)
    have := li_m3
    exact ⟨_, rfl, WXc_75, F80, .inl ⟨hL0, by (try dsimp only); omega, va77, va78, va79, by rw [gfi_e e76]⟩⟩

abbrev M_PQ_arc__g : List (Nat × Nat) := [(1, 8), (1, 9), (17, 0), (18, 0), (19, 0), (20, 0)]
set_option maxRecDepth 100000 in
set_option maxHeartbeats 2000000 in
theorem p_PQ_arc__g {nf : Nat} (hn : 8589934592 ≤ nf) {G : List Nat} {c : Zc} (W : Zwt zty G c) {a0 : Nat} {a1 : Int32} {a2 : Int32} {a3 : Int32} {a4 : Int32} {gp : Nat} {nd : Int32} {ac : Int32} (t_a0 : G[a0]? = some 14) (pl_nd : 0 ≤ nd.toInt) (pu_nd : nd.toInt ≤ 16) (pl_ac : 0 ≤ ac.toInt) (pu_ac : ac.toInt ≤ 100) (eh_gp : zgr c a0 11 1 = some gp) (eh_nd : zgi c gp 0 7 = some nd) (eh_ac : zgi c gp 0 8 = some ac) : ∃ q, f_PQ_arc nf a0 a1 a2 a3 a4 c = some q ∧ Zwt zty G q.2 ∧ Zfr G M_PQ_arc__g c q.2 ∧ ((¬ (0 ≤ a1.toInt ∧ a1.toInt < nd.toInt ∧ 0 ≤ a2.toInt ∧ a2.toInt < nd.toInt ∧ 0 ≤ a3.toInt ∧ a3.toInt < 8 ∧ 0 ≤ a4.toInt ∧ a4.toInt < 100) ∧ q.1.toInt = -1 ∧ gaf q.2 gp 4 = gaf c gp 4 ∧ gaf q.2 gp 2 = gaf c gp 2 ∧ gaf q.2 gp 3 = gaf c gp 3 ∧ gfi q.2 gp 8 = ac.toInt) ∨ ((0 ≤ a1.toInt ∧ a1.toInt < nd.toInt ∧ 0 ≤ a2.toInt ∧ a2.toInt < nd.toInt ∧ 0 ≤ a3.toInt ∧ a3.toInt < 8 ∧ 0 ≤ a4.toInt ∧ a4.toInt < 100) ∧ AdS (gaf c gp 4) (gaf q.2 gp 4) (gaf c gp 2) (gaf q.2 gp 2) (gaf c gp 3) (gaf q.2 gp 3) (-1) a1 a2 a3 q.1 ac.toInt (gfi q.2 gp 8))) := by
  have F0 : Zfr G M_PQ_arc__g c c := Zfr.rf
  unfold f_PQ_arc
  obtain ⟨xq, xe, tqw_1⟩ := gf_14_1 W t_a0
  rw [eh_gp] at xe; cases xe
  have vaGL : gaf c gp 4 = gaf c gp 4 := rfl
  have vaGF : gaf c gp 2 = gaf c gp 2 := rfl
  have vaGT : gaf c gp 3 = gaf c gp 3 := rfl
  refine wb eh_gp ?_
  obtain ⟨w3, ew3⟩ := go_1 W tqw_1
  refine wb ew3 ?_
  obtain ⟨q2, eq2, Wq2, fq2, po0q2, po1q2, pl2q2, pu2q2⟩ := p_Graph_isNode__g hn W (a1 := a1) tqw_1 (by omega) (by omega) eh_nd
  refine wb eq2 ?_
  have e3 := (Zfr.gr fq2 t_a0 (by decide)).trans eh_gp
  have e4 := (Zfr.gi fq2 tqw_1 (by decide)).trans eh_nd
  have e5 := (Zfr.gi fq2 tqw_1 (by decide)).trans eh_ac
  have va6 := (gaf_fr fq2 tqw_1 (gf_1_4 W tqw_1) (by decide) (by decide)).trans vaGL
  have va7 := (gaf_fr fq2 tqw_1 (gf_1_2 W tqw_1) (by decide) (by decide)).trans vaGF
  have va8 := (gaf_fr fq2 tqw_1 (gf_1_3 W tqw_1) (by decide) (by decide)).trans vaGT
  have F9 := Zfr.tr F0 fq2 (by decide)
  refine wi (fun hq10 => ?_) (fun hq10 => ?_)
  · have := li_0
    have hq10 := i_eq hq10
    unfold f_PQ_arc_36
    unfold f_PQ_arc_37
    refine wi (fun hq11 => ?_) (fun hq11 => ?_)
    · have hq11 := i_eq hq11
      unfold f_PQ_arc_56
      have := li_m1
      exact ⟨_, rfl, Wq2, F9, .inl ⟨by omega, by (try dsimp only); omega, va6, va7, va8, by rw [gfi_e e5]⟩⟩
    · have hq11 := i_ne hq11
      refine wi (fun hq13 => ?_) (fun hq13 => ?_)
      · have := i_ge a4
        have := i_up a4
        have hq13 := i_lt hq13
        unfold f_PQ_arc_56
        have := li_m1
        exact ⟨_, rfl, Wq2, F9, .inl ⟨by omega, by (try dsimp only); omega, va6, va7, va8, by rw [gfi_e e5]⟩⟩
      · have := i_ge a4
        have := i_up a4
        have hq13 := i_nlt hq13
        refine wi (fun hq15 => ?_) (fun hq15 => ?_)
        · have := li_99
          have hq15 := i_le hq15
          refine wb e3 ?_
          obtain ⟨w10, ew10⟩ := go_1 Wq2 tqw_1
          refine wb ew10 ?_
          have vL := va6
          have vF := va7
          have vT := va8
          obtain ⟨q9, eq9, Wq9, fq9, po0q9⟩ := p_Graph_addArc__g hn Wq2 (a1 := a1) (a2 := a2) (a3 := a3) (a4 := a4) tqw_1 (by omega) (by omega) (by omega) (by omega) (by omega) (by omega) (by omega) (by omega) (by omega) (by omega) e5
          refine wb eq9 ?_
          have e17 := (Zfr.gr fq9 t_a0 (by decide)).trans e3
          have e18 := (Zfr.gi fq9 tqw_1 (by decide)).trans e4
          have F22 := Zfr.tr F9 fq9 (by decide)
          obtain ⟨w_23, ew_23, _⟩ := gf_1_8 Wq9 tqw_1
          exact ⟨_, rfl, Wq9, F22, .inr ⟨by omega, (by rw [← vL, ← vF, ← vT]; exact po0q9)⟩⟩
        · have := li_99
          have hq15 := i_nle hq15
          unfold f_PQ_arc_56
          have := li_m1
          exact ⟨_, rfl, Wq2, F9, .inl ⟨by omega, by (try dsimp only); omega, va6, va7, va8, by rw [gfi_e e5]⟩⟩
  · have := li_0
    have hq10 := i_ne hq10
    refine wb e3 ?_
    obtain ⟨w13, ew13⟩ := go_1 Wq2 tqw_1
    refine wb ew13 ?_
    obtain ⟨q12, eq12, Wq12, fq12, po0q12, po1q12, pl2q12, pu2q12⟩ := p_Graph_isNode__g hn Wq2 (a1 := a2) tqw_1 (by omega) (by omega) e4
    refine wb eq12 ?_
    have e26 := (Zfr.gr fq12 t_a0 (by decide)).trans e3
    have e27 := (Zfr.gi fq12 tqw_1 (by decide)).trans e4
    have e28 := (Zfr.gi fq12 tqw_1 (by decide)).trans e5
    have va29 := (gaf_fr fq12 tqw_1 (gf_1_4 Wq2 tqw_1) (by decide) (by decide)).trans va6
    have va30 := (gaf_fr fq12 tqw_1 (gf_1_2 Wq2 tqw_1) (by decide) (by decide)).trans va7
    have va31 := (gaf_fr fq12 tqw_1 (gf_1_3 Wq2 tqw_1) (by decide) (by decide)).trans va8
    have F32 := Zfr.tr F9 fq12 (by decide)
    refine wi (fun hq33 => ?_) (fun hq33 => ?_)
    · have hq33 := i_eq hq33
      unfold f_PQ_arc_36
      unfold f_PQ_arc_37
      refine wi (fun hq34 => ?_) (fun hq34 => ?_)
      · have hq34 := i_eq hq34
        unfold f_PQ_arc_56
        have := li_m1
        exact ⟨_, rfl, Wq12, F32, .inl ⟨by omega, by (try dsimp only); omega, va29, va30, va31, by rw [gfi_e e28]⟩⟩
      · have hq34 := i_ne hq34
        refine wi (fun hq36 => ?_) (fun hq36 => ?_)
        · have := i_ge a4
          have := i_up a4
          have hq36 := i_lt hq36
          unfold f_PQ_arc_56
          have := li_m1
          exact ⟨_, rfl, Wq12, F32, .inl ⟨by omega, by (try dsimp only); omega, va29, va30, va31, by rw [gfi_e e28]⟩⟩
        · have := i_ge a4
          have := i_up a4
          have hq36 := i_nlt hq36
          refine wi (fun hq38 => ?_) (fun hq38 => ?_)
          · have := li_99
            have hq38 := i_le hq38
            refine wb e26 ?_
            obtain ⟨w10, ew10⟩ := go_1 Wq12 tqw_1
            refine wb ew10 ?_
            have vL := va29
            have vF := va30
            have vT := va31
            obtain ⟨q9, eq9, Wq9, fq9, po0q9⟩ := p_Graph_addArc__g hn Wq12 (a1 := a1) (a2 := a2) (a3 := a3) (a4 := a4) tqw_1 (by omega) (by omega) (by omega) (by omega) (by omega) (by omega) (by omega) (by omega) (by omega) (by omega) e28
            refine wb eq9 ?_
            have e40 := (Zfr.gr fq9 t_a0 (by decide)).trans e26
            have e41 := (Zfr.gi fq9 tqw_1 (by decide)).trans e27
            have F45 := Zfr.tr F32 fq9 (by decide)
            obtain ⟨w_46, ew_46, _⟩ := gf_1_8 Wq9 tqw_1
            exact ⟨_, rfl, Wq9, F45, .inr ⟨by omega, (by rw [← vL, ← vF, ← vT]; exact po0q9)⟩⟩
          · have := li_99
            have hq38 := i_nle hq38
            unfold f_PQ_arc_56
            have := li_m1
            exact ⟨_, rfl, Wq12, F32, .inl ⟨by omega, by (try dsimp only); omega, va29, va30, va31, by rw [gfi_e e28]⟩⟩
    · have hq33 := i_ne hq33
      refine wi (fun hq48 => ?_) (fun hq48 => ?_)
      · have := i_ge a3
        have := i_up a3
        have hq48 := i_lt hq48
        unfold f_PQ_arc_36
        unfold f_PQ_arc_37
        refine wi (fun hq49 => ?_) (fun hq49 => ?_)
        · have hq49 := i_eq hq49
          unfold f_PQ_arc_56
          have := li_m1
          exact ⟨_, rfl, Wq12, F32, .inl ⟨by omega, by (try dsimp only); omega, va29, va30, va31, by rw [gfi_e e28]⟩⟩
        · have hq49 := i_ne hq49
          refine wi (fun hq51 => ?_) (fun hq51 => ?_)
          · have := i_ge a4
            have := i_up a4
            have hq51 := i_lt hq51
            unfold f_PQ_arc_56
            have := li_m1
            exact ⟨_, rfl, Wq12, F32, .inl ⟨by omega, by (try dsimp only); omega, va29, va30, va31, by rw [gfi_e e28]⟩⟩
          · have := i_ge a4
            have := i_up a4
            have hq51 := i_nlt hq51
            refine wi (fun hq53 => ?_) (fun hq53 => ?_)
            · have := li_99
              have hq53 := i_le hq53
              refine wb e26 ?_
              obtain ⟨w10, ew10⟩ := go_1 Wq12 tqw_1
              refine wb ew10 ?_
              have vL := va29
              have vF := va30
              have vT := va31
              obtain ⟨q9, eq9, Wq9, fq9, po0q9⟩ := p_Graph_addArc__g hn Wq12 (a1 := a1) (a2 := a2) (a3 := a3) (a4 := a4) tqw_1 (by omega) (by omega) (by omega) (by omega) (by omega) (by omega) (by omega) (by omega) (by omega) (by omega) e28
              refine wb eq9 ?_
              have e55 := (Zfr.gr fq9 t_a0 (by decide)).trans e26
              have e56 := (Zfr.gi fq9 tqw_1 (by decide)).trans e27
              have F60 := Zfr.tr F32 fq9 (by decide)
              obtain ⟨w_61, ew_61, _⟩ := gf_1_8 Wq9 tqw_1
              exact ⟨_, rfl, Wq9, F60, .inr ⟨by omega, (by rw [← vL, ← vF, ← vT]; exact po0q9)⟩⟩
            · have := li_99
              have hq53 := i_nle hq53
              unfold f_PQ_arc_56
              have := li_m1
              exact ⟨_, rfl, Wq12, F32, .inl ⟨by omega, by (try dsimp only); omega, va29, va30, va31, by rw [gfi_e e28]⟩⟩
      · have := i_ge a3
        have := i_up a3
        have hq48 := i_nlt hq48
        refine wi (fun hq63 => ?_) (fun hq63 => ?_)
        · have := li_8
          have hq63 := i_le hq63
          unfold f_PQ_arc_36
          unfold f_PQ_arc_37
          refine wi (fun hq64 => ?_) (fun hq64 => ?_)
          · have hq64 := i_eq hq64
            unfold f_PQ_arc_56
            have := li_m1
            exact ⟨_, rfl, Wq12, F32, .inl ⟨by omega, by (try dsimp only); omega, va29, va30, va31, by rw [gfi_e e28]⟩⟩
          · have hq64 := i_ne hq64
            refine wi (fun hq66 => ?_) (fun hq66 => ?_)
            · have := i_ge a4
              have := i_up a4
              have hq66 := i_lt hq66
              unfold f_PQ_arc_56
              have := li_m1
              exact ⟨_, rfl, Wq12, F32, .inl ⟨by omega, by (try dsimp only); omega, va29, va30, va31, by rw [gfi_e e28]⟩⟩
            · have := i_ge a4
              have := i_up a4
              have hq66 := i_nlt hq66
              refine wi (fun hq68 => ?_) (fun hq68 => ?_)
              · have := li_99
                have hq68 := i_le hq68
                refine wb e26 ?_
                obtain ⟨w10, ew10⟩ := go_1 Wq12 tqw_1
                refine wb ew10 ?_
                have vL := va29
                have vF := va30
                have vT := va31
                obtain ⟨q9, eq9, Wq9, fq9, po0q9⟩ := p_Graph_addArc__g hn Wq12 (a1 := a1) (a2 := a2) (a3 := a3) (a4 := a4) tqw_1 (by omega) (by omega) (by omega) (by omega) (by omega) (by omega) (by omega) (by omega) (by omega) (by omega) e28
                refine wb eq9 ?_
                have e70 := (Zfr.gr fq9 t_a0 (by decide)).trans e26
                have e71 := (Zfr.gi fq9 tqw_1 (by decide)).trans e27
                have F75 := Zfr.tr F32 fq9 (by decide)
                obtain ⟨w_76, ew_76, _⟩ := gf_1_8 Wq9 tqw_1
                exact ⟨_, rfl, Wq9, F75, .inr ⟨by omega, (by rw [← vL, ← vF, ← vT]; exact po0q9)⟩⟩
              · have := li_99
                have hq68 := i_nle hq68
                unfold f_PQ_arc_56
                have := li_m1
                exact ⟨_, rfl, Wq12, F32, .inl ⟨by omega, by (try dsimp only); omega, va29, va30, va31, by rw [gfi_e e28]⟩⟩
        · have := li_8
          have hq63 := i_nle hq63
          unfold f_PQ_arc_37
          refine wi (fun hq78 => ?_) (fun hq78 => ?_)
          · have := li_1
            have hq78 := i_eq hq78
            unfold f_PQ_arc_56
            have := li_m1
            exact ⟨_, rfl, Wq12, F32, .inl ⟨by omega, by (try dsimp only); omega, va29, va30, va31, by rw [gfi_e e28]⟩⟩
          · have := li_1
            have hq78 := i_ne hq78
            refine wi (fun hq80 => ?_) (fun hq80 => ?_)
            · have := i_ge a4
              have := i_up a4
              have hq80 := i_lt hq80
              unfold f_PQ_arc_56
              have := li_m1
              exact ⟨_, rfl, Wq12, F32, .inl ⟨by omega, by (try dsimp only); omega, va29, va30, va31, by rw [gfi_e e28]⟩⟩
            · have := i_ge a4
              have := i_up a4
              have hq80 := i_nlt hq80
              refine wi (fun hq82 => ?_) (fun hq82 => ?_)
              · have := li_99
                have hq82 := i_le hq82
                refine wb e26 ?_
                obtain ⟨w10, ew10⟩ := go_1 Wq12 tqw_1
                refine wb ew10 ?_
                have vL := va29
                have vF := va30
                have vT := va31
                obtain ⟨q9, eq9, Wq9, fq9, po0q9⟩ := p_Graph_addArc__g hn Wq12 (a1 := a1) (a2 := a2) (a3 := a3) (a4 := a4) tqw_1 (by omega) (by omega) (by omega) (by omega) (by omega) (by omega) (by omega) (by omega) (by omega) (by omega) e28
                refine wb eq9 ?_
                have e84 := (Zfr.gr fq9 t_a0 (by decide)).trans e26
                have e85 := (Zfr.gi fq9 tqw_1 (by decide)).trans e27
                have F89 := Zfr.tr F32 fq9 (by decide)
                obtain ⟨w_90, ew_90, _⟩ := gf_1_8 Wq9 tqw_1
                exact ⟨_, rfl, Wq9, F89, .inr ⟨by omega, (by rw [← vL, ← vF, ← vT]; exact po0q9)⟩⟩
              · have := li_99
                have hq82 := i_nle hq82
                unfold f_PQ_arc_56
                have := li_m1
                exact ⟨_, rfl, Wq12, F32, .inl ⟨by omega, by (try dsimp only); omega, va29, va30, va31, by rw [gfi_e e28]⟩⟩

abbrev M_Mo_arc__g : List (Nat × Nat) := [(64, 8), (64, 10), (67, 0), (68, 0), (69, 0), (70, 0), (71, 0), (131, 0)]
set_option maxRecDepth 100000 in
set_option maxHeartbeats 2000000 in
theorem p_Mo_arc__g {nf : Nat} (hn : 8589934592 ≤ nf) {G : List Nat} {c : Zc} (W : Zwt zty G c) {a0 : Nat} {a1 : Int32} {a2 : Int32} {a3 : Int32} {a4 : Int32} {nd : Int32} {ac : Int32} (t_a0 : G[a0]? = some 64) (pl_nd : 0 ≤ nd.toInt) (pu_nd : nd.toInt ≤ 16) (pl_ac : 0 ≤ ac.toInt) (pu_ac : ac.toInt ≤ 100) (eh_nd : zgi c a0 12 0 = some nd) (eh_ac : zgi c a0 12 8 = some ac) (hb_Zac7 : Zac7 G c a0 ac) : ∃ q, f_Mo_arc nf a0 a1 a2 a3 a4 c = some q ∧ Zwt zty G q.2 ∧ Zfr G M_Mo_arc__g c q.2 ∧ ((¬ (0 ≤ a1.toInt ∧ a1.toInt < nd.toInt ∧ 0 ≤ a2.toInt ∧ a2.toInt < nd.toInt ∧ 0 ≤ a3.toInt ∧ a3.toInt < 8 ∧ 0 ≤ a4.toInt ∧ a4.toInt < 100) ∧ q.1.toInt = -1 ∧ vaf q.2 a0 3 = vaf c a0 3 ∧ vaf q.2 a0 4 = vaf c a0 4 ∧ vaf q.2 a0 5 = vaf c a0 5 ∧ vfi q.2 a0 8 = ac.toInt) ∨ ((0 ≤ a1.toInt ∧ a1.toInt < nd.toInt ∧ 0 ≤ a2.toInt ∧ a2.toInt < nd.toInt ∧ 0 ≤ a3.toInt ∧ a3.toInt < 8 ∧ 0 ≤ a4.toInt ∧ a4.toInt < 100) ∧ 0 ≤ ac.toInt ∧ ((ac.toInt = 100 ∧ q.1.toInt = -3 ∧ vaf q.2 a0 3 = vaf c a0 3 ∧ vaf q.2 a0 4 = vaf c a0 4 ∧ vaf q.2 a0 5 = vaf c a0 5 ∧ vfi q.2 a0 8 = ac.toInt) ∨ ∃ k : Nat, k < 100 ∧ (vaf c a0 3 k).toInt = 0 ∧ (∀ i : Nat, i < k → (vaf c a0 3 i).toInt ≠ 0) ∧ q.1.toInt = k ∧ vaf q.2 a0 3 = upd (vaf c a0 3) k (vp_nar .boolean 1) ∧ vaf q.2 a0 4 = upd (vaf c a0 4) k a1 ∧ vaf q.2 a0 5 = upd (vaf c a0 5) k a2 ∧ vfi q.2 a0 8 = ac.toInt + 1))) ∧ Zac G q.2 a0 := by
  have F0 : Zfr G M_Mo_arc__g c c := Zfr.rf
  unfold f_Mo_arc
  obtain ⟨h0Zac70, r0Zac70, r1Zac70, k0Zac70⟩ := hb_Zac7
  have vaMT : vaf c a0 3 = vaf c a0 3 := rfl
  have vaMF : vaf c a0 4 = vaf c a0 4 := rfl
  have vaMO : vaf c a0 5 = vaf c a0 5 := rfl
  refine wb eh_nd ?_
  obtain ⟨q2, eq2, Wq2, fq2, po0q2, po1q2, pl2q2, pu2q2⟩ := p_Mo_isIn hn W (a0 := a1) (a1 := nd) 
  refine wb eq2 ?_
  have e1 := (Zfr.gi fq2 t_a0 (by decide)).trans eh_nd
  have e2 := (Zfr.gi fq2 t_a0 (by decide)).trans h0Zac70
  have k3 := AcN_fr k0Zac70 fq2 t_a0 W (by decide)
  have va4 := (vaf_fr fq2 t_a0 (gf_64_3 W t_a0) (by decide) (by decide)).trans vaMT
  have va5 := (vaf_fr fq2 t_a0 (gf_64_4 W t_a0) (by decide) (by decide)).trans vaMF
  have va6 := (vaf_fr fq2 t_a0 (gf_64_5 W t_a0) (by decide) (by decide)).trans vaMO
  have F7 := Zfr.tr F0 fq2 (by decide)
  refine wi (fun hq8 => ?_) (fun hq8 => ?_)
  · have := li_0
    have hq8 := i_eq hq8
    unfold f_Mo_arc_41
    have := li_m1
    exact ⟨_, rfl, Wq2, F7, by first | exact .inl ⟨by omega, by (try dsimp only); omega, va4, va5, va6, by rw [vfi_e e2]⟩ | exact .inr ⟨by omega, by omega, .inl ⟨by (try dsimp only); omega, by (try dsimp only); omega, va4, va5, va6, by rw [vfi_e e2]⟩⟩, ⟨ac, e2, by (try dsimp only); omega, by (try dsimp only); omega, k3⟩⟩
  · have := li_0
    have hq8 := i_ne hq8
    refine wb e1 ?_
    obtain ⟨q5, eq5, Wq5, fq5, po0q5, po1q5, pl2q5, pu2q5⟩ := p_Mo_isIn hn Wq2 (a0 := a2) (a1 := nd) 
    refine wb eq5 ?_
    have e11 := (Zfr.gi fq5 t_a0 (by decide)).trans e1
    have e12 := (Zfr.gi fq5 t_a0 (by decide)).trans e2
    have k13 := AcN_fr k3 fq5 t_a0 Wq2 (by decide)
    have va14 := (vaf_fr fq5 t_a0 (gf_64_3 Wq2 t_a0) (by decide) (by decide)).trans va4
    have va15 := (vaf_fr fq5 t_a0 (gf_64_4 Wq2 t_a0) (by decide) (by decide)).trans va5
    have va16 := (vaf_fr fq5 t_a0 (gf_64_5 Wq2 t_a0) (by decide) (by decide)).trans va6
    have F17 := Zfr.tr F7 fq5 (by decide)
    refine wi (fun hq18 => ?_) (fun hq18 => ?_)
    · have hq18 := i_eq hq18
      unfold f_Mo_arc_41
      have := li_m1
      exact ⟨_, rfl, Wq5, F17, by first | exact .inl ⟨by omega, by (try dsimp only); omega, va14, va15, va16, by rw [vfi_e e12]⟩ | exact .inr ⟨by omega, by omega, .inl ⟨by (try dsimp only); omega, by (try dsimp only); omega, va14, va15, va16, by rw [vfi_e e12]⟩⟩, ⟨ac, e12, by (try dsimp only); omega, by (try dsimp only); omega, k13⟩⟩
    · have hq18 := i_ne hq18
      have := li_8
      obtain ⟨q7, eq7, Wq7, fq7, po0q7, po1q7, pl2q7, pu2q7⟩ := p_Mo_isIn hn Wq5 (a0 := a3) (a1 := 8) 
      refine wb eq7 ?_
      have e21 := (Zfr.gi fq7 t_a0 (by decide)).trans e11
      have e22 := (Zfr.gi fq7 t_a0 (by decide)).trans e12
      have k23 := AcN_fr k13 fq7 t_a0 Wq5 (by decide)
      have va24 := (vaf_fr fq7 t_a0 (gf_64_3 Wq5 t_a0) (by decide) (by decide)).trans va14
      have va25 := (vaf_fr fq7 t_a0 (gf_64_4 Wq5 t_a0) (by decide) (by decide)).trans va15
      have va26 := (vaf_fr fq7 t_a0 (gf_64_5 Wq5 t_a0) (by decide) (by decide)).trans va16
      have F27 := Zfr.tr F17 fq7 (by decide)
      refine wi (fun hq28 => ?_) (fun hq28 => ?_)
      · have hq28 := i_eq hq28
        unfold f_Mo_arc_41
        have := li_m1
        exact ⟨_, rfl, Wq7, F27, by first | exact .inl ⟨by omega, by (try dsimp only); omega, va24, va25, va26, by rw [vfi_e e22]⟩ | exact .inr ⟨by omega, by omega, .inl ⟨by (try dsimp only); omega, by (try dsimp only); omega, va24, va25, va26, by rw [vfi_e e22]⟩⟩, ⟨ac, e22, by (try dsimp only); omega, by (try dsimp only); omega, k23⟩⟩
      · have hq28 := i_ne hq28
        have := li_100
        obtain ⟨q9, eq9, Wq9, fq9, po0q9, po1q9, pl2q9, pu2q9⟩ := p_Mo_isIn hn Wq7 (a0 := a4) (a1 := 100) 
        refine wb eq9 ?_
        have e31 := (Zfr.gi fq9 t_a0 (by decide)).trans e21
        have e32 := (Zfr.gi fq9 t_a0 (by decide)).trans e22
        have k33 := AcN_fr k23 fq9 t_a0 Wq7 (by decide)
        have va34 := (vaf_fr fq9 t_a0 (gf_64_3 Wq7 t_a0) (by decide) (by decide)).trans va24
        have va35 := (vaf_fr fq9 t_a0 (gf_64_4 Wq7 t_a0) (by decide) (by decide)).trans va25
        have va36 := (vaf_fr fq9 t_a0 (gf_64_5 Wq7 t_a0) (by decide) (by decide)).trans va26
        have F37 := Zfr.tr F27 fq9 (by decide)
        refine wi (fun hq38 => ?_) (fun hq38 => ?_)
        · have hq38 := i_eq hq38
          unfold f_Mo_arc_41
          have := li_m1
          exact ⟨_, rfl, Wq9, F37, by first | exact .inl ⟨by omega, by (try dsimp only); omega, va34, va35, va36, by rw [vfi_e e32]⟩ | exact .inr ⟨by omega, by omega, .inl ⟨by (try dsimp only); omega, by (try dsimp only); omega, va34, va35, va36, by rw [vfi_e e32]⟩⟩, ⟨ac, e32, by (try dsimp only); omega, by (try dsimp only); omega, k33⟩⟩
        · have hq38 := i_ne hq38
          refine wb e32 ?_
          refine wi (fun hq41 => ?_) (fun hq41 => ?_)
          · have hq41 := i_eq hq41
            have := li_m3
            exact ⟨_, rfl, Wq9, F37, by first | exact .inl ⟨by omega, by (try dsimp only); omega, va34, va35, va36, by rw [vfi_e e32]⟩ | exact .inr ⟨by omega, by omega, .inl ⟨by (try dsimp only); omega, by (try dsimp only); omega, va34, va35, va36, by rw [vfi_e e32]⟩⟩, ⟨ac, e32, by (try dsimp only); omega, by (try dsimp only); omega, k33⟩⟩
          · have hq41 := i_ne hq41
            unfold f_Mo_arc_58
            obtain ⟨gi, hgi, hg0⟩ := AcN_ex k33 (by omega)
            have L44 : ∃ b, zlp (fun a : Nat × Int32 × Int32 × Int32 × Int32 × Int32 × Zc => g_Mo_arc_58 nf a.1 a.2.1 a.2.2.1 a.2.2.2.1 a.2.2.2.2.1 a.2.2.2.2.2.1 a.2.2.2.2.2.2) nf (a0, a1, a2, a3, a4, 0, q9.2) = some b ∧ (fun b : (Nat × Int32 × Int32 × Int32 × Int32 × Int32 × Zc) => a0 = b.1 ∧ a1 = b.2.1 ∧ a2 = b.2.2.1 ∧ a3 = b.2.2.2.1 ∧ a4 = b.2.2.2.2.1 ∧ Zwt zty G b.2.2.2.2.2.2 ∧ Zfr G ([] : List (Nat × Nat)) q9.2 b.2.2.2.2.2.2 ∧ 0 ≤ b.2.2.2.2.2.1.toInt ∧ b.2.2.2.2.2.1.toInt ≤ 99 ∧ Zlg G b.2.2.2.2.2.2 a0 b.2.2.2.2.2.1) b := by
              refine wlp (fun a : Nat × Int32 × Int32 × Int32 × Int32 × Int32 × Zc => a0 = a.1 ∧ a1 = a.2.1 ∧ a2 = a.2.2.1 ∧ a3 = a.2.2.2.1 ∧ a4 = a.2.2.2.2.1 ∧ Zwt zty G a.2.2.2.2.2.2 ∧ Zfr G ([] : List (Nat × Nat)) q9.2 a.2.2.2.2.2.2 ∧ 0 ≤ a.2.2.2.2.2.1.toInt ∧ a.2.2.2.2.2.1.toInt ≤ 99 ∧ a.2.2.2.2.2.1.toInt ≤ (gi : Int) ∧ Zlm G a.2.2.2.2.2.2 a0 a.2.2.2.2.2.1) (fun a => (100 - a.2.2.2.2.2.1.toInt).toNat) (fun b : (Nat × Int32 × Int32 × Int32 × Int32 × Int32 × Zc) => a0 = b.1 ∧ a1 = b.2.1 ∧ a2 = b.2.2.1 ∧ a3 = b.2.2.2.1 ∧ a4 = b.2.2.2.2.1 ∧ Zwt zty G b.2.2.2.2.2.2 ∧ Zfr G ([] : List (Nat × Nat)) q9.2 b.2.2.2.2.2.2 ∧ 0 ≤ b.2.2.2.2.2.1.toInt ∧ b.2.2.2.2.2.1.toInt ≤ 99 ∧ Zlg G b.2.2.2.2.2.2 a0 b.2.2.2.2.2.1) ?_ ?_ ?_
              · rintro ⟨x0_45, x1_45, x2_45, x3_45, x4_45, x5_45, c_45⟩ hI
                try dsimp only at hI ⊢
                obtain ⟨rfl, rfl, rfl, rfl, rfl, WLc_45, FLc_45, j46, j47, j48, hBZlm_45⟩ := hI
                have e49 := (Zfr.gi FLc_45 t_a0 (by decide)).trans e31
                have e50 := (Zfr.gi FLc_45 t_a0 (by decide)).trans e32
                have k51 := AcN_fr k33 FLc_45 t_a0 Wq9 (by decide)
                have va52 := (vaf_fr FLc_45 t_a0 (gf_64_3 Wq9 t_a0) (by decide) (by decide)).trans va34
                have va53 := (vaf_fr FLc_45 t_a0 (gf_64_4 Wq9 t_a0) (by decide) (by decide)).trans va35
                have va54 := (vaf_fr FLc_45 t_a0 (gf_64_5 Wq9 t_a0) (by decide) (by decide)).trans va36
                have k55 := FrG_fr hg0 FLc_45 t_a0 Wq9 (by decide)
                have k0Zlm_45 := hBZlm_45
                unfold g_Mo_arc_58
                obtain ⟨v13, ev13, tv13⟩ := gf_64_3 WLc_45 t_a0
                refine wb ev13 ?_
                obtain ⟨v14, ev14, lv14, uv14⟩ := ga_67 WLc_45 tv13 (i := x5_45) (by omega) (by omega)
                refine wb ev14 ?_
                have := FrG_ne k55 ev13 ev14
                refine wi (fun hq56 => ?_) (fun hq56 => ?_)
                · have hq56 := i_eq hq56
                  exact lInr ⟨rfl, rfl, rfl, rfl, rfl, WLc_45, FLc_45, by (try dsimp only); omega, by (try dsimp only); omega, ⟨v13, v14, ev13, ev14, tv13, by (try dsimp only); omega, k0Zlm_45⟩⟩
                · have hq56 := i_ne hq56
                  have := li_1
                  have := i_add (a := x5_45) (b := 1) (by omega) (by omega)
                  exact lInl ⟨rfl, rfl, rfl, rfl, rfl, WLc_45, FLc_45, by (try dsimp only); omega, by (try dsimp only); omega, by (try dsimp only); omega, LbM_up k0Zlm_45 ev13 ev14 (by omega) (by (try dsimp only); omega)⟩ (by (try dsimp only); omega)
              · exact ⟨rfl, rfl, rfl, rfl, rfl, Wq9, Zfr.rf, by (try dsimp only); omega, by (try dsimp only); omega, by (try dsimp only); omega, LbM_0 (by omega)⟩
              · (try dsimp only); omega
            obtain ⟨b, eb, hb⟩ := L44
            refine wb eb ?_
            clear eb
            obtain ⟨z0_59, z1_59, z2_59, z3_59, z4_59, z5_59, c_59⟩ := b
            try dsimp only at hb ⊢
            obtain ⟨rfl, rfl, rfl, rfl, rfl, WXc_59, FXc_59, j60, j61, hXZlgc_59⟩ := hb
            have e62 := (Zfr.gi FXc_59 t_a0 (by decide)).trans e31
            have e63 := (Zfr.gi FXc_59 t_a0 (by decide)).trans e32
            have k64 := AcN_fr k33 FXc_59 t_a0 Wq9 (by decide)
            have va65 := (vaf_fr FXc_59 t_a0 (gf_64_3 Wq9 t_a0) (by decide) (by decide)).trans va34
            have va66 := (vaf_fr FXc_59 t_a0 (gf_64_4 Wq9 t_a0) (by decide) (by decide)).trans va35
            have va67 := (vaf_fr FXc_59 t_a0 (gf_64_5 Wq9 t_a0) (by decide) (by decide)).trans va36
            have k68 := FrG_fr hg0 FXc_59 t_a0 Wq9 (by decide)
            have F69 := Zfr.tr F37 FXc_59 (by decide)
            obtain ⟨bktxc_59, bv0xc_59, h0Zlgxc_59, h1Zlgxc_59, tktxc_59, r0Zlgxc_59, k0Zlgxc_59⟩ := hXZlgc_59
            have hL1 := va65
            have hL0 : ∀ i : Nat, (i : Int) < z5_59.toInt → (vaf c a0 3 i).toInt ≠ 0 := by rw [← hL1]; exact k0Zlgxc_59
            have hLk : (vaf c a0 3 z5_59.toInt.toNat).toInt = 0 := by rw [← hL1, ← (vaf_r h0Zlgxc_59 h1Zlgxc_59).1]; omega
            refine wb h0Zlgxc_59 ?_
            have := nb_1
            obtain ⟨c17, ec17, Wc17, fc17, gc17⟩ := pa_67 WXc_59 tktxc_59 (i := z5_59) (by omega) (by omega) (x := (vp_nar .boolean 1)) (rgi (by omega) (by omega))
            refine wb ec17 ?_
            have e70 := (Zfr.gi fc17 t_a0 (by decide)).trans e62
            have e71 := (Zfr.gi fc17 t_a0 (by decide)).trans e63
            have e72 := (Zfr.gr fc17 t_a0 (by decide)).trans h0Zlgxc_59
            have := li_1
            have := i_add (a := ac) (b := 1) (by omega) (by omega)
            have k73 := AcN_up (n' := (ac + 1)) k64 h0Zlgxc_59 h1Zlgxc_59 ec17 (by omega) (by omega) (by omega) (by omega)
            have va74 := (((vaf_w h0Zlgxc_59 ec17).1).trans (congrArg (fun f_ => upd f_ z5_59.toInt.toNat (vp_nar .boolean 1)) va65))
            have va75 := (vaf_fr fc17 t_a0 (gf_64_4 WXc_59 t_a0) (by decide) (by decide)).trans va66
            have va76 := (vaf_fr fc17 t_a0 (gf_64_5 WXc_59 t_a0) (by decide) (by decide)).trans va67
            have F77 := Zfr.tr F69 fc17 (by decide)
            obtain ⟨v18, ev18, tv18⟩ := gf_64_4 Wc17 t_a0
            refine wb ev18 ?_
            obtain ⟨c19, ec19, Wc19, fc19, gc19⟩ := pa_68 Wc17 tv18 (i := z5_59) (by omega) (by omega) (x := a1) (rgi (by omega) (by omega))
            refine wb ec19 ?_
            have e78 := (Zfr.gi fc19 t_a0 (by decide)).trans e70
            have e79 := (Zfr.gi fc19 t_a0 (by decide)).trans e71
            have e80 := (Zfr.gr fc19 t_a0 (by decide)).trans e72
            have e81 := (Zfr.ai fc19 tktxc_59 (by decide)).trans gc17
            have k82 := AcN_fr k73 fc19 t_a0 Wc17 (by decide)
            have va83 := (vaf_fr fc19 t_a0 (gf_64_3 Wc17 t_a0) (by decide) (by decide)).trans va74
            have va84 := (((vaf_w ev18 ec19).1).trans (congrArg (fun f_ => upd f_ z5_59.toInt.toNat a1) va75))
            have va85 := (vaf_fr fc19 t_a0 (gf_64_5 Wc17 t_a0) (by decide) (by decide)).trans va76
            have F86 := Zfr.tr F77 fc19 (by decide)
            obtain ⟨v20, ev20, tv20⟩ := gf_64_5 Wc19 t_a0
            refine wb ev20 ?_
            obtain ⟨c21, ec21, Wc21, fc21, gc21⟩ := pa_69 Wc19 tv20 (i := z5_59) (by omega) (by omega) (x := a2) (rgi (by omega) (by omega))
            refine wb ec21 ?_
            have e87 := (Zfr.gi fc21 t_a0 (by decide)).trans e78
            have e88 := (Zfr.gi fc21 t_a0 (by decide)).trans e79
            have e89 := (Zfr.gr fc21 t_a0 (by decide)).trans e80
            have e90 := (Zfr.ai fc21 tktxc_59 (by decide)).trans e81
            have e91 := (Zfr.ai fc21 tv18 (by decide)).trans gc19
            have k92 := AcN_fr k82 fc21 t_a0 Wc19 (by decide)
            have va93 := (vaf_fr fc21 t_a0 (gf_64_3 Wc19 t_a0) (by decide) (by decide)).trans va83
            have va94 := (vaf_fr fc21 t_a0 (gf_64_4 Wc19 t_a0) (by decide) (by decide)).trans va84
            have va95 := (((vaf_w ev20 ec21).1).trans (congrArg (fun f_ => upd f_ z5_59.toInt.toNat a2) va85))
            have F96 := Zfr.tr F86 fc21 (by decide)
            obtain ⟨v22, ev22, tv22⟩ := gf_64_6 Wc21 t_a0
            refine wb ev22 ?_
            obtain ⟨c23, ec23, Wc23, fc23, gc23⟩ := pa_70 Wc21 tv22 (i := z5_59) (by omega) (by omega) (x := a3) (rgi (by omega) (by omega))
            refine wb ec23 ?_
            have e97 := (Zfr.gi fc23 t_a0 (by decide)).trans e87
            have e98 := (Zfr.gi fc23 t_a0 (by decide)).trans e88
            have e99 := (Zfr.gr fc23 t_a0 (by decide)).trans e89
            have e100 := (Zfr.ai fc23 tktxc_59 (by decide)).trans e90
            have e101 := (Zfr.ai fc23 tv18 (by decide)).trans e91
            have e102 := (Zfr.ai fc23 tv20 (by decide)).trans gc21
            have k103 := AcN_fr k92 fc23 t_a0 Wc21 (by decide)
            have va104 := (vaf_fr fc23 t_a0 (gf_64_3 Wc21 t_a0) (by decide) (by decide)).trans va93
            have va105 := (vaf_fr fc23 t_a0 (gf_64_4 Wc21 t_a0) (by decide) (by decide)).trans va94
            have va106 := (vaf_fr fc23 t_a0 (gf_64_5 Wc21 t_a0) (by decide) (by decide)).trans va95
            have F107 := Zfr.tr F96 fc23 (by decide)
            obtain ⟨v24, ev24, tv24⟩ := gf_64_7 Wc23 t_a0
            refine wb ev24 ?_
            obtain ⟨c25, ec25, Wc25, fc25, gc25⟩ := pa_71 Wc23 tv24 (i := z5_59) (by omega) (by omega) (x := a4) (rgi (by omega) (by omega))
            refine wb ec25 ?_
            have e108 := (Zfr.gi fc25 t_a0 (by decide)).trans e97
            have e109 := (Zfr.gi fc25 t_a0 (by decide)).trans e98
            have e110 := (Zfr.gr fc25 t_a0 (by decide)).trans e99
            have e111 := (Zfr.ai fc25 tktxc_59 (by decide)).trans e100
            have e112 := (Zfr.ai fc25 tv18 (by decide)).trans e101
            have e113 := (Zfr.ai fc25 tv20 (by decide)).trans e102
            have e114 := (Zfr.ai fc25 tv22 (by decide)).trans gc23
            have k115 := AcN_fr k103 fc25 t_a0 Wc23 (by decide)
            have va116 := (vaf_fr fc25 t_a0 (gf_64_3 Wc23 t_a0) (by decide) (by decide)).trans va104
            have va117 := (vaf_fr fc25 t_a0 (gf_64_4 Wc23 t_a0) (by decide) (by decide)).trans va105
            have va118 := (vaf_fr fc25 t_a0 (gf_64_5 Wc23 t_a0) (by decide) (by decide)).trans va106
            have F119 := Zfr.tr F107 fc25 (by decide)
            refine wb e109 ?_
            obtain ⟨c27, ec27, Wc27, fc27, gc27⟩ := pf_64_8 Wc25 t_a0 (x := (ac + 1)) (rgi (by omega) (by omega))
            refine wb ec27 ?_
            have e120 := (Zfr.gi fc27 t_a0 (by decide)).trans e108
            have e121 := (Zfr.gr fc27 t_a0 (by decide)).trans e110
            have e122 := (Zfr.ai fc27 tktxc_59 (by decide)).trans e111
            have e123 := (Zfr.ai fc27 tv18 (by decide)).trans e112
            have e124 := (Zfr.ai fc27 tv20 (by decide)).trans e113
            have e125 := (Zfr.ai fc27 tv22 (by decide)).trans e114
            have e126 := (Zfr.ai fc27 tv24 (by decide)).trans gc25
            have k127 := AcN_fr k115 fc27 t_a0 Wc25 (by decide)
            have va128 := (vaf_fr fc27 t_a0 (gf_64_3 Wc25 t_a0) (by decide) (by decide)).trans va116
            have va129 := (vaf_fr fc27 t_a0 (gf_64_4 Wc25 t_a0) (by decide) (by decide)).trans va117
            have va130 := (vaf_fr fc27 t_a0 (gf_64_5 Wc25 t_a0) (by decide) (by decide)).trans va118
            have F131 := Zfr.tr F119 fc27 (by decide)
            obtain ⟨w29, ew29⟩ := go_64 Wc27 t_a0
            refine wb ew29 ?_
            obtain ⟨q28, eq28, Wq28, fq28⟩ := p_Mo_changed hn Wc27  t_a0
            refine wb eq28 ?_
            have e132 := (Zfr.gi fq28 t_a0 (by decide)).trans e120
            have e133 := (Zfr.gr fq28 t_a0 (by decide)).trans e121
            have e134 := (Zfr.ai fq28 tktxc_59 (by decide)).trans e122
            have e135 := (Zfr.ai fq28 tv18 (by decide)).trans e123
            have e136 := (Zfr.ai fq28 tv20 (by decide)).trans e124
            have e137 := (Zfr.ai fq28 tv22 (by decide)).trans e125
            have e138 := (Zfr.ai fq28 tv24 (by decide)).trans e126
            have e139 := (Zfr.gi fq28 t_a0 (by decide)).trans gc27
            have k140 := AcN_fr k127 fq28 t_a0 Wc27 (by decide)
            have va141 := (vaf_fr fq28 t_a0 (gf_64_3 Wc27 t_a0) (by decide) (by decide)).trans va128
            have va142 := (vaf_fr fq28 t_a0 (gf_64_4 Wc27 t_a0) (by decide) (by decide)).trans va129
            have va143 := (vaf_fr fq28 t_a0 (gf_64_5 Wc27 t_a0) (by decide) (by decide)).trans va130
            have F144 := Zfr.tr F131 fq28 (by decide)
            exact ⟨_, rfl, Wq28, F144, .inr ⟨by omega, by omega, .inr ⟨z5_59.toInt.toNat, by omega, hLk, (fun i hi => hL0 i (by omega)), by (try dsimp only); omega, va141, va142, va143, by rw [vfi_e e139]; omega⟩⟩, ⟨(ac + 1), e139, by (try dsimp only); omega, by (try dsimp only); omega, k140⟩⟩

end ZzT
