section ZzT
/-- what the kinds of tokens say of their values -/
def TkM (c : Zc) (kk vv : Nat) : Prop := ∀ i k v : Int32, zai c kk 0 i = some k → zai c vv 0 i = some v → tkr k v
theorem zai_ws {c c' : Zc} {k t : Nat} {i n x : Int32} (h : zsi c k t n x = some c') (hi : i ≠ n) : zai c' k t i = zai c k t i ∨ (i.toInt < 0) := by
  obtain ⟨m, f, h1, h2, rfl⟩ := zsi_x h
  by_cases hz : i.toInt < 0
  · exact .inr hz
  left
  have hn : 0 ≤ n.toInt := by
    rcases Int.lt_or_le n.toInt 0 with z | z
    · exact absurd (Or.inl (Int32.lt_iff_toInt_lt.mpr (by have : (0 : Int32).toInt = 0 := by decide
                                                          omega))) h2
    · exact z
  have hne : i.toNatClampNeg ≠ n.toNatClampNeg := by
    rw [i_tn, i_tn]
    intro q
    exact hi (Int32.toInt_inj.mp (by omega))
  unfold zai
  rw [List.getElem?_set_self (List.getElem?_eq_some_iff.mp h1).1, h1]
  simp only [upd, if_neg hne]
theorem zai_neg {c : Zc} {k t : Nat} {i x : Int32} (h : i.toInt < 0) : zai c k t i ≠ some x := by
  unfold zai
  have hl : i < 0 := Int32.lt_iff_toInt_lt.mpr (by have : (0 : Int32).toInt = 0 := by decide
                                                   omega)
  split
  · rw [if_neg (fun q => q.2 (.inl hl))]; intro q; cases q
  · intro q; cases q
section
variable {G : List Nat} {M : List (Nat × Nat)} {c c' : Zc} {kk vv a b : Nat} {n x y : Int32}
theorem TkM_fr (h : TkM c kk vv) (F : Zfr G M c c') (tk : G[kk]? = some a) (tv : G[vv]? = some b) (m1 : (a, 0) ∉ M) (m2 : (b, 0) ∉ M) : TkM c' kk vv := by
  intro i k v hk hv
  rw [Zfr.ai F tk m1] at hk
  rw [Zfr.ai F tv m2] at hv
  exact h i k v hk hv
theorem zai_wx {k t : Nat} {i : Int32} (h : zsi c k t n x = some c') : zai c' k t n = some x := by
  obtain ⟨m, f, h1, h2, rfl⟩ := zsi_x h
  unfold zai
  rw [List.getElem?_set_self (List.getElem?_eq_some_iff.mp h1).1]
  exact (if_pos ⟨rfl, h2⟩).trans (by simp [upd])
theorem TkM_wk (h : TkM c kk vv) (tk : G[kk]? = some 74) (tv : G[vv]? = some 75) (e : zsi c kk 0 n x = some c') (ev : zai c vv 0 n = some y) (hr : tkr x y) : TkM c' kk vv := by
  intro i k v hk hv
  rw [zai_wo e (Ne.symm (pl_ne tk tv (by decide)))] at hv
  by_cases q : i = n
  · subst q
    rw [zai_wx (i := i) e] at hk
    rw [ev] at hv
    cases hk; cases hv; exact hr
  · rcases zai_ws e q with z | z
    · rw [z] at hk; exact h i k v hk hv
    · exact absurd hk (zai_neg z)
theorem TkM_wv (h : TkM c kk vv) (tk : G[kk]? = some 74) (tv : G[vv]? = some 75) (e : zsi c vv 0 n x = some c') (ek : zai c kk 0 n = some y) (hr : tkr y x) : TkM c' kk vv := by
  intro i k v hk hv
  rw [zai_wo e (pl_ne tk tv (by decide))] at hk
  by_cases q : i = n
  · subst q
    rw [zai_wx (i := i) e] at hv
    rw [ek] at hk
    cases hk; cases hv; exact hr
  · rcases zai_ws e q with z | z
    · rw [z] at hv; exact h i k v hk hv
    · exact absurd hv (zai_neg z)
end
theorem TkM_at {c : Zc} {kk vv : Nat} {i k v : Int32} (h : TkM c kk vv) (e1 : zai c kk 0 i = some k) (e2 : zai c vv 0 i = some v) : tkr k v := h i k v e1 e2
theorem wd_num {x v q : Int32} (h : q.toInt = 0 ∨ (48 ≤ v.toInt ∧ v.toInt ≤ 57)) (hx : q.toInt = 0 ∨ (0 ≤ x.toInt ∧ x.toInt ≤ 999)) : q.toInt = 0 ∨ (((10 * x) + v) - 48).toInt = 10 * x.toInt + (v.toInt - 48) := by
  by_cases z : q.toInt = 0
  · exact .inl z
  right
  have h := h.resolve_left z
  have hx := hx.resolve_left z
  have l10 : (10 : Int32).toInt = 10 := by decide
  have l48 : (48 : Int32).toInt = 48 := by decide
  have m := i_mull (a := 10) (b := x) (n := 10) l10 (by omega) (by omega)
  have a := i_add (a := 10 * x) (b := v) (by omega) (by omega)
  rw [i_sub (by rw [a, m, l48]; omega) (by rw [a, m, l48]; omega), a, m, l48]
  omega
theorem li_51 : (51 : Int32).toInt = 51 := by decide
theorem li_55 : (55 : Int32).toInt = 55 := by decide
theorem li_68 : (68 : Int32).toInt = 68 := by decide
def Zk (G : List Nat) (c : Zc) (m : Nat) : Prop := ∃ kk : Nat, ∃ vv : Nat, zgr c m 12 14 = some kk ∧ zgr c m 12 15 = some vv ∧ G[kk]? = some 74 ∧ G[vv]? = some 75 ∧ TkM c kk vv
def Zkz (G : List Nat) (c : Zc) (m : Nat) : Prop := ∃ kk : Nat, ∃ vv : Nat, ∃ tn : Int32, ∃ z : Int32, zgr c m 12 14 = some kk ∧ zgr c m 12 15 = some vv ∧ zgi c m 12 17 = some tn ∧ zai c vv 0 tn = some z ∧ G[kk]? = some 74 ∧ G[vv]? = some 75 ∧ z.toInt = 0 ∧ 0 ≤ tn.toInt ∧ tn.toInt ≤ 1501 ∧ TkM c kk vv
end ZzT
