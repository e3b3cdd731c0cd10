section ZzT
/-- a type may stand for another one in all references -/
def zclb (T T' : Nat) (t : Zt) : Bool := match t with
  | .inr (.inl (_, fs)) => fs.all (fun f => match f with
    | .inr (.inr S) => !(S.contains T) || S.contains T'
    | _ => true)
  | .inr (.inr (.inr (.inr (.inr (_, _, S))))) => !(S.contains T) || S.contains T'
  | _ => true
theorem zcl_s {T T' : Nat} {S : List Nat} (h : (!(S.contains T) || S.contains T') = true) (hT : T ∈ S) : T' ∈ S := by
  have h1 : S.contains T = true := by simp [hT]
  rw [h1] at h
  simpa using h
theorem zco_re {zy : Nat → Zt} {G : List Nat} {k T T' : Nat} (hk : G[k]? = some T) (hc : ∀ U, zclb T T' (zy U) = true) (V : Nat) (e : va_E) (he : Zco G (zy V) e) : Zco (G.set k T') (zy V) e := by
  have hlt := (List.getElem?_eq_some_iff.mp hk).1
  have lift : ∀ (k2 U2 : Nat) (S : List Nat), G[k2]? = some U2 → U2 ∈ S → (!(S.contains T) || S.contains T') = true → ∃ U3, (G.set k T')[k2]? = some U3 ∧ U3 ∈ S := by
    intro k2 U2 S h1 h2 h3
    by_cases h : k = k2
    · subst h
      rw [hk] at h1
      cases h1
      exact ⟨T', List.getElem?_set_self hlt, zcl_s h3 h2⟩
    · exact ⟨U2, by rw [List.getElem?_set_ne h]; exact h1, h2⟩
  have hcV := hc V
  generalize zy V = t at he hcV ⊢
  rcases t with u | ⟨ci, fs⟩ | ⟨t, n, P⟩ | ⟨t, N, P⟩ | ⟨t, n⟩ | ⟨t, n, S⟩
  · exact (True.intro : True)
  · obtain ⟨vs, h1, h2, h3⟩ := he
    refine ⟨vs, h1, h2, fun j f hj => ?_⟩
    obtain ⟨v, g1, g2⟩ := h3 j f hj
    refine ⟨v, g1, ?_⟩
    rcases f with P | u | S
    · exact g2
    · exact g2
    · obtain ⟨k2, U2, g3, g4, g5⟩ := g2
      have hS : (!(S.contains T) || S.contains T') = true := List.all_eq_true.mp hcV _ (List.mem_of_getElem? hj)
      obtain ⟨U3, g6, g7⟩ := lift k2 U2 S g4 g5 hS
      exact ⟨k2, U3, g3, g6, g7⟩
  · exact he
  · exact he
  · exact he
  · obtain ⟨f, h1, h2⟩ := he
    refine ⟨f, h1, fun i hi => ?_⟩
    obtain ⟨k2, U2, g3, g4, g5⟩ := h2 i hi
    obtain ⟨U3, g6, g7⟩ := lift k2 U2 S g4 g5 hcV
    exact ⟨k2, U3, g3, g6, g7⟩
theorem wt_re {zy : Nat → Zt} {G : List Nat} {c : Zc} {k T T' : Nat} (W : Zwt zy G c) (hk : G[k]? = some T) (hs : zy T' = zy T) (hc : ∀ U, zclb T T' (zy U) = true) : Zwt zy (G.set k T') c := by
  have hlt := (List.getElem?_eq_some_iff.mp hk).1
  have conv := zco_re hk hc
  refine ⟨by rw [List.length_set]; exact W.1, fun q U hq => ?_⟩
  by_cases h : k = q
  · subst h
    rw [List.getElem?_set_self hlt] at hq
    cases hq
    obtain ⟨e, h1, h2⟩ := W.2 k T hk
    exact ⟨e, h1, by rw [hs]; exact conv T e h2⟩
  · rw [List.getElem?_set_ne h] at hq
    obtain ⟨e, h1, h2⟩ := W.2 q U hq
    exact ⟨e, h1, conv U e h2⟩
theorem zcl_ab (U : Nat) : zclb 12 63 (zty U) = true := by
  unfold zty
  split <;> rfl
theorem zcl_ba (U : Nat) : zclb 63 12 (zty U) = true := by
  unfold zty
  split <;> rfl
/-- the element of an array of answers -/
theorem ga_61 {G : List Nat} {c : Zc} {k : Nat} (W : Zwt zty G c) (h : G[k]? = some 61) {i : Int32} (h0 : 0 ≤ i.toInt) (h1 : i.toInt < 4) : ∃ x T, zar c k 5 i = some x ∧ G[x]? = some T ∧ (T = 12 ∨ T = 63) := by
  obtain ⟨e, he, hc⟩ := W.2 k 61 h
  obtain ⟨f, rfl, hf⟩ := hc
  obtain ⟨x, T2, h2, h3, h4⟩ := hf i.toNatClampNeg (by rw [i_tn]; omega)
  exact ⟨x, T2, by unfold zar; rw [he]; exact (if_pos ⟨rfl, i_ix h0 h1⟩).trans h2, h3, by simpa using h4⟩
theorem p_PQ_answer {nf : Nat} (hn : 8589934592 ≤ nf) {G : List Nat} {c : Zc} (W : Zwt zty G c) {a0 : Nat} (h0 : G[a0]? = some 14) (hR : ∀ ar k, zgr c a0 11 8 = some ar → ∀ i : Int32, 0 ≤ i.toInt → i.toInt < 4 → zar c ar 5 i = some k → ∃ r w cl od ot, Zro G c k r w cl od ot) {a1 a2 a3 : Int32} : ∃ x, f_PQ_answer nf a0 a1 a2 a3 c = some (x, c) := by
  have l0 : (0 : Int32).toInt = 0 := by decide
  have l4 : (4 : Int32).toInt = 4 := by decide
  unfold f_PQ_answer f_PQ_answer_25 f_PQ_answer_62
  by_cases q1 : a1 < 0
  · rw [if_pos q1]; exact ⟨_, rfl⟩
  rw [if_neg q1]
  have q1 := i_nlt q1
  by_cases q2 : 4 ≤ a1
  · rw [if_pos q2]; exact ⟨_, rfl⟩
  rw [if_neg q2]
  have q2 := i_nle q2
  obtain ⟨v3, e3, t3⟩ := gf_14_9 W h0
  obtain ⟨v4, e4, _⟩ := ga_62 W t3 (i := a1) (by omega) (by omega)
  obtain ⟨v5, e5, t5⟩ := gf_14_1 W h0
  obtain ⟨v6, e6, _⟩ := gf_1_9 W t5
  rw [e3]; simp only [Option.bind_some]
  rw [e4]; simp only [Option.bind_some]
  rw [e5]; simp only [Option.bind_some]
  rw [e6]; simp only [Option.bind_some]
  by_cases q3 : v4 = v6
  · rw [if_pos q3]
    obtain ⟨v8, e8, t8⟩ := gf_14_8 W h0
    obtain ⟨v9, T, e9, t9, hT⟩ := ga_61 W t8 (i := a1) (by omega) (by omega)
    obtain ⟨r, w, cl, od, ot, R⟩ := hR v8 v9 e8 a1 (by omega) (by omega) e9
    rw [e8]; simp only [Option.bind_some]
    rw [e9]; simp only [Option.bind_some]
    by_cases q4 : a2 < 0
    · rw [if_pos q4]; exact ⟨_, rfl⟩
    rw [if_neg q4, R.1.1]; simp only [Option.bind_some]
    by_cases q5 : r ≤ a2
    · rw [if_pos q5]; exact ⟨_, rfl⟩
    rw [if_neg q5]
    by_cases q6 : a3 < 0
    · rw [if_pos q6]; exact ⟨_, rfl⟩
    rw [if_neg q6, R.1.2.1]; simp only [Option.bind_some]
    by_cases q7 : a3 < w
    · have q4 := i_nlt q4
      have q5 := i_nle q5
      have q6 := i_nlt q6
      have q7' := i_lt q7
      rw [if_pos q7]
      obtain ⟨vs, ev⟩ : ∃ vs, zob c v9 9 = some vs := by
        rcases hT with rfl | rfl
        · exact go_12 W t9
        · exact go_63 W t9
      obtain ⟨x, ex⟩ := p_Rows_cell (nf := nf) (a1 := a2) (a2 := a3) W R (by omega) (by omega) (by omega) (by omega)
      rw [ev]; simp only [Option.bind_some]
      rw [ex]
      exact ⟨_, rfl⟩
    · rw [if_neg q7]; exact ⟨_, rfl⟩
  · rw [if_neg q3]; exact ⟨_, rfl⟩
end ZzT
