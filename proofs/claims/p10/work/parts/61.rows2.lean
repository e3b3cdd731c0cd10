section ZzT
theorem nm58 {T : Nat} (h : T ≠ 58) : (T, 0) ∉ [((58 : Nat), (0 : Nat))] ∧ (T, 1) ∉ [((58 : Nat), (0 : Nat))] ∧ (T, 2) ∉ [((58 : Nat), (0 : Nat))] ∧ (T, 3) ∉ [((58 : Nat), (0 : Nat))] ∧ (T, 4) ∉ [((58 : Nat), (0 : Nat))] := by
  simp [h]
theorem nm57 {T : Nat} (h : T ≠ 57) : (T, 0) ∉ [((57 : Nat), (0 : Nat))] ∧ (T, 1) ∉ [((57 : Nat), (0 : Nat))] ∧ (T, 2) ∉ [((57 : Nat), (0 : Nat))] ∧ (T, 3) ∉ [((57 : Nat), (0 : Nat))] ∧ (T, 4) ∉ [((57 : Nat), (0 : Nat))] := by
  simp [h]
theorem m_min {nf : Nat} {c : Zc} {a b : Int32} : ∃ x, f_Math_min_0 nf a b c = some (x, c) ∧ ((x = a ∧ a.toInt ≤ b.toInt) ∨ (x = b ∧ b.toInt < a.toInt)) := by
  unfold f_Math_min_0
  by_cases h : b < a
  · rw [if_pos h]; exact ⟨b, rfl, .inr ⟨rfl, i_lt h⟩⟩
  · rw [if_neg h]; exact ⟨a, rfl, .inl ⟨rfl, i_nlt h⟩⟩
theorem m_max {nf : Nat} {c : Zc} {a b : Int32} : ∃ x, f_Math_max_0 nf a b c = some (x, c) ∧ ((x = a ∧ b.toInt ≤ a.toInt) ∨ (x = b ∧ a.toInt < b.toInt)) := by
  unfold f_Math_max_0
  by_cases h : a < b
  · rw [if_pos h]; exact ⟨b, rfl, .inr ⟨rfl, i_lt h⟩⟩
  · rw [if_neg h]; exact ⟨a, rfl, .inl ⟨rfl, i_nlt h⟩⟩
section
variable {nf T : Nat} {G : List Nat} {c : Zc} {a0 cl od ot : Nat} {r w : Int32}
theorem p_Rows_merge (hn : 8589934592 ≤ nf) (hT : zty T = kOb 9 rwF) (hT2 : T ≠ 58) (W : Zwt zty G c) (h0 : G[a0]? = some T) (R : Zro G c a0 r w cl od ot) (hl : r.toInt ≤ zln c od) (O : OrT c od r r.toInt) {a1 a2 a3 a4 : Int32} (h1 : 0 ≤ a1.toInt) (h2 : a1.toInt ≤ a2.toInt) (h3 : a2.toInt ≤ a3.toInt) (h4 : a3.toInt ≤ r.toInt) (P : OrT c ot r a1.toInt) : ∃ q, f_Rows_merge nf a0 a1 a2 a3 a4 c = some q ∧ Zwt zty G q ∧ Zfr G [(58, 0)] c q ∧ Zro G q a0 r w cl od ot ∧ OrT q od r r.toInt ∧ OrT q ot r a3.toInt := by
  have l1 : (1 : Int32).toInt = 1 := by decide
  have bb := R.2.2.1
  have L : ∃ b, zlp (fun a : Nat × Int32 × Int32 × Int32 × Int32 × Int32 × Int32 × Zc => g_Rows_merge_9 nf a.1 a.2.1 a.2.2.1 a.2.2.2.1 a.2.2.2.2.1 a.2.2.2.2.2.1 a.2.2.2.2.2.2.1 a.2.2.2.2.2.2.2) nf (a0, a2, a3, a4, a1, a2, a1, c) = some b ∧ (fun q : Zc => Zwt zty G q ∧ Zfr G [(58, 0)] c q ∧ Zro G q a0 r w cl od ot ∧ OrT q od r r.toInt ∧ OrT q ot r a3.toInt) b := by
    refine wlp (fun a : Nat × Int32 × Int32 × Int32 × Int32 × Int32 × Int32 × Zc => a0 = a.1 ∧ a2 = a.2.1 ∧ a3 = a.2.2.1 ∧ a4 = a.2.2.2.1 ∧ (a1.toInt ≤ a.2.2.2.2.1.toInt ∧ a.2.2.2.2.1.toInt ≤ a2.toInt ∧ a2.toInt ≤ a.2.2.2.2.2.1.toInt ∧ a.2.2.2.2.2.1.toInt ≤ a3.toInt ∧ a.2.2.2.2.1.toInt + a.2.2.2.2.2.1.toInt = a.2.2.2.2.2.2.1.toInt + a2.toInt) ∧ Zwt zty G a.2.2.2.2.2.2.2 ∧ Zfr G [(58, 0)] c a.2.2.2.2.2.2.2 ∧ Zro G a.2.2.2.2.2.2.2 a0 r w cl od ot ∧ OrT a.2.2.2.2.2.2.2 od r r.toInt ∧ OrT a.2.2.2.2.2.2.2 ot r a.2.2.2.2.2.2.1.toInt) (fun a => (a3.toInt - a.2.2.2.2.2.2.1.toInt).toNat) _ ?_ ?_ ?_
    · rintro ⟨y0, y2, y3, y4, x5, x6, x7, c9⟩ hI
      dsimp only at hI ⊢
      obtain ⟨rfl, rfl, rfl, rfl, ⟨j1, j2, j3, j4, j5⟩, W9, F9, R9, O9, P9⟩ := hI
      have R9' := R9
      obtain ⟨⟨e0, e1, e2, e3, e4⟩, ⟨t1, t2, t3⟩, b, b5, b6, b7⟩ := R9
      have hl9 : r.toInt ≤ zln c9 od := by rw [(F9 od 58 t2).2.2]; exact hl
      unfold g_Rows_merge_9
      refine wi (fun q => ?_) (fun q => ?_)
      · have q := i_le q
        exact lInr ⟨W9, F9, R9', O9, P9.le (by omega)⟩
      · have q := i_nle q
        have hs7 := i_add (a := x7) (b := 1) (by omega) (by omega)
        have t50 : x5.toInt < a2.toInt → ∃ z, f_Rows_merge_50 nf a0 a2 a3 a4 x5 x6 x7 c9 = some (.inl (a0, a2, a3, a4, x5 + 1, x6, x7 + 1, z)) ∧ Zwt zty G z ∧ Zfr G [(58, 0)] c z ∧ Zro G z a0 r w cl od ot ∧ OrT z od r r.toInt ∧ OrT z ot r (x7 + 1).toInt := by
          intro q5
          obtain ⟨x, ex, _⟩ := wt_di W9 t2 rfl (i := x5) (by omega) (by omega)
          obtain ⟨g1, g2⟩ := O9 x5 (by omega) (by omega) x ex
          obtain ⟨z, ez, Wz, fz⟩ := wt_ds (x := x) W9 t3 rfl (i := x7) (by omega) (by omega) trivial
          have Fz := Zfr.tr F9 fz (by simp)
          refine ⟨z, ?_, Wz, Fz, R9'.fr fz h0 (nm58 hT2), O9.wo ez b7, OrT.wx (G := G) P9 ez g1 g2 hs7⟩
          unfold f_Rows_merge_50 f_Rows_merge_87
          rw [e4]; simp only [Option.bind_some]
          rw [e3]; simp only [Option.bind_some]
          rw [ex]; simp only [Option.bind_some]
          rw [ez]; rfl
        have t70 : x6.toInt < a3.toInt → ∃ z, f_Rows_merge_70 nf a0 a2 a3 a4 x5 x6 x7 c9 = some (.inl (a0, a2, a3, a4, x5, x6 + 1, x7 + 1, z)) ∧ Zwt zty G z ∧ Zfr G [(58, 0)] c z ∧ Zro G z a0 r w cl od ot ∧ OrT z od r r.toInt ∧ OrT z ot r (x7 + 1).toInt := by
          intro q6
          obtain ⟨x, ex, _⟩ := wt_di W9 t2 rfl (i := x6) (by omega) (by omega)
          obtain ⟨g1, g2⟩ := O9 x6 (by omega) (by omega) x ex
          obtain ⟨z, ez, Wz, fz⟩ := wt_ds (x := x) W9 t3 rfl (i := x7) (by omega) (by omega) trivial
          have Fz := Zfr.tr F9 fz (by simp)
          refine ⟨z, ?_, Wz, Fz, R9'.fr fz h0 (nm58 hT2), O9.wo ez b7, OrT.wx (G := G) P9 ez g1 g2 hs7⟩
          unfold f_Rows_merge_70 f_Rows_merge_87
          rw [e4]; simp only [Option.bind_some]
          rw [e3]; simp only [Option.bind_some]
          rw [ex]; simp only [Option.bind_some]
          rw [ez]; rfl
        have u50 := fun (h : x5.toInt < a2.toInt) => i_add (a := x5) (b := 1) (by omega) (by omega)
        have u70 := fun (h : x6.toInt < a3.toInt) => i_add (a := x6) (b := 1) (by omega) (by omega)
        refine wi (fun q2 => ?_) (fun q2 => ?_)
        · have q2 := i_le q2
          have h5 : x5.toInt < a2.toInt := by omega
          obtain ⟨z, ez, Wz, Fz, Rz, Oz, Pz⟩ := t50 h5
          have := u50 h5
          rw [ez]
          exact lInl ⟨rfl, rfl, rfl, rfl, ⟨by dsimp only; omega, by dsimp only; omega, by dsimp only; omega, by dsimp only; omega, by dsimp only; omega⟩, Wz, Fz, Rz, Oz, Pz⟩ (by dsimp only; omega)
        · have q2 := i_nle q2
          have fin70 : ∃ r_1, f_Rows_merge_70 nf a0 a2 a3 a4 x5 x6 x7 c9 = some r_1 ∧ (∀ y, r_1 = .inl y → (a0 = y.1 ∧ a2 = y.2.1 ∧ a3 = y.2.2.1 ∧ a4 = y.2.2.2.1 ∧ (a1.toInt ≤ y.2.2.2.2.1.toInt ∧ y.2.2.2.2.1.toInt ≤ a2.toInt ∧ a2.toInt ≤ y.2.2.2.2.2.1.toInt ∧ y.2.2.2.2.2.1.toInt ≤ a3.toInt ∧ y.2.2.2.2.1.toInt + y.2.2.2.2.2.1.toInt = y.2.2.2.2.2.2.1.toInt + a2.toInt) ∧ Zwt zty G y.2.2.2.2.2.2.2 ∧ Zfr G [(58, 0)] c y.2.2.2.2.2.2.2 ∧ Zro G y.2.2.2.2.2.2.2 a0 r w cl od ot ∧ OrT y.2.2.2.2.2.2.2 od r r.toInt ∧ OrT y.2.2.2.2.2.2.2 ot r y.2.2.2.2.2.2.1.toInt) ∧ (a3.toInt - y.2.2.2.2.2.2.1.toInt).toNat < (a3.toInt - x7.toInt).toNat) ∧ ∀ b, r_1 = .inr b → Zwt zty G b ∧ Zfr G [(58, 0)] c b ∧ Zro G b a0 r w cl od ot ∧ OrT b od r r.toInt ∧ OrT b ot r a3.toInt := by
            obtain ⟨z, ez, Wz, Fz, Rz, Oz, Pz⟩ := t70 q2
            have := u70 q2
            rw [ez]
            exact lInl ⟨rfl, rfl, rfl, rfl, ⟨by dsimp only; omega, by dsimp only; omega, by dsimp only; omega, by dsimp only; omega, by dsimp only; omega⟩, Wz, Fz, Rz, Oz, Pz⟩ (by dsimp only; omega)
          refine wi (fun q3 => ?_) (fun q3 => ?_)
          · exact fin70
          · have q3 := i_nle q3
            obtain ⟨x, ex, _⟩ := wt_di W9 t2 rfl (i := x5) (by omega) (by omega)
            obtain ⟨y, ey, _⟩ := wt_di W9 t2 rfl (i := x6) (by omega) (by omega)
            obtain ⟨g1, g2⟩ := O9 x5 (by omega) (by omega) x ex
            obtain ⟨g3, g4⟩ := O9 x6 (by omega) (by omega) y ey
            obtain ⟨vs, ev⟩ := wt_ob W9 h0 hT
            obtain ⟨m, em⟩ := p_Rows_compare (nf := nf) (a3 := a4) hn W9 R9' g1 g2 g3 g4
            refine wb e3 (wb ex (wb e3 (wb ey (wb ev (wb em ?_)))))
            refine wi (fun _ => ?_) (fun _ => ?_)
            · exact fin70
            · obtain ⟨z, ez, Wz, Fz, Rz, Oz, Pz⟩ := t50 q3
              have := u50 q3
              dsimp only
              rw [ez]
              exact lInl ⟨rfl, rfl, rfl, rfl, ⟨by dsimp only; omega, by dsimp only; omega, by dsimp only; omega, by dsimp only; omega, by dsimp only; omega⟩, Wz, Fz, Rz, Oz, Pz⟩ (by dsimp only; omega)
    · exact ⟨rfl, rfl, rfl, rfl, ⟨Int.le_refl _, h2, Int.le_refl _, h3, rfl⟩, W, Zfr.rf, R, O, P⟩
    · dsimp only; omega
  obtain ⟨b9, eb, hb⟩ := L
  unfold f_Rows_merge f_Rows_merge_9
  exact wb eb ⟨_, rfl, hb⟩
end
end ZzT
