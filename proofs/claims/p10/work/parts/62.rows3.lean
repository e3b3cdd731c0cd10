section ZzT
section
variable {nf T : Nat} {G : List Nat} {c : Zc} {a0 cl od ot : Nat} {r w : Int32}
/-- the ways in order: what is at the first places of one array are places of rows -/
theorem p_Rows_sort_41 (hn : 8589934592 ≤ nf) (hT : zty T = kOb 9 rwF) (hT2 : T ≠ 58) (W : Zwt zty G c) (h0 : G[a0]? = some T) (R : Zro G c a0 r w cl od ot) (hl : r.toInt ≤ zln c od) {a1 : Int32} {kk nn : Nat} : ∃ q, f_Rows_sort_41 nf a0 a1 kk nn c = some (kk, nn, q) ∧ Zwt zty G q ∧ Zfr G [(T, 3), (T, 4), (58, 0)] c q ∧ ∃ od' ot', Zro G q a0 r w cl od' ot' ∧ zln q od' = zln c od ∧ OrT q od' r r.toInt := by
  have l0 : (0 : Int32).toInt = 0 := by decide
  have l1 : (1 : Int32).toInt = 1 := by decide
  have l2 : (2 : Int32).toInt = 2 := by decide
  have bb := R.2.2.1
  -- the order begins as it is
  have L1 : ∃ b, zlp (fun a : Nat × Int32 × Int32 × Nat × Nat × Zc => g_Rows_sort_43 nf a.1 a.2.1 a.2.2.1 a.2.2.2.1 a.2.2.2.2.1 a.2.2.2.2.2) nf (a0, a1, 0, kk, nn, c) = some b ∧ (fun b : Nat × Int32 × Nat × Nat × Zc => a0 = b.1 ∧ a1 = b.2.1 ∧ kk = b.2.2.1 ∧ nn = b.2.2.2.1 ∧ Zwt zty G b.2.2.2.2 ∧ Zfr G [(58, 0)] c b.2.2.2.2 ∧ Zro G b.2.2.2.2 a0 r w cl od ot ∧ OrT b.2.2.2.2 od r r.toInt) b := by
    refine wlp (fun a : Nat × Int32 × Int32 × Nat × Nat × Zc => a0 = a.1 ∧ a1 = a.2.1 ∧ kk = a.2.2.2.1 ∧ nn = a.2.2.2.2.1 ∧ (0 ≤ a.2.2.1.toInt ∧ a.2.2.1.toInt ≤ 20000) ∧ Zwt zty G a.2.2.2.2.2 ∧ Zfr G [(58, 0)] c a.2.2.2.2.2 ∧ Zro G a.2.2.2.2.2 a0 r w cl od ot ∧ OrT a.2.2.2.2.2 od r a.2.2.1.toInt) (fun a => (20000 - a.2.2.1.toInt).toNat) _ ?_ ?_ ?_
    · rintro ⟨y0, y1, x2, y3, y4, c9⟩ hI
      dsimp only at hI ⊢
      obtain ⟨rfl, rfl, rfl, rfl, ⟨j1, j2⟩, W9, F9, R9, O9⟩ := hI
      have R9' := R9
      obtain ⟨⟨e0, e1, e2, e3, e4⟩, ⟨t1, t2, t3⟩, b, b5, b6, b7⟩ := R9
      have hl9 : r.toInt ≤ zln c9 od := by rw [(F9 od 58 t2).2.2]; exact hl
      unfold g_Rows_sort_43
      refine wb e0 ?_
      refine wi (fun q => ?_) (fun q => ?_)
      · have q := i_le q
        exact lInr ⟨rfl, rfl, rfl, rfl, W9, F9, R9', O9.le (by omega)⟩
      · have q := i_nle q
        have hs := i_add (a := x2) (b := 1) (by omega) (by omega)
        obtain ⟨z, ez, Wz, fz⟩ := wt_ds (x := x2) W9 t2 rfl (i := x2) (by omega) (by omega) trivial
        refine wb e3 (wb ez ?_)
        exact lInl ⟨rfl, rfl, rfl, rfl, ⟨by dsimp only; omega, by dsimp only; omega⟩, Wz, Zfr.tr F9 fz (by simp), R9'.fr fz h0 (nm58 hT2), OrT.wx (G := G) O9 ez j1 q hs⟩ (by dsimp only; omega)
    · exact ⟨rfl, rfl, rfl, rfl, ⟨by dsimp only; omega, by dsimp only; omega⟩, W, Zfr.rf, R, fun i i0 i1 => by dsimp only at i1; omega⟩
    · dsimp only; omega
  -- runs of twice the length, till one run has all
  have L2 : ∀ c1, Zwt zty G c1 → Zfr G [(T, 3), (T, 4), (58, 0)] c c1 → Zro G c1 a0 r w cl od ot → OrT c1 od r r.toInt → ∃ b, zlp (fun a : Nat × Int32 × Int32 × Nat × Nat × Zc => g_Rows_sort_66 nf a.1 a.2.1 a.2.2.1 a.2.2.2.1 a.2.2.2.2.1 a.2.2.2.2.2) nf (a0, a1, 1, kk, nn, c1) = some b ∧ (fun b : Nat × Nat × Zc => kk = b.1 ∧ nn = b.2.1 ∧ Zwt zty G b.2.2 ∧ Zfr G [(T, 3), (T, 4), (58, 0)] c b.2.2 ∧ ∃ od' ot', Zro G b.2.2 a0 r w cl od' ot' ∧ zln b.2.2 od' = zln c od ∧ OrT b.2.2 od' r r.toInt) b := by
    intro c1 W1 F1 R1 O1
    refine wlp (fun a : Nat × Int32 × Int32 × Nat × Nat × Zc => a0 = a.1 ∧ a1 = a.2.1 ∧ kk = a.2.2.2.1 ∧ nn = a.2.2.2.2.1 ∧ (1 ≤ a.2.2.1.toInt ∧ a.2.2.1.toInt ≤ 40000) ∧ Zwt zty G a.2.2.2.2.2 ∧ Zfr G [(T, 3), (T, 4), (58, 0)] c a.2.2.2.2.2 ∧ ∃ od' ot', Zro G a.2.2.2.2.2 a0 r w cl od' ot' ∧ zln a.2.2.2.2.2 od' = zln c od ∧ OrT a.2.2.2.2.2 od' r r.toInt) (fun a => (40000 - a.2.2.1.toInt).toNat) _ ?_ ?_ ?_
    · rintro ⟨y0, y1, x2, y3, y4, c9⟩ hI
      dsimp only at hI ⊢
      obtain ⟨rfl, rfl, rfl, rfl, ⟨j1, j2⟩, W9, F9, od1, ot1, R9, hz9, O9⟩ := hI
      have R9' := R9
      obtain ⟨⟨e0, e1, e2, e3, e4⟩, ⟨t1, t2, t3⟩, b, b5, b6, b7⟩ := R9
      unfold g_Rows_sort_66
      refine wb e0 ?_
      refine wi (fun q => ?_) (fun q => ?_)
      · exact lInr ⟨rfl, rfl, W9, F9, od1, ot1, R9', hz9, O9⟩
      · have q := i_nle q
        have s2 := i_mull (a := 2) (b := x2) l2 (by omega) (by omega)
        have s3 := i_mulr (a := x2) (b := 2) l2 (by omega) (by omega)
        have L3 : ∃ b, zlp (fun a : Nat × Int32 × Int32 × Int32 × Nat × Nat × Zc => g_Rows_sort_76 nf a.1 a.2.1 a.2.2.1 a.2.2.2.1 a.2.2.2.2.1 a.2.2.2.2.2.1 a.2.2.2.2.2.2) nf (a0, a1, x2, 0, kk, nn, c9) = some b ∧ (fun b : Nat × Int32 × Int32 × Nat × Nat × Zc => a0 = b.1 ∧ a1 = b.2.1 ∧ x2 = b.2.2.1 ∧ kk = b.2.2.2.1 ∧ nn = b.2.2.2.2.1 ∧ Zwt zty G b.2.2.2.2.2 ∧ Zfr G [(58, 0)] c9 b.2.2.2.2.2 ∧ Zro G b.2.2.2.2.2 a0 r w cl od1 ot1 ∧ OrT b.2.2.2.2.2 ot1 r r.toInt) b := by
          refine wlp (fun a : Nat × Int32 × Int32 × Int32 × Nat × Nat × Zc => a0 = a.1 ∧ a1 = a.2.1 ∧ x2 = a.2.2.1 ∧ kk = a.2.2.2.2.1 ∧ nn = a.2.2.2.2.2.1 ∧ (0 ≤ a.2.2.2.1.toInt ∧ a.2.2.2.1.toInt ≤ 100000) ∧ Zwt zty G a.2.2.2.2.2.2 ∧ Zfr G [(58, 0)] c9 a.2.2.2.2.2.2 ∧ Zro G a.2.2.2.2.2.2 a0 r w cl od1 ot1 ∧ OrT a.2.2.2.2.2.2 od1 r r.toInt ∧ ∀ m : Int, m ≤ a.2.2.2.1.toInt → m ≤ r.toInt → OrT a.2.2.2.2.2.2 ot1 r m) (fun a => (100000 - a.2.2.2.1.toInt).toNat) _ ?_ ?_ ?_
          · rintro ⟨y0, y1, y2, x3, y3, y4, c8⟩ hI
            dsimp only at hI ⊢
            obtain ⟨rfl, rfl, rfl, rfl, rfl, ⟨g1, g2⟩, W8, F8, R8, O8, P8⟩ := hI
            have hl8 : r.toInt ≤ zln c8 od1 := by rw [(F8 od1 58 t2).2.2, hz9]; exact hl
            have e08 := R8.1.1
            unfold g_Rows_sort_76
            refine wb e08 ?_
            refine wi (fun q2 => ?_) (fun q2 => ?_)
            · have q2 := i_le q2
              exact lInr ⟨rfl, rfl, rfl, rfl, rfl, W8, F8, R8, P8 _ q2 (Int.le_refl _)⟩
            · have q2 := i_nle q2
              have s4 := i_add (a := x3) (b := x2) (by omega) (by omega)
              have s5 := i_add (a := x3) (b := 2 * x2) (by omega) (by omega)
              obtain ⟨m1, em1, hm1⟩ := m_min (nf := nf) (c := c8) (a := x3 + x2) (b := r)
              obtain ⟨m2, em2, hm2⟩ := m_min (nf := nf) (c := c8) (a := x3 + 2 * x2) (b := r)
              have k1 : (m1.toInt = x3.toInt + x2.toInt ∧ x3.toInt + x2.toInt ≤ r.toInt) ∨ (m1.toInt = r.toInt ∧ r.toInt < x3.toInt + x2.toInt) := by
                rcases hm1 with ⟨h1, h2⟩ | ⟨h1, h2⟩
                · left; rw [h1]; omega
                · right; rw [h1]; omega
              have k2 : (m2.toInt = x3.toInt + 2 * x2.toInt ∧ x3.toInt + 2 * x2.toInt ≤ r.toInt) ∨ (m2.toInt = r.toInt ∧ r.toInt < x3.toInt + 2 * x2.toInt) := by
                rcases hm2 with ⟨h1, h2⟩ | ⟨h1, h2⟩
                · left; rw [h1]; omega
                · right; rw [h1]; omega
              obtain ⟨vs, ev⟩ := wt_ob W8 h0 hT
              obtain ⟨z, ez, Wz, fz, Rz, Oz, Pz⟩ := p_Rows_merge (a1 := x3) (a2 := m1) (a3 := m2) (a4 := a1) hn hT hT2 W8 h0 R8 hl8 O8 g1 (by omega) (by omega) (by omega) (P8 _ (Int.le_refl _) (by omega))
              refine wb e08 (wb em1 (wb e08 (wb em2 (wb ev (wb ez ?_)))))
              exact lInl ⟨rfl, rfl, rfl, rfl, rfl, ⟨by dsimp only; omega, by dsimp only; omega⟩, Wz, Zfr.tr F8 fz (by simp), Rz, Oz, fun m h1 h2 => Pz.le (by dsimp only at h1; omega)⟩ (by dsimp only; omega)
          · exact ⟨rfl, rfl, rfl, rfl, rfl, ⟨by dsimp only; omega, by dsimp only; omega⟩, W9, Zfr.rf, R9', O9, fun m h1 h2 i i0 i1 => by dsimp only at h1; omega⟩
          · dsimp only; omega
        obtain ⟨⟨y0, y1, y2, y3, y4, c8⟩, eb, hb⟩ := L3
        dsimp only at hb
        obtain ⟨rfl, rfl, rfl, rfl, rfl, W8, F8, R8, P8⟩ := hb
        obtain ⟨⟨d0, d1, d2, d3, d4⟩, ⟨s1', s2', s3'⟩, d, d5, d6, d7⟩ := R8
        obtain ⟨z1, ez1, Wz1, fz1, gz1⟩ := wt_pr (x := ot1) W8 h0 hT (j := 3) rfl s3' (by simp)
        obtain ⟨z2, ez2, Wz2, fz2, gz2⟩ := wt_pr (x := od1) Wz1 h0 hT (j := 4) rfl s2' (by simp)
        have K1 : Zfr G [(T, 3), (T, 4), (58, 0)] c c8 := Zfr.tr F9 F8 (by simp)
        have K2 : Zfr G [(T, 3), (T, 4), (58, 0)] c z1 := Zfr.tr K1 fz1 (by simp)
        have K3 : Zfr G [(T, 3), (T, 4), (58, 0)] c z2 := Zfr.tr K2 fz2 (by simp)
        have f12 : Zfr G [(T, 3), (T, 4)] c8 z2 := Zfr.tr (Zfr.mo fz1 (by simp)) fz2 (by simp)
        have hzo : zln z2 ot1 = zln c8 ot1 := (f12 ot1 58 s3').2.2
        have hzd : zln z2 od1 = zln c8 od1 := (f12 od1 58 s2').2.2
        have hzc : zln z2 cl = zln c8 cl := (f12 cl 57 s1').2.2
        unfold f_Rows_sort_76
        refine wb eb (wb d3 (wb ((fz1.gr h0 (by simp)).trans d4 |> fun _ => d4) (wb ez1 (wb ez2 ?_))))
        refine lInl ⟨rfl, rfl, rfl, rfl, ⟨by dsimp only; omega, by dsimp only; omega⟩, Wz2, K3, ot1, od1, ⟨⟨(f12.gi h0 (by simp)).trans d0, (f12.gi h0 (by simp)).trans d1, (f12.gr h0 (by simp)).trans d2, (fz2.gr h0 (by simp)).trans gz1, gz2⟩, ⟨s1', s3', s2'⟩, d, ?_, ?_, Ne.symm d7⟩, ?_, P8.fr f12 s3' (by simp [Ne.symm hT2])⟩ (by dsimp only; omega)
        · rw [hzc]; exact d5
        · rw [hzo, hzd]; exact d6.symm
        · rw [hzo, d6, (F8 od1 58 t2).2.2]; exact hz9
    · exact ⟨rfl, rfl, rfl, rfl, ⟨by dsimp only; omega, by dsimp only; omega⟩, W1, F1, od, ot, R1, (F1 od 58 R.2.1.2.1).2.2, O1⟩
    · dsimp only; omega
  obtain ⟨⟨y0, y1, y2, y3, c1⟩, eb, hb⟩ := L1
  dsimp only at hb
  obtain ⟨rfl, rfl, rfl, rfl, W1, F1, R1, O1⟩ := hb
  obtain ⟨⟨y2, y3, c2⟩, eb2, hb2⟩ := L2 c1 W1 (Zfr.mo F1 (by simp)) R1 O1
  dsimp only at hb2
  obtain ⟨rfl, rfl, W2, F2, od2, ot2, R2, hz2, O2⟩ := hb2
  refine ⟨c2, ?_, W2, F2, od2, ot2, R2, hz2, O2⟩
  unfold f_Rows_sort_41 f_Rows_sort_43
  rw [eb]
  simp only [Option.bind_some]
  unfold f_Rows_sort_66
  rw [eb2]
  rfl
end
end ZzT
