section ZzT
section
variable {G : List Nat} {c q : Zc} {a0 ks k k2 : Nat}
theorem vaf_c {c : Zc} {m j k t n : Nat} {f : Nat → Int32} (e : zgr c m 12 j = some k) (h : c[k]? = some (.inl (t, n, .inl f))) : vaf c m j = f := by
  unfold vaf vpl; rw [e]; exact rdf_e h
theorem k_slots {nf : Nat} (hn : 8589934592 ≤ nf) {K N : Nat} (W : Zwt zty G c) (t : G[a0]? = some 64) (e : zgr c a0 12 22 = some ks) : ∃ q, zlp (fun a : Nat × Int32 × Nat × Nat × Zc => g_Mo_init_602 nf 70 1039190 a.1 a.2.1 a.2.2.1 a.2.2.2.1 a.2.2.2.2) nf (a0, 0, K, N, c) = some (K, N, q) ∧ Zwt zty G q ∧ Zfr G [(77, 0)] c q ∧ Zsm c q ks ∧ q.length = c.length ∧ ∀ i : Nat, i < 8 → (vaf q a0 22 i).toInt = i := by
  have l0 : (0 : Int32).toInt = 0 := by decide
  have l1 : (1 : Int32).toInt = 1 := by decide
  have l8 : (8 : Int32).toInt = 8 := by decide
  have L : ∃ b, zlp (fun a : Nat × Int32 × Nat × Nat × Zc => g_Mo_init_602 nf 70 1039190 a.1 a.2.1 a.2.2.1 a.2.2.2.1 a.2.2.2.2) nf (a0, 0, K, N, c) = some b ∧ (fun b : Nat × Nat × Zc => b.1 = K ∧ b.2.1 = N ∧ Zwt zty G b.2.2 ∧ Zfr G [(77, 0)] c b.2.2 ∧ Zsm c b.2.2 ks ∧ b.2.2.length = c.length ∧ ∀ i : Nat, i < 8 → (vaf b.2.2 a0 22 i).toInt = i) b := by
    refine wlp (fun a : Nat × Int32 × Nat × Nat × Zc => (a0, K, N) = (a.1, a.2.2.1, a.2.2.2.1) ∧ (0 ≤ a.2.1.toInt ∧ a.2.1.toInt ≤ 8) ∧ Zwt zty G a.2.2.2.2 ∧ Zfr G [(77, 0)] c a.2.2.2.2 ∧ Zsm c a.2.2.2.2 ks ∧ a.2.2.2.2.length = c.length ∧ ∀ i : Nat, (i : Int) < a.2.1.toInt → (vaf a.2.2.2.2 a0 22 i).toInt = i) (fun a => (8 - a.2.1.toInt).toNat) _ ?_ ?_ ?_
    · rintro ⟨y0, x1, y2, y3, c9⟩ hI
      dsimp only at hI ⊢
      obtain ⟨hq, ⟨j1, j2⟩, W9, F9, S9, m9, C9⟩ := hI
      cases hq
      unfold g_Mo_init_602
      refine wi (fun h => ?_) (fun h => ?_)
      · have h := i_le h
        exact lInr ⟨rfl, rfl, W9, F9, S9, m9, fun i hi => C9 i (by omega)⟩
      · have h := i_nle h
        have hs := i_add (a := x1) (b := 1) (by omega) (by omega)
        have e9 := (Zfr.gr (ci := 12) F9 t (show (64, 22) ∉ [(77, 0)] by decide)).trans e
        refine wb e9 ?_
        obtain ⟨k', ek', tk⟩ := gf_64_22 W9 t
        rw [e9] at ek'; cases ek'
        obtain ⟨z, ez, Wz, fz, gz⟩ := pa_77 W9 tk (i := x1) (by omega) (by omega) (x := x1) (rgi (by omega) (by omega))
        refine wb ez ?_
        obtain ⟨n, f, e1, e2, e3⟩ := zsi_x ez
        refine lInl ⟨rfl, ⟨by dsimp only; omega, by dsimp only; omega⟩, Wz, Zfr.tr F9 fz (by decide), Zsm.tr S9 ⟨by rw [e3, List.length_set]; exact Nat.le_refl _, fun k2 _ hk2 => by rw [e3, List.getElem?_set_ne (Ne.symm hk2)]⟩, by dsimp only; rw [e3, List.length_set]; exact m9, fun i hi => ?_⟩ (by dsimp only; omega)
        dsimp only at hi ⊢
        rw [(vaf_w e9 ez).1]
        by_cases y : i = x1.toInt.toNat
        · subst y; rw [upd_s]; omega
        · rw [upd_n y]; exact C9 i (by omega)
    · exact ⟨rfl, ⟨by dsimp only; omega, by dsimp only; omega⟩, W, Zfr.rf, Zsm.rf, rfl, fun i hi => by dsimp only at hi; omega⟩
    · dsimp only; omega
  obtain ⟨⟨kk, nn, q⟩, eb, hb⟩ := L
  dsimp only at hb
  obtain ⟨rfl, rfl, hb⟩ := hb
  exact ⟨q, eb, hb⟩
theorem GtW_0 {q : Zc} (W : Zwt zty G c) (t : G[a0]? = some 64) (F : Zfr G [(77, 0)] c q) (hs : ∀ i : Nat, i < 8 → (vaf q a0 22 i).toInt = i) (e23 : zgr c a0 12 23 = some k) (h23 : c[k]? = some (.inl (6, 8, .inl (fun _ => 0)))) (e24 : zgi c a0 12 24 = some 8) : GtW q a0 := by
  have a23 : vaf q a0 23 = fun _ => 0 := by rw [vaf_fr F t (gf_64_23 W t) (by decide) (by decide), vaf_c e23 h23]
  have a24 : vfi q a0 24 = 8 := by rw [vfi_fr F t (by decide), vfi_e e24]; decide
  refine ⟨fun k hk h => absurd (by rw [a23]; exact (by decide : (0 : Int32).toInt = 0)) h, fun k hk => ?_, fun i j hi hj hij => ?_⟩
  · have := hs k hk
    rw [a24]
    intro z
    have : (8 : Int).toNat = 8 := rfl
    omega
  · have h1 := hs i hi
    have h2 := hs j hj
    omega
theorem TkN_0 (e14 : zgr c a0 12 14 = some k) (h14 : c[k]? = some (.inl (0, 1502, .inl (fun _ => 0)))) (e15 : zgr c a0 12 15 = some k2) (h15 : c[k2]? = some (.inl (0, 1502, .inl (fun _ => 0)))) : TkN c a0 := by
  refine TkN_mk e14 e15 (fun i x y hx hy => ?_)
  obtain ⟨_, _, rfl⟩ := rd_x h14 hx
  have l0 : (0 : Int32).toInt = 0 := by decide
  exact tkri (by omega) (by omega) (by omega) (by omega) (by omega)
theorem AcN_0 (e3 : zgr c a0 12 3 = some k) (h3 : c[k]? = some (.inl (6, 100, .inl (fun _ => 0)))) : AcN c a0 0 := by
  unfold AcN
  rw [vaf_c e3 h3, cn_all (fun i _ => rfl)]
  decide
end
end ZzT
