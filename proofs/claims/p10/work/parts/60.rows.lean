section ZzT
abbrev rwF : List Zf := [tI (rg 0 20000), tI (rg 0 8), tR [57], tR [58], tR [58]]
def zlc (c : Zc) (k : Nat) : Nat := match zgr c k 9 2 with
  | some p => zln c p
  | none => 0
def zlo (c : Zc) (k : Nat) : Nat := match zgr c k 9 3 with
  | some p => zln c p
  | none => 0
/-- rows of values: what their arrays can hold -/
def Zro (G : List Nat) (c : Zc) (k : Nat) (r w : Int32) (cl od ot : Nat) : Prop := (zgi c k 9 0 = some r ∧ zgi c k 9 1 = some w ∧ zgr c k 9 2 = some cl ∧ zgr c k 9 3 = some od ∧ zgr c k 9 4 = some ot) ∧ (G[cl]? = some 57 ∧ G[od]? = some 58 ∧ G[ot]? = some 58) ∧ (0 ≤ r.toInt ∧ r.toInt ≤ 20000 ∧ 0 ≤ w.toInt ∧ w.toInt ≤ 8) ∧ r.toInt * w.toInt ≤ zln c cl ∧ zln c ot = zln c od ∧ od ≠ ot
/-- the first m of an array of places are places of rows -/
def OrT (c : Zc) (od : Nat) (r : Int32) (m : Int) : Prop := ∀ i : Int32, 0 ≤ i.toInt → i.toInt < m → ∀ x, zai c od 0 i = some x → 0 ≤ x.toInt ∧ x.toInt < r.toInt
theorem rw_bd {r w : Int} (h1 : 0 ≤ r) (h2 : r ≤ 20000) (h3 : 0 ≤ w) (h4 : w ≤ 8) : 0 ≤ r * w ∧ r * w ≤ 160000 :=
  ⟨Int.mul_nonneg h1 h3, Int.le_trans (Int.mul_le_mul h2 h4 h3 (by decide)) (by decide)⟩
/-- the place of a value in its row -/
theorem rw_ix {a r w j n : Int} (h1 : 0 ≤ a) (h2 : a < r) (h3 : 0 ≤ j) (h4 : j < w) (h5 : r * w ≤ n) : 0 ≤ a * w + j ∧ a * w + j < n := by
  have h6 : 0 ≤ a * w := Int.mul_nonneg h1 (by omega)
  have h7 : (a + 1) * w ≤ r * w := Int.mul_le_mul_of_nonneg_right (by omega) (by omega)
  rw [Int.add_mul, Int.one_mul] at h7
  omega
theorem rw_i {r w a j : Int32} {n : Nat} (h : 0 ≤ r.toInt ∧ r.toInt ≤ 20000 ∧ 0 ≤ w.toInt ∧ w.toInt ≤ 8) (hn : r.toInt * w.toInt ≤ n) (h1 : 0 ≤ a.toInt) (h2 : a.toInt < r.toInt) (h3 : 0 ≤ j.toInt) (h4 : j.toInt < w.toInt) : 0 ≤ ((a * w) + j).toInt ∧ ((a * w) + j).toInt < n := by
  have b := rw_bd h.1 h.2.1 h.2.2.1 h.2.2.2
  have q := rw_ix (n := r.toInt * w.toInt) h1 h2 h3 h4 (Int.le_refl _)
  have b2 : 0 ≤ a.toInt * w.toInt := Int.mul_nonneg h1 (by omega)
  have e1 := i_mul (a := a) (b := w) (by omega) (by omega)
  have e2 := i_add (a := a * w) (b := j) (by omega) (by omega)
  omega
theorem Zro.fr {G : List Nat} {M : List (Nat × Nat)} {c c' : Zc} {k T : Nat} {r w : Int32} {cl od ot : Nat} (R : Zro G c k r w cl od ot) (F : Zfr G M c c') (h : G[k]? = some T) (hm : (T, 0) ∉ M ∧ (T, 1) ∉ M ∧ (T, 2) ∉ M ∧ (T, 3) ∉ M ∧ (T, 4) ∉ M) : Zro G c' k r w cl od ot := by
  obtain ⟨⟨e0, e1, e2, e3, e4⟩, ⟨t1, t2, t3⟩, b, b5, b6, b7⟩ := R
  refine ⟨⟨(F.gi h hm.1).trans e0, (F.gi h hm.2.1).trans e1, (F.gr h hm.2.2.1).trans e2, (F.gr h hm.2.2.2.1).trans e3, (F.gr h hm.2.2.2.2).trans e4⟩, ⟨t1, t2, t3⟩, b, ?_, ?_, b7⟩
  · rw [(F cl 57 t1).2.2]; exact b5
  · rw [(F ot 58 t3).2.2, (F od 58 t2).2.2]; exact b6
theorem Zro.ex {G G' : List Nat} {c : Zc} {k : Nat} {r w : Int32} {cl od ot : Nat} (R : Zro G c k r w cl od ot) (h : Zex G G') : Zro G' c k r w cl od ot := by
  obtain ⟨e, ⟨t1, t2, t3⟩, b⟩ := R
  exact ⟨e, ⟨h.get t1, h.get t2, h.get t3⟩, b⟩
theorem OrT.fr {G : List Nat} {M : List (Nat × Nat)} {c c' : Zc} {od : Nat} {r : Int32} {m : Int} (h : OrT c od r m) (F : Zfr G M c c') (t : G[od]? = some 58) (hm : (58, 0) ∉ M) : OrT c' od r m := by
  intro i h0 h1 x hx
  rw [F.ai t hm] at hx
  exact h i h0 h1 x hx
theorem OrT.le {c : Zc} {od : Nat} {r : Int32} {m n : Int} (h : OrT c od r m) (hn : n ≤ m) : OrT c od r n := fun i h0 h1 => h i h0 (by omega)
theorem OrT.wo {c c' : Zc} {od ot : Nat} {r i x : Int32} {m : Int} (h : OrT c od r m) (e : zsi c ot 0 i x = some c') (hne : od ≠ ot) : OrT c' od r m := by
  intro j h0 h1 y hy
  rw [zai_wo e hne] at hy
  exact h j h0 h1 y hy
theorem OrT.wx {G : List Nat} {c c' : Zc} {ot : Nat} {r i i2 x : Int32} (h : OrT c ot r i.toInt) (e : zsi c ot 0 i x = some c') (h0 : 0 ≤ x.toInt) (h1 : x.toInt < r.toInt) (h2 : i2.toInt = i.toInt + 1) : OrT c' ot r i2.toInt := by
  obtain ⟨n, f, he, hc, rfl⟩ := zsi_x e
  intro j j0 j1 y hy
  by_cases q : j.toInt < i.toInt
  · rw [zai_wn e j0 q] at hy
    exact h j j0 q y hy
  · have : j = i := Int32.toInt_inj.mp (by omega)
    subst this
    unfold zai at hy
    rw [List.getElem?_set_self (List.getElem?_eq_some_iff.mp he).1] at hy
    simp only [upd, if_true] at hy
    split at hy
    · cases hy
      exact ⟨h0, h1⟩
    · cases hy
section
variable {nf T : Nat} {G : List Nat} {c : Zc} {a0 cl od ot : Nat} {r w : Int32}
theorem p_Rows_clear (hT : zty T = kOb 9 rwF) (W : Zwt zty G c) (h0 : G[a0]? = some T) (R : Zro G c a0 r w cl od ot) {a1 : Int32} (h1 : 0 ≤ a1.toInt) (h2 : a1.toInt ≤ 8) : ∃ q, f_Rows_clear nf a0 a1 c = some q ∧ Zwt zty G q ∧ Zfr G [(T, 0), (T, 1)] c q ∧ Zro G q a0 0 a1 cl od ot := by
  obtain ⟨⟨e0, e1, e2, e3, e4⟩, ⟨t1, t2, t3⟩, b, b5, b6, b7⟩ := R
  have l0 : (0 : Int32).toInt = 0 := by decide
  unfold f_Rows_clear
  obtain ⟨c1, x1, W1, f1, g1⟩ := wt_pi (x := 0) W h0 hT (j := 0) rfl (rgi (by omega) (by omega))
  refine wb x1 ?_
  obtain ⟨c2, x2, W2, f2, g2⟩ := wt_pi (x := a1) W1 h0 hT (j := 1) rfl (rgi (by omega) (by omega))
  refine wb x2 ?_
  have F1 : Zfr G [(T, 0), (T, 1)] c c1 := Zfr.mo f1 (by intro x hx; simp only [List.mem_singleton] at hx; subst hx; simp)
  have F2 : Zfr G [(T, 0), (T, 1)] c c2 := Zfr.tr F1 f2 (by intro x hx; simp only [List.mem_singleton] at hx; subst hx; simp)
  refine ⟨c2, rfl, W2, F2, ⟨(f2.gi h0 (by simp)).trans g1, g2, (F2.gr h0 (by simp)).trans e2, (F2.gr h0 (by simp)).trans e3, (F2.gr h0 (by simp)).trans e4⟩, ⟨t1, t2, t3⟩, ⟨by omega, by omega, h1, h2⟩, ?_, ?_, b7⟩
  · rw [l0, Int.zero_mul]; exact Int.natCast_nonneg _
  · rw [(F2 ot 58 t3).2.2, (F2 od 58 t2).2.2]; exact b6
theorem p_Rows_cell (W : Zwt zty G c) (R : Zro G c a0 r w cl od ot) {a1 a2 : Int32} (h1 : 0 ≤ a1.toInt) (h2 : a1.toInt < r.toInt) (h3 : 0 ≤ a2.toInt) (h4 : a2.toInt < w.toInt) : ∃ x, f_Rows_cell nf a0 a1 a2 c = some (x, c) := by
  obtain ⟨⟨e0, e1, e2, e3, e4⟩, ⟨t1, t2, t3⟩, b, b5, b6, b7⟩ := R
  obtain ⟨i1, i2⟩ := rw_i b b5 h1 h2 h3 h4
  obtain ⟨x, ex, _⟩ := wt_di W t1 rfl i1 i2
  refine ⟨x, ?_⟩
  unfold f_Rows_cell
  rw [e2]; simp only [Option.bind_some]
  rw [e1]; simp only [Option.bind_some]
  rw [ex]; rfl
theorem p_Rows_setCell (W : Zwt zty G c) (R : Zro G c a0 r w cl od ot) {a1 a2 : Int32} (h1 : 1 ≤ r.toInt) (h3 : 0 ≤ a1.toInt) (h4 : a1.toInt < w.toInt) : ∃ q, f_Rows_setCell nf a0 a1 a2 c = some q ∧ Zwt zty G q ∧ Zfr G [(57, 0)] c q := by
  obtain ⟨⟨e0, e1, e2, e3, e4⟩, ⟨t1, t2, t3⟩, b, b5, b6, b7⟩ := R
  have l1 : (1 : Int32).toInt = 1 := by decide
  have hs := i_sub (a := r) (b := 1) (by omega) (by omega)
  obtain ⟨i1, i2⟩ := rw_i (a := r - 1) b b5 (by omega) (by omega) h3 h4
  obtain ⟨q, x, Wq, fq⟩ := wt_ds (x := a2) W t1 rfl i1 i2 trivial
  unfold f_Rows_setCell
  refine wb e2 (wb e0 (wb e1 (wb x ⟨q, rfl, Wq, fq⟩)))
theorem p_Rows_sorted (W : Zwt zty G c) (R : Zro G c a0 r w cl od ot) (hl : r.toInt ≤ zln c od) (O : OrT c od r r.toInt) {a1 : Int32} (h1 : 0 ≤ a1.toInt) (h2 : a1.toInt < r.toInt) : ∃ x, f_Rows_sorted nf a0 a1 c = some (x, c) ∧ 0 ≤ x.toInt ∧ x.toInt < r.toInt := by
  obtain ⟨⟨e0, e1, e2, e3, e4⟩, ⟨t1, t2, t3⟩, b, b5, b6, b7⟩ := R
  obtain ⟨x, ex, _⟩ := wt_di W t2 rfl h1 (by omega)
  refine ⟨x, ?_, O a1 h1 h2 x ex⟩
  unfold f_Rows_sorted
  rw [e3]; simp only [Option.bind_some]
  rw [ex]; rfl
theorem p_Rows_compare (hn : 8589934592 ≤ nf) (W : Zwt zty G c) (R : Zro G c a0 r w cl od ot) {a1 a2 a3 : Int32} (h1 : 0 ≤ a1.toInt) (h2 : a1.toInt < r.toInt) (h3 : 0 ≤ a2.toInt) (h4 : a2.toInt < r.toInt) : ∃ x, f_Rows_compare nf a0 a1 a2 a3 c = some (x, c) := by
  obtain ⟨⟨e0, e1, e2, e3, e4⟩, ⟨t1, t2, t3⟩, b, b5, b6, b7⟩ := R
  have l0 : (0 : Int32).toInt = 0 := by decide
  have l1 : (1 : Int32).toInt = 1 := by decide
  have L : ∃ b, zlp (fun a : Nat × Int32 × Int32 × Int32 × Int32 × Zc => g_Rows_compare_3 nf a.1 a.2.1 a.2.2.1 a.2.2.2.1 a.2.2.2.2.1 a.2.2.2.2.2) nf (a0, a1, a2, a3, 0, c) = some b ∧ (fun b : (Int32 × Int32 × Zc) ⊕ Zc => match b with | .inl b => c = b.2.2 | .inr b => c = b) b := by
    refine wlp (fun a : Nat × Int32 × Int32 × Int32 × Int32 × Zc => a0 = a.1 ∧ a1 = a.2.1 ∧ a2 = a.2.2.1 ∧ a3 = a.2.2.2.1 ∧ c = a.2.2.2.2.2 ∧ 0 ≤ a.2.2.2.2.1.toInt ∧ a.2.2.2.2.1.toInt ≤ 8) (fun a => (8 - a.2.2.2.2.1.toInt).toNat) _ ?_ ?_ ?_
    · rintro ⟨y0, y1, y2, y3, x4, c9⟩ hI
      dsimp only at hI ⊢
      obtain ⟨rfl, rfl, rfl, rfl, rfl, j1, j2⟩ := hI
      unfold g_Rows_compare_3
      refine wb e1 ?_
      refine wi (fun q => ?_) (fun q => ?_)
      · exact lInr rfl
      · have q := i_nle q
        refine wb e2 (wb e1 ?_)
        obtain ⟨i1, i2⟩ := rw_i b b5 h1 h2 j1 q
        obtain ⟨x, ex, _⟩ := wt_di W t1 rfl i1 i2
        refine wb ex (wb e2 (wb e1 ?_))
        obtain ⟨i3, i4⟩ := rw_i b b5 h3 h4 j1 q
        obtain ⟨y, ey, _⟩ := wt_di W t1 rfl i3 i4
        refine wb ey ?_
        have hs := i_add (a := x4) (b := 1) (by omega) (by omega)
        refine wi (fun _ => ?_) (fun _ => ?_)
        · unfold f_Rows_compare_73
          exact lInl ⟨rfl, rfl, rfl, rfl, rfl, by dsimp only; omega, by dsimp only; omega⟩ (by dsimp only; omega)
        · refine wi (fun _ => ?_) (fun _ => ?_)
          · unfold f_Rows_compare_73
            exact lInl ⟨rfl, rfl, rfl, rfl, rfl, by dsimp only; omega, by dsimp only; omega⟩ (by dsimp only; omega)
          · exact lInr rfl
    · exact ⟨rfl, rfl, rfl, rfl, rfl, by dsimp only; omega, by dsimp only; omega⟩
    · dsimp only; omega
  obtain ⟨b9, eb, hb⟩ := L
  unfold f_Rows_compare f_Rows_compare_3
  rw [eb]
  rcases b9 with ⟨y1, y2, c9⟩ | c9
  · dsimp only at hb
    subst hb
    simp only [Option.bind_some, Sum.elim_inl]
    split
    · exact ⟨_, rfl⟩
    · exact ⟨_, rfl⟩
  · dsimp only at hb
    subst hb
    exact ⟨_, rfl⟩
end
end ZzT
