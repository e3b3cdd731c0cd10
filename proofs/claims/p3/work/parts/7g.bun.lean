section ZzT
theorem kni {x : Int32} (h : x.toInt = -1 ∨ (0 ≤ x.toInt ∧ x.toInt ≤ 7) ∨ (100 ≤ x.toInt ∧ x.toInt ≤ 107)) : kn x := h
theorem two_i {v : Int32} (h : (4 ≤ v.toInt ∧ v.toInt ≤ 6) ∨ (10 ≤ v.toInt ∧ v.toInt ≤ 17)) : twoC v := h
section
variable {G : List Nat} {M : List (Nat × Nat)} {c c' q : Zc} {m k s0 : Nat} {δ τ ε π μ j e : Int} {n n' : Int32}
theorem Sc_mk {f f' t t' d d' : Int32} (ef : zgi c m 12 19 = some f) (ef' : zgi c' m 12 19 = some f') (et : zgi c m 12 18 = some t) (et' : zgi c' m 12 18 = some t') (ed : zgi c m 12 53 = some d) (ed' : zgi c' m 12 53 = some d') (h : ¬ f'.toInt = 0 ∨ (f.toInt = 0 ∧ t.toInt + j ≤ t'.toInt ∧ d.toInt + e ≤ d'.toInt)) : Sc c c' m j e := by
  intro hf
  rw [vfi_e ef'] at hf
  rw [vfi_e ef, vfi_e et, vfi_e et', vfi_e ed, vfi_e ed']
  exact h.resolve_left (fun z => z hf)
theorem WyN_m (h : WyN c m n) (e : n'.toInt ≤ n.toInt) : WyN c m n' := fun hf w hw hl => h hf w hw (by omega)
theorem TbI_m (h : TbI c m n) (e : n'.toInt ≤ n.toInt) : TbI c m n' := fun hf w hw hl => h hf w hw (by omega)
theorem PB_s0 (h : PB c m s0 k δ τ ε π μ) (F : Zfr G M c c') (t : G[m]? = some 64) (W : Zwt zty G c) (hM : ∀ x ∈ PBV, x ∉ M) (hs : Sc c c' m 0 0) : PB c' m s0 k δ τ ε π μ := PB_m (PB_sc h F t W hM hs (by omega)) (by omega) (by omega) (by omega) (by omega)
theorem PB_push {v a fv : Int32} (h : PB c m s0 k δ τ ε π μ) (F : Zfr G M_Mo_code c q) (t : G[m]? = some 64) (W : Zwt zty G c) (w : CdW c q m v a) (ef : zgi c m 12 19 = some fv) (hv : ¬ fv.toInt = 0 ∨ (v.toInt = 0 ∨ (v.toInt = 1 ∧ 0 ≤ a.toInt ∧ a.toInt ≤ 7) ∨ (v.toInt = 2 ∧ 0 ≤ a.toInt ∧ a.toInt ≤ 7) ∨ (v.toInt = 3 ∧ 0 ≤ a.toInt ∧ a.toInt ≤ 31) ∨ (v.toInt = 19 ∧ 1 ≤ a.toInt ∧ a.toInt ≤ 79))) : PB q m s0 k (δ + 1) (τ - 1) ε π μ := by
  rcases hv with z | z
  · intro hf
    rw [vfi_fr F t (by decide), vfi_e ef] at hf
    exact absurd hf z
  · exact PB_cd h F t W w (.inl ⟨z, rfl⟩)
theorem PB_one {v a : Int32} (h : PB c m s0 k δ τ ε π μ) (F : Zfr G M_Mo_code c q) (t : G[m]? = some 64) (W : Zwt zty G c) (w : CdW c q m v a) (hv : v.toInt = 7 ∨ v.toInt = 18) (hd : 1 ≤ δ) : PB q m s0 k δ (τ - 1) ε π μ := PB_cd h F t W w (.inr (.inl ⟨hv, hd, rfl⟩))
theorem PB_two {v a : Int32} (h : PB c m s0 k δ τ ε π μ) (F : Zfr G M_Mo_code c q) (t : G[m]? = some 64) (W : Zwt zty G c) (w : CdW c q m v a) (hv : twoC v) (hd : 2 ≤ δ) : PB q m s0 k (δ - 1) (τ - 1) ε π μ := PB_cd h F t W w (.inr (.inr ⟨hv, hd, rfl⟩))
end

def ZSf (G : List Nat) (c : Zc) (m : Nat) (fv : Int32) : Prop := ∃ f2 : Int32, zgi c m 12 19 = some f2 ∧ 1 ≤ f2.toInt ∧ f2.toInt ≤ 6
def ZSc (G : List Nat) (c : Zc) (m : Nat) (fv : Int32) (r : Int32) : Prop := ∃ f2 : Int32, zgi c m 12 19 = some f2 ∧ 0 ≤ f2.toInt ∧ f2.toInt ≤ 6 ∧ (¬ f2.toInt = 0 ∨ fv.toInt = 0) ∧ (r.toInt = 1 ∨ f2.toInt = fv.toInt)
def ZSt (G : List Nat) (c : Zc) (m : Nat) (fv : Int32) (tv : Int32) : Prop := ∃ f2 : Int32, zgi c m 12 19 = some f2 ∧ 0 ≤ f2.toInt ∧ f2.toInt ≤ 6 ∧ (¬ f2.toInt = 0 ∨ (fv.toInt = 0 ∧ tv.toInt < 200))
def ZS (G : List Nat) (c : Zc) (m : Nat) (fv : Int32) (tv : Int32) (j : Int32) : Prop := ∃ f2 : Int32, ∃ t2 : Int32, zgi c m 12 19 = some f2 ∧ zgi c m 12 18 = some t2 ∧ 0 ≤ f2.toInt ∧ f2.toInt ≤ 6 ∧ 0 ≤ t2.toInt ∧ t2.toInt ≤ 200 ∧ tv.toInt ≤ t2.toInt ∧ (¬ f2.toInt = 0 ∨ (fv.toInt = 0 ∧ tv.toInt + j.toInt ≤ t2.toInt))
def ZSk (G : List Nat) (c : Zc) (m : Nat) (fv : Int32) (tv : Int32) (r : Int32) : Prop := ∃ f2 : Int32, ∃ t2 : Int32, zgi c m 12 19 = some f2 ∧ zgi c m 12 18 = some t2 ∧ 0 ≤ f2.toInt ∧ f2.toInt ≤ 6 ∧ 0 ≤ t2.toInt ∧ t2.toInt ≤ 200 ∧ tv.toInt ≤ t2.toInt ∧ (¬ f2.toInt = 0 ∨ (fv.toInt = 0 ∧ tv.toInt + r.toInt ≤ t2.toInt)) ∧ (r.toInt = 0 ∨ f2.toInt = 0)
def ZSw (G : List Nat) (c : Zc) (m : Nat) (fv : Int32) (dv : Int32) : Prop := ∃ f2 : Int32, ∃ d2 : Int32, zgi c m 12 19 = some f2 ∧ zgi c m 12 53 = some d2 ∧ 0 ≤ f2.toInt ∧ f2.toInt ≤ 6 ∧ 0 ≤ d2.toInt ∧ d2.toInt ≤ 11 ∧ d2.toInt = dv.toInt + 1 ∧ (¬ f2.toInt = 0 ∨ (fv.toInt = 0 ∧ d2.toInt ≤ 10))
def Zkd (G : List Nat) (c : Zc) (m : Nat) (tv : Int32) (r : Int32) : Prop := ∃ kk : Nat, zgr c m 12 14 = some kk ∧ zai c kk 0 tv = some r ∧ G[kk]? = some 74
def Zom (G : List Nat) (c : Zc) (m : Nat) (fv : Int32) (vn : Int32) (r : Int32) : Prop := ∃ f2 : Int32, ∃ v2 : Int32, zgi c m 12 19 = some f2 ∧ zgi c m 12 57 = some v2 ∧ 0 ≤ f2.toInt ∧ f2.toInt ≤ 6 ∧ v2.toInt = vn.toInt + 1 ∧ v2.toInt ≤ 9 ∧ (¬ f2.toInt = 0 ∨ (fv.toInt = 0 ∧ v2.toInt ≤ 8)) ∧ (r.toInt = 0 ∨ f2.toInt = 0)
def Zns (G : List Nat) (c : Zc) (m : Nat) (pv : Int32) (na : Int32) : Prop := ∃ ks : Nat, ∃ n2 : Int32, zgi c m 12 25 = some pv ∧ zgr c m 12 26 = some ks ∧ zai c ks 0 pv = some n2 ∧ G[ks]? = some 79 ∧ n2.toInt = na.toInt + 1
end ZzT
