section ZzT
/-- typed cells: what a field may hold, what a place is -/
abbrev Zf : Type := (Int32 → Prop) ⊕ Unit ⊕ List Nat
abbrev tI (P : Int32 → Prop) : Zf := .inl P
abbrev tL : Zf := .inr (.inl ())
abbrev tR (S : List Nat) : Zf := .inr (.inr S)
abbrev Zt : Type := Unit ⊕ (Nat × List Zf) ⊕ (Nat × Nat × (Int32 → Prop)) ⊕ (Nat × (Nat → Prop) × (Int32 → Prop)) ⊕ (Nat × Nat) ⊕ (Nat × Nat × List Nat)
abbrev kRaw : Zt := .inl ()
abbrev kOb (ci : Nat) (fs : List Zf) : Zt := .inr (.inl (ci, fs))
abbrev kAi (t n : Nat) (P : Int32 → Prop) : Zt := .inr (.inr (.inl (t, n, P)))
abbrev kAd (t : Nat) (N : Nat → Prop) (P : Int32 → Prop) : Zt := .inr (.inr (.inr (.inl (t, N, P))))
abbrev kAl (t n : Nat) : Zt := .inr (.inr (.inr (.inr (.inl (t, n)))))
abbrev kAr (t n : Nat) (S : List Nat) : Zt := .inr (.inr (.inr (.inr (.inr (t, n, S)))))
def rg (lo hi : Int) (x : Int32) : Prop := lo ≤ x.toInt ∧ x.toInt ≤ hi
def an (_ : Int32) : Prop := True
def Zcv (G : List Nat) (f : Zf) (v : Value) : Prop := match f with
  | .inl P => ∃ x, v = .int x ∧ P x
  | .inr (.inl _) => ∃ x, v = .long x
  | .inr (.inr S) => ∃ (k T : Nat), v = .ref k ∧ G[k]? = some T ∧ T ∈ S
def Zco (G : List Nat) (T : Zt) (e : va_E) : Prop := match T with
  | .inl _ => True
  | .inr (.inl (ci, fs)) => ∃ vs, e = .inr (ci, vs) ∧ vs.length = fs.length ∧ ∀ (j : Nat) (f : Zf), fs[j]? = some f → ∃ v, vs[j]? = some v ∧ Zcv G f v
  | .inr (.inr (.inl (t, n, P))) => ∃ f, e = .inl (t, n, .inl f) ∧ ∀ i, i < n → P (f i)
  | .inr (.inr (.inr (.inl (t, N, P)))) => ∃ n f, e = .inl (t, n, .inl f) ∧ N n ∧ ∀ i, i < n → P (f i)
  | .inr (.inr (.inr (.inr (.inl (t, n))))) => ∃ f, e = .inl (t, n, .inr (.inl f))
  | .inr (.inr (.inr (.inr (.inr (t, n, S))))) => ∃ f, e = .inl (t, n, .inr (.inr (.inr (.inr f)))) ∧ ∀ i, i < n → ∃ (k T : Nat), f i = some k ∧ G[k]? = some T ∧ T ∈ S
def Zwt (zy : Nat → Zt) (G : List Nat) (c : Zc) : Prop := G.length = c.length ∧ ∀ (k T : Nat), G[k]? = some T → ∃ e, c[k]? = some e ∧ Zco G (zy T) e
def zrr (c : Zc) (k : Nat) : Option (ClassId × vp_A) := match c[k]? with
  | some (.inl a) => some a
  | _ => none
/-- the length of the array at a place -/
def zln (c : Zc) (k : Nat) : Nat := match zrr c k with
  | some (_, n, _) => n
  | none => 0
/-- what a step leaves: fields and arrays of types outside M, and every array's length -/
def Zfr (G : List Nat) (M : List (Nat × Nat)) (c c' : Zc) : Prop := ∀ (k T : Nat), G[k]? = some T → (∀ ci j, (T, j) ∉ M → zgv c' k ci j = zgv c k ci j) ∧ ((T, 0) ∉ M → zrr c' k = zrr c k) ∧ zln c' k = zln c k
theorem Zfr.rf {G : List Nat} {M : List (Nat × Nat)} {c : Zc} : Zfr G M c c := fun _ _ _ => ⟨fun _ _ _ => rfl, fun _ => rfl, rfl⟩
theorem Zfr.tr {G : List Nat} {M N : List (Nat × Nat)} {c c1 c2 : Zc} (h1 : Zfr G M c c1) (h2 : Zfr G N c1 c2) (hs : ∀ x ∈ N, x ∈ M) : Zfr G M c c2 := fun k T hk => ⟨fun ci j hm => ((h2 k T hk).1 ci j (fun h => hm (hs _ h))).trans ((h1 k T hk).1 ci j hm), fun hm => ((h2 k T hk).2.1 (fun h => hm (hs _ h))).trans ((h1 k T hk).2.1 hm), (h2 k T hk).2.2.trans (h1 k T hk).2.2⟩
theorem Zfr.mo {G : List Nat} {M N : List (Nat × Nat)} {c c2 : Zc} (h2 : Zfr G N c c2) (hs : ∀ x ∈ N, x ∈ M) : Zfr G M c c2 := Zfr.tr Zfr.rf h2 hs
theorem Zfr.gi {G : List Nat} {M : List (Nat × Nat)} {c c' : Zc} {k T ci j : Nat} (h : Zfr G M c c') (hk : G[k]? = some T) (hm : (T, j) ∉ M) : zgi c' k ci j = zgi c k ci j := by
  unfold zgi; rw [(h k T hk).1 ci j hm]
theorem Zfr.gl {G : List Nat} {M : List (Nat × Nat)} {c c' : Zc} {k T ci j : Nat} (h : Zfr G M c c') (hk : G[k]? = some T) (hm : (T, j) ∉ M) : zgl c' k ci j = zgl c k ci j := by
  unfold zgl; rw [(h k T hk).1 ci j hm]
theorem Zfr.gr {G : List Nat} {M : List (Nat × Nat)} {c c' : Zc} {k T ci j : Nat} (h : Zfr G M c c') (hk : G[k]? = some T) (hm : (T, j) ∉ M) : zgr c' k ci j = zgr c k ci j := by
  unfold zgr; rw [(h k T hk).1 ci j hm]
theorem zai_rr (c : Zc) (k t : Nat) (i : Int32) : zai c k t i = match zrr c k with
    | some (t', n, .inl f) => if t' = t ∧ ¬ (i < 0 ∨ n ≤ i.toNatClampNeg) then some (f i.toNatClampNeg) else none
    | _ => none := by
  unfold zai zrr
  cases c[k]? with
  | none => rfl
  | some e =>
    cases e with
    | inl a => obtain ⟨t', n, a⟩ := a; cases a <;> rfl
    | inr a => rfl
theorem zal_rr (c : Zc) (k t : Nat) (i : Int32) : zal c k t i = match zrr c k with
    | some (t', n, .inr (.inl f)) => if t' = t ∧ ¬ (i < 0 ∨ n ≤ i.toNatClampNeg) then some (f i.toNatClampNeg) else none
    | _ => none := by
  unfold zal zrr
  cases c[k]? with
  | none => rfl
  | some e =>
    cases e with
    | inl a => obtain ⟨t', n, a⟩ := a; rcases a with a | a | a <;> rfl
    | inr a => rfl
theorem zar_rr (c : Zc) (k t : Nat) (i : Int32) : zar c k t i = match zrr c k with
    | some (t', n, .inr (.inr (.inr (.inr f)))) => if t' = t ∧ ¬ (i < 0 ∨ n ≤ i.toNatClampNeg) then f i.toNatClampNeg else none
    | _ => none := by
  unfold zar zrr
  cases c[k]? with
  | none => rfl
  | some e =>
    cases e with
    | inl a => obtain ⟨t', n, a⟩ := a; rcases a with a | a | a | a | a <;> rfl
    | inr a => rfl
theorem zlen_rr (c : Zc) (k t : Nat) : zlen c k t = match zrr c k with
    | some (t', n, _) => if t' = t then some (Int32.ofNat n) else none
    | _ => none := by
  unfold zlen zrr
  cases c[k]? with
  | none => rfl
  | some e => cases e <;> rfl
theorem Zfr.ai {G : List Nat} {M : List (Nat × Nat)} {c c' : Zc} {k T t : Nat} {i : Int32} (h : Zfr G M c c') (hk : G[k]? = some T) (hm : (T, 0) ∉ M) : zai c' k t i = zai c k t i := by
  rw [zai_rr, zai_rr, (h k T hk).2.1 hm]
theorem Zfr.al {G : List Nat} {M : List (Nat × Nat)} {c c' : Zc} {k T t : Nat} {i : Int32} (h : Zfr G M c c') (hk : G[k]? = some T) (hm : (T, 0) ∉ M) : zal c' k t i = zal c k t i := by
  rw [zal_rr, zal_rr, (h k T hk).2.1 hm]
theorem Zfr.ar {G : List Nat} {M : List (Nat × Nat)} {c c' : Zc} {k T t : Nat} {i : Int32} (h : Zfr G M c c') (hk : G[k]? = some T) (hm : (T, 0) ∉ M) : zar c' k t i = zar c k t i := by
  rw [zar_rr, zar_rr, (h k T hk).2.1 hm]
-- ints
theorem i_le {a b : Int32} (h : a ≤ b) : a.toInt ≤ b.toInt := Int32.le_iff_toInt_le.mp h
theorem i_lt {a b : Int32} (h : a < b) : a.toInt < b.toInt := Int32.lt_iff_toInt_lt.mp h
theorem i_nle {a b : Int32} (h : ¬ a ≤ b) : b.toInt < a.toInt := Int.not_le.mp (fun q => h (Int32.le_iff_toInt_le.mpr q))
theorem i_nlt {a b : Int32} (h : ¬ a < b) : b.toInt ≤ a.toInt := Int.not_lt.mp (fun q => h (Int32.lt_iff_toInt_lt.mpr q))
theorem i_eq {a b : Int32} (h : a = b) : a.toInt = b.toInt := congrArg _ h
theorem i_ne {a b : Int32} (h : ¬ a = b) : ¬ a.toInt = b.toInt := fun q => h (Int32.toInt_inj.mp q)
theorem i_ge (a : Int32) : -2147483648 ≤ a.toInt := Int32.le_toInt a
theorem i_up (a : Int32) : a.toInt ≤ 2147483647 := Int.le_of_lt_add_one (Int32.toInt_lt a)
theorem i_bm {x : Int} (h1 : -2147483648 ≤ x) (h2 : x ≤ 2147483647) : x.bmod (2 ^ 32) = x := by
  rw [Int.bmod_eq_of_le] <;> omega
theorem i_add {a b : Int32} (h1 : -2147483648 ≤ a.toInt + b.toInt) (h2 : a.toInt + b.toInt ≤ 2147483647) : (a + b).toInt = a.toInt + b.toInt := (Int32.toInt_add a b).trans (i_bm h1 h2)
theorem i_sub {a b : Int32} (h1 : -2147483648 ≤ a.toInt - b.toInt) (h2 : a.toInt - b.toInt ≤ 2147483647) : (a - b).toInt = a.toInt - b.toInt := (Int32.toInt_sub a b).trans (i_bm h1 h2)
theorem i_mul {a b : Int32} (h1 : -2147483648 ≤ a.toInt * b.toInt) (h2 : a.toInt * b.toInt ≤ 2147483647) : (a * b).toInt = a.toInt * b.toInt := (Int32.toInt_mul a b).trans (i_bm h1 h2)
theorem i_ix {i : Int32} {n : Nat} (h0 : 0 ≤ i.toInt) (h1 : i.toInt < n) : ¬ (i < 0 ∨ n ≤ i.toNatClampNeg) := by
  rintro (h | h)
  · have := i_lt h
    have e : (0 : Int32).toInt = 0 := by decide
    omega
  · have e : i.toNatClampNeg = i.toInt.toNat := rfl
    omega
theorem i_tn {i : Int32} : i.toNatClampNeg = i.toInt.toNat := rfl
-- existence
theorem wb {α β : Type} {o : Option α} {f : α → Option β} {v : α} {Q : β → Prop} (e : o = some v) (h : ∃ r, f v = some r ∧ Q r) : ∃ r, o.bind f = some r ∧ Q r := by
  rw [e]; exact h
theorem wi {β : Type} {p : Prop} [Decidable p] {a b : Option β} {Q : β → Prop} (h1 : p → ∃ r, a = some r ∧ Q r) (h2 : ¬ p → ∃ r, b = some r ∧ Q r) : ∃ r, (if p then a else b) = some r ∧ Q r := by
  by_cases h : p
  · rw [if_pos h]; exact h1 h
  · rw [if_neg h]; exact h2 h
theorem wlp {α β : Type} {body : α → Option (α ⊕ β)} (I : α → Prop) (m : α → Nat) (E : β → Prop) (hs : ∀ a, I a → ∃ r, body a = some r ∧ (∀ y, r = .inl y → I y ∧ m y < m a) ∧ (∀ b, r = .inr b → E b)) : ∀ {n : Nat} {a : α}, I a → m a < n → ∃ b, zlp body n a = some b ∧ E b := by
  intro n
  induction n with
  | zero => intro a _ h; exact absurd h (Nat.not_lt_zero _)
  | succ n ih =>
    intro a ha hm
    obtain ⟨r, e, h1, h2⟩ := hs a ha
    cases r with
    | inl y =>
      obtain ⟨hy, hl⟩ := h1 y rfl
      obtain ⟨b, eb, hb⟩ := ih hy (by omega)
      exact ⟨b, by unfold zlp; rw [e]; exact eb, hb⟩
    | inr b => exact ⟨b, by unfold zlp; rw [e]; rfl, h2 b rfl⟩
theorem lInl {α β : Type} {I : α → Prop} {m : α → Nat} {ma : Nat} {E : β → Prop} {y : α} (hI : I y) (hm : m y < ma) : ∃ r, (some (Sum.inl y) : Option (α ⊕ β)) = some r ∧ (∀ y, r = .inl y → I y ∧ m y < ma) ∧ (∀ b, r = .inr b → E b) := ⟨_, rfl, fun z hz => (by cases hz; exact ⟨hI, hm⟩), fun z hz => (by cases hz)⟩
theorem lInr {α β : Type} {I : α → Prop} {m : α → Nat} {ma : Nat} {E : β → Prop} {y : β} (hE : E y) : ∃ r, (some (Sum.inr y) : Option (α ⊕ β)) = some r ∧ (∀ y, r = .inl y → I y ∧ m y < ma) ∧ (∀ b, r = .inr b → E b) := ⟨_, rfl, fun z hz => (by cases hz), fun z hz => (by cases hz; exact hE)⟩
-- typed reading and writing
section
variable {zy : Nat → Zt} {G : List Nat} {c : Zc} {k T ci j t n : Nat} {fs : List Zf} {P : Int32 → Prop} {S : List Nat}
theorem wt_gv {f : Zf} (W : Zwt zy G c) (hk : G[k]? = some T) (ht : zy T = kOb ci fs) (hj : fs[j]? = some f) : ∃ v, zgv c k ci j = some v ∧ Zcv G f v := by
  obtain ⟨e, he, hc⟩ := W.2 k T hk
  rw [ht] at hc
  obtain ⟨vs, rfl, hl, hv⟩ := hc
  obtain ⟨v, h1, h2⟩ := hv j f hj
  exact ⟨v, by unfold zgv; rw [he]; simp [h1], h2⟩
theorem wt_gi (W : Zwt zy G c) (hk : G[k]? = some T) (ht : zy T = kOb ci fs) (hj : fs[j]? = some (tI P)) : ∃ x, zgi c k ci j = some x ∧ P x := by
  obtain ⟨v, hv, x, rfl, hx⟩ := wt_gv W hk ht hj
  exact ⟨x, by unfold zgi; rw [hv], hx⟩
theorem wt_gl (W : Zwt zy G c) (hk : G[k]? = some T) (ht : zy T = kOb ci fs) (hj : fs[j]? = some tL) : ∃ x, zgl c k ci j = some x := by
  obtain ⟨v, hv, x, rfl⟩ := wt_gv W hk ht hj
  exact ⟨x, by unfold zgl; rw [hv]⟩
theorem wt_gr (W : Zwt zy G c) (hk : G[k]? = some T) (ht : zy T = kOb ci fs) (hj : fs[j]? = some (tR S)) : ∃ x, zgr c k ci j = some x ∧ ∃ T', G[x]? = some T' ∧ T' ∈ S := by
  obtain ⟨v, hv, x, T', rfl, h1, h2⟩ := wt_gv W hk ht hj
  exact ⟨x, by unfold zgr; rw [hv], T', h1, h2⟩
theorem wt_gr1 {T' : Nat} (W : Zwt zy G c) (hk : G[k]? = some T) (ht : zy T = kOb ci fs) (hj : fs[j]? = some (tR [T'])) : ∃ x, zgr c k ci j = some x ∧ G[x]? = some T' := by
  obtain ⟨x, hx, T2, h1, h2⟩ := wt_gr W hk ht hj
  exact ⟨x, hx, by rw [h1, List.mem_singleton.mp h2]⟩
theorem wt_ob (W : Zwt zy G c) (hk : G[k]? = some T) (ht : zy T = kOb ci fs) : ∃ vs, zob c k ci = some vs := by
  obtain ⟨e, he, hc⟩ := W.2 k T hk
  rw [ht] at hc
  obtain ⟨vs, rfl, hl, hv⟩ := hc
  exact ⟨vs, by unfold zob; rw [he]; simp⟩
theorem wt_set {e' : va_E} (W : Zwt zy G c) (hk : G[k]? = some T) (he : Zco G (zy T) e') : Zwt zy G (c.set k e') := by
  refine ⟨by rw [List.length_set]; exact W.1, fun q U hq => ?_⟩
  by_cases h : k = q
  · subst h
    obtain ⟨e, h1, h2⟩ := W.2 k T hk
    rw [hk] at hq
    cases hq
    have hl : k < c.length := (List.getElem?_eq_some_iff.mp h1).1
    exact ⟨e', by rw [List.getElem?_set_self hl], he⟩
  · obtain ⟨e, h1, h2⟩ := W.2 q U hq
    exact ⟨e, by rw [List.getElem?_set_ne h]; exact h1, h2⟩
theorem fr_set {vs : List Value} {v : Value} (hk : G[k]? = some T) (he : c[k]? = some (.inr (ci, vs))) : Zfr G [(T, j)] c (c.set k (.inr (ci, vs.set j v))) := by
  intro q U hq
  have hl : k < c.length := (List.getElem?_eq_some_iff.mp he).1
  by_cases h : k = q
  · subst h
    rw [hk] at hq
    cases hq
    refine ⟨fun ci' j' hm => ?_, fun _ => ?_, ?_⟩
    · have hj : j ≠ j' := fun q => hm (by subst q; exact List.mem_singleton.mpr rfl)
      unfold zgv
      rw [List.getElem?_set_self hl, he]
      simp only
      rw [List.getElem?_set_ne hj]
    · unfold zrr
      rw [List.getElem?_set_self hl, he]
    · unfold zln zrr
      rw [List.getElem?_set_self hl, he]
  · refine ⟨fun ci' j' hm => ?_, fun _ => ?_, ?_⟩
    · unfold zgv; rw [List.getElem?_set_ne h]
    · unfold zrr; rw [List.getElem?_set_ne h]
    · unfold zln zrr; rw [List.getElem?_set_ne h]
theorem wt_pv {f : Zf} {v : Value} (W : Zwt zy G c) (hk : G[k]? = some T) (ht : zy T = kOb ci fs) (hj : fs[j]? = some f) (hv : Zcv G f v) : ∃ c', zpv c k ci j v = some c' ∧ Zwt zy G c' ∧ Zfr G [(T, j)] c c' ∧ zgv c' k ci j = some v := by
  obtain ⟨e, he, hc⟩ := W.2 k T hk
  have hc0 := hc
  rw [ht] at hc
  obtain ⟨vs, rfl, hl, hw⟩ := hc
  have hj2 : j < vs.length := by rw [hl]; exact (List.getElem?_eq_some_iff.mp hj).1
  have hk2 : k < c.length := (List.getElem?_eq_some_iff.mp he).1
  refine ⟨c.set k (.inr (ci, vs.set j v)), by unfold zpv; rw [he]; simp [hj2], wt_set W hk ?_, fr_set hk he, ?_⟩
  · rw [ht]
    refine ⟨vs.set j v, rfl, by rw [List.length_set]; exact hl, fun j' f' hf => ?_⟩
    by_cases h : j = j'
    · subst h
      rw [hj] at hf
      cases hf
      exact ⟨v, by rw [List.getElem?_set_self hj2], hv⟩
    · obtain ⟨w, h1, h2⟩ := hw j' f' hf
      exact ⟨w, by rw [List.getElem?_set_ne h]; exact h1, h2⟩
  · unfold zgv
    rw [List.getElem?_set_self hk2]
    simp [hj2]
theorem wt_pi {x : Int32} (W : Zwt zy G c) (hk : G[k]? = some T) (ht : zy T = kOb ci fs) (hj : fs[j]? = some (tI P)) (hx : P x) : ∃ c', zpv c k ci j (.int x) = some c' ∧ Zwt zy G c' ∧ Zfr G [(T, j)] c c' ∧ zgi c' k ci j = some x := by
  obtain ⟨c', h1, h2, h3, h4⟩ := wt_pv W hk ht hj (v := .int x) ⟨x, rfl, hx⟩
  exact ⟨c', h1, h2, h3, by unfold zgi; rw [h4]⟩
theorem wt_pz {x : Int32} (W : Zwt zy G c) (hk : G[k]? = some T) (ht : zy T = kOb ci fs) (hj : fs[j]? = some (tI (rg 0 1))) (hx : rg 0 1 x) : ∃ c', zpz c k ci j x = some c' ∧ Zwt zy G c' ∧ Zfr G [(T, j)] c c' ∧ zgi c' k ci j = some x := by
  obtain ⟨c', h1, h2⟩ := wt_pi W hk ht hj hx
  have : x = 0 ∨ x = 1 := by
    obtain ⟨a, b⟩ := hx
    have e0 : (0 : Int32).toInt = 0 := by decide
    have e1 : (1 : Int32).toInt = 1 := by decide
    rcases (by omega : x.toInt = 0 ∨ x.toInt = 1) with q | q
    · exact .inl (Int32.toInt_inj.mp (q.trans e0.symm))
    · exact .inr (Int32.toInt_inj.mp (q.trans e1.symm))
  exact ⟨c', by unfold zpz; rw [if_pos this]; exact h1, h2⟩
theorem wt_pl {x : Int64} (W : Zwt zy G c) (hk : G[k]? = some T) (ht : zy T = kOb ci fs) (hj : fs[j]? = some tL) : ∃ c', zpv c k ci j (.long x) = some c' ∧ Zwt zy G c' ∧ Zfr G [(T, j)] c c' ∧ zgl c' k ci j = some x := by
  obtain ⟨c', h1, h2, h3, h4⟩ := wt_pv W hk ht hj (v := .long x) ⟨x, rfl⟩
  exact ⟨c', h1, h2, h3, by unfold zgl; rw [h4]⟩
theorem wt_pr {x T' : Nat} (W : Zwt zy G c) (hk : G[k]? = some T) (ht : zy T = kOb ci fs) (hj : fs[j]? = some (tR S)) (hx : G[x]? = some T') (hS : T' ∈ S) : ∃ c', zpv c k ci j (.ref x) = some c' ∧ Zwt zy G c' ∧ Zfr G [(T, j)] c c' ∧ zgr c' k ci j = some x := by
  obtain ⟨c', h1, h2, h3, h4⟩ := wt_pv W hk ht hj (v := .ref x) ⟨x, T', rfl, hx, hS⟩
  exact ⟨c', h1, h2, h3, by unfold zgr; rw [h4]⟩
theorem fr_arr {e' : ClassId × vp_A} {e : ClassId × vp_A} (hk : G[k]? = some T) (he : c[k]? = some (.inl e)) (hn : e'.2.1 = e.2.1) : Zfr G [(T, 0)] c (c.set k (.inl e')) := by
  intro q U hq
  have hl : k < c.length := (List.getElem?_eq_some_iff.mp he).1
  by_cases h : k = q
  · subst h
    rw [hk] at hq
    cases hq
    refine ⟨fun ci' j' hm => ?_, fun hm => absurd (List.mem_singleton.mpr rfl) hm, ?_⟩
    · unfold zgv
      rw [List.getElem?_set_self hl, he]
    · unfold zln zrr
      rw [List.getElem?_set_self hl, he]
      exact hn
  · refine ⟨fun ci' j' hm => ?_, fun _ => ?_, ?_⟩
    · unfold zgv; rw [List.getElem?_set_ne h]
    · unfold zrr; rw [List.getElem?_set_ne h]
    · unfold zln zrr; rw [List.getElem?_set_ne h]
theorem wt_ai {i : Int32} (W : Zwt zy G c) (hk : G[k]? = some T) (ht : zy T = kAi t n P) (h0 : 0 ≤ i.toInt) (h1 : i.toInt < n) : ∃ x, zai c k t i = some x ∧ P x := by
  obtain ⟨e, he, hc⟩ := W.2 k T hk
  rw [ht] at hc
  obtain ⟨f, rfl, hf⟩ := hc
  exact ⟨f i.toNatClampNeg, by unfold zai; rw [he]; exact if_pos ⟨rfl, i_ix h0 h1⟩, hf _ (by rw [i_tn]; omega)⟩
theorem wt_al {i : Int32} (W : Zwt zy G c) (hk : G[k]? = some T) (ht : zy T = kAl t n) (h0 : 0 ≤ i.toInt) (h1 : i.toInt < n) : ∃ x, zal c k t i = some x := by
  obtain ⟨e, he, hc⟩ := W.2 k T hk
  rw [ht] at hc
  obtain ⟨f, rfl⟩ := hc
  exact ⟨f i.toNatClampNeg, by unfold zal; rw [he]; exact if_pos ⟨rfl, i_ix h0 h1⟩⟩
theorem wt_ar {i : Int32} {T' : Nat} (W : Zwt zy G c) (hk : G[k]? = some T) (ht : zy T = kAr t n [T']) (h0 : 0 ≤ i.toInt) (h1 : i.toInt < n) : ∃ x, zar c k t i = some x ∧ G[x]? = some T' := by
  obtain ⟨e, he, hc⟩ := W.2 k T hk
  rw [ht] at hc
  obtain ⟨f, rfl, hf⟩ := hc
  obtain ⟨x, T2, h2, h3, h4⟩ := hf i.toNatClampNeg (by rw [i_tn]; omega)
  exact ⟨x, by unfold zar; rw [he]; exact (if_pos ⟨rfl, i_ix h0 h1⟩).trans h2, by rw [h3, List.mem_singleton.mp h4]⟩
theorem wt_len (W : Zwt zy G c) (hk : G[k]? = some T) (ht : (∃ P, zy T = kAi t n P) ∨ zy T = kAl t n ∨ ∃ S, zy T = kAr t n S) : zlen c k t = some (Int32.ofNat n) := by
  obtain ⟨e, he, hc⟩ := W.2 k T hk
  unfold zlen
  rw [he]
  rcases ht with ⟨P, ht⟩ | ht | ⟨S, ht⟩ <;> rw [ht] at hc
  · obtain ⟨f, rfl, _⟩ := hc; simp
  · obtain ⟨f, rfl⟩ := hc; simp
  · obtain ⟨f, rfl, _⟩ := hc; simp
theorem wt_si {i x : Int32} (W : Zwt zy G c) (hk : G[k]? = some T) (ht : zy T = kAi t n P) (h0 : 0 ≤ i.toInt) (h1 : i.toInt < n) (hx : P x) : ∃ c', zsi c k t i x = some c' ∧ Zwt zy G c' ∧ Zfr G [(T, 0)] c c' ∧ zai c' k t i = some x := by
  obtain ⟨e, he, hc⟩ := W.2 k T hk
  rw [ht] at hc
  obtain ⟨f, rfl, hf⟩ := hc
  refine ⟨c.set k (.inl (t, n, .inl (upd f i.toNatClampNeg x))), by unfold zsi; rw [he]; exact if_pos ⟨rfl, i_ix h0 h1⟩, wt_set W hk ?_, fr_arr hk he rfl, ?_⟩
  · rw [ht]
    refine ⟨_, rfl, fun q hq => ?_⟩
    unfold upd
    split
    · exact hx
    · exact hf q hq
  · unfold zai
    rw [List.getElem?_set_self (List.getElem?_eq_some_iff.mp he).1]
    exact (if_pos ⟨rfl, i_ix h0 h1⟩).trans (by simp [upd])
theorem wt_sl {i : Int32} {x : Int64} (W : Zwt zy G c) (hk : G[k]? = some T) (ht : zy T = kAl t n) (h0 : 0 ≤ i.toInt) (h1 : i.toInt < n) : ∃ c', zsl c k t i x = some c' ∧ Zwt zy G c' ∧ Zfr G [(T, 0)] c c' ∧ zal c' k t i = some x := by
  obtain ⟨e, he, hc⟩ := W.2 k T hk
  rw [ht] at hc
  obtain ⟨f, rfl⟩ := hc
  refine ⟨c.set k (.inl (t, n, .inr (.inl (vp_updL f i.toNatClampNeg x)))), by unfold zsl; rw [he]; exact if_pos ⟨rfl, i_ix h0 h1⟩, wt_set W hk ?_, fr_arr hk he rfl, ?_⟩
  · rw [ht]
    exact ⟨_, rfl⟩
  · unfold zal
    rw [List.getElem?_set_self (List.getElem?_eq_some_iff.mp he).1]
    exact (if_pos ⟨rfl, i_ix h0 h1⟩).trans (by simp [vp_updL])
theorem wt_sr {i : Int32} {x T' ci' : Nat} {fs' : List Zf} (W : Zwt zy G c) (hk : G[k]? = some T) (ht : zy T = kAr t n S) (h0 : 0 ≤ i.toInt) (h1 : i.toInt < n) (hx : G[x]? = some T') (hS : T' ∈ S) (hT : zy T' = kOb ci' fs') : ∃ c', zsr c k t ci' i x = some c' ∧ Zwt zy G c' ∧ Zfr G [(T, 0)] c c' ∧ zar c' k t i = some x := by
  obtain ⟨e, he, hc⟩ := W.2 k T hk
  rw [ht] at hc
  obtain ⟨f, rfl, hf⟩ := hc
  obtain ⟨e2, he2, hc2⟩ := W.2 x T' hx
  rw [hT] at hc2
  obtain ⟨vs, rfl, _⟩ := hc2
  refine ⟨c.set k (.inl (t, n, .inr (.inr (.inr (.inr (va_up f i.toNatClampNeg (some x))))))), by unfold zsr; rw [he, he2]; exact if_pos ⟨rfl, rfl, i_ix h0 h1⟩, wt_set W hk ?_, fr_arr hk he rfl, ?_⟩
  · rw [ht]
    refine ⟨_, rfl, fun q hq => ?_⟩
    unfold va_up
    split
    · exact ⟨x, T', rfl, hx, hS⟩
    · exact hf q hq
  · unfold zar
    rw [List.getElem?_set_self (List.getElem?_eq_some_iff.mp he).1]
    exact (if_pos ⟨rfl, i_ix h0 h1⟩).trans (by simp [va_up])
end
theorem i_mulr {a b : Int32} {n : Int} (hb : b.toInt = n) (h1 : -2147483648 ≤ a.toInt * n) (h2 : a.toInt * n ≤ 2147483647) : (a * b).toInt = a.toInt * n := by
  subst hb; exact i_mul h1 h2
theorem i_mull {a b : Int32} {n : Int} (ha : a.toInt = n) (h1 : -2147483648 ≤ n * b.toInt) (h2 : n * b.toInt ≤ 2147483647) : (a * b).toInt = n * b.toInt := by
  subst ha; exact i_mul h1 h2
theorem i_bv (a : Int32) : a.toInt = a.toBitVec.toInt := rfl
theorem i_cond (x : BitVec 32) : x.toInt = if 2 * x.toNat < 4294967296 then (x.toNat : Int) else (x.toNat : Int) - 4294967296 := BitVec.toInt_eq_toNat_cond x
theorem i_andr {a b : Int32} (hb : 0 ≤ b.toInt) : 0 ≤ (a &&& b).toInt ∧ (a &&& b).toInt ≤ b.toInt := by
  have e : (a &&& b).toInt = (a.toBitVec &&& b.toBitVec).toInt := rfl
  rw [i_bv b] at hb ⊢
  rw [e]
  rw [i_cond] at hb
  rw [i_cond, i_cond b.toBitVec, BitVec.toNat_and]
  have h1 := Nat.and_le_right (n := a.toBitVec.toNat) (m := b.toBitVec.toNat)
  have h2 := b.toBitVec.isLt
  generalize a.toBitVec.toNat &&& b.toBitVec.toNat = z at h1 ⊢
  generalize b.toBitVec.toNat = y at h1 h2 hb ⊢
  split at hb
  · rw [if_pos (by omega), if_pos (by omega)]; omega
  · omega
theorem i_andl {a b : Int32} (ha : 0 ≤ a.toInt) : 0 ≤ (a &&& b).toInt ∧ (a &&& b).toInt ≤ a.toInt := by
  have h : a &&& b = b &&& a := Int32.and_comm a b
  rw [h]
  exact i_andr ha
theorem i_or {a b : Int32} (n : Nat) (hn : n ≤ 30) (ha : 0 ≤ a.toInt) (hb : 0 ≤ b.toInt) (ha2 : a.toInt < 2 ^ n) (hb2 : b.toInt < 2 ^ n) : 0 ≤ (a ||| b).toInt ∧ (a ||| b).toInt < 2 ^ n := by
  have e : (a ||| b).toInt = (a.toBitVec ||| b.toBitVec).toInt := rfl
  rw [i_bv a, i_cond] at ha ha2
  rw [i_bv b, i_cond] at hb hb2
  rw [e, i_cond, BitVec.toNat_or]
  have l1 := a.toBitVec.isLt
  have l2 := b.toBitVec.isLt
  have hp : (2 : Nat) ^ n ≤ 2 ^ 30 := Nat.pow_le_pow_right (by decide) hn
  have hc : ((2 ^ n : Nat) : Int) = (2 : Int) ^ n := by push_cast; rfl
  have ha3 : a.toBitVec.toNat < 2 ^ n := by
    rw [← hc] at ha2
    split at ha <;> split at ha2 <;> omega
  have hb3 : b.toBitVec.toNat < 2 ^ n := by
    rw [← hc] at hb2
    split at hb <;> split at hb2 <;> omega
  have h := Nat.or_lt_two_pow ha3 hb3
  rw [← hc]
  generalize a.toBitVec.toNat ||| b.toBitVec.toNat = z at h ⊢
  generalize 2 ^ n = y at h hp ⊢
  rw [if_pos (by omega)]
  omega
theorem i_div {a b : Int32} {n : Int} (hb : b.toInt = n) (hn : 0 < n) (ha : 0 ≤ a.toInt) : (a / b).toInt = a.toInt / n := by
  rw [Int32.toInt_div, hb, Int.tdiv_eq_ediv_of_nonneg ha]
  have h1 := i_up a
  have h2 : a.toInt / n ≤ a.toInt := Int.ediv_le_self n ha
  have h3 : 0 ≤ a.toInt / n := Int.ediv_nonneg ha (Int.le_of_lt hn)
  exact i_bm (by omega) (by omega)
theorem i_rem {a b : Int32} {n : Int} (hb : b.toInt = n) (hn : 0 < n) (ha : 0 ≤ a.toInt) : (a - a / b * b).toInt = a.toInt % n := by
  have hd := i_div hb hn ha
  have h1 := i_up a
  have h4 := Int.ediv_mul_le a.toInt (Int.ne_of_gt hn)
  have h5 : 0 ≤ a.toInt / n * n := Int.mul_nonneg (Int.ediv_nonneg ha (Int.le_of_lt hn)) (Int.le_of_lt hn)
  have hm : (a / b * b).toInt = a.toInt / n * n := by
    rw [i_mulr hb (by rw [hd]; omega) (by rw [hd]; omega), hd]
  rw [i_sub (by rw [hm]; omega) (by rw [hm]; omega), hm]
  have := Int.emod_def a.toInt n
  have h6 : n * (a.toInt / n) = a.toInt / n * n := Int.mul_comm _ _
  omega
theorem i_shl16 {b : Int32} (h0 : 0 ≤ b.toInt) (h1 : b.toInt ≤ 16) : 1 ≤ ((1 : Int32) <<< (b &&& 31)).toInt ∧ ((1 : Int32) <<< (b &&& 31)).toInt ≤ 65536 := by
  have key : ∀ (k : Int32), b.toInt = k.toInt → (1 ≤ ((1 : Int32) <<< (k &&& 31)).toInt ∧ ((1 : Int32) <<< (k &&& 31)).toInt ≤ 65536) → 1 ≤ ((1 : Int32) <<< (b &&& 31)).toInt ∧ ((1 : Int32) <<< (b &&& 31)).toInt ≤ 65536 := fun k hk h => by
    rw [Int32.toInt_inj.mp hk]; exact h
  rcases (by omega : b.toInt = 0 ∨ b.toInt = 1 ∨ b.toInt = 2 ∨ b.toInt = 3 ∨ b.toInt = 4 ∨ b.toInt = 5 ∨ b.toInt = 6 ∨ b.toInt = 7 ∨ b.toInt = 8 ∨ b.toInt = 9 ∨ b.toInt = 10 ∨ b.toInt = 11 ∨ b.toInt = 12 ∨ b.toInt = 13 ∨ b.toInt = 14 ∨ b.toInt = 15 ∨ b.toInt = 16) with h | h | h | h | h | h | h | h | h | h | h | h | h | h | h | h | h
  · exact key 0 h (by decide)
  · exact key 1 h (by decide)
  · exact key 2 h (by decide)
  · exact key 3 h (by decide)
  · exact key 4 h (by decide)
  · exact key 5 h (by decide)
  · exact key 6 h (by decide)
  · exact key 7 h (by decide)
  · exact key 8 h (by decide)
  · exact key 9 h (by decide)
  · exact key 10 h (by decide)
  · exact key 11 h (by decide)
  · exact key 12 h (by decide)
  · exact key 13 h (by decide)
  · exact key 14 h (by decide)
  · exact key 15 h (by decide)
  · exact key 16 h (by decide)
theorem i_shl7 {b : Int32} (h0 : 0 ≤ b.toInt) (h1 : b.toInt ≤ 7) : 1 ≤ ((1 : Int32) <<< (b &&& 31)).toInt ∧ ((1 : Int32) <<< (b &&& 31)).toInt ≤ 128 := by
  have key : ∀ (k : Int32), b.toInt = k.toInt → (1 ≤ ((1 : Int32) <<< (k &&& 31)).toInt ∧ ((1 : Int32) <<< (k &&& 31)).toInt ≤ 128) → 1 ≤ ((1 : Int32) <<< (b &&& 31)).toInt ∧ ((1 : Int32) <<< (b &&& 31)).toInt ≤ 128 := fun k hk h => by
    rw [Int32.toInt_inj.mp hk]; exact h
  rcases (by omega : b.toInt = 0 ∨ b.toInt = 1 ∨ b.toInt = 2 ∨ b.toInt = 3 ∨ b.toInt = 4 ∨ b.toInt = 5 ∨ b.toInt = 6 ∨ b.toInt = 7) with h | h | h | h | h | h | h | h
  · exact key 0 h (by decide)
  · exact key 1 h (by decide)
  · exact key 2 h (by decide)
  · exact key 3 h (by decide)
  · exact key 4 h (by decide)
  · exact key 5 h (by decide)
  · exact key 6 h (by decide)
  · exact key 7 h (by decide)
theorem rgi {lo hi : Int} {x : Int32} (h1 : lo ≤ x.toInt) (h2 : x.toInt ≤ hi) : rg lo hi x := ⟨h1, h2⟩
theorem i_01 {x : Int32} (h : rg 0 1 x) : x = 0 ∨ x = 1 := by
  obtain ⟨a, b⟩ := h
  have e0 : (0 : Int32).toInt = 0 := by decide
  have e1 : (1 : Int32).toInt = 1 := by decide
  rcases (by omega : x.toInt = 0 ∨ x.toInt = 1) with q | q
  · exact .inl (Int32.toInt_inj.mp (q.trans e0.symm))
  · exact .inr (Int32.toInt_inj.mp (q.trans e1.symm))
theorem wz {x : Int32} {c : Zc} {Q : Int32 × Zc → Prop} (h : rg 0 1 x) (hq : Q (x, c)) : ∃ r, zrz x c = some r ∧ Q r := ⟨_, if_pos (i_01 h), hq⟩
theorem zwsb {i : Nat} {j : Int32} (hi : i < 4) (h0 : 0 ≤ j.toInt) (h1 : j.toInt < ((zs_len.getD i 0 : Nat) : Int)) : ∃ v, zsb i j = some v := ⟨_, if_pos ⟨hi, i_ix h0 h1⟩⟩
theorem zsn_0 : ((zs_len.getD 0 0 : Nat) : Int) = 6 := rfl
theorem zsn_1 : ((zs_len.getD 1 0 : Nat) : Int) = 12 := rfl
theorem zsn_2 : ((zs_len.getD 2 0 : Nat) : Int) = 66 := rfl
theorem zsn_3 : ((zs_len.getD 3 0 : Nat) : Int) = 17 := rfl
theorem zsl_0 : (Int32.ofNat (zs_len.getD 0 0)).toInt = 6 := by decide
theorem zsl_1 : (Int32.ofNat (zs_len.getD 1 0)).toInt = 12 := by decide
theorem zsl_2 : (Int32.ofNat (zs_len.getD 2 0)).toInt = 66 := by decide
theorem zsl_3 : (Int32.ofNat (zs_len.getD 3 0)).toInt = 17 := by decide
/-- the places' types grow -/
def Zex (G G' : List Nat) : Prop := ∃ L, G' = G ++ L
theorem Zex.rf {G : List Nat} : Zex G G := ⟨[], (List.append_nil G).symm⟩
theorem Zex.tr {G G1 G2 : List Nat} (h1 : Zex G G1) (h2 : Zex G1 G2) : Zex G G2 := by
  obtain ⟨L, rfl⟩ := h1
  obtain ⟨K, rfl⟩ := h2
  exact ⟨L ++ K, List.append_assoc ..⟩
theorem Zex.get {G G' : List Nat} {k T : Nat} (h : Zex G G') (hk : G[k]? = some T) : G'[k]? = some T := by
  obtain ⟨L, rfl⟩ := h
  rw [List.getElem?_append_left (List.getElem?_eq_some_iff.mp hk).1]
  exact hk
theorem Zfr.lo {G G' : List Nat} {M : List (Nat × Nat)} {c c' : Zc} (h : Zex G G') (f : Zfr G' M c c') : Zfr G M c c' := fun k T hk => f k T (h.get hk)
theorem Zcv.mo {G G' : List Nat} {f : Zf} {v : Value} (h : Zex G G') (q : Zcv G f v) : Zcv G' f v := by
  rcases f with P | u | S
  · exact q
  · exact q
  · obtain ⟨k, T, h1, h2, h3⟩ := q
    exact ⟨k, T, h1, h.get h2, h3⟩
theorem Zco.mo {G G' : List Nat} {t : Zt} {e : va_E} (h : Zex G G') (q : Zco G t e) : Zco G' t e := by
  rcases t with u | ⟨ci, fs⟩ | ⟨t, n, P⟩ | ⟨t, N, P⟩ | ⟨t, n⟩ | ⟨t, n, S⟩
  · exact (True.intro : True)
  · obtain ⟨vs, h1, h2, h3⟩ := q
    refine ⟨vs, h1, h2, fun j f hj => ?_⟩
    obtain ⟨v, g1, g2⟩ := h3 j f hj
    exact ⟨v, g1, g2.mo h⟩
  · exact q
  · exact q
  · exact q
  · obtain ⟨f, h1, h2⟩ := q
    refine ⟨f, h1, fun i hi => ?_⟩
    obtain ⟨k, T, g1, g2, g3⟩ := h2 i hi
    exact ⟨k, T, g1, h.get g2, g3⟩
section
variable {zy : Nat → Zt} {G : List Nat} {c : Zc} {k T t n : Nat} {P : Int32 → Prop} {N : Nat → Prop}
theorem wt_lt (W : Zwt zy G c) (hk : G[k]? = some T) : k < c.length := by
  rw [← W.1]; exact (List.getElem?_eq_some_iff.mp hk).1
theorem wt_new {e : va_E} (W : Zwt zy G c) (h : Zco (G ++ [T]) (zy T) e) : Zwt zy (G ++ [T]) (c ++ [e]) := by
  refine ⟨by rw [List.length_append, List.length_append, W.1]; rfl, fun q U hq => ?_⟩
  by_cases hl : q < G.length
  · rw [List.getElem?_append_left hl] at hq
    obtain ⟨e1, h1, h2⟩ := W.2 q U hq
    exact ⟨e1, by rw [List.getElem?_append_left (by rw [← W.1]; exact hl)]; exact h1, h2.mo ⟨[T], rfl⟩⟩
  · rw [List.getElem?_append_right (by omega)] at hq
    have h0 : q - G.length = 0 := by
      have := (List.getElem?_eq_some_iff.mp hq).1
      simp at this
      omega
    rw [h0] at hq
    cases hq
    refine ⟨e, ?_, h⟩
    rw [List.getElem?_append_right (by rw [← W.1]; omega), ← W.1, h0]
    rfl
theorem fr_new {e : va_E} (W : Zwt zy G c) : Zfr G [] c (c ++ [e]) := by
  intro q U hq
  have hl := wt_lt W hq
  refine ⟨fun ci j _ => ?_, fun _ => ?_, ?_⟩
  · unfold zgv; rw [List.getElem?_append_left hl]
  · unfold zrr; rw [List.getElem?_append_left hl]
  · unfold zln zrr; rw [List.getElem?_append_left hl]
theorem wt_dl (W : Zwt zy G c) (hk : G[k]? = some T) (ht : zy T = kAd t N P) : N (zln c k) ∧ zlen c k t = some (Int32.ofNat (zln c k)) := by
  obtain ⟨e, he, hc⟩ := W.2 k T hk
  rw [ht] at hc
  obtain ⟨n, f, rfl, h1, h2⟩ := hc
  have h3 : zln c k = n := by unfold zln zrr; rw [he]
  rw [h3]
  exact ⟨h1, by unfold zlen; rw [he]; simp⟩
theorem wt_di {i : Int32} (W : Zwt zy G c) (hk : G[k]? = some T) (ht : zy T = kAd t N P) (h0 : 0 ≤ i.toInt) (h1 : i.toInt < zln c k) : ∃ x, zai c k t i = some x ∧ P x := by
  obtain ⟨e, he, hc⟩ := W.2 k T hk
  rw [ht] at hc
  obtain ⟨n, f, rfl, h2, h3⟩ := hc
  have h4 : zln c k = n := by unfold zln zrr; rw [he]
  rw [h4] at h1
  exact ⟨f i.toNatClampNeg, by unfold zai; rw [he]; exact if_pos ⟨rfl, i_ix h0 h1⟩, h3 _ (by rw [i_tn]; omega)⟩
theorem wt_ds {i x : Int32} (W : Zwt zy G c) (hk : G[k]? = some T) (ht : zy T = kAd t N P) (h0 : 0 ≤ i.toInt) (h1 : i.toInt < zln c k) (hx : P x) : ∃ c', zsi c k t i x = some c' ∧ Zwt zy G c' ∧ Zfr G [(T, 0)] c c' := by
  obtain ⟨e, he, hc⟩ := W.2 k T hk
  rw [ht] at hc
  obtain ⟨n, f, rfl, h2, h3⟩ := hc
  have h4 : zln c k = n := by unfold zln zrr; rw [he]
  rw [h4] at h1
  refine ⟨c.set k (.inl (t, n, .inl (upd f i.toNatClampNeg x))), by unfold zsi; rw [he]; exact if_pos ⟨rfl, i_ix h0 h1⟩, wt_set W hk ?_, fr_arr hk he rfl⟩
  rw [ht]
  refine ⟨n, _, rfl, h2, fun q hq => ?_⟩
  unfold upd
  split
  · exact hx
  · exact h3 q hq
end
theorem i_ofn {n : Nat} (h : n ≤ 2147483647) : (Int32.ofNat n).toInt = n := Int32.toInt_ofNat_of_lt (by omega)
/-- how often a length can have doubled -/
def zlg (n : Nat) : Nat := if n = 0 then 0 else 1 + Nat.log2 n
theorem zlg_up {n m : Nat} (h1 : 2 * n ≤ m) (h2 : 1 ≤ m) : zlg n + 1 ≤ zlg m := by
  unfold zlg
  rw [if_neg (by omega : ¬ m = 0)]
  split
  · omega
  · rename_i hn
    have h3 : n.log2 + 1 ≤ m.log2 := (Nat.le_log2 (by omega)).mpr (by
      have := Nat.log2_self_le hn
      rw [Nat.pow_succ]
      omega)
    omega
theorem zlg_le {n k : Nat} (h : n < 2 ^ k) : zlg n ≤ k := by
  unfold zlg
  split
  · omega
  · rename_i hn
    have := (Nat.log2_lt hn).mpr h
    omega
end ZzT
