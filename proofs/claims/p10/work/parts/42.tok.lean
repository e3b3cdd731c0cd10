section ZzT
theorem okCi {x : Int32} (h1 : 0 ≤ x.toInt) (h2 : x.toInt ≤ 400000) (h3 : x.toInt % 32 = 1 → x.toInt / 32 ≤ 7) (h4 : x.toInt % 32 = 2 → x.toInt / 32 ≤ 31) (h5 : x.toInt % 32 = 3 → x.toInt / 32 ≤ 9) (h6 : x.toInt % 32 = 4 → x.toInt / 32 ≤ 69) : okCode x := ⟨h1, h2, h3, h4, h5, h6⟩
theorem okOi {x : Int32} (h : x.toInt = 0 ∨ (5 ≤ x.toInt ∧ x.toInt ≤ 31)) : okOp x := h
def ldOk (x y : Int32) : Prop := (x.toInt = 1 → 0 ≤ y.toInt ∧ y.toInt ≤ 7) ∧ (x.toInt = 2 → 0 ≤ y.toInt ∧ y.toInt ≤ 31) ∧ (x.toInt = 3 → 0 ≤ y.toInt ∧ y.toInt ≤ 9)
theorem ld_of {v x y : Int32} (h : okCode v) (e1 : x.toInt = v.toInt % 32) (e2 : y.toInt = v.toInt / 32) : ldOk x y := by
  obtain ⟨h1, h2, h3, h4, h5, h6⟩ := h
  have h0 : 0 ≤ y.toInt := by omega
  rw [← e1, ← e2] at h3 h4 h5
  exact ⟨fun q => ⟨h0, h3 q⟩, fun q => ⟨h0, h4 q⟩, fun q => ⟨h0, h5 q⟩⟩
theorem ab_of {v x y : Int32} (h : okCode v) (e1 : x.toInt = v.toInt % 32) (e2 : y.toInt = v.toInt / 32) (e : x.toInt = 4) : 0 ≤ y.toInt ∧ y.toInt ≤ 69 := by
  obtain ⟨h1, h2, h3, h4, h5, h6⟩ := h
  rw [← e1, ← e2] at h6
  exact ⟨by omega, h6 e⟩
theorem ld_1 {x y : Int32} (h : ldOk x y) (e : x.toInt = 1) : 0 ≤ y.toInt ∧ y.toInt ≤ 7 := h.1 e
theorem ld_2 {x y : Int32} (h : ldOk x y) (e : x.toInt = 2) : 0 ≤ y.toInt ∧ y.toInt ≤ 31 := h.2.1 e
theorem ld_3 {x y : Int32} (h : ldOk x y) (e : x.toInt = 3) : 0 ≤ y.toInt ∧ y.toInt ≤ 9 := h.2.2 e
theorem i_nat {a : Int32} (h : 0 ≤ a.toInt) : (a.toBitVec.toNat : Int) = a.toInt := by
  rw [i_bv a, i_cond] at h ⊢
  have := a.toBitVec.isLt
  split at h
  · rename_i q; rw [if_pos q]
  · omega
theorem ntz_i {a : Int32} (h1 : 1 ≤ a.toInt) (h2 : a.toInt ≤ 65535) : 0 ≤ ((a ^^^ (-1)) &&& (a - 1)).toInt ∧ ((a ^^^ (-1)) &&& (a - 1)).toInt ≤ 32767 := by
  have e1 : (1 : Int32).toInt = 1 := by decide
  have hs := i_sub (a := a) (b := 1) (by omega) (by omega)
  obtain ⟨l, u⟩ := i_andr (a := a ^^^ (-1)) (b := a - 1) (by omega)
  refine ⟨l, ?_⟩
  by_cases q : a.toInt ≤ 32768
  · omega
  · have na := i_nat (a := a) (by omega)
    have nz := i_nat l
    have ez : ((a ^^^ (-1)) &&& (a - 1)).toBitVec = (a.toBitVec ^^^ (-1 : Int32).toBitVec) &&& (a - 1).toBitVec := rfl
    have ta : a.toBitVec.getLsbD 15 = true := by
      rw [BitVec.getLsbD, Nat.testBit_eq_decide_div_mod_eq]
      exact decide_eq_true (by omega)
    have tz : ((a ^^^ (-1)) &&& (a - 1)).toBitVec.getLsbD 15 = false := by
      rw [ez, BitVec.getLsbD_and, BitVec.getLsbD_xor, ta]
      have : (-1 : Int32).toBitVec.getLsbD 15 = true := by decide
      rw [this]
      rfl
    rw [BitVec.getLsbD, Nat.testBit_eq_decide_div_mod_eq] at tz
    have tz := of_decide_eq_false tz
    omega
theorem i_ushr {x : Int32} {s : UInt32} (k : Nat) (hs : s.toNat % 32 = k) (h : 0 ≤ x.toInt) : ((Int32.toUInt32 x >>> s).toInt32).toInt = x.toInt / 2 ^ k := by
  have hx := i_nat h
  have hu : (Int32.toUInt32 x >>> s).toBitVec.toNat = x.toBitVec.toNat / 2 ^ k := by
    have := UInt32.toNat_shiftRight (Int32.toUInt32 x) s
    rw [hs, Nat.shiftRight_eq_div_pow] at this
    exact this
  have e : ((Int32.toUInt32 x >>> s).toInt32).toInt = ((Int32.toUInt32 x >>> s).toBitVec).toInt := rfl
  have hb := i_up x
  have hd := Nat.div_le_self x.toBitVec.toNat (2 ^ k)
  rw [e, i_cond, hu, if_pos (by omega), ← hx]
  push_cast
  rfl
theorem i_ush {x y : Int32} {n : Int} (hy : y = 1 ∧ n = 2 ∨ y = 2 ∧ n = 4 ∨ y = 4 ∧ n = 16 ∨ y = 8 ∧ n = 256) (h : 0 ≤ x.toInt) : ((Int32.toUInt32 x >>> (Int32.toUInt32 y &&& Int32.toUInt32 31)).toInt32).toInt = x.toInt / n := by
  rcases hy with ⟨rfl, rfl⟩ | ⟨rfl, rfl⟩ | ⟨rfl, rfl⟩ | ⟨rfl, rfl⟩
  · exact i_ushr 1 (by decide) h
  · exact i_ushr 2 (by decide) h
  · exact i_ushr 4 (by decide) h
  · exact i_ushr 8 (by decide) h
/-- the last zero bits of a number of 16 bits -/
theorem p_Integer_numberOfTrailingZeros {nf : Nat} (hn : 8589934592 ≤ nf) {G : List Nat} {c : Zc} (W : Zwt zty G c) {a0 : Int32} (pl : 1 ≤ a0.toInt) (pu : a0.toInt ≤ 65535) : ∃ q, f_Integer_numberOfTrailingZeros nf a0 c = some q ∧ Zwt zty G q.2 ∧ Zfr G [] c q.2 ∧ 0 ≤ q.1.toInt ∧ q.1.toInt ≤ 15 := by
  obtain ⟨l, u⟩ := ntz_i pl pu
  have a1 : (1 : Int32).toInt = 1 := by decide
  have a2 : (2 : Int32).toInt = 2 := by decide
  have a4 : (4 : Int32).toInt = 4 := by decide
  have a8 : (8 : Int32).toInt = 8 := by decide
  have a0' : (0 : Int32).toInt = 0 := by decide
  have a16 : (16 : Int32).toInt = 16 := by decide
  have a256 : (256 : Int32).toInt = 256 := by decide
  have a65 : (65536 : Int32).toInt = 65536 := by decide
  unfold f_Integer_numberOfTrailingZeros
  generalize (a0 ^^^ (-1)) &&& (a0 - 1) = i at l u ⊢
  have t74 : ∀ {x y : Int32}, 0 ≤ x.toInt → 0 ≤ y.toInt → y.toInt + x.toInt / 2 ≤ 15 → ∃ q, f_Integer_numberOfTrailingZeros_74 nf x y c = some q ∧ Zwt zty G q.2 ∧ Zfr G [] c q.2 ∧ 0 ≤ q.1.toInt ∧ q.1.toInt ≤ 15 := by
    intro x y h1 h2 h3
    have e := i_ush (x := x) (y := 1) (n := 2) (.inl ⟨rfl, rfl⟩) h1
    have e2 := i_add (a := y) (b := (Int32.toUInt32 x >>> (Int32.toUInt32 1 &&& Int32.toUInt32 31)).toInt32) (by omega) (by omega)
    exact ⟨_, rfl, W, Zfr.rf, by dsimp only; omega, by dsimp only; omega⟩
  have t62 : ∀ {x y : Int32}, 0 ≤ x.toInt → 0 ≤ y.toInt → (y.toInt = 13 ∧ x.toInt ≤ 7) ∨ (y.toInt ≤ 9 ∧ x.toInt ≤ 16) → ∃ q, f_Integer_numberOfTrailingZeros_62 nf x y c = some q ∧ Zwt zty G q.2 ∧ Zfr G [] c q.2 ∧ 0 ≤ q.1.toInt ∧ q.1.toInt ≤ 15 := by
    intro x y h1 h2 h3
    unfold f_Integer_numberOfTrailingZeros_62
    refine wi (fun q => ?_) (fun q => ?_)
    · have q := i_le q
      exact t74 h1 h2 (by omega)
    · have q := i_nle q
      have e := i_ush (x := x) (y := 2) (n := 4) (.inr (.inl ⟨rfl, rfl⟩)) h1
      have e2 := i_add (a := y) (b := 2) (by omega) (by omega)
      exact t74 (by omega) (by omega) (by omega)
  have t49 : ∀ {x y : Int32}, 0 ≤ x.toInt → 0 ≤ y.toInt → (y.toInt = 9 ∧ x.toInt ≤ 127) ∨ (y.toInt = 1 ∧ x.toInt ≤ 256) → ∃ q, f_Integer_numberOfTrailingZeros_49 nf x y c = some q ∧ Zwt zty G q.2 ∧ Zfr G [] c q.2 ∧ 0 ≤ q.1.toInt ∧ q.1.toInt ≤ 15 := by
    intro x y h1 h2 h3
    unfold f_Integer_numberOfTrailingZeros_49
    refine wi (fun q => ?_) (fun q => ?_)
    · have q := i_le q
      exact t62 h1 h2 (by omega)
    · have q := i_nle q
      have e := i_ush (x := x) (y := 4) (n := 16) (.inr (.inr (.inl ⟨rfl, rfl⟩))) h1
      have e2 := i_add (a := y) (b := 4) (by omega) (by omega)
      exact t62 (by omega) (by omega) (by omega)
  refine wi (fun q => ?_) (fun q => ?_)
  · have q := i_lt q
    refine wi (fun p => ?_) (fun p => ?_)
    · unfold f_Integer_numberOfTrailingZeros_34
      refine wi (fun r => ?_) (fun r => ?_)
      · have r := i_le r
        exact t49 (by omega) (by omega) (by omega)
      · have r := i_nle r
        have e := i_ush (x := i) (y := 8) (n := 256) (.inr (.inr (.inr ⟨rfl, rfl⟩))) (by omega)
        have e2 := i_add (a := 1) (b := 8) (by omega) (by omega)
        exact t49 (by omega) (by omega) (by omega)
    · have p := i_nle p
      omega
  · have q := i_nlt q
    obtain ⟨g1, g2⟩ := i_andl (a := i) (b := 32) l
    exact ⟨_, rfl, W, Zfr.rf, by dsimp only; omega, by dsimp only; omega⟩
theorem nar_c (w : UInt32) : vp_nar .char (UInt32.toInt32 (w % 65536)) = UInt32.toInt32 (w % 65536) := by
  have h : ((w % 65536).toUInt16).toUInt32 = w % 65536 := by
    apply UInt32.toNat_inj.mp
    simp
  exact congrArg UInt32.toInt32 h
theorem p_Integer_bitCount {nf : Nat} (hn : 8589934592 ≤ nf) {G : List Nat} {c : Zc} (W : Zwt zty G c) {a0 : Int32} : ∃ q, f_Integer_bitCount nf a0 c = some q ∧ Zwt zty G q.2 ∧ Zfr G [] c q.2 := ⟨_, rfl, W, Zfr.rf⟩
def tkr (k v : Int32) : Prop := (k.toInt = 2 → 0 ≤ v.toInt ∧ v.toInt ≤ 65) ∧ (k.toInt = 3 → 0 ≤ v.toInt ∧ v.toInt ≤ 7) ∧ (k.toInt = 4 → 0 ≤ v.toInt ∧ v.toInt ≤ 3) ∧ (k.toInt = 5 → 0 ≤ v.toInt ∧ v.toInt ≤ 11) ∧ (k.toInt = 6 → 0 ≤ v.toInt ∧ v.toInt ≤ 9999)
/-- what the kinds of the first n tokens say of their values -/
def TkR (c : Zc) (kk vv : Nat) (n : Int32) : Prop := ∀ i : Int32, 0 ≤ i.toInt → i.toInt < n.toInt → ∀ k v, zai c kk 0 i = some k → zai c vv 0 i = some v → tkr k v
theorem zsi_x {c c' : Zc} {k t : Nat} {i x : Int32} (h : zsi c k t i x = some c') : ∃ n f, c[k]? = some (.inl (t, n, .inl f)) ∧ ¬ (i < 0 ∨ n ≤ i.toNatClampNeg) ∧ c' = c.set k (.inl (t, n, .inl (upd f i.toNatClampNeg x))) := by
  unfold zsi at h
  split at h
  · rename_i t' n f he
    split at h
    · rename_i hc
      obtain ⟨rfl, hc⟩ := hc
      cases h
      exact ⟨n, f, he, hc, rfl⟩
    · cases h
  · cases h
theorem zai_wo {c c' : Zc} {k k' t t' : Nat} {i n x : Int32} (h : zsi c k t n x = some c') (hk : k' ≠ k) : zai c' k' t' i = zai c k' t' i := by
  obtain ⟨m, f, h1, h2, rfl⟩ := zsi_x h
  unfold zai
  rw [List.getElem?_set_ne (Ne.symm hk)]
theorem zai_wn {c c' : Zc} {k t : Nat} {i n x : Int32} (h : zsi c k t n x = some c') (hi : 0 ≤ i.toInt) (hn : i.toInt < n.toInt) : zai c' k t i = zai c k t i := by
  obtain ⟨m, f, h1, h2, rfl⟩ := zsi_x h
  have hne : i.toNatClampNeg ≠ n.toNatClampNeg := by rw [i_tn, i_tn]; omega
  unfold zai
  rw [List.getElem?_set_self (List.getElem?_eq_some_iff.mp h1).1, h1]
  simp only [upd, if_neg hne]
theorem TkR_fr {G : List Nat} {M : List (Nat × Nat)} {c c' : Zc} {kk vv a b : Nat} {n : Int32} (h : TkR c kk vv n) (F : Zfr G M c c') (tk : G[kk]? = some a) (tv : G[vv]? = some b) (m1 : (a, 0) ∉ M) (m2 : (b, 0) ∉ M) : TkR c' kk vv n := by
  intro i h0 h1 k v hk hv
  rw [Zfr.ai F tk m1] at hk
  rw [Zfr.ai F tv m2] at hv
  exact h i h0 h1 k v hk hv
theorem pl_ne {G : List Nat} {k k' a b : Nat} (h1 : G[k]? = some a) (h2 : G[k']? = some b) (hab : a ≠ b) : k ≠ k' := fun q => hab (by subst q; rw [h1] at h2; cases h2; rfl)
theorem TkR_wv {G : List Nat} {c c' : Zc} {kk vv a b : Nat} {n x : Int32} (h : TkR c kk vv n) (tk : G[kk]? = some a) (tv : G[vv]? = some b) (e : zsi c vv 0 n x = some c') (hab : a ≠ b := by decide) : TkR c' kk vv n := by
  intro i h0 h1 k v hk hv
  rw [zai_wo e (pl_ne tk tv hab)] at hk
  rw [zai_wn e h0 h1] at hv
  exact h i h0 h1 k v hk hv
theorem TkR_wk {G : List Nat} {c c' : Zc} {kk vv a b : Nat} {n x : Int32} (h : TkR c kk vv n) (tk : G[kk]? = some a) (tv : G[vv]? = some b) (e : zsi c kk 0 n x = some c') (hab : a ≠ b := by decide) : TkR c' kk vv n := by
  intro i h0 h1 k v hk hv
  rw [zai_wn e h0 h1] at hk
  rw [zai_wo e (Ne.symm (pl_ne tk tv hab))] at hv
  exact h i h0 h1 k v hk hv
theorem TkR_ext {c : Zc} {kk vv : Nat} {n k v : Int32} (h : TkR c kk vv n) (hk : zai c kk 0 n = some k) (hv : zai c vv 0 n = some v) (hr : tkr k v) (hs : (n + 1).toInt = n.toInt + 1) : TkR c kk vv (n + 1) := by
  intro i h0 h1 k' v' hk' hv'
  by_cases q : i.toInt < n.toInt
  · exact h i h0 q k' v' hk' hv'
  · have : i = n := Int32.toInt_inj.mp (by omega)
    subst this
    rw [hk] at hk'
    rw [hv] at hv'
    cases hk'
    cases hv'
    exact hr
theorem tkri {k v : Int32} (r2 : k.toInt = 2 → 0 ≤ v.toInt ∧ v.toInt ≤ 65) (r3 : k.toInt = 3 → 0 ≤ v.toInt ∧ v.toInt ≤ 7) (r4 : k.toInt = 4 → 0 ≤ v.toInt ∧ v.toInt ≤ 3) (r5 : k.toInt = 5 → 0 ≤ v.toInt ∧ v.toInt ≤ 11) (r6 : k.toInt = 6 → 0 ≤ v.toInt ∧ v.toInt ≤ 9999) : tkr k v := ⟨r2, r3, r4, r5, r6⟩
theorem tkr2 {k v : Int32} (h : tkr k v) (e : k.toInt = 2) : 0 ≤ v.toInt ∧ v.toInt ≤ 65 := h.1 e
theorem tkr3 {k v : Int32} (h : tkr k v) (e : k.toInt = 3) : 0 ≤ v.toInt ∧ v.toInt ≤ 7 := h.2.1 e
theorem tkr4 {k v : Int32} (h : tkr k v) (e : k.toInt = 4) : 0 ≤ v.toInt ∧ v.toInt ≤ 3 := h.2.2.1 e
theorem tkr5 {k v : Int32} (h : tkr k v) (e : k.toInt = 5) : 0 ≤ v.toInt ∧ v.toInt ≤ 11 := h.2.2.2.1 e
theorem tkr6 {k v : Int32} (h : tkr k v) (e : k.toInt = 6) : 0 ≤ v.toInt ∧ v.toInt ≤ 9999 := h.2.2.2.2 e
theorem TkR_zero {c : Zc} {kk vv : Nat} : TkR c kk vv 0 := by
  intro i h0 h1
  have : (0 : Int32).toInt = 0 := by decide
  omega
theorem TkR_at {c : Zc} {kk vv : Nat} {n i k v : Int32} (h : TkR c kk vv n) (hk : zai c kk 0 i = some k) (hv : zai c vv 0 i = some v) (h0 : 0 ≤ i.toInt) (h1 : i.toInt < n.toInt) : tkr k v := h i h0 h1 k v hk hv
theorem p_String_isLatin1__0 {nf : Nat} (hn : 8589934592 ≤ nf) {G : List Nat} {c : Zc} (W : Zwt zty G c) : ∃ q, f_String_isLatin1 nf 0 c = some q ∧ Zwt zty G q.2 ∧ Zfr G [] c q.2 ∧ 1 ≤ q.1.toInt ∧ q.1.toInt ≤ 1 := ⟨(1, c), rfl, W, Zfr.rf, by dsimp only; decide, by dsimp only; decide⟩
theorem p_String_isLatin1__1 {nf : Nat} (hn : 8589934592 ≤ nf) {G : List Nat} {c : Zc} (W : Zwt zty G c) : ∃ q, f_String_isLatin1 nf 1 c = some q ∧ Zwt zty G q.2 ∧ Zfr G [] c q.2 ∧ 1 ≤ q.1.toInt ∧ q.1.toInt ≤ 1 := ⟨(1, c), rfl, W, Zfr.rf, by dsimp only; decide, by dsimp only; decide⟩
theorem p_String_isLatin1__2 {nf : Nat} (hn : 8589934592 ≤ nf) {G : List Nat} {c : Zc} (W : Zwt zty G c) : ∃ q, f_String_isLatin1 nf 2 c = some q ∧ Zwt zty G q.2 ∧ Zfr G [] c q.2 ∧ 1 ≤ q.1.toInt ∧ q.1.toInt ≤ 1 := ⟨(1, c), rfl, W, Zfr.rf, by dsimp only; decide, by dsimp only; decide⟩
theorem p_String_isLatin1__3 {nf : Nat} (hn : 8589934592 ≤ nf) {G : List Nat} {c : Zc} (W : Zwt zty G c) : ∃ q, f_String_isLatin1 nf 3 c = some q ∧ Zwt zty G q.2 ∧ Zfr G [] c q.2 ∧ 1 ≤ q.1.toInt ∧ q.1.toInt ≤ 1 := ⟨(1, c), rfl, W, Zfr.rf, by dsimp only; decide, by dsimp only; decide⟩
theorem f_cod {nf k : Nat} {c : Zc} (hk : zst k = some ()) : f_String_coder nf k c = some (0, c) := by
  unfold f_String_coder f_String_coder_14
  rw [if_neg (by decide), hk]
  show (if vp_nar .byte 0 = 0 then some ((0 : Int32), c) else none) = _
  exact if_pos (by decide)
theorem p_String_length__0 {nf : Nat} (hn : 8589934592 ≤ nf) {G : List Nat} {c : Zc} (W : Zwt zty G c) : ∃ q, f_String_length nf 0 c = some q ∧ Zwt zty G q.2 ∧ Zfr G [] c q.2 ∧ 6 ≤ q.1.toInt ∧ q.1.toInt ≤ 6 := by
  refine ⟨(6, c), ?_, W, Zfr.rf, by dsimp only; decide, by dsimp only; decide⟩
  unfold f_String_length
  rw [show zst 0 = some () from rfl]
  simp only [Option.bind_some]
  rw [f_cod rfl]
  exact congrArg (fun x => some (x, c)) (by decide : (Int32.ofNat (zs_len.getD 0 0)) >>> ((0 : Int32) &&& 31) = 6)
theorem p_String_length__1 {nf : Nat} (hn : 8589934592 ≤ nf) {G : List Nat} {c : Zc} (W : Zwt zty G c) : ∃ q, f_String_length nf 1 c = some q ∧ Zwt zty G q.2 ∧ Zfr G [] c q.2 ∧ 12 ≤ q.1.toInt ∧ q.1.toInt ≤ 12 := by
  refine ⟨(12, c), ?_, W, Zfr.rf, by dsimp only; decide, by dsimp only; decide⟩
  unfold f_String_length
  rw [show zst 1 = some () from rfl]
  simp only [Option.bind_some]
  rw [f_cod rfl]
  exact congrArg (fun x => some (x, c)) (by decide : (Int32.ofNat (zs_len.getD 1 0)) >>> ((0 : Int32) &&& 31) = 12)
theorem p_String_length__2 {nf : Nat} (hn : 8589934592 ≤ nf) {G : List Nat} {c : Zc} (W : Zwt zty G c) : ∃ q, f_String_length nf 2 c = some q ∧ Zwt zty G q.2 ∧ Zfr G [] c q.2 ∧ 66 ≤ q.1.toInt ∧ q.1.toInt ≤ 66 := by
  refine ⟨(66, c), ?_, W, Zfr.rf, by dsimp only; decide, by dsimp only; decide⟩
  unfold f_String_length
  rw [show zst 2 = some () from rfl]
  simp only [Option.bind_some]
  rw [f_cod rfl]
  exact congrArg (fun x => some (x, c)) (by decide : (Int32.ofNat (zs_len.getD 2 0)) >>> ((0 : Int32) &&& 31) = 66)
theorem p_String_length__3 {nf : Nat} (hn : 8589934592 ≤ nf) {G : List Nat} {c : Zc} (W : Zwt zty G c) : ∃ q, f_String_length nf 3 c = some q ∧ Zwt zty G q.2 ∧ Zfr G [] c q.2 ∧ 17 ≤ q.1.toInt ∧ q.1.toInt ≤ 17 := by
  refine ⟨(17, c), ?_, W, Zfr.rf, by dsimp only; decide, by dsimp only; decide⟩
  unfold f_String_length
  rw [show zst 3 = some () from rfl]
  simp only [Option.bind_some]
  rw [f_cod rfl]
  exact congrArg (fun x => some (x, c)) (by decide : (Int32.ofNat (zs_len.getD 3 0)) >>> ((0 : Int32) &&& 31) = 17)
theorem p_String_charAt__2 {nf : Nat} (hn : 8589934592 ≤ nf) {G : List Nat} {c : Zc} (W : Zwt zty G c) {a1 : Int32} (pl : 0 ≤ a1.toInt) (pu : a1.toInt ≤ 65) : ∃ q, f_String_charAt nf 2 a1 c = some q ∧ Zwt zty G q.2 ∧ Zfr G [] c q.2 := by
  have l0 : (0 : Int32).toInt = 0 := by decide
  have lz := zsl_2
  have zn := zsn_2
  unfold f_String_charAt
  refine wb (v := ()) rfl ?_
  refine wb (v := (1, c)) rfl ?_
  refine wi (fun q => ?_) (fun _ => ?_)
  · have := i_eq q
    have l1 : (1 : Int32).toInt = 1 := by decide
    dsimp only at this
    omega
  refine wb (v := ()) rfl ?_
  obtain ⟨v, ev⟩ := zwsb (i := 2) (j := a1) (by decide) pl (by omega)
  have ec : f_String_checkIndex nf a1 (Int32.ofNat (zs_len.getD 2 0)) c = some c := by
    unfold f_String_checkIndex f_Preconditions_checkIndex
    rw [if_neg (fun q => by have := i_lt q; omega), if_pos (Int32.lt_iff_toInt_lt.mpr (by omega))]
    rfl
  have e1 : f_StringLatin1_charAt nf 2 a1 c = some (UInt32.toInt32 (Int32.toUInt32 (v &&& 255) % 65536), c) := by
    unfold f_StringLatin1_charAt
    show ((f_String_checkIndex nf a1 (Int32.ofNat (zs_len.getD 2 0)) c).bind _) = _
    rw [ec]
    show ((zsb 2 a1).bind _) = _
    rw [ev]
    exact if_pos (nar_c _)
  refine wb e1 ?_
  exact ⟨_, if_pos (nar_c _), W, Zfr.rf⟩
def Ztg (G : List Nat) (c : Zc) (t : Nat) : Prop := ∃ g : Int32, zgi c t 2 8 = some g ∧ 1 ≤ g.toInt ∧ g.toInt ≤ 70
def Zot (G : List Nat) (c : Zc) (o : Nat) : Prop := ∃ tp : Int32, zgi c o 4 4 = some tp ∧ 1 ≤ tp.toInt ∧ tp.toInt ≤ 80
def Zkt (G : List Nat) (c : Zc) (k : Nat) : Prop := ∃ tp : Nat, ∃ kk : Nat, ∃ vv : Nat, ∃ n : Int32, zgr c k 3 4 = some tp ∧ zgr c k 3 0 = some kk ∧ zgr c k 3 1 = some vv ∧ zgi c k 3 3 = some n ∧ G[tp]? = some 42 ∧ G[kk]? = some 38 ∧ G[vv]? = some 39 ∧ 0 ≤ n.toInt ∧ n.toInt ≤ 200 ∧ TkR c kk vv n
def Zku (G : List Nat) (c : Zc) (k : Nat) : Prop := ∃ tp : Nat, ∃ kk : Nat, ∃ vv : Nat, ∃ n : Int32, zgr c k 3 4 = some tp ∧ zgr c k 3 0 = some kk ∧ zgr c k 3 1 = some vv ∧ zgi c k 3 3 = some n ∧ G[tp]? = some 42 ∧ G[kk]? = some 38 ∧ G[vv]? = some 39 ∧ 0 ≤ n.toInt ∧ n.toInt ≤ 201 ∧ TkR c kk vv n
def Zke (G : List Nat) (c : Zc) (k : Nat) : Prop := ∃ kk : Nat, ∃ vv : Nat, ∃ n : Int32, zgr c k 3 0 = some kk ∧ zgr c k 3 1 = some vv ∧ zgi c k 3 3 = some n ∧ G[kk]? = some 38 ∧ G[vv]? = some 39 ∧ 0 ≤ n.toInt ∧ n.toInt ≤ 201 ∧ TkR c kk vv (n + 1)
def Zkv (G : List Nat) (c : Zc) (k : Nat) (r : Int32) : Prop := ∃ tp : Nat, ∃ kk : Nat, ∃ vv : Nat, ∃ n : Int32, ∃ v : Int32, zgr c k 3 4 = some tp ∧ zgr c k 3 0 = some kk ∧ zgr c k 3 1 = some vv ∧ zgi c k 3 3 = some n ∧ zai c vv 0 n = some v ∧ G[tp]? = some 42 ∧ G[kk]? = some 38 ∧ G[vv]? = some 39 ∧ 0 ≤ n.toInt ∧ n.toInt ≤ 200 ∧ tkr r v ∧ TkR c kk vv n
def Zrt (G : List Nat) (c : Zc) (rd : Nat) : Prop := ∃ t : Nat, ∃ g : Int32, ∃ s : Int32, ∃ fa : Int32, ∃ sl : Int32, zgr c rd 5 4 = some t ∧ zgi c t 2 8 = some g ∧ zgi c rd 5 8 = some s ∧ zgi c rd 5 9 = some fa ∧ zgi c rd 5 16 = some sl ∧ G[t]? = some 3 ∧ 1 ≤ g.toInt ∧ g.toInt ≤ 70 ∧ -1 ≤ sl.toInt ∧ sl.toInt ≤ 7 ∧ (fa.toInt = 0 → (5 ≤ s.toInt ∧ s.toInt ≤ 7) ∨ s.toInt = 19 ∨ s.toInt = 20 → 0 ≤ sl.toInt)
def Zrs (G : List Nat) (c : Zc) (rd : Nat) : Prop := ∃ t : Nat, ∃ g : Int32, ∃ s : Int32, ∃ fa : Int32, ∃ sl : Int32, zgr c rd 5 4 = some t ∧ zgi c t 2 8 = some g ∧ zgi c rd 5 8 = some s ∧ zgi c rd 5 9 = some fa ∧ zgi c rd 5 16 = some sl ∧ G[t]? = some 3 ∧ 1 ≤ g.toInt ∧ g.toInt ≤ 70 ∧ -1 ≤ sl.toInt ∧ sl.toInt ≤ 7 ∧ (fa.toInt = 0 → 0 ≤ sl.toInt)
def Zr0 (G : List Nat) (c : Zc) (rd : Nat) : Prop := ∃ t : Nat, ∃ g : Int32, ∃ s : Int32, ∃ fa : Int32, ∃ sl : Int32, zgr c rd 5 4 = some t ∧ zgi c t 2 8 = some g ∧ zgi c rd 5 8 = some s ∧ zgi c rd 5 9 = some fa ∧ zgi c rd 5 16 = some sl ∧ G[t]? = some 3 ∧ 1 ≤ g.toInt ∧ g.toInt ≤ 70 ∧ -1 ≤ sl.toInt ∧ sl.toInt ≤ 7
def Zrf (G : List Nat) (c : Zc) (rd : Nat) : Prop := ∃ t : Nat, ∃ g : Int32, ∃ s : Int32, ∃ fa : Int32, ∃ sl : Int32, zgr c rd 5 4 = some t ∧ zgi c t 2 8 = some g ∧ zgi c rd 5 8 = some s ∧ zgi c rd 5 9 = some fa ∧ zgi c rd 5 16 = some sl ∧ G[t]? = some 3 ∧ 1 ≤ g.toInt ∧ g.toInt ≤ 70 ∧ -1 ≤ sl.toInt ∧ sl.toInt ≤ 7 ∧ 1 ≤ fa.toInt
def Zrd (G : List Nat) (c : Zc) (rd : Nat) (r : Int32) : Prop := ∃ t : Nat, ∃ g : Int32, ∃ s : Int32, ∃ fa : Int32, ∃ sl : Int32, ∃ tk : Nat, ∃ at_ : Int32, ∃ vl : Nat, ∃ v : Int32, zgr c rd 5 4 = some t ∧ zgi c t 2 8 = some g ∧ zgi c rd 5 8 = some s ∧ zgi c rd 5 9 = some fa ∧ zgi c rd 5 16 = some sl ∧ zgr c rd 5 1 = some tk ∧ zgi c rd 5 7 = some at_ ∧ zgr c tk 3 1 = some vl ∧ zai c vl 0 at_ = some v ∧ G[t]? = some 3 ∧ G[tk]? = some 4 ∧ G[vl]? = some 39 ∧ 1 ≤ g.toInt ∧ g.toInt ≤ 70 ∧ -1 ≤ sl.toInt ∧ sl.toInt ≤ 7 ∧ (fa.toInt = 0 → (5 ≤ s.toInt ∧ s.toInt ≤ 7) ∨ s.toInt = 19 ∨ s.toInt = 20 → 0 ≤ sl.toInt) ∧ fa.toInt = 0 ∧ 0 ≤ at_.toInt ∧ at_.toInt ≤ 201 ∧ -1 ≤ v.toInt ∧ v.toInt ≤ 9999 ∧ tkr r v
def Zr9 (G : List Nat) (c : Zc) (rd : Nat) (r : Int32) : Prop := ∃ t : Nat, ∃ g : Int32, ∃ s : Int32, ∃ fa : Int32, ∃ sl : Int32, ∃ tk : Nat, ∃ at_ : Int32, ∃ vl : Nat, ∃ v : Int32, zgr c rd 5 4 = some t ∧ zgi c t 2 8 = some g ∧ zgi c rd 5 8 = some s ∧ zgi c rd 5 9 = some fa ∧ zgi c rd 5 16 = some sl ∧ zgr c rd 5 1 = some tk ∧ zgi c rd 5 7 = some at_ ∧ zgr c tk 3 1 = some vl ∧ zai c vl 0 at_ = some v ∧ G[t]? = some 3 ∧ G[tk]? = some 4 ∧ G[vl]? = some 39 ∧ 1 ≤ g.toInt ∧ g.toInt ≤ 70 ∧ -1 ≤ sl.toInt ∧ sl.toInt ≤ 7 ∧ (fa.toInt = 0 → (5 ≤ s.toInt ∧ s.toInt ≤ 7) ∨ s.toInt = 19 ∨ s.toInt = 20 → 0 ≤ sl.toInt) ∧ fa.toInt = 0 ∧ 0 ≤ at_.toInt ∧ at_.toInt ≤ 201 ∧ -1 ≤ v.toInt ∧ v.toInt ≤ 9999 ∧ tkr r v ∧ 19 ≤ s.toInt ∧ s.toInt ≤ 20
end ZzT
