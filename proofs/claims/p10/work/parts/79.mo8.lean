section ZzT
def WkS (c : Zc) (m : Nat) (s : Int32) : Prop := ∀ nd ks ns, zgi c m 12 0 = some nd → zgr c m 12 26 = some ks → zai c ks 0 s = some ns → nd.toInt.toNat ^ ns.toInt.toNat ≤ 20000
section
variable {G : List Nat} {M : List (Nat × Nat)} {c c' : Zc} {m : Nat} {s : Int32}
theorem WkS_fr (h : WkS c m s) (F : Zfr G M c c') (t : G[m]? = some 64) (W : Zwt zty G c) (hM : (64, 0) ∉ M ∧ (64, 26) ∉ M ∧ (79, 0) ∉ M) : WkS c' m s := by
  intro nd ks ns e1 e2 e3
  rw [Zfr.gi F t hM.1] at e1
  rw [Zfr.gr F t hM.2.1] at e2
  obtain ⟨k, e, tc⟩ := gf_64_26 W t
  rw [e2] at e; cases e
  rw [Zfr.ai F tc hM.2.2] at e3
  exact h nd ks ns e1 e2 e3
theorem WkM_fr (h : WkM c m) (F : Zfr G M c c') (t : G[m]? = some 64) (W : Zwt zty G c) (hM : ((64, 0) ∉ M ∧ (64, 26) ∉ M ∧ (79, 0) ∉ M) ∧ (64, 25) ∉ M) : WkM c' m := by
  intro nd ks pv ns e1 e2 e0 e3
  rw [Zfr.gi F t hM.1.1] at e1
  rw [Zfr.gr F t hM.1.2.1] at e2
  rw [Zfr.gi F t hM.2] at e0
  obtain ⟨k, e, tc⟩ := gf_64_26 W t
  rw [e2] at e; cases e
  rw [Zfr.ai F tc hM.1.2.2] at e3
  exact h nd ks pv ns e1 e2 e0 e3
theorem WkM_of (h : WkS c m s) (e : zgi c m 12 25 = some s) : WkM c m := by
  intro nd ks pv ns e1 e2 e0 e3
  rw [e] at e0; cases e0
  exact h nd ks ns e1 e2 e3
theorem TxM_of (h : GtM c m) {k v : Int32} {kt kz : Nat} (e1 : zgr c m 12 23 = some kt) (e2 : zgr c m 12 22 = some kz) (l1 : 0 ≤ k.toInt) (l2 : k.toInt < 8) (e3 : zai c kt 6 k = some v) (hv : ¬ v.toInt = 0) (e4 : zai c kz 0 k = some s) (e : zgi c m 12 25 = some s) : TxM c m := ⟨s, e, (h k kt kz v s e1 e2 l1 l2 e3 hv e4).1⟩
end
end ZzT
