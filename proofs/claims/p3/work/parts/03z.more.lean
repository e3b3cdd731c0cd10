section ZzN
theorem zf_z {x : Int32} (h : x = 0 ∨ x = 1) : fits .boolean (.int x) = true := by
  rcases h with rfl | rfl <;> rfl
/-- the room that is left: at most mc cells of ms slots in all -/
def zlim (a b mc ms : Nat) : Option Unit := if a ≤ mc ∧ b ≤ ms then some () else none
theorem zlim_s {a b mc ms : Nat} {u : Unit} (h : zlim a b mc ms = some u) : a ≤ mc ∧ b ≤ ms := by
  unfold zlim at h
  split at h
  · assumption
  · cases h
def znw (c : Zc) (e : va_E) : Option Zc := some (c ++ [e])
variable {p : Program} {l : Launch} {e : Env} {R : Room} {s : State} {m : MethodId} {args : Array Value} {below : List Frame} {meth : Method} {cd : Code} {Q : State → Prop} {D : va_G} {cid : Nat → ClassId} {B nL cells slots : Nat} {c : Zc} {cc : ByteArray} {own : String} {Ts : List Cond} {pc : Nat} {lv : List (Nat × Value)} {st : List Value}
theorem z_newC (X : zX p s m args cd D cid B cc nL own Ts) {C : String} {T : u_T} {N ci index : Nat} {fs : List Value} {c' : Zc} (hd : decode cc pc = .ok (.new index, 3)) (hc : vwCl[ci]? = some (C, T, N)) (hin : ∀ w ∈ u_ws C T N, w ∈ Ts) (ty : Nat → FieldType) (hty : ∀ k, k < N → parseFieldDescriptor (T k).2.2.1 = some (ty k)) (hw1 : Cond.classLink own index C ∈ Ts) (hw2 : Cond.instantiable C N ∈ Ts) (hw3 : Cond.initialized C ∈ Ts) (hfs : ∀ j, j < N → defaultValue (ty j) = vp_V fs j) (hfz : ∀ B, fs.map (zr B) = fs) (hcells : cells + 1 ≤ R.cells) (hslots : slots + N ≤ R.slots) (h : znw c (.inr (ci, fs)) = some c') (kk : Zz p l e R s m args below meth cd Q D cid B nL (cells + 1) (slots + N) c' (pc + 3) lv (.ref c.length :: st)) : Zz p l e R s m args below meth cd Q D cid B nL cells slots c pc lv st := by
  cases h
  exact z_new X hd hc hin ty hty hw1 hw2 hw3 hfs hfz hcells hslots kk
theorem z_newaC (X : zX p s m args cd D cid B cc nL own Ts) {atype : ArrayType} {ty : FieldType} {t N : Nat} {x : Int32} {c' : Zc} {da : (Nat → Int32) ⊕ (Nat → Int64) ⊕ (Nat → UInt32) ⊕ (Nat → UInt64) ⊕ (Nat → Option Nat)} (hd : decode cc pc = .ok (.newarray atype, 2)) (hty : newarray.typeOf atype = ty) (hw : Cond.arrayClass ty ∈ Ts) (ht : ztl[t]? = some ty) (hprim : ∀ C, ty ≠ .object C) (hda : ∀ cA : ClassId, vp_cell cA (N, da) = arrV cA N (fun _ => defaultValue ty)) (hzp : ∀ B, zp B (N, da) = (N, da)) (hx : ¬ x < 0) (hN : x.toNatClampNeg = N) (hby : N * componentBytes ty ≤ 536870912) (hcells : cells + 1 ≤ R.cells) (hslots : slots + N ≤ R.slots) (h : znw c (.inl (t, N, da)) = some c') (kk : Zz p l e R s m args below meth cd Q D cid B nL (cells + 1) (slots + N) c' (pc + 2) lv (.ref c.length :: st)) : Zz p l e R s m args below meth cd Q D cid B nL cells slots c pc lv (.int x :: st) := by
  cases h
  exact z_newa X hd hty hw ht hprim hda hzp hx hN hby hcells hslots kk
theorem z_newqC (X : zX p s m args cd D cid B cc nL own Ts) {C : String} {index t N : Nat} {x : Int32} {c' : Zc} (hd : decode cc pc = .ok (.anewarray index, 3)) (hw1 : Cond.classLink own index C ∈ Ts) (hw2 : Cond.arrayOver (.object C) ∈ Ts) (ht : ztl[t]? = some (.object C)) (hx : ¬ x < 0) (hN : x.toNatClampNeg = N) (hby : N * 4 ≤ 536870912) (hcells : cells + 1 ≤ R.cells) (hslots : slots + N ≤ R.slots) (h : znw c (.inl (t, N, .inr (.inr (.inr (.inr (fun _ => none)))))) = some c') (kk : Zz p l e R s m args below meth cd Q D cid B nL (cells + 1) (slots + N) c' (pc + 3) lv (.ref c.length :: st)) : Zz p l e R s m args below meth cd Q D cid B nL cells slots c pc lv (.int x :: st) := by
  cases h
  exact z_newq X hd hw1 hw2 ht hx hN hby hcells hslots kk
/-- a size that an array may have -/
def zdim (x : Int32) : Option Nat := if ¬ x < 0 ∧ x.toNatClampNeg ≤ 60000000 then some x.toNatClampNeg else none
theorem zdim_s {x : Int32} {N : Nat} (h : zdim x = some N) : ¬ x < 0 ∧ x.toNatClampNeg = N ∧ N ≤ 60000000 := by
  unfold zdim at h
  split at h
  · rename_i q
    cases h
    exact ⟨q.1, rfl, q.2⟩
  · cases h
/-- a contract out of a walk -/
theorem z_metF {y : MethodName} {ws : List Cond} {fr lo mc ms maxL : Nat} {av : List Value} {ret : Option FieldType} {Qc : va_G → (Nat → ClassId) → Nat → Array Value → State → Outcome → State → Prop} (hy : plainFor y = true) (hw : ws = Cond.code y cc maxL ret :: Ts) (hlen : (lg_sl av).length ≤ maxL)
    (body : ∀ (p : Program) (e : Env) (s : State) (m : MethodId) (args : Array Value) (below : List Frame) (meth : Method) (cd : Code) (D : va_G) (cid : Nat → ClassId) (B : Nat), zX p s m args cd D cid B cc maxL y.cls Ts → meth.sig.returnType = ret → meth.locks = false → meth.name = y.name → s.heap.size = B + c.length → Zz p l e (zRm fr lo mc ms) s m args below meth cd (MQ below (Qc D cid B) args s mc ms (fun q => B ≤ q)) D cid B maxL 0 0 c 0 (lv_args 0 av) []) : zM l y ws fr lo mc ms av c Qc := by
  intro D cid B
  refine va_MetF (cc := cc) (maxL := maxL) (ret := ret) hy hw ?_
  intro p e s m args below meth cd s₁ Bd hml hv
  obtain ⟨rfl, hsz, hW, hK⟩ := hv
  have hl := lv_entry (av.map (zr B)) (n := maxL) (by rw [zl_sl]; exact hlen)
  rw [lg_entry_eq]
  generalize (lg_sl (av.map (zr B)) ++ List.replicate (maxL - (lg_sl (av.map (zr B))).length) Slot.unset).toArray = ls at hl ⊢
  rw [zl_args] at hl
  exact body p e s m _ below meth cd D cid B ⟨⟨Bd.exec, Bd.bytes, hml, findClass_of_methodNamed Bd.named, fun w hw2 => atoms_spec (ws := ws) Bd.pre w (by rw [hw]; exact List.mem_cons_of_mem _ hw2)⟩, hK, by omega⟩ Bd.returns Bd.notSynchronized (name_of_methodNamed Bd.named Bd.method).1 hsz hsz s.heap [] ls hW va_S.rf hl
end ZzN
