section ZzA
/-- a value whose references are places: the place k is the cell B + k; a return address stands for a constant of the start: the text i, or (100 + i) its bytes, at the addresses that cid tells from 1000 on -/
def zr (cid : Nat → ClassId) (B : Nat) (v : Value) : Value := match v with
  | .ref k => .ref (B + k)
  | .retAddr k => .ref (cid (1000 + k))
  | w => w
def zfs (i : Nat) : Value := .retAddr i
def zfb (i : Nat) : Value := .retAddr (100 + i)
theorem zr_fs {cid : Nat → ClassId} {B i : Nat} (_ : i < 100) : zr cid B (zfs i) = .ref (cid (1000 + i)) := rfl
theorem zr_fb {cid : Nat → ClassId} {B i : Nat} (_ : i < 100) : zr cid B (zfb i) = .ref (cid (1100 + i)) := by
  show Value.ref (cid (1000 + (100 + i))) = _
  congr 2
  omega
/-- a static of the JDK's that nothing reads: null, or some reference -/
def zF (cid : Nat → ClassId) (A : Nat → Prop) (U : State) (H : Heap) : Prop := va_Z "jdk/internal/util/Preconditions" "SIOOBE_FORMATTER" "Ljava/util/function/BiFunction;" .null A U H ∨ va_Z "jdk/internal/util/Preconditions" "SIOOBE_FORMATTER" "Ljava/util/function/BiFunction;" (.ref (cid 1099)) A U H
theorem zF.moved {cid : Nat → ClassId} {A : Nat → Prop} {u U : State} {H : Heap} (hvm : u.vm.Alike U.vm) (h : zF cid A u H) : zF cid A U H := h.elim (fun q => Or.inl (q.moved hvm)) (fun q => Or.inr (q.moved hvm))
theorem zF.kept {cid : Nat → ClassId} {A : Nat → Prop} {U : State} {H H1 : Heap} (h : zF cid A U H) (hq : ∀ a : Nat, a < H.size → ¬ A a → H1[a]? = H[a]?) : zF cid A U H1 := h.elim (fun q => Or.inl (q.kept hq)) (fun q => Or.inr (q.kept hq))
/-- the constants of the start: texts, their lengths and bytes, and where they stand in the class's own table -/
def zE (cid : Nat → ClassId) (B : Nat) (U : State) : Prop := vk_S 4 zs_len zs_byt (fun i => cid (1000 + i)) (fun i => cid (1100 + i)) (fun q => B ≤ q) U U.heap ∧ (∀ i, i < 4 → vk_R "PathQueries$Tokens" (zs_ix.getD i 0) (zs_tx.getD i "") (cid (1000 + i)) U) ∧ va_Z "java/lang/String" "COMPACT_STRINGS" "Z" (.int 1) (fun q => B ≤ q) U U.heap ∧ (∀ C ∈ zao, va_AO C U) ∧ zF cid (fun q => B ≤ q) U U.heap
theorem zE_call {cid : Nat → ClassId} {B : Nat} {U : State} {g : JFrame} {mk : MethodId} {a : Array Value} (h : zE cid B U) : zE cid B (U.calling g mk a) := ⟨vk_S.moved (u := U) (U := U.calling g mk a) (Vm.Alike.refl U.vm) h.1, fun i hi => vk_R.same (u := U) (U := U.calling g mk a) rfl (h.2.1 i hi), va_Z.moved (u := U) (U := U.calling g mk a) (Vm.Alike.refl U.vm) h.2.2.1, fun C hC => va_AO.moved (u := U) (U := U.calling g mk a) (Vm.Alike.refl U.vm) (h.2.2.2.1 C hC), zF.moved (u := U) (U := U.calling g mk a) (Vm.Alike.refl U.vm) h.2.2.2.2⟩
theorem zE_of {cid : Nat → ClassId} {B : Nat} {s U : State} {H : Heap} {locs : List Loc} (h : zE cid B s) (hW : s.WarmedH U.vm) (hU : U.heap = H) (hS : va_S (fun q => B ≤ q) s.heap H locs) : zE cid B U := by
  refine ⟨?_, fun i hi => vk_R.warm hW (h.2.1 i hi), ?_, fun C hC => va_AO.moved hW.alike (h.2.2.2.1 C hC), ?_⟩
  · rw [hU]; exact vk_S.moved hW.alike (vk_S.kept h.1 (fun a ha hA => hS.2.1 a ha hA))
  · rw [hU]; exact va_Z.moved hW.alike (va_Z.kept h.2.2.1 (fun a ha hA => hS.2.1 a ha hA))
  · rw [hU]; exact zF.moved hW.alike (zF.kept h.2.2.2.2 (fun a ha hA => hS.2.1 a ha hA))
def zp (B : Nat) (x : vp_A) : vp_A := (x.1, match x.2 with
  | .inr (.inr (.inr (.inr f))) => .inr (.inr (.inr (.inr (fun j => (f j).map (fun k => B + k)))))
  | y => y)
def ze (cid : Nat → ClassId) (B : Nat) (e : va_E) : va_E := match e with
  | .inl (t, x) => .inl (cid t, zp B x)
  | .inr (ci, fs) => .inr (ci, fs.map (zr cid B))
abbrev Zc : Type := List va_E
def zw (cid : Nat → ClassId) (B : Nat) (c : Zc) : va_W := c.mapIdx (fun k e => (B + k, ze cid B e))
theorem zw_get {cid : Nat → ClassId} {B : Nat} {c : Zc} {k : Nat} {e : va_E} (h : c[k]? = some e) : (zw cid B c)[k]? = some (B + k, ze cid B e) := by simp [zw, h]
theorem zw_set {cid : Nat → ClassId} {B : Nat} {c : Zc} {k : Nat} {e : va_E} : zw cid B (c.set k e) = (zw cid B c).set k (B + k, ze cid B e) := by simp [zw, List.mapIdx_set]
theorem zw_push {cid : Nat → ClassId} {B : Nat} {c : Zc} {e : va_E} : zw cid B (c ++ [e]) = zw cid B c ++ [(B + c.length, ze cid B e)] := by simp [zw, List.mapIdx_append]
theorem zw_inv {cid : Nat → ClassId} {B : Nat} {c : Zc} {k : Nat} {q : Nat × va_E} (h : (zw cid B c)[k]? = some q) : ∃ e, c[k]? = some e ∧ q = (B + k, ze cid B e) := by
  simp only [zw, List.getElem?_mapIdx, Option.map_eq_some_iff] at h
  obtain ⟨e, h1, h2⟩ := h
  exact ⟨e, h1, h2.symm⟩
theorem zw_D {cid : Nat → ClassId} {B : Nat} {c : Zc} : va_D (fun q => B ≤ q) (zw cid B c) := by
  refine ⟨fun i j p q hi hj h => ?_, fun k q hk => ?_⟩
  · obtain ⟨e, -, rfl⟩ := zw_inv hi
    obtain ⟨e', -, rfl⟩ := zw_inv hj
    have h : B + i = B + j := h
    omega
  · obtain ⟨e, -, rfl⟩ := zw_inv hk
    show B ≤ B + k
    omega
def ztys (cid : Nat → ClassId) : List (ClassId × FieldType) := ztl.mapIdx (fun t ty => (cid t, ty))
theorem ztys_get {cid : Nat → ClassId} {t : Nat} {ty : FieldType} (h : ztl[t]? = some ty) : (ztys cid)[t]? = some (cid t, ty) := by simp [ztys, h]
/-- the world: the cells c stand from B on -/
def zW (D : va_G) (cid : Nat → ClassId) (B : Nat) (c : Zc) (H : Heap) : Prop := va_P D vwCl (zw cid B c) H
def zX (p : Program) (s : State) (m : MethodId) (args : Array Value) (cd : Code) (D : va_G) (cid : Nat → ClassId) (B : Nat) (cc : ByteArray) (nL : Nat) (own : String) (Ts : List Cond) : Prop :=
  (p.tables.exec = Jvm.exec ∧ cd.code = cc ∧ cd.maxLocals = nL ∧ s.vm.findClass own = some m.cls ∧ ∀ w ∈ Ts, w.before args s = true) ∧ va_K D vwCl (ztys cid) s ∧ B ≤ s.heap.size ∧ zE cid B s
def zl (cid : Nat → ClassId) (B : Nat) (q : Nat × Value) : Nat × Value := (q.1, zr cid B q.2)
/-- the machine, at pc with locals lv and stack st (references are places), over the cells c, comes to Q -/
def Zz (p : Program) (l : Launch) (e : Env) (R : Room) (s : State) (m : MethodId) (args : Array Value) (below : List Frame) (meth : Method) (cd : Code) (Q : State → Prop) (D : va_G) (cid : Nat → ClassId) (B nL : Nat) (cells slots : Nat) (c : Zc) (pc : Nat) (lv : List (Nat × Value)) (st : List Value) : Prop :=
  s.heap.size + cells = B + c.length → ∀ (H : Heap) (locs : List Loc) (ls : Array Slot), zW D cid B c H → va_S (fun q => B ≤ q) s.heap H locs → lv_has ls nL (lv.map (zl cid B)) → W p l e R s m args below meth cd H locs cells slots Q (F0 m pc ls (st.map (zr cid B)))
-- reading and writing of cells
def zgv (c : Zc) (k ci j : Nat) : Option Value := match c[k]? with
  | some (.inr (d, fs)) => if d = ci then fs[j]? else none
  | _ => none
def zgi (c : Zc) (k ci j : Nat) : Option Int32 := match zgv c k ci j with
  | some (.int x) => some x
  | _ => none
def zgl (c : Zc) (k ci j : Nat) : Option Int64 := match zgv c k ci j with
  | some (.long x) => some x
  | _ => none
def zgr (c : Zc) (k ci j : Nat) : Option Nat := match zgv c k ci j with
  | some (.ref x) => some x
  | _ => none
def zpv (c : Zc) (k ci j : Nat) (v : Value) : Option Zc := match c[k]? with
  | some (.inr (d, fs)) => if d = ci ∧ j < fs.length then some (c.set k (.inr (ci, fs.set j v))) else none
  | _ => none
def zpz (c : Zc) (k ci j : Nat) (x : Int32) : Option Zc := if x = 0 ∨ x = 1 then zpv c k ci j (.int x) else none
def zai (c : Zc) (k t : Nat) (i : Int32) : Option Int32 := match c[k]? with
  | some (.inl (t', n, .inl f)) => if t' = t ∧ ¬ (i < 0 ∨ n ≤ i.toNatClampNeg) then some (f i.toNatClampNeg) else none
  | _ => none
def zal (c : Zc) (k t : Nat) (i : Int32) : Option Int64 := match c[k]? with
  | some (.inl (t', n, .inr (.inl f))) => if t' = t ∧ ¬ (i < 0 ∨ n ≤ i.toNatClampNeg) then some (f i.toNatClampNeg) else none
  | _ => none
def zar (c : Zc) (k t : Nat) (i : Int32) : Option Nat := match c[k]? with
  | some (.inl (t', n, .inr (.inr (.inr (.inr f))))) => if t' = t ∧ ¬ (i < 0 ∨ n ≤ i.toNatClampNeg) then f i.toNatClampNeg else none
  | _ => none
def zsi (c : Zc) (k t : Nat) (i x : Int32) : Option Zc := match c[k]? with
  | some (.inl (t', n, .inl f)) => if t' = t ∧ ¬ (i < 0 ∨ n ≤ i.toNatClampNeg) then some (c.set k (.inl (t, n, .inl (upd f i.toNatClampNeg x)))) else none
  | _ => none
def zsl (c : Zc) (k t : Nat) (i : Int32) (x : Int64) : Option Zc := match c[k]? with
  | some (.inl (t', n, .inr (.inl f))) => if t' = t ∧ ¬ (i < 0 ∨ n ≤ i.toNatClampNeg) then some (c.set k (.inl (t, n, .inr (.inl (vp_updL f i.toNatClampNeg x))))) else none
  | _ => none
def zsr (c : Zc) (k t ci : Nat) (i : Int32) (x : Nat) : Option Zc := match c[k]?, c[x]? with
  | some (.inl (t', n, .inr (.inr (.inr (.inr f))))), some (.inr (d, _)) => if t' = t ∧ d = ci ∧ ¬ (i < 0 ∨ n ≤ i.toNatClampNeg) then some (c.set k (.inl (t, n, .inr (.inr (.inr (.inr (va_up f i.toNatClampNeg (some x)))))))) else none
  | _, _ => none
def zlen (c : Zc) (k t : Nat) : Option Int32 := match c[k]? with
  | some (.inl (t', n, _)) => if t' = t then some (Int32.ofNat n) else none
  | _ => none
theorem zgi_v {c : Zc} {k ci j : Nat} {x : Int32} (h : zgi c k ci j = some x) : zgv c k ci j = some (.int x) := by
  unfold zgi at h
  split at h
  · cases h; assumption
  · cases h
theorem zgl_v {c : Zc} {k ci j : Nat} {x : Int64} (h : zgl c k ci j = some x) : zgv c k ci j = some (.long x) := by
  unfold zgl at h
  split at h
  · cases h; assumption
  · cases h
theorem zgr_v {c : Zc} {k ci j : Nat} {x : Nat} (h : zgr c k ci j = some x) : zgv c k ci j = some (.ref x) := by
  unfold zgr at h
  split at h
  · cases h; assumption
  · cases h
theorem zgv_s {c : Zc} {k ci j : Nat} {v : Value} (h : zgv c k ci j = some v) : ∃ fs, c[k]? = some (.inr (ci, fs)) ∧ fs[j]? = some v := by
  unfold zgv at h
  split at h
  · rename_i d fs hd
    split at h
    · rename_i e; subst e; exact ⟨fs, hd, h⟩
    · cases h
  · cases h
theorem zpv_s {c c' : Zc} {k ci j : Nat} {v : Value} (h : zpv c k ci j v = some c') : ∃ fs, c[k]? = some (.inr (ci, fs)) ∧ j < fs.length ∧ c' = c.set k (.inr (ci, fs.set j v)) := by
  unfold zpv at h
  split at h
  · rename_i d fs hd
    split at h
    · rename_i e; obtain ⟨e, hj⟩ := e; subst e; cases h; exact ⟨fs, hd, hj, rfl⟩
    · cases h
  · cases h
theorem zai_s {c : Zc} {k t : Nat} {i x : Int32} (h : zai c k t i = some x) : ∃ n f, c[k]? = some (.inl (t, n, .inl f)) ∧ vp_in i n ∧ x = f i.toNatClampNeg := by
  unfold zai at h
  split at h
  · rename_i t' n f hd
    split at h
    · rename_i e; obtain ⟨e, hj⟩ := e; subst e; cases h; exact ⟨n, f, hd, hj, rfl⟩
    · cases h
  · cases h
theorem zal_s {c : Zc} {k t : Nat} {i : Int32} {x : Int64} (h : zal c k t i = some x) : ∃ n f, c[k]? = some (.inl (t, n, .inr (.inl f))) ∧ vp_in i n ∧ x = f i.toNatClampNeg := by
  unfold zal at h
  split at h
  · rename_i t' n f hd
    split at h
    · rename_i e; obtain ⟨e, hj⟩ := e; subst e; cases h; exact ⟨n, f, hd, hj, rfl⟩
    · cases h
  · cases h
theorem zar_s {c : Zc} {k t : Nat} {i : Int32} {x : Nat} (h : zar c k t i = some x) : ∃ n f, c[k]? = some (.inl (t, n, .inr (.inr (.inr (.inr f))))) ∧ vp_in i n ∧ f i.toNatClampNeg = some x := by
  unfold zar at h
  split at h
  · rename_i t' n f hd
    split at h
    · rename_i e; obtain ⟨e, hj⟩ := e; subst e; exact ⟨n, f, hd, hj, h⟩
    · cases h
  · cases h
theorem zsi_s {c c' : Zc} {k t : Nat} {i x : Int32} (h : zsi c k t i x = some c') : ∃ n f, c[k]? = some (.inl (t, n, .inl f)) ∧ vp_in i n ∧ c' = c.set k (.inl (t, n, .inl (upd f i.toNatClampNeg x))) := by
  unfold zsi at h
  split at h
  · rename_i t' n f hd
    split at h
    · rename_i e; obtain ⟨e, hj⟩ := e; subst e; cases h; exact ⟨n, f, hd, hj, rfl⟩
    · cases h
  · cases h
theorem zsl_s {c c' : Zc} {k t : Nat} {i : Int32} {x : Int64} (h : zsl c k t i x = some c') : ∃ n f, c[k]? = some (.inl (t, n, .inr (.inl f))) ∧ vp_in i n ∧ c' = c.set k (.inl (t, n, .inr (.inl (vp_updL f i.toNatClampNeg x)))) := by
  unfold zsl at h
  split at h
  · rename_i t' n f hd
    split at h
    · rename_i e; obtain ⟨e, hj⟩ := e; subst e; cases h; exact ⟨n, f, hd, hj, rfl⟩
    · cases h
  · cases h
theorem zsr_s {c c' : Zc} {k t ci : Nat} {i : Int32} {x : Nat} (h : zsr c k t ci i x = some c') : ∃ n f vs, c[k]? = some (.inl (t, n, .inr (.inr (.inr (.inr f))))) ∧ c[x]? = some (.inr (ci, vs)) ∧ vp_in i n ∧ c' = c.set k (.inl (t, n, .inr (.inr (.inr (.inr (va_up f i.toNatClampNeg (some x))))))) := by
  unfold zsr at h
  split at h
  · rename_i t' n f d vs hd hx
    split at h
    · rename_i e; obtain ⟨e, e2, hj⟩ := e; subst e; subst e2; cases h; exact ⟨n, f, vs, hd, hx, hj, rfl⟩
    · cases h
  · cases h
theorem zlen_s {c : Zc} {k t : Nat} {x : Int32} (h : zlen c k t = some x) : ∃ n f, c[k]? = some (.inl (t, n, f)) ∧ x = Int32.ofNat n := by
  unfold zlen at h
  split at h
  · rename_i t' n f hd
    split at h
    · rename_i e; subst e; cases h; exact ⟨n, f, hd, rfl⟩
    · cases h
  · cases h
theorem zr_cat (cid : Nat → ClassId) (B : Nat) (v : Value) : (zr cid B v).category = v.category := by cases v <;> rfl
theorem zl_store1 {cid : Nat → ClassId} {B i : Nat} {v : Value} {lv lv' : List (Nat × Value)} (hl : (i, v) :: lv.filter (fun q => !(q.1 == i) && !(q.1 + 1 == i && q.2.category == 2)) = lv') :
    (i, zr cid B v) :: (lv.map (zl cid B)).filter (fun q => !(q.1 == i) && !(q.1 + 1 == i && q.2.category == 2)) = lv'.map (zl cid B) := by
  subst hl
  simp only [List.map_cons, List.filter_map]
  congr 1
  congr 1
  apply List.filter_congr
  intro x _
  simp [Function.comp, zl, zr_cat]
theorem zl_store2 {cid : Nat → ClassId} {B i : Nat} {v : Value} {lv lv' : List (Nat × Value)} (hl : (i, v) :: lv.filter (fun q => !(q.1 == i) && (!(q.1 == i + 1) && !(q.1 + 1 == i && q.2.category == 2))) = lv') :
    (i, zr cid B v) :: (lv.map (zl cid B)).filter (fun q => !(q.1 == i) && (!(q.1 == i + 1) && !(q.1 + 1 == i && q.2.category == 2))) = lv'.map (zl cid B) := by
  subst hl
  simp only [List.map_cons, List.filter_map]
  congr 1
  congr 1
  apply List.filter_congr
  intro x _
  simp [Function.comp, zl, zr_cat]
theorem zl_at {cid : Nat → ClassId} {B nL k i : Nat} {v : Value} {ls : Array Slot} {lv : List (Nat × Value)} (hl : lv_has ls nL (lv.map (zl cid B))) (h : lv[k]? = some (i, v)) : ls[i]? = some (.val (zr cid B v)) := lv_at hl k (by simp [h, zl])
theorem zw_le {D : va_G} {cid : Nat → ClassId} {B : Nat} {c : Zc} {H : Heap} (hP : zW D cid B c H) (hB : B ≤ H.size) : B + c.length ≤ H.size := by
  cases hc : c.length with
  | zero => simpa using hB
  | succ n =>
    have hlt : n < c.length := by omega
    have h := hP n _ (zw_get (cid := cid) (B := B) (List.getElem?_eq_getElem hlt))
    have h2 := h.lt
    have h2 : B + n < H.size := h2
    omega
/-- the heap's size, where the new cells are counted one by one -/
theorem z_sz {p : Program} {l : Launch} {e : Env} {R : Room} {s : State} {m : MethodId} {args : Array Value} {below : List Frame} {meth : Method} {cd : Code} {Q : State → Prop} {D : va_G} {cid : Nat → ClassId} {B cells slots : Nat} {c : Zc} {H : Heap} {locs : List Loc} {g : JFrame} (hn : s.heap.size + cells = B + c.length) (hB : B ≤ s.heap.size) (hP : zW D cid B c H) (hS : va_S (fun q => B ≤ q) s.heap H locs) (k : H.size = B + c.length → W p l e R s m args below meth cd H locs cells slots Q g) : W p l e R s m args below meth cd H locs cells slots Q g := by
  intro T hT X
  have h1 := X.heapSize
  rw [hT] at h1
  have h2 := zw_le hP (Nat.le_trans hB hS.1)
  exact k (by omega) T hT X
end ZzA
section ZzB
variable {p : Program} {l : Launch} {e : Env} {R : Room} {s : State} {m : MethodId} {args : Array Value} {below : List Frame} {meth : Method} {cd : Code} {Q : State → Prop} {D : va_G} {cid : Nat → ClassId} {B nL cells slots : Nat} {c : Zc} {cc : ByteArray} {own : String} {Ts : List Cond} {pc : Nat} {lv : List (Nat × Value)} {st : List Value}
theorem z_iconst (X : zX p s m args cd D cid B cc nL own Ts) {n : Int} {v : Int32} (hd : decode cc pc = .ok (.iconst n, 1)) (hv : Int32.ofInt n = v) (k : Zz p l e R s m args below meth cd Q D cid B nL cells slots c (pc + 1) lv (.int v :: st)) : Zz p l e R s m args below meth cd Q D cid B nL cells slots c pc lv st := fun hn H locs ls hW hS hl => lv_iconst X.1.1 X.1.2.1 hd hv (k hn H locs ls hW hS hl)
theorem z_bipush (X : zX p s m args cd D cid B cc nL own Ts) {n : Int} {v : Int32} (hd : decode cc pc = .ok (.bipush n, 2)) (hv : (Int8.ofInt n).toInt32 = v) (k : Zz p l e R s m args below meth cd Q D cid B nL cells slots c (pc + 2) lv (.int v :: st)) : Zz p l e R s m args below meth cd Q D cid B nL cells slots c pc lv st := fun hn H locs ls hW hS hl => lv_bipush X.1.1 X.1.2.1 hd hv (k hn H locs ls hW hS hl)
theorem z_sipush (X : zX p s m args cd D cid B cc nL own Ts) {n : Int} {v : Int32} (hd : decode cc pc = .ok (.sipush n, 3)) (hv : (Int16.ofInt n).toInt32 = v) (k : Zz p l e R s m args below meth cd Q D cid B nL cells slots c (pc + 3) lv (.int v :: st)) : Zz p l e R s m args below meth cd Q D cid B nL cells slots c pc lv st := fun hn H locs ls hW hS hl => lv_sipush X.1.1 X.1.2.1 hd hv (k hn H locs ls hW hS hl)
theorem z_lconst (X : zX p s m args cd D cid B cc nL own Ts) {n : Fin 2} {v : Int64} (hd : decode cc pc = .ok (.lconst n, 1)) (hv : Int64.ofNat (n : Nat) = v) (k : Zz p l e R s m args below meth cd Q D cid B nL cells slots c (pc + 1) lv (.long v :: st)) : Zz p l e R s m args below meth cd Q D cid B nL cells slots c pc lv st := fun hn H locs ls hW hS hl => lv_lconst X.1.1 X.1.2.1 hd hv (k hn H locs ls hW hS hl)
theorem z_ldc (X : zX p s m args cd D cid B cc nL own Ts) {index : Nat} {v : Int32} (hd : decode cc pc = .ok (.ldc index, 2)) (hw : Jvm.Cond.constant own index v ∈ Ts) (k : Zz p l e R s m args below meth cd Q D cid B nL cells slots c (pc + 2) lv (.int v :: st)) : Zz p l e R s m args below meth cd Q D cid B nL cells slots c pc lv st := fun hn H locs ls hW hS hl => lv_ldc X.1.1 X.1.2.1 X.1.2.2.2.1 (X.1.2.2.2.2 _ hw) hd (k hn H locs ls hW hS hl)
theorem z_ldcw (X : zX p s m args cd D cid B cc nL own Ts) {index : Nat} {v : Int32} (hd : decode cc pc = .ok (.ldc_w index, 3)) (hw : Jvm.Cond.constant own index v ∈ Ts) (k : Zz p l e R s m args below meth cd Q D cid B nL cells slots c (pc + 3) lv (.int v :: st)) : Zz p l e R s m args below meth cd Q D cid B nL cells slots c pc lv st := fun hn H locs ls hW hS hl => lv_ldcw X.1.1 X.1.2.1 X.1.2.2.2.1 (X.1.2.2.2.2 _ hw) hd (k hn H locs ls hW hS hl)
theorem z_ldc2 (X : zX p s m args cd D cid B cc nL own Ts) {index : Nat} {v : Int64} (hd : decode cc pc = .ok (.ldc2_w index, 3)) (hw : Jvm.Cond.constantLong own index v ∈ Ts) (k : Zz p l e R s m args below meth cd Q D cid B nL cells slots c (pc + 3) lv (.long v :: st)) : Zz p l e R s m args below meth cd Q D cid B nL cells slots c pc lv st := fun hn H locs ls hW hS hl => lv_ldc2 X.1.1 X.1.2.1 X.1.2.2.2.1 (X.1.2.2.2.2 _ hw) hd (k hn H locs ls hW hS hl)
theorem z_iload_n (X : zX p s m args cd D cid B cc nL own Ts) {a : Fin 4} {i : Nat} {x : Int32} (hd : decode cc pc = .ok (.iload_n a, 1)) (hi : (a : Nat) = i) (j : Nat) (h : lv[j]? = some (i, .int x)) (k : Zz p l e R s m args below meth cd Q D cid B nL cells slots c (pc + 1) lv (.int x :: st)) : Zz p l e R s m args below meth cd Q D cid B nL cells slots c pc lv st := fun hn H locs ls hW hS hl => lv_iload_n X.1.1 X.1.2.1 hd hi (zl_at hl h) (k hn H locs ls hW hS hl)
theorem z_iload (X : zX p s m args cd D cid B cc nL own Ts) {i : Nat} {x : Int32} (hd : decode cc pc = .ok (.iload i, 2)) (j : Nat) (h : lv[j]? = some (i, .int x)) (k : Zz p l e R s m args below meth cd Q D cid B nL cells slots c (pc + 2) lv (.int x :: st)) : Zz p l e R s m args below meth cd Q D cid B nL cells slots c pc lv st := fun hn H locs ls hW hS hl => lv_iload X.1.1 X.1.2.1 hd (zl_at hl h) (k hn H locs ls hW hS hl)
theorem z_lload_n (X : zX p s m args cd D cid B cc nL own Ts) {a : Fin 4} {i : Nat} {x : Int64} (hd : decode cc pc = .ok (.lload_n a, 1)) (hi : (a : Nat) = i) (j : Nat) (h : lv[j]? = some (i, .long x)) (k : Zz p l e R s m args below meth cd Q D cid B nL cells slots c (pc + 1) lv (.long x :: st)) : Zz p l e R s m args below meth cd Q D cid B nL cells slots c pc lv st := fun hn H locs ls hW hS hl => lv_lload_n X.1.1 X.1.2.1 hd hi (zl_at hl h) (k hn H locs ls hW hS hl)
theorem z_lload (X : zX p s m args cd D cid B cc nL own Ts) {i : Nat} {x : Int64} (hd : decode cc pc = .ok (.lload i, 2)) (j : Nat) (h : lv[j]? = some (i, .long x)) (k : Zz p l e R s m args below meth cd Q D cid B nL cells slots c (pc + 2) lv (.long x :: st)) : Zz p l e R s m args below meth cd Q D cid B nL cells slots c pc lv st := fun hn H locs ls hW hS hl => lv_lload X.1.1 X.1.2.1 hd (zl_at hl h) (k hn H locs ls hW hS hl)
theorem z_aload_n (X : zX p s m args cd D cid B cc nL own Ts) {a : Fin 4} {i : Nat} {x : Nat} (hd : decode cc pc = .ok (.aload_n a, 1)) (hi : (a : Nat) = i) (j : Nat) (h : lv[j]? = some (i, .ref x)) (k : Zz p l e R s m args below meth cd Q D cid B nL cells slots c (pc + 1) lv (.ref x :: st)) : Zz p l e R s m args below meth cd Q D cid B nL cells slots c pc lv st := fun hn H locs ls hW hS hl => lv_aload_n X.1.1 X.1.2.1 hd hi (zl_at hl h) (k hn H locs ls hW hS hl)
theorem z_aload (X : zX p s m args cd D cid B cc nL own Ts) {i : Nat} {x : Nat} (hd : decode cc pc = .ok (.aload i, 2)) (j : Nat) (h : lv[j]? = some (i, .ref x)) (k : Zz p l e R s m args below meth cd Q D cid B nL cells slots c (pc + 2) lv (.ref x :: st)) : Zz p l e R s m args below meth cd Q D cid B nL cells slots c pc lv st := fun hn H locs ls hW hS hl => lv_aload X.1.1 X.1.2.1 hd (zl_at hl h) (k hn H locs ls hW hS hl)
theorem z_istore_n (X : zX p s m args cd D cid B cc nL own Ts) {a : Fin 4} {i : Nat} {x : Int32} {lv' : List (Nat × Value)} (hd : decode cc pc = .ok (.istore_n a, 1)) (hi : (a : Nat) = i) (hni : i < nL) (hl0 : (i, Value.int x) :: lv.filter (fun q => !(q.1 == i) && !(q.1 + 1 == i && q.2.category == 2)) = lv') (k : Zz p l e R s m args below meth cd Q D cid B nL cells slots c (pc + 1) lv' st) : Zz p l e R s m args below meth cd Q D cid B nL cells slots c pc lv (.int x :: st) := fun hn H locs ls hW hS hl => lv_istore_n X.1.1 X.1.2.1 hd hi hl hni (zl_store1 (v := .int x) hl0) (fun ls' hl' => k hn H locs ls' hW hS hl')
theorem z_istore (X : zX p s m args cd D cid B cc nL own Ts)  {i : Nat} {x : Int32} {lv' : List (Nat × Value)} (hd : decode cc pc = .ok (.istore i, 2))  (hni : i < nL) (hl0 : (i, Value.int x) :: lv.filter (fun q => !(q.1 == i) && !(q.1 + 1 == i && q.2.category == 2)) = lv') (k : Zz p l e R s m args below meth cd Q D cid B nL cells slots c (pc + 2) lv' st) : Zz p l e R s m args below meth cd Q D cid B nL cells slots c pc lv (.int x :: st) := fun hn H locs ls hW hS hl => lv_istore X.1.1 X.1.2.1 hd  hl hni (zl_store1 (v := .int x) hl0) (fun ls' hl' => k hn H locs ls' hW hS hl')
theorem z_lstore_n (X : zX p s m args cd D cid B cc nL own Ts) {a : Fin 4} {i : Nat} {x : Int64} {lv' : List (Nat × Value)} (hd : decode cc pc = .ok (.lstore_n a, 1)) (hi : (a : Nat) = i) (hni : i + 1 < nL) (hl0 : (i, Value.long x) :: lv.filter (fun q => !(q.1 == i) && (!(q.1 == i + 1) && !(q.1 + 1 == i && q.2.category == 2))) = lv') (k : Zz p l e R s m args below meth cd Q D cid B nL cells slots c (pc + 1) lv' st) : Zz p l e R s m args below meth cd Q D cid B nL cells slots c pc lv (.long x :: st) := fun hn H locs ls hW hS hl => lv_lstore_n X.1.1 X.1.2.1 hd hi hl hni (zl_store2 (v := .long x) hl0) (fun ls' hl' => k hn H locs ls' hW hS hl')
theorem z_lstore (X : zX p s m args cd D cid B cc nL own Ts)  {i : Nat} {x : Int64} {lv' : List (Nat × Value)} (hd : decode cc pc = .ok (.lstore i, 2))  (hni : i + 1 < nL) (hl0 : (i, Value.long x) :: lv.filter (fun q => !(q.1 == i) && (!(q.1 == i + 1) && !(q.1 + 1 == i && q.2.category == 2))) = lv') (k : Zz p l e R s m args below meth cd Q D cid B nL cells slots c (pc + 2) lv' st) : Zz p l e R s m args below meth cd Q D cid B nL cells slots c pc lv (.long x :: st) := fun hn H locs ls hW hS hl => lv_lstore X.1.1 X.1.2.1 hd  hl hni (zl_store2 (v := .long x) hl0) (fun ls' hl' => k hn H locs ls' hW hS hl')
theorem z_astore_n (X : zX p s m args cd D cid B cc nL own Ts) {a : Fin 4} {i : Nat} {x : Nat} {lv' : List (Nat × Value)} (hd : decode cc pc = .ok (.astore_n a, 1)) (hi : (a : Nat) = i) (hni : i < nL) (hl0 : (i, Value.ref x) :: lv.filter (fun q => !(q.1 == i) && !(q.1 + 1 == i && q.2.category == 2)) = lv') (k : Zz p l e R s m args below meth cd Q D cid B nL cells slots c (pc + 1) lv' st) : Zz p l e R s m args below meth cd Q D cid B nL cells slots c pc lv (.ref x :: st) := fun hn H locs ls hW hS hl => lv_astore_n X.1.1 X.1.2.1 hd hi hl hni (zl_store1 (v := .ref x) hl0) (fun ls' hl' => k hn H locs ls' hW hS hl')
theorem z_astore (X : zX p s m args cd D cid B cc nL own Ts)  {i : Nat} {x : Nat} {lv' : List (Nat × Value)} (hd : decode cc pc = .ok (.astore i, 2))  (hni : i < nL) (hl0 : (i, Value.ref x) :: lv.filter (fun q => !(q.1 == i) && !(q.1 + 1 == i && q.2.category == 2)) = lv') (k : Zz p l e R s m args below meth cd Q D cid B nL cells slots c (pc + 2) lv' st) : Zz p l e R s m args below meth cd Q D cid B nL cells slots c pc lv (.ref x :: st) := fun hn H locs ls hW hS hl => lv_astore X.1.1 X.1.2.1 hd  hl hni (zl_store1 (v := .ref x) hl0) (fun ls' hl' => k hn H locs ls' hW hS hl')
theorem z_iinc (X : zX p s m args cd D cid B cc nL own Ts) {i : Nat} {n : Int} {x v : Int32} {lv' : List (Nat × Value)} (hd : decode cc pc = .ok (.iinc i n, 3)) (j : Nat) (h : lv[j]? = some (i, .int x)) (hv : x + Int32.ofInt n = v) (hni : i < nL) (hl0 : (i, Value.int v) :: lv.filter (fun q => !(q.1 == i) && !(q.1 + 1 == i && q.2.category == 2)) = lv') (k : Zz p l e R s m args below meth cd Q D cid B nL cells slots c (pc + 3) lv' st) : Zz p l e R s m args below meth cd Q D cid B nL cells slots c pc lv st := fun hn H locs ls hW hS hl => lv_iinc (k := j) X.1.1 X.1.2.1 hd hl (by simp [h, zl]; rfl) hv hni (zl_store1 (v := .int v) hl0) (fun ls' hl' => k hn H locs ls' hW hS hl')
theorem z_iadd (X : zX p s m args cd D cid B cc nL own Ts) {x y : Int32} (hd : decode cc pc = .ok (.iadd, 1))  (k : Zz p l e R s m args below meth cd Q D cid B nL cells slots c (pc + 1) lv (.int (x + y) :: st)) : Zz p l e R s m args below meth cd Q D cid B nL cells slots c pc lv (.int y :: .int x :: st) := fun hn H locs ls hW hS hl => lv_iadd X.1.1 X.1.2.1 hd (k hn H locs ls hW hS hl)
theorem z_isub (X : zX p s m args cd D cid B cc nL own Ts) {x y : Int32} (hd : decode cc pc = .ok (.isub, 1))  (k : Zz p l e R s m args below meth cd Q D cid B nL cells slots c (pc + 1) lv (.int (x - y) :: st)) : Zz p l e R s m args below meth cd Q D cid B nL cells slots c pc lv (.int y :: .int x :: st) := fun hn H locs ls hW hS hl => lv_isub X.1.1 X.1.2.1 hd (k hn H locs ls hW hS hl)
theorem z_imul (X : zX p s m args cd D cid B cc nL own Ts) {x y : Int32} (hd : decode cc pc = .ok (.imul, 1))  (k : Zz p l e R s m args below meth cd Q D cid B nL cells slots c (pc + 1) lv (.int (x * y) :: st)) : Zz p l e R s m args below meth cd Q D cid B nL cells slots c pc lv (.int y :: .int x :: st) := fun hn H locs ls hW hS hl => lv_imul X.1.1 X.1.2.1 hd (k hn H locs ls hW hS hl)
theorem z_iand (X : zX p s m args cd D cid B cc nL own Ts) {x y : Int32} (hd : decode cc pc = .ok (.iand, 1))  (k : Zz p l e R s m args below meth cd Q D cid B nL cells slots c (pc + 1) lv (.int (x &&& y) :: st)) : Zz p l e R s m args below meth cd Q D cid B nL cells slots c pc lv (.int y :: .int x :: st) := fun hn H locs ls hW hS hl => lv_iand X.1.1 X.1.2.1 hd (k hn H locs ls hW hS hl)
theorem z_ior (X : zX p s m args cd D cid B cc nL own Ts) {x y : Int32} (hd : decode cc pc = .ok (.ior, 1))  (k : Zz p l e R s m args below meth cd Q D cid B nL cells slots c (pc + 1) lv (.int (x ||| y) :: st)) : Zz p l e R s m args below meth cd Q D cid B nL cells slots c pc lv (.int y :: .int x :: st) := fun hn H locs ls hW hS hl => lv_ior X.1.1 X.1.2.1 hd (k hn H locs ls hW hS hl)
theorem z_ixor (X : zX p s m args cd D cid B cc nL own Ts) {x y : Int32} (hd : decode cc pc = .ok (.ixor, 1))  (k : Zz p l e R s m args below meth cd Q D cid B nL cells slots c (pc + 1) lv (.int (x ^^^ y) :: st)) : Zz p l e R s m args below meth cd Q D cid B nL cells slots c pc lv (.int y :: .int x :: st) := fun hn H locs ls hW hS hl => lv_ixor X.1.1 X.1.2.1 hd (k hn H locs ls hW hS hl)
theorem z_ishl (X : zX p s m args cd D cid B cc nL own Ts) {x y : Int32} (hd : decode cc pc = .ok (.ishl, 1))  (k : Zz p l e R s m args below meth cd Q D cid B nL cells slots c (pc + 1) lv (.int (x <<< (y &&& 31)) :: st)) : Zz p l e R s m args below meth cd Q D cid B nL cells slots c pc lv (.int y :: .int x :: st) := fun hn H locs ls hW hS hl => lv_ishl X.1.1 X.1.2.1 hd (k hn H locs ls hW hS hl)
theorem z_ishr (X : zX p s m args cd D cid B cc nL own Ts) {x y : Int32} (hd : decode cc pc = .ok (.ishr, 1))  (k : Zz p l e R s m args below meth cd Q D cid B nL cells slots c (pc + 1) lv (.int (x >>> (y &&& 31)) :: st)) : Zz p l e R s m args below meth cd Q D cid B nL cells slots c pc lv (.int y :: .int x :: st) := fun hn H locs ls hW hS hl => lv_ishr X.1.1 X.1.2.1 hd (k hn H locs ls hW hS hl)
theorem z_idiv (X : zX p s m args cd D cid B cc nL own Ts) {x y : Int32} (hd : decode cc pc = .ok (.idiv, 1)) (hne : ¬ y = 0) (k : Zz p l e R s m args below meth cd Q D cid B nL cells slots c (pc + 1) lv (.int (x / y) :: st)) : Zz p l e R s m args below meth cd Q D cid B nL cells slots c pc lv (.int y :: .int x :: st) := fun hn H locs ls hW hS hl => lv_idiv X.1.1 X.1.2.1 hd hne (k hn H locs ls hW hS hl)
theorem z_irem (X : zX p s m args cd D cid B cc nL own Ts) {x y : Int32} (hd : decode cc pc = .ok (.irem, 1)) (hne : ¬ y = 0) (k : Zz p l e R s m args below meth cd Q D cid B nL cells slots c (pc + 1) lv (.int (x - x / y * y) :: st)) : Zz p l e R s m args below meth cd Q D cid B nL cells slots c pc lv (.int y :: .int x :: st) := fun hn H locs ls hW hS hl => lv_irem X.1.1 X.1.2.1 hd hne (k hn H locs ls hW hS hl)
theorem z_ineg (X : zX p s m args cd D cid B cc nL own Ts) {x : Int32} (hd : decode cc pc = .ok (.ineg, 1))  (k : Zz p l e R s m args below meth cd Q D cid B nL cells slots c (pc + 1) lv (.int (-x) :: st)) : Zz p l e R s m args below meth cd Q D cid B nL cells slots c pc lv (.int x :: st) := fun hn H locs ls hW hS hl => lv_ineg X.1.1 X.1.2.1 hd (k hn H locs ls hW hS hl)
theorem z_iushr (X : zX p s m args cd D cid B cc nL own Ts) {x y : Int32} (hd : decode cc pc = .ok (.iushr, 1))  (k : Zz p l e R s m args below meth cd Q D cid B nL cells slots c (pc + 1) lv (.int ((x.toUInt32 >>> (y.toUInt32 &&& Int32.toUInt32 31)).toInt32) :: st)) : Zz p l e R s m args below meth cd Q D cid B nL cells slots c pc lv (.int y :: .int x :: st) := fun hn H locs ls hW hS hl => lv_iushr X.1.1 X.1.2.1 hd rfl (k hn H locs ls hW hS hl)
theorem z_ladd (X : zX p s m args cd D cid B cc nL own Ts) {x y : Int64} (hd : decode cc pc = .ok (.ladd, 1))  (k : Zz p l e R s m args below meth cd Q D cid B nL cells slots c (pc + 1) lv (.long (x + y) :: st)) : Zz p l e R s m args below meth cd Q D cid B nL cells slots c pc lv (.long y :: .long x :: st) := fun hn H locs ls hW hS hl => lv_ladd X.1.1 X.1.2.1 hd (k hn H locs ls hW hS hl)
theorem z_lsub (X : zX p s m args cd D cid B cc nL own Ts) {x y : Int64} (hd : decode cc pc = .ok (.lsub, 1))  (k : Zz p l e R s m args below meth cd Q D cid B nL cells slots c (pc + 1) lv (.long (x - y) :: st)) : Zz p l e R s m args below meth cd Q D cid B nL cells slots c pc lv (.long y :: .long x :: st) := fun hn H locs ls hW hS hl => lv_lsub X.1.1 X.1.2.1 hd (k hn H locs ls hW hS hl)
theorem z_lmul (X : zX p s m args cd D cid B cc nL own Ts) {x y : Int64} (hd : decode cc pc = .ok (.lmul, 1))  (k : Zz p l e R s m args below meth cd Q D cid B nL cells slots c (pc + 1) lv (.long (x * y) :: st)) : Zz p l e R s m args below meth cd Q D cid B nL cells slots c pc lv (.long y :: .long x :: st) := fun hn H locs ls hW hS hl => lv_lmul X.1.1 X.1.2.1 hd (k hn H locs ls hW hS hl)
theorem z_land (X : zX p s m args cd D cid B cc nL own Ts) {x y : Int64} (hd : decode cc pc = .ok (.land, 1))  (k : Zz p l e R s m args below meth cd Q D cid B nL cells slots c (pc + 1) lv (.long (x &&& y) :: st)) : Zz p l e R s m args below meth cd Q D cid B nL cells slots c pc lv (.long y :: .long x :: st) := fun hn H locs ls hW hS hl => lv_land X.1.1 X.1.2.1 hd (k hn H locs ls hW hS hl)
theorem z_lor (X : zX p s m args cd D cid B cc nL own Ts) {x y : Int64} (hd : decode cc pc = .ok (.lor, 1))  (k : Zz p l e R s m args below meth cd Q D cid B nL cells slots c (pc + 1) lv (.long (x ||| y) :: st)) : Zz p l e R s m args below meth cd Q D cid B nL cells slots c pc lv (.long y :: .long x :: st) := fun hn H locs ls hW hS hl => lv_lor X.1.1 X.1.2.1 hd (k hn H locs ls hW hS hl)
theorem z_lxor (X : zX p s m args cd D cid B cc nL own Ts) {x y : Int64} (hd : decode cc pc = .ok (.lxor, 1))  (k : Zz p l e R s m args below meth cd Q D cid B nL cells slots c (pc + 1) lv (.long (x ^^^ y) :: st)) : Zz p l e R s m args below meth cd Q D cid B nL cells slots c pc lv (.long y :: .long x :: st) := fun hn H locs ls hW hS hl => lv_lxor X.1.1 X.1.2.1 hd (k hn H locs ls hW hS hl)
theorem z_lshl (X : zX p s m args cd D cid B cc nL own Ts) {x : Int64} {y : Int32} (hd : decode cc pc = .ok (.lshl, 1))  (k : Zz p l e R s m args below meth cd Q D cid B nL cells slots c (pc + 1) lv (.long (x <<< (y.toInt64 &&& 63)) :: st)) : Zz p l e R s m args below meth cd Q D cid B nL cells slots c pc lv (.int y :: .long x :: st) := fun hn H locs ls hW hS hl => lv_lshl X.1.1 X.1.2.1 hd rfl (k hn H locs ls hW hS hl)
theorem z_lshr (X : zX p s m args cd D cid B cc nL own Ts) {x : Int64} {y : Int32} (hd : decode cc pc = .ok (.lshr, 1))  (k : Zz p l e R s m args below meth cd Q D cid B nL cells slots c (pc + 1) lv (.long (x >>> (y.toInt64 &&& 63)) :: st)) : Zz p l e R s m args below meth cd Q D cid B nL cells slots c pc lv (.int y :: .long x :: st) := fun hn H locs ls hW hS hl => lv_lshr X.1.1 X.1.2.1 hd rfl (k hn H locs ls hW hS hl)
theorem z_lushr (X : zX p s m args cd D cid B cc nL own Ts) {x : Int64} {y : Int32} (hd : decode cc pc = .ok (.lushr, 1))  (k : Zz p l e R s m args below meth cd Q D cid B nL cells slots c (pc + 1) lv (.long ((x.toUInt64 >>> (y.toInt64.toUInt64 &&& Int64.toUInt64 63)).toInt64) :: st)) : Zz p l e R s m args below meth cd Q D cid B nL cells slots c pc lv (.int y :: .long x :: st) := fun hn H locs ls hW hS hl => lv_lushr X.1.1 X.1.2.1 hd rfl (k hn H locs ls hW hS hl)
theorem z_lcmp (X : zX p s m args cd D cid B cc nL own Ts) {x y : Int64} (hd : decode cc pc = .ok (.lcmp, 1))  (k : Zz p l e R s m args below meth cd Q D cid B nL cells slots c (pc + 1) lv (.int (lg_cmp x y) :: st)) : Zz p l e R s m args below meth cd Q D cid B nL cells slots c pc lv (.long y :: .long x :: st) := fun hn H locs ls hW hS hl => W.lcmp X.1.1 X.1.2.1 hd (k hn H locs ls hW hS hl)
theorem z_i2l (X : zX p s m args cd D cid B cc nL own Ts) {x : Int32} (hd : decode cc pc = .ok (.i2l, 1))  (k : Zz p l e R s m args below meth cd Q D cid B nL cells slots c (pc + 1) lv (.long x.toInt64 :: st)) : Zz p l e R s m args below meth cd Q D cid B nL cells slots c pc lv (.int x :: st) := fun hn H locs ls hW hS hl => lv_i2l X.1.1 X.1.2.1 hd rfl (k hn H locs ls hW hS hl)
theorem z_l2i (X : zX p s m args cd D cid B cc nL own Ts) {x : Int64} (hd : decode cc pc = .ok (.l2i, 1))  (k : Zz p l e R s m args below meth cd Q D cid B nL cells slots c (pc + 1) lv (.int x.toInt32 :: st)) : Zz p l e R s m args below meth cd Q D cid B nL cells slots c pc lv (.long x :: st) := fun hn H locs ls hW hS hl => lv_l2i X.1.1 X.1.2.1 hd rfl (k hn H locs ls hW hS hl)
theorem z_i2b (X : zX p s m args cd D cid B cc nL own Ts) {x : Int32} (hd : decode cc pc = .ok (.i2b, 1))  (k : Zz p l e R s m args below meth cd Q D cid B nL cells slots c (pc + 1) lv (.int x.toInt8.toInt32 :: st)) : Zz p l e R s m args below meth cd Q D cid B nL cells slots c pc lv (.int x :: st) := fun hn H locs ls hW hS hl => lv_i2b X.1.1 X.1.2.1 hd rfl (k hn H locs ls hW hS hl)
theorem z_i2c (X : zX p s m args cd D cid B cc nL own Ts) {x : Int32} (hd : decode cc pc = .ok (.i2c, 1))  (k : Zz p l e R s m args below meth cd Q D cid B nL cells slots c (pc + 1) lv (.int (x.toUInt32 % 65536).toInt32 :: st)) : Zz p l e R s m args below meth cd Q D cid B nL cells slots c pc lv (.int x :: st) := fun hn H locs ls hW hS hl => lv_i2c X.1.1 X.1.2.1 hd rfl (k hn H locs ls hW hS hl)
theorem z_dup (X : zX p s m args cd D cid B cc nL own Ts) {v : Value} (hd : decode cc pc = .ok (.dup, 1)) (h : v.category = 1) (k : Zz p l e R s m args below meth cd Q D cid B nL cells slots c (pc + 1) lv (v :: v :: st)) : Zz p l e R s m args below meth cd Q D cid B nL cells slots c pc lv (v :: st) := fun hn H locs ls hW hS hl => lv_dup X.1.1 X.1.2.1 hd ((zr_cat cid B v).trans h) (k hn H locs ls hW hS hl)
theorem z_pop (X : zX p s m args cd D cid B cc nL own Ts) {v : Value} (hd : decode cc pc = .ok (.pop, 1)) (h : v.category = 1) (k : Zz p l e R s m args below meth cd Q D cid B nL cells slots c (pc + 1) lv st) : Zz p l e R s m args below meth cd Q D cid B nL cells slots c pc lv (v :: st) := fun hn H locs ls hW hS hl => lv_pop X.1.1 X.1.2.1 hd ((zr_cat cid B v).trans h) (k hn H locs ls hW hS hl)
theorem z_dup_x1 (X : zX p s m args cd D cid B cc nL own Ts) {v w : Value} (hd : decode cc pc = .ok (.dup_x1, 1)) (h : v.category = 1) (h2 : w.category = 1) (k : Zz p l e R s m args below meth cd Q D cid B nL cells slots c (pc + 1) lv (v :: w :: v :: st)) : Zz p l e R s m args below meth cd Q D cid B nL cells slots c pc lv (v :: w :: st) := fun hn H locs ls hW hS hl => lv_dup_x1 X.1.1 X.1.2.1 hd ((zr_cat cid B v).trans h) ((zr_cat cid B w).trans h2) (k hn H locs ls hW hS hl)
theorem z_dup_x2 (X : zX p s m args cd D cid B cc nL own Ts) {v w u : Value} (hd : decode cc pc = .ok (.dup_x2, 1)) (h : v.category = 1) (h2 : w.category = 1) (h3 : u.category = 1) (k : Zz p l e R s m args below meth cd Q D cid B nL cells slots c (pc + 1) lv (v :: w :: u :: v :: st)) : Zz p l e R s m args below meth cd Q D cid B nL cells slots c pc lv (v :: w :: u :: st) := fun hn H locs ls hW hS hl => lv_dup_x2 X.1.1 X.1.2.1 hd ((zr_cat cid B v).trans h) ((zr_cat cid B w).trans h2) ((zr_cat cid B u).trans h3) (k hn H locs ls hW hS hl)
theorem z_dup2_11 (X : zX p s m args cd D cid B cc nL own Ts) {v w : Value} (hd : decode cc pc = .ok (.dup2, 1)) (h : v.category = 1) (h2 : w.category = 1) (k : Zz p l e R s m args below meth cd Q D cid B nL cells slots c (pc + 1) lv (v :: w :: v :: w :: st)) : Zz p l e R s m args below meth cd Q D cid B nL cells slots c pc lv (v :: w :: st) := fun hn H locs ls hW hS hl => lv_dup2_11 X.1.1 X.1.2.1 hd ((zr_cat cid B v).trans h) ((zr_cat cid B w).trans h2) (k hn H locs ls hW hS hl)
theorem z_if_eq (X : zX p s m args cd D cid B cc nL own Ts) {x : Int32} {off : Int} {tgt : Nat} (hd : decode cc pc = .ok (.ifCond .eq off, 3)) (ht : (pc : Int) + off = (tgt : Int)) (kt : x = 0 → Zz p l e R s m args below meth cd Q D cid B nL cells slots c tgt lv st) (kf : ¬ x = 0 → Zz p l e R s m args below meth cd Q D cid B nL cells slots c (pc + 3) lv st) : Zz p l e R s m args below meth cd Q D cid B nL cells slots c pc lv (.int x :: st) := fun hn H locs ls hW hS hl => lv_if_eq X.1.1 X.1.2.1 hd ht (fun q => kt q hn H locs ls hW hS hl) (fun q => kf q hn H locs ls hW hS hl)
theorem z_icmp_eq (X : zX p s m args cd D cid B cc nL own Ts) {x y : Int32} {off : Int} {tgt : Nat} (hd : decode cc pc = .ok (.if_icmp .eq off, 3)) (ht : (pc : Int) + off = (tgt : Int)) (kt : x = y → Zz p l e R s m args below meth cd Q D cid B nL cells slots c tgt lv st) (kf : ¬ x = y → Zz p l e R s m args below meth cd Q D cid B nL cells slots c (pc + 3) lv st) : Zz p l e R s m args below meth cd Q D cid B nL cells slots c pc lv (.int y :: .int x :: st) := fun hn H locs ls hW hS hl => lv_icmp_eq X.1.1 X.1.2.1 hd ht (fun q => kt q hn H locs ls hW hS hl) (fun q => kf q hn H locs ls hW hS hl)
theorem z_if_lt (X : zX p s m args cd D cid B cc nL own Ts) {x : Int32} {off : Int} {tgt : Nat} (hd : decode cc pc = .ok (.ifCond .lt off, 3)) (ht : (pc : Int) + off = (tgt : Int)) (kt : x < 0 → Zz p l e R s m args below meth cd Q D cid B nL cells slots c tgt lv st) (kf : ¬ x < 0 → Zz p l e R s m args below meth cd Q D cid B nL cells slots c (pc + 3) lv st) : Zz p l e R s m args below meth cd Q D cid B nL cells slots c pc lv (.int x :: st) := fun hn H locs ls hW hS hl => lv_if_lt X.1.1 X.1.2.1 hd ht (fun q => kt q hn H locs ls hW hS hl) (fun q => kf q hn H locs ls hW hS hl)
theorem z_icmp_lt (X : zX p s m args cd D cid B cc nL own Ts) {x y : Int32} {off : Int} {tgt : Nat} (hd : decode cc pc = .ok (.if_icmp .lt off, 3)) (ht : (pc : Int) + off = (tgt : Int)) (kt : x < y → Zz p l e R s m args below meth cd Q D cid B nL cells slots c tgt lv st) (kf : ¬ x < y → Zz p l e R s m args below meth cd Q D cid B nL cells slots c (pc + 3) lv st) : Zz p l e R s m args below meth cd Q D cid B nL cells slots c pc lv (.int y :: .int x :: st) := fun hn H locs ls hW hS hl => lv_icmp_lt X.1.1 X.1.2.1 hd ht (fun q => kt q hn H locs ls hW hS hl) (fun q => kf q hn H locs ls hW hS hl)
theorem z_if_ge (X : zX p s m args cd D cid B cc nL own Ts) {x : Int32} {off : Int} {tgt : Nat} (hd : decode cc pc = .ok (.ifCond .ge off, 3)) (ht : (pc : Int) + off = (tgt : Int)) (kt : 0 ≤ x → Zz p l e R s m args below meth cd Q D cid B nL cells slots c tgt lv st) (kf : ¬ 0 ≤ x → Zz p l e R s m args below meth cd Q D cid B nL cells slots c (pc + 3) lv st) : Zz p l e R s m args below meth cd Q D cid B nL cells slots c pc lv (.int x :: st) := fun hn H locs ls hW hS hl => lv_if_ge X.1.1 X.1.2.1 hd ht (fun q => kt q hn H locs ls hW hS hl) (fun q => kf q hn H locs ls hW hS hl)
theorem z_icmp_ge (X : zX p s m args cd D cid B cc nL own Ts) {x y : Int32} {off : Int} {tgt : Nat} (hd : decode cc pc = .ok (.if_icmp .ge off, 3)) (ht : (pc : Int) + off = (tgt : Int)) (kt : y ≤ x → Zz p l e R s m args below meth cd Q D cid B nL cells slots c tgt lv st) (kf : ¬ y ≤ x → Zz p l e R s m args below meth cd Q D cid B nL cells slots c (pc + 3) lv st) : Zz p l e R s m args below meth cd Q D cid B nL cells slots c pc lv (.int y :: .int x :: st) := fun hn H locs ls hW hS hl => lv_icmp_ge X.1.1 X.1.2.1 hd ht (fun q => kt q hn H locs ls hW hS hl) (fun q => kf q hn H locs ls hW hS hl)
theorem z_if_gt (X : zX p s m args cd D cid B cc nL own Ts) {x : Int32} {off : Int} {tgt : Nat} (hd : decode cc pc = .ok (.ifCond .gt off, 3)) (ht : (pc : Int) + off = (tgt : Int)) (kt : 0 < x → Zz p l e R s m args below meth cd Q D cid B nL cells slots c tgt lv st) (kf : ¬ 0 < x → Zz p l e R s m args below meth cd Q D cid B nL cells slots c (pc + 3) lv st) : Zz p l e R s m args below meth cd Q D cid B nL cells slots c pc lv (.int x :: st) := fun hn H locs ls hW hS hl => lv_if_gt X.1.1 X.1.2.1 hd ht (fun q => kt q hn H locs ls hW hS hl) (fun q => kf q hn H locs ls hW hS hl)
theorem z_icmp_gt (X : zX p s m args cd D cid B cc nL own Ts) {x y : Int32} {off : Int} {tgt : Nat} (hd : decode cc pc = .ok (.if_icmp .gt off, 3)) (ht : (pc : Int) + off = (tgt : Int)) (kt : y < x → Zz p l e R s m args below meth cd Q D cid B nL cells slots c tgt lv st) (kf : ¬ y < x → Zz p l e R s m args below meth cd Q D cid B nL cells slots c (pc + 3) lv st) : Zz p l e R s m args below meth cd Q D cid B nL cells slots c pc lv (.int y :: .int x :: st) := fun hn H locs ls hW hS hl => lv_icmp_gt X.1.1 X.1.2.1 hd ht (fun q => kt q hn H locs ls hW hS hl) (fun q => kf q hn H locs ls hW hS hl)
theorem z_if_le (X : zX p s m args cd D cid B cc nL own Ts) {x : Int32} {off : Int} {tgt : Nat} (hd : decode cc pc = .ok (.ifCond .le off, 3)) (ht : (pc : Int) + off = (tgt : Int)) (kt : x ≤ 0 → Zz p l e R s m args below meth cd Q D cid B nL cells slots c tgt lv st) (kf : ¬ x ≤ 0 → Zz p l e R s m args below meth cd Q D cid B nL cells slots c (pc + 3) lv st) : Zz p l e R s m args below meth cd Q D cid B nL cells slots c pc lv (.int x :: st) := fun hn H locs ls hW hS hl => lv_if_le X.1.1 X.1.2.1 hd ht (fun q => kt q hn H locs ls hW hS hl) (fun q => kf q hn H locs ls hW hS hl)
theorem z_icmp_le (X : zX p s m args cd D cid B cc nL own Ts) {x y : Int32} {off : Int} {tgt : Nat} (hd : decode cc pc = .ok (.if_icmp .le off, 3)) (ht : (pc : Int) + off = (tgt : Int)) (kt : x ≤ y → Zz p l e R s m args below meth cd Q D cid B nL cells slots c tgt lv st) (kf : ¬ x ≤ y → Zz p l e R s m args below meth cd Q D cid B nL cells slots c (pc + 3) lv st) : Zz p l e R s m args below meth cd Q D cid B nL cells slots c pc lv (.int y :: .int x :: st) := fun hn H locs ls hW hS hl => lv_icmp_le X.1.1 X.1.2.1 hd ht (fun q => kt q hn H locs ls hW hS hl) (fun q => kf q hn H locs ls hW hS hl)
theorem z_if_ne (X : zX p s m args cd D cid B cc nL own Ts) {x : Int32} {off : Int} {tgt : Nat} (hd : decode cc pc = .ok (.ifCond .ne off, 3)) (ht : (pc : Int) + off = (tgt : Int)) (kt : ¬ x = 0 → Zz p l e R s m args below meth cd Q D cid B nL cells slots c tgt lv st) (kf : x = 0 → Zz p l e R s m args below meth cd Q D cid B nL cells slots c (pc + 3) lv st) : Zz p l e R s m args below meth cd Q D cid B nL cells slots c pc lv (.int x :: st) := fun hn H locs ls hW hS hl => lv_if_ne X.1.1 X.1.2.1 hd ht (fun q => kt q hn H locs ls hW hS hl) (fun q => kf q hn H locs ls hW hS hl)
theorem z_icmp_ne (X : zX p s m args cd D cid B cc nL own Ts) {x y : Int32} {off : Int} {tgt : Nat} (hd : decode cc pc = .ok (.if_icmp .ne off, 3)) (ht : (pc : Int) + off = (tgt : Int)) (kt : ¬ x = y → Zz p l e R s m args below meth cd Q D cid B nL cells slots c tgt lv st) (kf : x = y → Zz p l e R s m args below meth cd Q D cid B nL cells slots c (pc + 3) lv st) : Zz p l e R s m args below meth cd Q D cid B nL cells slots c pc lv (.int y :: .int x :: st) := fun hn H locs ls hW hS hl => lv_icmp_ne X.1.1 X.1.2.1 hd ht (fun q => kt q hn H locs ls hW hS hl) (fun q => kf q hn H locs ls hW hS hl)
theorem z_goto (X : zX p s m args cd D cid B cc nL own Ts) {off : Int} {tgt : Nat} (hd : decode cc pc = .ok (.goto off, 3)) (ht : (pc : Int) + off = (tgt : Int)) (k : Zz p l e R s m args below meth cd Q D cid B nL cells slots c tgt lv st) : Zz p l e R s m args below meth cd Q D cid B nL cells slots c pc lv st := fun hn H locs ls hW hS hl => lv_goto X.1.1 X.1.2.1 hd ht (k hn H locs ls hW hS hl)
theorem z_tableOut (X : zX p s m args cd D cid B cc nL own Ts) {dflt lo hi : Int} {offs : Array Int} {len : Nat} {x : Int32} {tgt : Nat} (hd : decode cc pc = .ok (.tableswitch dflt lo hi offs, len)) (h : x.toInt < lo ∨ hi < x.toInt) (ht : (pc : Int) + dflt = (tgt : Int)) (k : Zz p l e R s m args below meth cd Q D cid B nL cells slots c tgt lv st) : Zz p l e R s m args below meth cd Q D cid B nL cells slots c pc lv (.int x :: st) := fun hn H locs ls hW hS hl => lv_tableOut X.1.1 X.1.2.1 hd h ht (k hn H locs ls hW hS hl)
theorem z_tableIn (X : zX p s m args cd D cid B cc nL own Ts) {dflt lo hi : Int} {offs : Array Int} {len : Nat} {x : Int32} {off : Int} {tgt : Nat} (hd : decode cc pc = .ok (.tableswitch dflt lo hi offs, len)) (h1 : ¬ x.toInt < lo) (h2 : ¬ hi < x.toInt) (ho : offs[(x.toInt - lo).toNat]? = some off) (ht : (pc : Int) + off = (tgt : Int)) (k : Zz p l e R s m args below meth cd Q D cid B nL cells slots c tgt lv st) : Zz p l e R s m args below meth cd Q D cid B nL cells slots c pc lv (.int x :: st) := fun hn H locs ls hW hS hl => lv_tableIn X.1.1 X.1.2.1 hd h1 h2 ho ht (k hn H locs ls hW hS hl)
theorem z_lookup (X : zX p s m args cd D cid B cc nL own Ts) {dflt : Int} {ps : Array (Int × Int)} {len : Nat} {x : Int32} {off : Int} {tgt : Nat} (hd : decode cc pc = .ok (.lookupswitch dflt ps, len)) (hp : (ps.toList.zip (ps.toList.drop 1)).all (fun (a, next) => a.1 < next.1) = true) (ho : Op.lookupswitch.offset ps.toList dflt x.toInt = off) (ht : (pc : Int) + off = (tgt : Int)) (k : Zz p l e R s m args below meth cd Q D cid B nL cells slots c tgt lv st) : Zz p l e R s m args below meth cd Q D cid B nL cells slots c pc lv (.int x :: st) := fun hn H locs ls hW hS hl => lv_lookup X.1.1 X.1.2.1 hd hp ho ht (k hn H locs ls hW hS hl)
theorem z_sub {lv' : List (Nat × Value)} (ks : List Nat) (h : lv_pick lv ks = lv') (k : Zz p l e R s m args below meth cd Q D cid B nL cells slots c pc lv' st) : Zz p l e R s m args below meth cd Q D cid B nL cells slots c pc lv st := fun hn H locs ls hW hS hl => k hn H locs ls hW hS (lv_sub hl ks (by subst h; simp only [lv_pick, List.getElem?_map, List.map_filterMap]))
theorem z_get (X : zX p s m args cd D cid B cc nL own Ts) {C : String} {T : u_T} {N ci index k j : Nat} {v : Value} (hd : decode cc pc = .ok (.getfield index, 3)) (hc : vwCl[ci]? = some (C, T, N)) (hin : ∀ w ∈ u_ws C T N, w ∈ Ts) (hj : j < N) (hw : Cond.fieldLink own index (T j).1 (T j).2.1 (T j).2.2.1 ∈ Ts) (h : zgv c k ci j = some v) (kk : Zz p l e R s m args below meth cd Q D cid B nL cells slots c (pc + 3) lv (v :: st)) : Zz p l e R s m args below meth cd Q D cid B nL cells slots c pc lv (.ref k :: st) := by
  intro hn H locs ls hW hS hl
  obtain ⟨fs, h1, h2⟩ := zgv_s h
  exact va_get (D := D) (ci := ci) (v := zr cid B v) (fs := fs.map (zr cid B)) X.1.1 X.1.2.1 X.1.2.2.2.2 hin X.1.2.2.2.1 X.2.1 hW k (zw_get h1) hc j hj (X.1.2.2.2.2 _ hw) (fun _ h9 => h9) (by simp [h2]) hd (kk hn H locs ls hW hS hl)
theorem z_put (X : zX p s m args cd D cid B cc nL own Ts) {C : String} {T : u_T} {N ci index k j : Nat} {v : Value} {ty : FieldType} {c' : Zc} (hd : decode cc pc = .ok (.putfield index, 3)) (hc : vwCl[ci]? = some (C, T, N)) (hin : ∀ w ∈ u_ws C T N, w ∈ Ts) (ty0 : Nat → FieldType) (hty : ∀ k, k < N → parseFieldDescriptor (T k).2.2.1 = some (ty0 k)) (hnm : ∀ a, a < N → ∀ b, b < N → a ≠ b → (T a).2.1 ≠ (T b).2.1) (hj : j < N) (hw : Cond.fieldLink own index (T j).1 (T j).2.1 (T j).2.2.1 ∈ Ts) (hfin : (T j).2.2.2 = false) (hd2 : parseFieldDescriptor (T j).2.2.1 = some ty) (hnw : narrow ty (zr cid B v) = zr cid B v) (hfit : fits ty (zr cid B v) = true) (h : zpv c k ci j v = some c') (kk : Zz p l e R s m args below meth cd Q D cid B nL cells slots c' (pc + 3) lv st) : Zz p l e R s m args below meth cd Q D cid B nL cells slots c pc lv (v :: .ref k :: st) := by
  intro hn H locs ls hW hS hl
  obtain ⟨fs, h1, h2, rfl⟩ := zpv_s h
  refine va_put (D := D) (ci := ci) (v := zr cid B v) (ty := ty) (fs := fs.map (zr cid B)) X.1.1 X.1.2.1 X.1.2.2.2.2 hin ty0 hty hnm X.1.2.2.2.1 X.2.1 hW zw_D hS k (zw_get h1) hc j hj (X.1.2.2.2.2 _ hw) (fun _ h9 => h9) hfin hd2 hnw hfit (by simpa using h2) hd (fun H1 locs1 hP1 _ hS1 => ?_)
  refine kk (by rw [List.length_set]; exact hn) H1 locs1 ls ?_ hS1 hl
  rw [zW, zw_set]; simpa [ze, List.map_set] using hP1
theorem z_putF (X : zX p s m args cd D cid B cc nL own Ts) {C : String} {T : u_T} {N ci index k j : Nat} {v : Value} {ty : FieldType} {c' : Zc} (hd : decode cc pc = .ok (.putfield index, 3)) (hc : vwCl[ci]? = some (C, T, N)) (hin : ∀ w ∈ u_ws C T N, w ∈ Ts) (ty0 : Nat → FieldType) (hty : ∀ k, k < N → parseFieldDescriptor (T k).2.2.1 = some (ty0 k)) (hnm : ∀ a, a < N → ∀ b, b < N → a ≠ b → (T a).2.1 ≠ (T b).2.1) (hj : j < N) (hw : Cond.fieldLink own index (T j).1 (T j).2.1 (T j).2.2.1 ∈ Ts) (hfin : (T j).2.2.2 = true) (hnm2 : meth.name = "<init>") (hown2 : (T j).1 = own) (hd2 : parseFieldDescriptor (T j).2.2.1 = some ty) (hnw : narrow ty (zr cid B v) = zr cid B v) (hfit : fits ty (zr cid B v) = true) (h : zpv c k ci j v = some c') (kk : Zz p l e R s m args below meth cd Q D cid B nL cells slots c' (pc + 3) lv st) : Zz p l e R s m args below meth cd Q D cid B nL cells slots c pc lv (v :: .ref k :: st) := by
  intro hn H locs ls hW hS hl
  obtain ⟨fs, h1, h2, rfl⟩ := zpv_s h
  refine va_putF (D := D) (ci := ci) (v := zr cid B v) (ty := ty) (fs := fs.map (zr cid B)) X.1.1 X.1.2.1 X.1.2.2.2.2 hin ty0 hty hnm X.1.2.2.2.1 X.2.1 hW zw_D hS k (zw_get h1) hc j hj (X.1.2.2.2.2 _ hw) (fun _ h9 => h9) hfin hnm2 hown2 hd2 hnw hfit (by simpa using h2) hd (fun H1 locs1 hP1 _ hS1 => ?_)
  refine kk (by rw [List.length_set]; exact hn) H1 locs1 ls ?_ hS1 hl
  rw [zW, zw_set]; simpa [ze, List.map_set] using hP1
theorem z_iaload (X : zX p s m args cd D cid B cc nL own Ts) {k t : Nat} {i : Int32} {x : Int32} (hd : decode cc pc = .ok (.iaload, 1)) (ht : ztl[t]? = some .int) (h : zai c k t i = some x) (kk : Zz p l e R s m args below meth cd Q D cid B nL cells slots c (pc + 1) lv (.int x :: st)) : Zz p l e R s m args below meth cd Q D cid B nL cells slots c pc lv (.int i :: .ref k :: st) := by
  intro hn H locs ls hW hS hl
  obtain ⟨n, f, h1, h2, rfl⟩ := zai_s h
  exact va_iald X.1.1 X.1.2.1 X.2.1 hW k t (zw_get h1) (ztys_get ht) h2 hd (kk hn H locs ls hW hS hl)
theorem z_baload (X : zX p s m args cd D cid B cc nL own Ts) {k t : Nat} {i : Int32} {x : Int32} (hd : decode cc pc = .ok (.baload, 1)) (ht : ztl[t]? = some .byte) (h : zai c k t i = some x) (kk : Zz p l e R s m args below meth cd Q D cid B nL cells slots c (pc + 1) lv (.int x :: st)) : Zz p l e R s m args below meth cd Q D cid B nL cells slots c pc lv (.int i :: .ref k :: st) := by
  intro hn H locs ls hW hS hl
  obtain ⟨n, f, h1, h2, rfl⟩ := zai_s h
  exact va_bald X.1.1 X.1.2.1 X.2.1 hW k t (zw_get h1) (ztys_get ht) h2 hd (kk hn H locs ls hW hS hl)
theorem z_laload (X : zX p s m args cd D cid B cc nL own Ts) {k t : Nat} {i : Int32} {x : Int64} (hd : decode cc pc = .ok (.laload, 1)) (ht : ztl[t]? = some .long) (h : zal c k t i = some x) (kk : Zz p l e R s m args below meth cd Q D cid B nL cells slots c (pc + 1) lv (.long x :: st)) : Zz p l e R s m args below meth cd Q D cid B nL cells slots c pc lv (.int i :: .ref k :: st) := by
  intro hn H locs ls hW hS hl
  obtain ⟨n, f, h1, h2, rfl⟩ := zal_s h
  exact va_lald X.1.1 X.1.2.1 X.2.1 hW k t (zw_get h1) (ztys_get ht) h2 hd (kk hn H locs ls hW hS hl)
theorem z_aaload (X : zX p s m args cd D cid B cc nL own Ts) {k t x : Nat} {C : String} {i : Int32} (hd : decode cc pc = .ok (.aaload, 1)) (ht : ztl[t]? = some (.object C)) (h : zar c k t i = some x) (kk : Zz p l e R s m args below meth cd Q D cid B nL cells slots c (pc + 1) lv (.ref x :: st)) : Zz p l e R s m args below meth cd Q D cid B nL cells slots c pc lv (.int i :: .ref k :: st) := by
  intro hn H locs ls hW hS hl
  obtain ⟨n, f, h1, h2, h3⟩ := zar_s h
  refine va_aldq X.1.1 X.1.2.1 X.2.1 hW k t (zw_get h1) (ztys_get ht) h2 hd ?_
  have h4 : va_rf ((f i.toNatClampNeg).map (fun k => B + k)) = .ref (B + x) := by rw [h3]; rfl
  rw [h4]
  exact kk hn H locs ls hW hS hl
theorem z_iastore (X : zX p s m args cd D cid B cc nL own Ts) {k t : Nat} {i : Int32} {x : Int32} {c' : Zc} (hd : decode cc pc = .ok (.iastore, 1)) (ht : ztl[t]? = some .int) (h : zsi c k t i x = some c') (kk : Zz p l e R s m args below meth cd Q D cid B nL cells slots c' (pc + 1) lv st) : Zz p l e R s m args below meth cd Q D cid B nL cells slots c pc lv (.int x :: .int i :: .ref k :: st) := by
  intro hn H locs ls hW hS hl
  obtain ⟨n, f, h1, h2, rfl⟩ := zsi_s h
  refine va_iast X.1.1 X.1.2.1 X.2.1 hW zw_D hS k t (zw_get h1) (ztys_get ht) h2 hd (fun H1 locs1 hP1 _ hS1 => ?_)
  refine kk (by rw [List.length_set]; exact hn) H1 locs1 ls ?_ hS1 hl
  rw [zW, zw_set]; exact hP1
theorem z_bastore (X : zX p s m args cd D cid B cc nL own Ts) {k t : Nat} {i : Int32} {x : Int32} {c' : Zc} (hd : decode cc pc = .ok (.bastore, 1)) (ht : ztl[t]? = some .byte) (h : zsi c k t i (vp_nar .byte x) = some c') (kk : Zz p l e R s m args below meth cd Q D cid B nL cells slots c' (pc + 1) lv st) : Zz p l e R s m args below meth cd Q D cid B nL cells slots c pc lv (.int x :: .int i :: .ref k :: st) := by
  intro hn H locs ls hW hS hl
  obtain ⟨n, f, h1, h2, rfl⟩ := zsi_s h
  refine va_bast X.1.1 X.1.2.1 X.2.1 hW zw_D hS k t (zw_get h1) (ztys_get ht) h2 hd (fun H1 locs1 hP1 _ hS1 => ?_)
  refine kk (by rw [List.length_set]; exact hn) H1 locs1 ls ?_ hS1 hl
  rw [zW, zw_set]; exact hP1
theorem z_lastore (X : zX p s m args cd D cid B cc nL own Ts) {k t : Nat} {i : Int32} {x : Int64} {c' : Zc} (hd : decode cc pc = .ok (.lastore, 1)) (ht : ztl[t]? = some .long) (h : zsl c k t i x = some c') (kk : Zz p l e R s m args below meth cd Q D cid B nL cells slots c' (pc + 1) lv st) : Zz p l e R s m args below meth cd Q D cid B nL cells slots c pc lv (.long x :: .int i :: .ref k :: st) := by
  intro hn H locs ls hW hS hl
  obtain ⟨n, f, h1, h2, rfl⟩ := zsl_s h
  refine va_last X.1.1 X.1.2.1 X.2.1 hW zw_D hS k t (zw_get h1) (ztys_get ht) h2 hd (fun H1 locs1 hP1 _ hS1 => ?_)
  refine kk (by rw [List.length_set]; exact hn) H1 locs1 ls ?_ hS1 hl
  rw [zW, zw_set]; exact hP1
theorem z_aastore (X : zX p s m args cd D cid B cc nL own Ts) {k t ci x : Nat} {r : vw_C} {i : Int32} {c' : Zc} (hd : decode cc pc = .ok (.aastore, 1)) (hc : vwCl[ci]? = some r) (ht : ztl[t]? = some (.object r.1)) (h : zsr c k t ci i x = some c') (kk : Zz p l e R s m args below meth cd Q D cid B nL cells slots c' (pc + 1) lv st) : Zz p l e R s m args below meth cd Q D cid B nL cells slots c pc lv (.ref x :: .int i :: .ref k :: st) := by
  intro hn H locs ls hW hS hl
  obtain ⟨n, f, vs, h1, h3, h2, rfl⟩ := zsr_s h
  refine va_astq X.1.1 X.1.2.1 X.2.1 hW zw_D hS k t x ci (zw_get h1) (ztys_get ht) (zw_get h3) hc h2 hd (fun H1 locs1 hP1 _ hS1 => ?_)
  refine kk (by rw [List.length_set]; exact hn) H1 locs1 ls ?_ hS1 hl
  rw [zW, zw_set]
  have h5 : ze cid B (.inl (t, n, .inr (.inr (.inr (.inr (va_up f i.toNatClampNeg (some x))))))) = .inl (cid t, n, .inr (.inr (.inr (.inr (va_up (fun j => (f j).map (fun k => B + k)) i.toNatClampNeg (some (B + x))))))) := by
    show Sum.inl (cid t, n, Sum.inr (Sum.inr (Sum.inr (Sum.inr _)))) = _
    congr 7
    funext j
    unfold va_up
    split <;> rfl
  rw [h5]; exact hP1
theorem z_alen (X : zX p s m args cd D cid B cc nL own Ts) {k t : Nat} {ty : FieldType} {x : Int32} (hd : decode cc pc = .ok (.arraylength, 1)) (ht : ztl[t]? = some ty) (h : zlen c k t = some x) (kk : Zz p l e R s m args below meth cd Q D cid B nL cells slots c (pc + 1) lv (.int x :: st)) : Zz p l e R s m args below meth cd Q D cid B nL cells slots c pc lv (.ref k :: st) := by
  intro hn H locs ls hW hS hl
  obtain ⟨n, f, h1, rfl⟩ := zlen_s h
  exact va_alen X.1.1 X.1.2.1 X.2.1 hW k t (zw_get h1) (ztys_get ht) rfl hd (kk hn H locs ls hW hS hl)
end ZzB
section ZzC
def zPc (D : va_G) (cid : Nat → ClassId) (B : Nat) (c : Zc) (av : List Value) : Array Value → State → Prop := va_Pc (av.map (zr cid B)) (fun U => U.heap.size = B + c.length ∧ zW D cid B c U.heap ∧ va_K D vwCl (ztys cid) U ∧ zE cid B U)
def zRm (fr lo mc ms : Nat) : Room := { frames := fr, cells := mc, slots := ms, locals := lo }
def zBe (D : va_G) (cid : Nat → ClassId) (B : Nat) (c : Zc) (t : State) : Prop := zW D cid B c t.heap ∧ va_K D vwCl (ztys cid) t
def zQi (D : va_G) (cid : Nat → ClassId) (B : Nat) (r : Int32) (c : Zc) (n0 mc : Nat) : Array Value → State → Outcome → State → Prop := va_Qi (S := Unit) (fun r' _ => r' = r ∧ c.length = n0 + mc) (fun _ t => zBe D cid B c t) (fun q => B ≤ q)
def zQl (D : va_G) (cid : Nat → ClassId) (B : Nat) (r : Int64) (c : Zc) (n0 mc : Nat) : Array Value → State → Outcome → State → Prop := va_Ql (S := Unit) (fun r' _ => r' = r ∧ c.length = n0 + mc) (fun _ t => zBe D cid B c t) (fun q => B ≤ q)
def zQv (D : va_G) (cid : Nat → ClassId) (B : Nat) (c : Zc) (n0 mc : Nat) : Array Value → State → Outcome → State → Prop := va_Qv (S := Unit) (fun _ => c.length = n0 + mc) (fun _ t => zBe D cid B c t) (fun q => B ≤ q)
def zQr (D : va_G) (cid : Nat → ClassId) (B : Nat) (r : Nat) (c : Zc) (n0 mc : Nat) : Array Value → State → Outcome → State → Prop := va_Qr (S := Unit) (fun _ => c.length = n0 + mc) (fun _ a t => a = B + r ∧ zBe D cid B c t) (fun q => B ≤ q)
/-- a method's contract: from the cells c with arguments av it answers, over c' (mc new cells of ms slots) -/
def zM (l : Launch) (y : MethodName) (ws : List Cond) (fr lo mc ms : Nat) (av : List Value) (c : Zc) (Qc : va_G → (Nat → ClassId) → Nat → Array Value → State → Outcome → State → Prop) : Prop := ∀ (D : va_G) (cid : Nat → ClassId) (B : Nat), Met l y ws (zRm fr lo mc ms) (zPc D cid B c av) (Qc D cid B) mc ms (fun q => B ≤ q)
theorem zPc_bl {D : va_G} {cid : Nat → ClassId} {B : Nat} {c : Zc} {av : List Value} : FrameBlind (zPc D cid B c av) := fun a U g mk h => ⟨h.1, h.2.1, h.2.2.1, va_K.moved (u := U) (U := U.calling g mk a) (Vm.Alike.refl U.vm) h.2.2.2.1, zE_call h.2.2.2.2⟩
variable {p : Program} {l : Launch} {e : Env} {R : Room} {s : State} {m : MethodId} {args : Array Value} {below : List Frame} {meth : Method} {cd : Code} {Q : State → Prop} {D : va_G} {cid : Nat → ClassId} {B nL cells slots : Nat} {c : Zc} {cc : ByteArray} {own : String} {Ts : List Cond} {pc : Nat} {lv : List (Nat × Value)} {st : List Value}
theorem zPc_of {av : List Value} {H : Heap} {locs : List Loc} (X : zX p s m args cd D cid B cc nL own Ts) (hsz : H.size = B + c.length) (hW : zW D cid B c H) (hS : va_S (fun q => B ≤ q) s.heap H locs) : ∀ U : State, U.heap = H → s.WarmedH U.vm → zPc D cid B c av (av.map (zr cid B)).toArray U := fun U hU hWm => ⟨rfl, by rw [hU]; exact hsz, by rw [hU]; exact hW, va_K.moved hWm.alike X.2.1, zE_of X.2.2.2 hWm hU hS⟩
theorem z_callVi (X : zX p s m args cd D cid B cc nL own Ts) {y : MethodName} {bytes : ByteArray} {maxL index n fr lo mc ms : Nat} {k ci N : Nat} {C : String} {T : u_T} {fs : List Value} {ret : Option FieldType} {ws : List Cond} {stk : List Value} {r : Int32} {c' : Zc} (As : List Value) (hsk : stk = As.reverse ++ .ref k :: st) (hd : decode cc pc = .ok (.invokevirtual index, 3)) (hM : zM l y ws fr lo mc ms (.ref k :: As) c (fun D cid B => zQi D cid B r c' c.length mc)) (cw : CallW R s args own C index y bytes maxL ret ws (zRm fr lo mc ms) mc ms n) (hk : c[k]? = some (.inr (ci, fs))) (hc : vwCl[ci]? = some (C, T, N)) (hn1 : As.length = n) (hrm : (st.map fun v => v.category).sum ≤ 8) (hf : cells + mc ≤ R.cells ∧ slots + ms ≤ R.slots) (kk : Zz p l e R s m args below meth cd Q D cid B nL (cells + mc) (slots + ms) c' (pc + 3) lv (.int r :: st)) : Zz p l e R s m args below meth cd Q D cid B nL cells slots c pc lv stk := by
  intro hn H locs ls hW hS hl
  subst hsk
  refine z_sz hn X.2.2.1 hW hS (fun hsz => ?_)
  have hrm2 : ((st.map (zr cid B)).map fun v => v.category).sum ≤ 8 := by
    have h9 : (fun v => v.category) ∘ zr cid B = fun v : Value => v.category := funext (fun v => zr_cat cid B v)
    rw [List.map_map, h9]; exact hrm
  refine va_calli (va_runV (As := As.map (zr cid B)) (rest := st.map (zr cid B)) X.1 (hM D cid B) cw ⟨zPc_bl, va_recv X.2.1 hW hc (zw_get hk), zPc_of X hsz hW hS⟩ rfl (by rw [List.length_map]; exact hn1) hl.1 (by simp [zr]) (lv_room hrm2) hd hf) hS (fun q _ h => h) (fun q h => h) (fun r1 u t H1 locs1 ht hvm hw hb2 hz1 hk1 hS1 => ?_)
  obtain ⟨rfl, hlen⟩ := hw
  have h8 := (hb2).1
  rw [ht] at h8
  exact kk (by omega) H1 locs1 ls h8 hS1 hl
theorem z_callSi (X : zX p s m args cd D cid B cc nL own Ts) {y : MethodName} {bytes : ByteArray} {maxL index n fr lo mc ms : Nat}  {ret : Option FieldType} {ws : List Cond} {stk : List Value} {r : Int32} {c' : Zc} (As : List Value) (hsk : stk = As.reverse ++ st) (hd : decode cc pc = .ok (.invokestatic index, 3)) (hM : zM l y ws fr lo mc ms As c (fun D cid B => zQi D cid B r c' c.length mc)) (cw : CallB R s args own index y bytes maxL ret ws (zRm fr lo mc ms) mc ms n ∧ (Cond.static y).before args s = true) (hn1 : As.length = n) (hrm : (st.map fun v => v.category).sum ≤ 8) (hf : cells + mc ≤ R.cells ∧ slots + ms ≤ R.slots) (kk : Zz p l e R s m args below meth cd Q D cid B nL (cells + mc) (slots + ms) c' (pc + 3) lv (.int r :: st)) : Zz p l e R s m args below meth cd Q D cid B nL cells slots c pc lv stk := by
  intro hn H locs ls hW hS hl
  subst hsk
  refine z_sz hn X.2.2.1 hW hS (fun hsz => ?_)
  have hrm2 : ((st.map (zr cid B)).map fun v => v.category).sum ≤ 8 := by
    have h9 : (fun v => v.category) ∘ zr cid B = fun v : Value => v.category := funext (fun v => zr_cat cid B v)
    rw [List.map_map, h9]; exact hrm
  refine va_calli (va_runS (As := As.map (zr cid B)) (rest := st.map (zr cid B)) X.1 (hM D cid B) cw ⟨zPc_bl, zPc_of X hsz hW hS⟩ rfl (by rw [List.length_map]; exact hn1) hl.1 (by simp [zr]) (lv_room hrm2) hd hf) hS (fun q _ h => h) (fun q h => h) (fun r1 u t H1 locs1 ht hvm hw hb2 hz1 hk1 hS1 => ?_)
  obtain ⟨rfl, hlen⟩ := hw
  have h8 := (hb2).1
  rw [ht] at h8
  exact kk (by omega) H1 locs1 ls h8 hS1 hl
theorem z_callVl (X : zX p s m args cd D cid B cc nL own Ts) {y : MethodName} {bytes : ByteArray} {maxL index n fr lo mc ms : Nat} {k ci N : Nat} {C : String} {T : u_T} {fs : List Value} {ret : Option FieldType} {ws : List Cond} {stk : List Value} {r : Int64} {c' : Zc} (As : List Value) (hsk : stk = As.reverse ++ .ref k :: st) (hd : decode cc pc = .ok (.invokevirtual index, 3)) (hM : zM l y ws fr lo mc ms (.ref k :: As) c (fun D cid B => zQl D cid B r c' c.length mc)) (cw : CallW R s args own C index y bytes maxL ret ws (zRm fr lo mc ms) mc ms n) (hk : c[k]? = some (.inr (ci, fs))) (hc : vwCl[ci]? = some (C, T, N)) (hn1 : As.length = n) (hrm : (st.map fun v => v.category).sum ≤ 8) (hf : cells + mc ≤ R.cells ∧ slots + ms ≤ R.slots) (kk : Zz p l e R s m args below meth cd Q D cid B nL (cells + mc) (slots + ms) c' (pc + 3) lv (.long r :: st)) : Zz p l e R s m args below meth cd Q D cid B nL cells slots c pc lv stk := by
  intro hn H locs ls hW hS hl
  subst hsk
  refine z_sz hn X.2.2.1 hW hS (fun hsz => ?_)
  have hrm2 : ((st.map (zr cid B)).map fun v => v.category).sum ≤ 8 := by
    have h9 : (fun v => v.category) ∘ zr cid B = fun v : Value => v.category := funext (fun v => zr_cat cid B v)
    rw [List.map_map, h9]; exact hrm
  refine va_calll (va_runV (As := As.map (zr cid B)) (rest := st.map (zr cid B)) X.1 (hM D cid B) cw ⟨zPc_bl, va_recv X.2.1 hW hc (zw_get hk), zPc_of X hsz hW hS⟩ rfl (by rw [List.length_map]; exact hn1) hl.1 (by simp [zr]) (lv_room hrm2) hd hf) hS (fun q _ h => h) (fun q h => h) (fun r1 u t H1 locs1 ht hvm hw hb2 hz1 hk1 hS1 => ?_)
  obtain ⟨rfl, hlen⟩ := hw
  have h8 := (hb2).1
  rw [ht] at h8
  exact kk (by omega) H1 locs1 ls h8 hS1 hl
theorem z_callSl (X : zX p s m args cd D cid B cc nL own Ts) {y : MethodName} {bytes : ByteArray} {maxL index n fr lo mc ms : Nat}  {ret : Option FieldType} {ws : List Cond} {stk : List Value} {r : Int64} {c' : Zc} (As : List Value) (hsk : stk = As.reverse ++ st) (hd : decode cc pc = .ok (.invokestatic index, 3)) (hM : zM l y ws fr lo mc ms As c (fun D cid B => zQl D cid B r c' c.length mc)) (cw : CallB R s args own index y bytes maxL ret ws (zRm fr lo mc ms) mc ms n ∧ (Cond.static y).before args s = true) (hn1 : As.length = n) (hrm : (st.map fun v => v.category).sum ≤ 8) (hf : cells + mc ≤ R.cells ∧ slots + ms ≤ R.slots) (kk : Zz p l e R s m args below meth cd Q D cid B nL (cells + mc) (slots + ms) c' (pc + 3) lv (.long r :: st)) : Zz p l e R s m args below meth cd Q D cid B nL cells slots c pc lv stk := by
  intro hn H locs ls hW hS hl
  subst hsk
  refine z_sz hn X.2.2.1 hW hS (fun hsz => ?_)
  have hrm2 : ((st.map (zr cid B)).map fun v => v.category).sum ≤ 8 := by
    have h9 : (fun v => v.category) ∘ zr cid B = fun v : Value => v.category := funext (fun v => zr_cat cid B v)
    rw [List.map_map, h9]; exact hrm
  refine va_calll (va_runS (As := As.map (zr cid B)) (rest := st.map (zr cid B)) X.1 (hM D cid B) cw ⟨zPc_bl, zPc_of X hsz hW hS⟩ rfl (by rw [List.length_map]; exact hn1) hl.1 (by simp [zr]) (lv_room hrm2) hd hf) hS (fun q _ h => h) (fun q h => h) (fun r1 u t H1 locs1 ht hvm hw hb2 hz1 hk1 hS1 => ?_)
  obtain ⟨rfl, hlen⟩ := hw
  have h8 := (hb2).1
  rw [ht] at h8
  exact kk (by omega) H1 locs1 ls h8 hS1 hl
theorem z_callVv (X : zX p s m args cd D cid B cc nL own Ts) {y : MethodName} {bytes : ByteArray} {maxL index n fr lo mc ms : Nat} {k ci N : Nat} {C : String} {T : u_T} {fs : List Value} {ret : Option FieldType} {ws : List Cond} {stk : List Value}  {c' : Zc} (As : List Value) (hsk : stk = As.reverse ++ .ref k :: st) (hd : decode cc pc = .ok (.invokevirtual index, 3)) (hM : zM l y ws fr lo mc ms (.ref k :: As) c (fun D cid B => zQv D cid B c' c.length mc)) (cw : CallW R s args own C index y bytes maxL ret ws (zRm fr lo mc ms) mc ms n) (hk : c[k]? = some (.inr (ci, fs))) (hc : vwCl[ci]? = some (C, T, N)) (hn1 : As.length = n) (hrm : (st.map fun v => v.category).sum ≤ 8) (hf : cells + mc ≤ R.cells ∧ slots + ms ≤ R.slots) (kk : Zz p l e R s m args below meth cd Q D cid B nL (cells + mc) (slots + ms) c' (pc + 3) lv st) : Zz p l e R s m args below meth cd Q D cid B nL cells slots c pc lv stk := by
  intro hn H locs ls hW hS hl
  subst hsk
  refine z_sz hn X.2.2.1 hW hS (fun hsz => ?_)
  have hrm2 : ((st.map (zr cid B)).map fun v => v.category).sum ≤ 8 := by
    have h9 : (fun v => v.category) ∘ zr cid B = fun v : Value => v.category := funext (fun v => zr_cat cid B v)
    rw [List.map_map, h9]; exact hrm
  refine va_callv (va_runV (As := As.map (zr cid B)) (rest := st.map (zr cid B)) X.1 (hM D cid B) cw ⟨zPc_bl, va_recv X.2.1 hW hc (zw_get hk), zPc_of X hsz hW hS⟩ rfl (by rw [List.length_map]; exact hn1) hl.1 (by simp [zr]) (lv_room hrm2) hd hf) hS (fun q _ h => h) (fun q h => h) (fun u t H1 locs1 ht hvm hw hb2 hz1 hk1 hS1 => ?_)
  have hlen := hw
  have h8 := (hb2).1
  rw [ht] at h8
  exact kk (by omega) H1 locs1 ls h8 hS1 hl
theorem z_callSv (X : zX p s m args cd D cid B cc nL own Ts) {y : MethodName} {bytes : ByteArray} {maxL index n fr lo mc ms : Nat}  {ret : Option FieldType} {ws : List Cond} {stk : List Value}  {c' : Zc} (As : List Value) (hsk : stk = As.reverse ++ st) (hd : decode cc pc = .ok (.invokestatic index, 3)) (hM : zM l y ws fr lo mc ms As c (fun D cid B => zQv D cid B c' c.length mc)) (cw : CallB R s args own index y bytes maxL ret ws (zRm fr lo mc ms) mc ms n ∧ (Cond.static y).before args s = true) (hn1 : As.length = n) (hrm : (st.map fun v => v.category).sum ≤ 8) (hf : cells + mc ≤ R.cells ∧ slots + ms ≤ R.slots) (kk : Zz p l e R s m args below meth cd Q D cid B nL (cells + mc) (slots + ms) c' (pc + 3) lv st) : Zz p l e R s m args below meth cd Q D cid B nL cells slots c pc lv stk := by
  intro hn H locs ls hW hS hl
  subst hsk
  refine z_sz hn X.2.2.1 hW hS (fun hsz => ?_)
  have hrm2 : ((st.map (zr cid B)).map fun v => v.category).sum ≤ 8 := by
    have h9 : (fun v => v.category) ∘ zr cid B = fun v : Value => v.category := funext (fun v => zr_cat cid B v)
    rw [List.map_map, h9]; exact hrm
  refine va_callv (va_runS (As := As.map (zr cid B)) (rest := st.map (zr cid B)) X.1 (hM D cid B) cw ⟨zPc_bl, zPc_of X hsz hW hS⟩ rfl (by rw [List.length_map]; exact hn1) hl.1 (by simp [zr]) (lv_room hrm2) hd hf) hS (fun q _ h => h) (fun q h => h) (fun u t H1 locs1 ht hvm hw hb2 hz1 hk1 hS1 => ?_)
  have hlen := hw
  have h8 := (hb2).1
  rw [ht] at h8
  exact kk (by omega) H1 locs1 ls h8 hS1 hl
theorem z_callIv (X : zX p s m args cd D cid B cc nL own Ts) {y : MethodName} {bytes : ByteArray} {maxL index n fr lo mc ms : Nat} {k : Nat} {ret : Option FieldType} {ws : List Cond} {stk : List Value}  {c' : Zc} (As : List Value) (hsk : stk = As.reverse ++ .ref k :: st) (hd : decode cc pc = .ok (.invokespecial index, 3)) (hM : zM l y ws fr lo mc ms (.ref k :: As) c (fun D cid B => zQv D cid B c' c.length mc)) (cw : CallB R s args own index y bytes maxL none ws (zRm fr lo mc ms) mc ms n ∧ y.name = "<init>" ∧ (Cond.instanceMethod y).before args s = true) (hn1 : As.length = n) (hrm : (st.map fun v => v.category).sum ≤ 8) (hf : cells + mc ≤ R.cells ∧ slots + ms ≤ R.slots) (kk : Zz p l e R s m args below meth cd Q D cid B nL (cells + mc) (slots + ms) c' (pc + 3) lv st) : Zz p l e R s m args below meth cd Q D cid B nL cells slots c pc lv stk := by
  intro hn H locs ls hW hS hl
  subst hsk
  refine z_sz hn X.2.2.1 hW hS (fun hsz => ?_)
  have hrm2 : ((st.map (zr cid B)).map fun v => v.category).sum ≤ 8 := by
    have h9 : (fun v => v.category) ∘ zr cid B = fun v : Value => v.category := funext (fun v => zr_cat cid B v)
    rw [List.map_map, h9]; exact hrm
  refine va_callv (va_runI (As := As.map (zr cid B)) (rest := st.map (zr cid B)) X.1 (hM D cid B) cw ⟨zPc_bl, zPc_of X hsz hW hS⟩ rfl (by rw [List.length_map]; exact hn1) hl.1 (by simp [zr]) (lv_room hrm2) hd hf) hS (fun q _ h => h) (fun q h => h) (fun u t H1 locs1 ht hvm hw hb2 hz1 hk1 hS1 => ?_)
  have hlen := hw
  have h8 := (hb2).1
  rw [ht] at h8
  exact kk (by omega) H1 locs1 ls h8 hS1 hl
theorem z_callVr (X : zX p s m args cd D cid B cc nL own Ts) {y : MethodName} {bytes : ByteArray} {maxL index n fr lo mc ms : Nat} {k ci N : Nat} {C : String} {T : u_T} {fs : List Value} {ret : Option FieldType} {ws : List Cond} {stk : List Value} {r : Nat} {c' : Zc} (As : List Value) (hsk : stk = As.reverse ++ .ref k :: st) (hd : decode cc pc = .ok (.invokevirtual index, 3)) (hM : zM l y ws fr lo mc ms (.ref k :: As) c (fun D cid B => zQr D cid B r c' c.length mc)) (cw : CallW R s args own C index y bytes maxL ret ws (zRm fr lo mc ms) mc ms n) (hk : c[k]? = some (.inr (ci, fs))) (hc : vwCl[ci]? = some (C, T, N)) (hn1 : As.length = n) (hrm : (st.map fun v => v.category).sum ≤ 8) (hf : cells + mc ≤ R.cells ∧ slots + ms ≤ R.slots) (kk : Zz p l e R s m args below meth cd Q D cid B nL (cells + mc) (slots + ms) c' (pc + 3) lv (.ref r :: st)) : Zz p l e R s m args below meth cd Q D cid B nL cells slots c pc lv stk := by
  intro hn H locs ls hW hS hl
  subst hsk
  refine z_sz hn X.2.2.1 hW hS (fun hsz => ?_)
  have hrm2 : ((st.map (zr cid B)).map fun v => v.category).sum ≤ 8 := by
    have h9 : (fun v => v.category) ∘ zr cid B = fun v : Value => v.category := funext (fun v => zr_cat cid B v)
    rw [List.map_map, h9]; exact hrm
  refine va_callr (va_runV (As := As.map (zr cid B)) (rest := st.map (zr cid B)) X.1 (hM D cid B) cw ⟨zPc_bl, va_recv X.2.1 hW hc (zw_get hk), zPc_of X hsz hW hS⟩ rfl (by rw [List.length_map]; exact hn1) hl.1 (by simp [zr]) (lv_room hrm2) hd hf) hS (fun q _ h => h) (fun q h => h) (fun u r1 t H1 locs1 ht hvm hw hb2 hz1 hk1 hS1 => ?_)
  have hlen := hw
  cases hb2.1
  have h8 := (hb2.2).1
  rw [ht] at h8
  exact kk (by omega) H1 locs1 ls h8 hS1 hl
theorem z_callSr (X : zX p s m args cd D cid B cc nL own Ts) {y : MethodName} {bytes : ByteArray} {maxL index n fr lo mc ms : Nat}  {ret : Option FieldType} {ws : List Cond} {stk : List Value} {r : Nat} {c' : Zc} (As : List Value) (hsk : stk = As.reverse ++ st) (hd : decode cc pc = .ok (.invokestatic index, 3)) (hM : zM l y ws fr lo mc ms As c (fun D cid B => zQr D cid B r c' c.length mc)) (cw : CallB R s args own index y bytes maxL ret ws (zRm fr lo mc ms) mc ms n ∧ (Cond.static y).before args s = true) (hn1 : As.length = n) (hrm : (st.map fun v => v.category).sum ≤ 8) (hf : cells + mc ≤ R.cells ∧ slots + ms ≤ R.slots) (kk : Zz p l e R s m args below meth cd Q D cid B nL (cells + mc) (slots + ms) c' (pc + 3) lv (.ref r :: st)) : Zz p l e R s m args below meth cd Q D cid B nL cells slots c pc lv stk := by
  intro hn H locs ls hW hS hl
  subst hsk
  refine z_sz hn X.2.2.1 hW hS (fun hsz => ?_)
  have hrm2 : ((st.map (zr cid B)).map fun v => v.category).sum ≤ 8 := by
    have h9 : (fun v => v.category) ∘ zr cid B = fun v : Value => v.category := funext (fun v => zr_cat cid B v)
    rw [List.map_map, h9]; exact hrm
  refine va_callr (va_runS (As := As.map (zr cid B)) (rest := st.map (zr cid B)) X.1 (hM D cid B) cw ⟨zPc_bl, zPc_of X hsz hW hS⟩ rfl (by rw [List.length_map]; exact hn1) hl.1 (by simp [zr]) (lv_room hrm2) hd hf) hS (fun q _ h => h) (fun q h => h) (fun u r1 t H1 locs1 ht hvm hw hb2 hz1 hk1 hS1 => ?_)
  have hlen := hw
  cases hb2.1
  have h8 := (hb2.2).1
  rw [ht] at h8
  exact kk (by omega) H1 locs1 ls h8 hS1 hl
theorem z_iret (X : zX p s m args cd D cid B cc nL own Ts) {r : Int32} (hr : meth.sig.returnType = some .int) (hlk : meth.locks = false) {n0 : Nat} (hs0 : s.heap.size = B + n0) (hd : decode cc pc = .ok (.ireturn, 1)) : Zz p l e R s m args below meth cd (MQ below (zQi D cid B r c n0 cells) args s cells slots (fun q => B ≤ q)) D cid B nL cells slots c pc lv [.int r] := fun hn H locs ls hW hS hl => W.iret X.1.1 X.1.2.1 hr (fun t ht hWm => ⟨⟨r, (), rfl, ⟨rfl, by omega⟩, by rw [ht]; exact hW, va_K.moved hWm.alike X.2.1⟩, hS.F ht⟩) hS.2.2 hd hlk
theorem z_zret (X : zX p s m args cd D cid B cc nL own Ts) {r : Int32} {ty : FieldType} (hr : meth.sig.returnType = some ty) (hnr : narrow ty (.int r) = .int r) (hlk : meth.locks = false) {n0 : Nat} (hs0 : s.heap.size = B + n0) (hd : decode cc pc = .ok (.ireturn, 1)) : Zz p l e R s m args below meth cd (MQ below (zQi D cid B r c n0 cells) args s cells slots (fun q => B ≤ q)) D cid B nL cells slots c pc lv [.int r] := fun hn H locs ls hW hS hl => W.zret X.1.1 X.1.2.1 hr hnr (fun t ht hWm => ⟨⟨r, (), rfl, ⟨rfl, by omega⟩, by rw [ht]; exact hW, va_K.moved hWm.alike X.2.1⟩, hS.F ht⟩) hS.2.2 hd hlk
theorem z_lret (X : zX p s m args cd D cid B cc nL own Ts) {r : Int64} (hr : meth.sig.returnType = some .long) (hlk : meth.locks = false) {n0 : Nat} (hs0 : s.heap.size = B + n0) (hd : decode cc pc = .ok (.lreturn, 1)) : Zz p l e R s m args below meth cd (MQ below (zQl D cid B r c n0 cells) args s cells slots (fun q => B ≤ q)) D cid B nL cells slots c pc lv [.long r] := fun hn H locs ls hW hS hl => W.lret X.1.1 X.1.2.1 hr (fun t ht hWm => ⟨⟨r, (), rfl, ⟨rfl, by omega⟩, by rw [ht]; exact hW, va_K.moved hWm.alike X.2.1⟩, hS.F ht⟩) hS.2.2 hd hlk
theorem z_vret (X : zX p s m args cd D cid B cc nL own Ts) (hr : meth.sig.returnType = none) (hlk : meth.locks = false) {n0 : Nat} (hs0 : s.heap.size = B + n0) (hd : decode cc pc = .ok (.return_, 1)) : Zz p l e R s m args below meth cd (MQ below (zQv D cid B c n0 cells) args s cells slots (fun q => B ≤ q)) D cid B nL cells slots c pc lv [] := fun hn H locs ls hW hS hl => W.vret X.1.1 X.1.2.1 hr (fun t ht hWm => ⟨⟨(), rfl, by omega, by rw [ht]; exact hW, va_K.moved hWm.alike X.2.1⟩, hS.F ht⟩) hS.2.2 hd hlk
theorem z_aret (X : zX p s m args cd D cid B cc nL own Ts) {r : Nat} {rt : FieldType} (hr : meth.sig.returnType = some rt) (hrt : (∃ n, rt = .object n) ∨ ∃ t, rt = .array t) (hlk : meth.locks = false) {n0 : Nat} (hs0 : s.heap.size = B + n0) (hd : decode cc pc = .ok (.areturn, 1)) : Zz p l e R s m args below meth cd (MQ below (zQr D cid B r c n0 cells) args s cells slots (fun q => B ≤ q)) D cid B nL cells slots c pc lv [.ref r] := fun hn H locs ls hW hS hl => W.aret (v := .ref (B + r)) X.1.1 X.1.2.1 hr hrt (Or.inr ⟨_, rfl⟩) (fun t ht hWm => ⟨⟨(), B + r, rfl, by omega, rfl, by rw [ht]; exact hW, va_K.moved hWm.alike X.2.1⟩, hS.F ht⟩) hS.2.2 hd hlk
theorem z_objInit (X : zX p s m args cd D cid B cc nL own Ts) {idx k : Nat} (hd : decode cc pc = .ok (.invokespecial idx, 3)) (hw1 : Cond.methodLink own idx Lib.objectInit ∈ Ts) (hw2 : Cond.instanceMethod Lib.objectInit ∈ Ts) (hw3 : Cond.code Lib.objectInit ⟨#[0xb1]⟩ 1 none ∈ Ts) (hfr : 1 ≤ R.frames) (hlo : (st.map fun v => v.category).sum + 12 ≤ R.locals) (kk : Zz p l e R s m args below meth cd Q D cid B nL cells slots c (pc + 3) lv st) : Zz p l e R s m args below meth cd Q D cid B nL cells slots c pc lv (.ref k :: st) := by
  intro hn H locs ls hW hS hl
  have h9 : (fun v => v.category) ∘ zr cid B = fun v : Value => v.category := funext (fun v => zr_cat cid B v)
  exact W.objInit X.1.1 X.1.2.1 X.1.2.2.2.1 (X.1.2.2.2.2 _ hw1) (X.1.2.2.2.2 _ hw2) (X.1.2.2.2.2 _ hw3) rfl (by rw [X.1.2.2.1]; exact hl.1) rfl hd hfr (by rw [List.map_map, h9]; simpa [JFrame.monitorRoom] using hlo) (kk hn H locs ls hW hS hl)
theorem z_new (X : zX p s m args cd D cid B cc nL own Ts) {C : String} {T : u_T} {N ci index : Nat} {fs : List Value} (hd : decode cc pc = .ok (.new index, 3)) (hc : vwCl[ci]? = some (C, T, N)) (hin : ∀ w ∈ u_ws C T N, w ∈ Ts) (ty : Nat → FieldType) (hty : ∀ k, k < N → parseFieldDescriptor (T k).2.2.1 = some (ty k)) (hw1 : Cond.classLink own index C ∈ Ts) (hw2 : Cond.instantiable C N ∈ Ts) (hw3 : Cond.initialized C ∈ Ts) (hfs : ∀ j, j < N → defaultValue (ty j) = vp_V fs j) (hfz : ∀ (cid : Nat → ClassId) (B : Nat), fs.map (zr cid B) = fs) (hcells : cells + 1 ≤ R.cells) (hslots : slots + N ≤ R.slots) (kk : Zz p l e R s m args below meth cd Q D cid B nL (cells + 1) (slots + N) (c ++ [.inr (ci, fs)]) (pc + 3) lv (.ref c.length :: st)) : Zz p l e R s m args below meth cd Q D cid B nL cells slots c pc lv st := by
  intro hn H locs ls hW hS hl
  refine z_sz hn X.2.2.1 hW hS (fun hsz => ?_)
  have hKn := X.2.1.1 ci _ hc
  refine W.newcK X.1.1 X.1.2.1 X.1.2.2.2.1 (X.1.2.2.2.2 _ hw1) (X.1.2.2.2.2 _ hw2) (X.1.2.2.2.2 _ hw3) rfl hd hcells hslots hKn.2.1 hsz fun H1 kC hkC e1 z1 o1 => ?_
  have hk : ∀ (k : Nat) (x : Nat × va_E), (zw cid B c)[k]? = some x → H1[x.1]? = H[x.1]? := fun k x hx => o1 x.1 (by rw [← hsz]; exact (hW k x hx).lt)
  refine kk (by rw [List.length_append]; simp only [List.length_singleton]; omega) H1 locs ls ?_ ⟨Nat.le_trans hS.1 (by omega), fun x h1 h2 => (o1 x (by have := hS.1; omega)).trans (hS.2.1 x h1 h2), hS.2.2⟩ hl
  rw [zW, zw_push]
  refine (va_P.kept hW hk).app (fun k x hx => ?_)
  have hz : k < 1 := (List.getElem?_eq_some_iff.mp hx).1
  rw [show k = 0 by omega] at hx
  cases hx
  refine ⟨_, hc, (u_born ty X.1.2.2.2.2 hin hKn hkC e1 hty).to (fun j hj => ?_)⟩
  rw [hfs j hj]
  show _ = vp_V (fs.map (zr cid B)) j
  rw [hfz]
theorem z_newa (X : zX p s m args cd D cid B cc nL own Ts) {atype : ArrayType} {ty : FieldType} {t N : Nat} {x : Int32} {da : (Nat → Int32) ⊕ (Nat → Int64) ⊕ (Nat → UInt32) ⊕ (Nat → UInt64) ⊕ (Nat → Option Nat)} (hd : decode cc pc = .ok (.newarray atype, 2)) (hty : newarray.typeOf atype = ty) (hw : Cond.arrayClass ty ∈ Ts) (ht : ztl[t]? = some ty) (hprim : ∀ C, ty ≠ .object C) (hda : ∀ cA : ClassId, vp_cell cA (N, da) = arrV cA N (fun _ => defaultValue ty)) (hzp : ∀ B, zp B (N, da) = (N, da)) (hx : ¬ x < 0) (hN : x.toNatClampNeg = N) (hby : N * componentBytes ty ≤ 536870912) (hcells : cells + 1 ≤ R.cells) (hslots : slots + N ≤ R.slots) (kk : Zz p l e R s m args below meth cd Q D cid B nL (cells + 1) (slots + N) (c ++ [.inl (t, N, da)]) (pc + 2) lv (.ref c.length :: st)) : Zz p l e R s m args below meth cd Q D cid B nL cells slots c pc lv (.int x :: st) := by
  intro hn H locs ls hW hS hl
  refine z_sz hn X.2.2.1 hW hS (fun hsz => ?_)
  subst hty
  refine va_newaK X.1.1 X.1.2.1 (X.1.2.2.2.2 _ hw) rfl hd rfl hx hN hby hcells hslots hsz fun H1 cA e1 z1 o1 hAr hNm => ?_
  have hcA : cid t = cA := by
    have h7 := (X.2.1.2 t _ (ztys_get ht)).2
    have h8 : s.vm.findClass ("[" ++ (newarray.typeOf atype).toString) = some (cid t) := by
      cases atype <;> exact h7
    rw [hNm] at h8
    exact (Option.some.inj h8).symm
  have hk : ∀ (k : Nat) (x : Nat × va_E), (zw cid B c)[k]? = some x → H1[x.1]? = H[x.1]? := fun k x hx => o1 x.1 (by rw [← hsz]; exact (hW k x hx).lt)
  refine kk (by rw [List.length_append]; simp only [List.length_singleton]; omega) H1 locs ls ?_ ⟨Nat.le_trans hS.1 (by omega), fun x h1 h2 => (o1 x (by have := hS.1; omega)).trans (hS.2.1 x h1 h2), hS.2.2⟩ hl
  rw [zW, zw_push]
  refine (va_P.kept hW hk).app (fun k x hx => ?_)
  have hz : k < 1 := (List.getElem?_eq_some_iff.mp hx).1
  rw [show k = 0 by omega] at hx
  cases hx
  show H1[B + c.length]? = some (vp_cell (cid t) (zp B (N, da)))
  rw [hzp, hda, hcA]
  exact e1
theorem z_newq (X : zX p s m args cd D cid B cc nL own Ts) {C : String} {index t N : Nat} {x : Int32} (hd : decode cc pc = .ok (.anewarray index, 3)) (hw1 : Cond.classLink own index C ∈ Ts) (hw2 : C ∈ zao) (ht : ztl[t]? = some (.object C)) (hx : ¬ x < 0) (hN : x.toNatClampNeg = N) (hby : N * 4 ≤ 536870912) (hcells : cells + 1 ≤ R.cells) (hslots : slots + N ≤ R.slots) (kk : Zz p l e R s m args below meth cd Q D cid B nL (cells + 1) (slots + N) (c ++ [.inl (t, N, .inr (.inr (.inr (.inr (fun _ => none)))))]) (pc + 3) lv (.ref c.length :: st)) : Zz p l e R s m args below meth cd Q D cid B nL cells slots c pc lv (.int x :: st) := by
  intro hn H locs ls hW hS hl
  refine z_sz hn X.2.2.1 hW hS (fun hsz => ?_)
  subst hN
  refine W.anew X.1.1 X.1.2.1 X.1.2.2.2.1 (X.1.2.2.2.2 _ hw1) (va_AO.use (X.2.2.2.2.2.2.1 C hw2)) rfl hd rfl hx hby hcells hslots fun cA kA comp f1 f2 f3 f4 => ?_
  have hcA : cid t = cA := by
    obtain ⟨-, kA2, comp2, -, -, -, h8⟩ := X.2.1.2 t _ (ztys_get ht)
    rw [f1] at h8
    exact (Option.some.inj h8).symm
  generalize hH1 : H.push ({ cls := cA, slots := Array.replicate x.toNatClampNeg .null, vm := .none } : Cell) = H1
  have z1 : H1.size = H.size + 1 := by rw [← hH1, Array.size_push]
  have e1 : H1[H.size]? = some (arrV cA x.toNatClampNeg (fun _ => .null)) := by rw [← hH1, Array.getElem?_push_size, ← arrV_new]
  have o1 : ∀ q : Nat, q < H.size → H1[q]? = H[q]? := fun q hq => by rw [← hH1, Array.getElem?_push, if_neg (Nat.ne_of_lt hq)]
  have hk : ∀ (k : Nat) (x : Nat × va_E), (zw cid B c)[k]? = some x → H1[x.1]? = H[x.1]? := fun k x hx => o1 x.1 (hW k x hx).lt
  have kk2 := kk (by rw [List.length_append]; simp only [List.length_singleton]; omega) H1 locs ls (by
    rw [zW, zw_push]
    refine (va_P.kept hW hk).app (fun k x2 hx2 => ?_)
    have hz : k < 1 := (List.getElem?_eq_some_iff.mp hx2).1
    rw [show k = 0 by omega] at hx2
    cases hx2
    show H1[B + c.length]? = some (vp_cell (cid t) (zp B _))
    rw [← hsz, hcA]
    exact e1) ⟨Nat.le_trans hS.1 (by omega), fun x h1 h2 => (o1 x (by have := hS.1; omega)).trans (hS.2.1 x h1 h2), hS.2.2⟩ hl
  rw [hsz]
  exact kk2
theorem z_wid {k n : Nat} (h1 : cells = k) (h2 : slots ≤ n) (kk : Zz p l e R s m args below meth cd Q D cid B nL k n c pc lv st) : Zz p l e R s m args below meth cd Q D cid B nL cells slots c pc lv st := by
  subst h1
  exact fun hn H locs ls hW hS hl => W.widen (Nat.le_refl _) h2 (kk hn H locs ls hW hS hl)
theorem zl_args (cid : Nat → ClassId) (B : Nat) (av : List Value) : ∀ i : Nat, lv_args i (av.map (zr cid B)) = (lv_args i av).map (zl cid B) := by
  induction av with
  | nil => intro i; rfl
  | cons v t ih =>
    intro i
    simp only [List.map_cons, lv_args, zr_cat, ih]
    rfl
theorem zl_sl (cid : Nat → ClassId) (B : Nat) (av : List Value) : (lg_sl (av.map (zr cid B))).length = (lg_sl av).length := by
  induction av with
  | nil => rfl
  | cons v t ih =>
    simp only [lg_sl, List.map_cons, List.flatMap_cons, List.length_append, zr_cat] at ih ⊢
    rw [ih]
    congr 1
    split <;> rfl
/-- a contract out of a walk -/
theorem z_met {y : MethodName} {ws : List Cond} {fr lo mc ms maxL : Nat} {av : List Value} {ret : Option FieldType} {Qc : va_G → (Nat → ClassId) → Nat → Array Value → State → Outcome → State → Prop} (hy : plainName y.cls = true) (hw : ws = Cond.code y cc maxL ret :: Ts) (hlen : (lg_sl av).length ≤ maxL)
    (body : ∀ (p : Program) (e : Env) (s : State) (m : MethodId) (args : Array Value) (below : List Frame) (meth : Method) (cd : Code) (D : va_G) (cid : Nat → ClassId) (B : Nat), zX p s m args cd D cid B cc maxL y.cls Ts → meth.sig.returnType = ret → meth.locks = false → meth.name = y.name → s.heap.size = B + c.length → Zz p l e (zRm fr lo mc ms) s m args below meth cd (MQ below (Qc D cid B) args s mc ms (fun q => B ≤ q)) D cid B maxL 0 0 c 0 (lv_args 0 av) []) : zM l y ws fr lo mc ms av c Qc := by
  intro D cid B
  refine Met.ofW (cc := cc) (maxL := maxL) (ret := ret) hy hw ?_
  intro p e s m args below meth cd s₁ Bd hml hv
  obtain ⟨rfl, hsz, hW, hK, hE⟩ := hv
  have hl := lv_entry (av.map (zr cid B)) (n := maxL) (by rw [zl_sl]; exact hlen)
  rw [lg_entry_eq]
  generalize (lg_sl (av.map (zr cid B)) ++ List.replicate (maxL - (lg_sl (av.map (zr cid B))).length) Slot.unset).toArray = ls at hl ⊢
  rw [zl_args] at hl
  exact body p e s m _ below meth cd D cid B ⟨⟨Bd.exec, Bd.bytes, hml, findClass_of_methodNamed Bd.named, fun w hw2 => atoms_spec (ws := ws) Bd.pre w (by rw [hw]; exact List.mem_cons_of_mem _ hw2)⟩, hK, by omega, hE⟩ Bd.returns Bd.notSynchronized (name_of_methodNamed Bd.named Bd.method).1 hsz hsz s.heap [] ls hW va_S.rf hl
def zH (s : State) (meth : Method) (B n0 : Nat) (ret : Option FieldType) (nm : String) : Prop := meth.sig.returnType = ret ∧ meth.locks = false ∧ s.heap.size = B + n0 ∧ meth.name = nm
def zrz (x : Int32) (c : Zc) : Option (Int32 × Zc) := if x = 0 ∨ x = 1 then some (x, c) else none
theorem zrz_s {x : Int32} {c : Zc} {q : Int32 × Zc} (h : zrz x c = some q) : (x = 0 ∨ x = 1) ∧ (x, c) = q := by
  unfold zrz at h
  split at h
  · exact ⟨by assumption, Option.some.inj h⟩
  · cases h
theorem zn_z {x : Int32} (h : x = 0 ∨ x = 1) : narrow .boolean (.int x) = .int x := by
  rcases h with rfl | rfl <;> rfl
theorem zpz_s {c c2 : Zc} {k ci j : Nat} {x : Int32} (h : zpz c k ci j x = some c2) : (x = 0 ∨ x = 1) ∧ zpv c k ci j (.int x) = some c2 := by
  unfold zpz at h
  split at h
  · exact ⟨by assumption, h⟩
  · cases h
theorem zb {α β : Type} {o : Option α} {f : α → Option β} {b : β} (h : o.bind f = some b) : ∃ a, o = some a ∧ f a = some b := Option.bind_eq_some_iff.mp h
/-- a loop: at most n times round -/
def zlp {α β : Type} (body : α → Option (α ⊕ β)) : Nat → α → Option β
  | 0, _ => none
  | n + 1, a => (body a).bind (Sum.elim (zlp body n) some)
theorem zlp_ok {α β : Type} {body : α → Option (α ⊕ β)} {P : α → Prop} {G : β → Prop} (hs : ∀ a r, body a = some r → (∀ a', r = .inl a' → P a') → (∀ b, r = .inr b → G b) → P a) : ∀ (n : Nat) (a : α) (b : β), zlp body n a = some b → G b → P a := by
  intro n
  induction n with
  | zero => intro a b h; cases h
  | succ n ih =>
    intro a b h hG
    obtain ⟨r, e1, h⟩ := zb h
    refine hs a r e1 (fun a' ha => ?_) (fun b' hb => ?_)
    · subst ha
      exact ih a' b h hG
    · subst hb
      cases h
      exact hG
def zob (c : Zc) (k ci : Nat) : Option (List Value) := match c[k]? with
  | some (.inr (d, fs)) => if d = ci then some fs else none
  | _ => none
theorem zob_s {c : Zc} {k ci : Nat} {fs : List Value} (h : zob c k ci = some fs) : c[k]? = some (.inr (ci, fs)) := by
  unfold zob at h
  split at h
  · rename_i d gs hd
    split at h
    · rename_i e; subst e; cases h; exact hd
    · cases h
  · cases h
theorem zg_V {own C : String} {idx maxL : Nat} {y : MethodName} {b : ByteArray} {ret : Option FieldType} (h1 : Cond.methodLink own idx y ∈ zT) (h2 : Cond.instanceMethod y ∈ zT) (h3 : Cond.selects C y y ∈ zT) (h4 : Cond.initialized C ∈ zT) (h5 : Cond.code y b maxL ret ∈ zT) : GoodIn zT (wsV own idx C y (Cond.code y b maxL ret :: zT)) := by
  intro w hw
  simp only [wsV, List.mem_append, List.mem_cons, List.not_mem_nil, or_false] at hw
  rcases hw with (rfl | rfl | rfl | rfl) | rfl | hw
  · exact zT_good _ h1
  · exact zT_good _ h2
  · exact zT_good _ h3
  · exact zT_good _ h4
  · exact zT_good _ h5
  · exact zT_good _ hw
theorem zg_S {own : String} {idx maxL : Nat} {y : MethodName} {b : ByteArray} {ret : Option FieldType} (h1 : Cond.methodLink own idx y ∈ zT) (h2 : Cond.static y ∈ zT) (h4 : Cond.initialized y.cls ∈ zT) (h5 : Cond.code y b maxL ret ∈ zT) : GoodIn zT (va_wsS own idx y (Cond.code y b maxL ret :: zT)) := by
  intro w hw
  simp only [va_wsS, List.mem_append, List.mem_cons, List.not_mem_nil, or_false] at hw
  rcases hw with (rfl | rfl | rfl) | rfl | hw
  · exact zT_good _ h1
  · exact zT_good _ h2
  · exact zT_good _ h4
  · exact zT_good _ h5
  · exact zT_good _ hw
end ZzC
