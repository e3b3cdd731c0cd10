section ZzN
theorem zf_z {x : Int32} (h : x = 0 ∨ x = 1) : fits .boolean (.int x) = true := by
  rcases h with rfl | rfl <;> rfl
/-- the room that is left: at most mc cells of ms slots in all -/
def zlim (a b mc ms : Nat) : Option Unit := if a ≤ mc ∧ b ≤ ms then some () else none
theorem zlim_s {a b mc ms : Nat} {u : Unit} (h : zlim a b mc ms = some u) : a ≤ mc ∧ b ≤ ms := by
  unfold zlim at h
  split at h
  · assumption
  · cases h
def zend (k n mc ms : Nat) : Option Unit := if k = mc ∧ n ≤ ms then some () else none
theorem zend_s {k n mc ms : Nat} {u : Unit} (h : zend k n mc ms = some u) : k = mc ∧ n ≤ ms := by
  unfold zend at h
  split at h
  · assumption
  · cases h
theorem zg_I {y : MethodName} {b : ByteArray} {maxL : Nat} {ret : Option FieldType} (h5 : Cond.code y b maxL ret ∈ zT) : GoodIn zT (Cond.code y b maxL ret :: zT) := by
  intro w hw
  rcases List.mem_cons.mp hw with rfl | hw
  · exact zT_good _ h5
  · exact zT_good _ hw
def znw (c : Zc) (e : va_E) : Option Zc := some (c ++ [e])
variable {p : Program} {l : Launch} {e : Env} {R : Room} {s : State} {m : MethodId} {args : Array Value} {below : List Frame} {meth : Method} {cd : Code} {Q : State → Prop} {D : va_G} {cid : Nat → ClassId} {B nL cells slots : Nat} {c : Zc} {cc : ByteArray} {own : String} {Ts : List Cond} {pc : Nat} {lv : List (Nat × Value)} {st : List Value}
theorem z_newC (X : zX p s m args cd D cid B cc nL own Ts) {C : String} {T : u_T} {N ci index : Nat} {fs : List Value} {c' : Zc} (hd : decode cc pc = .ok (.new index, 3)) (hc : vwCl[ci]? = some (C, T, N)) (hin : ∀ w ∈ u_ws C T N, w ∈ Ts) (ty : Nat → FieldType) (hty : ∀ k, k < N → parseFieldDescriptor (T k).2.2.1 = some (ty k)) (hw1 : Cond.classLink own index C ∈ Ts) (hw2 : Cond.instantiable C N ∈ Ts) (hw3 : Cond.initialized C ∈ Ts) (hfs : ∀ j, j < N → defaultValue (ty j) = vp_V fs j) (hfz : ∀ (cid : Nat → ClassId) (B : Nat), fs.map (zr cid B) = fs) (hcells : cells + 1 ≤ R.cells) (hslots : slots + N ≤ R.slots) (h : znw c (.inr (ci, fs)) = some c') (kk : Zz p l e R s m args below meth cd Q D cid B nL (cells + 1) (slots + N) c' (pc + 3) lv (.ref c.length :: st)) : Zz p l e R s m args below meth cd Q D cid B nL cells slots c pc lv st := by
  cases h
  exact z_new X hd hc hin ty hty hw1 hw2 hw3 hfs hfz hcells hslots kk
theorem z_newaC (X : zX p s m args cd D cid B cc nL own Ts) {atype : ArrayType} {ty : FieldType} {t N : Nat} {x : Int32} {c' : Zc} {da : (Nat → Int32) ⊕ (Nat → Int64) ⊕ (Nat → UInt32) ⊕ (Nat → UInt64) ⊕ (Nat → Option Nat)} (hd : decode cc pc = .ok (.newarray atype, 2)) (hty : newarray.typeOf atype = ty) (hw : Cond.arrayClass ty ∈ Ts) (ht : ztl[t]? = some ty) (hprim : ∀ C, ty ≠ .object C) (hda : ∀ cA : ClassId, vp_cell cA (N, da) = arrV cA N (fun _ => defaultValue ty)) (hzp : ∀ B, zp B (N, da) = (N, da)) (hx : ¬ x < 0) (hN : x.toNatClampNeg = N) (hby : N * componentBytes ty ≤ 536870912) (hcells : cells + 1 ≤ R.cells) (hslots : slots + N ≤ R.slots) (h : znw c (.inl (t, N, da)) = some c') (kk : Zz p l e R s m args below meth cd Q D cid B nL (cells + 1) (slots + N) c' (pc + 2) lv (.ref c.length :: st)) : Zz p l e R s m args below meth cd Q D cid B nL cells slots c pc lv (.int x :: st) := by
  cases h
  exact z_newa X hd hty hw ht hprim hda hzp hx hN hby hcells hslots kk
theorem z_newqC (X : zX p s m args cd D cid B cc nL own Ts) {C : String} {index t N : Nat} {x : Int32} {c' : Zc} (hd : decode cc pc = .ok (.anewarray index, 3)) (hw1 : Cond.classLink own index C ∈ Ts) (hw2 : C ∈ zao) (ht : ztl[t]? = some (.object C)) (hx : ¬ x < 0) (hN : x.toNatClampNeg = N) (hby : N * 4 ≤ 536870912) (hcells : cells + 1 ≤ R.cells) (hslots : slots + N ≤ R.slots) (h : znw c (.inl (t, N, .inr (.inr (.inr (.inr (fun _ => none)))))) = some c') (kk : Zz p l e R s m args below meth cd Q D cid B nL (cells + 1) (slots + N) c' (pc + 3) lv (.ref c.length :: st)) : Zz p l e R s m args below meth cd Q D cid B nL cells slots c pc lv (.int x :: st) := by
  cases h
  exact z_newq X hd hw1 hw2 ht hx hN hby hcells hslots kk
theorem z_zaload (X : zX p s m args cd D cid B cc nL own Ts) {k t : Nat} {i : Int32} {x : Int32} (hd : decode cc pc = .ok (.baload, 1)) (ht : ztl[t]? = some .boolean) (h : zai c k t i = some x) (kk : Zz p l e R s m args below meth cd Q D cid B nL cells slots c (pc + 1) lv (.int x :: st)) : Zz p l e R s m args below meth cd Q D cid B nL cells slots c pc lv (.int i :: .ref k :: st) := by
  intro hn H locs ls hW hS hl
  obtain ⟨n, f, h1, h2, rfl⟩ := zai_s h
  exact va_zald X.1.1 X.1.2.1 X.2.1 hW k t (zw_get h1) (ztys_get ht) h2 hd (kk hn H locs ls hW hS hl)
theorem z_zastore (X : zX p s m args cd D cid B cc nL own Ts) {k t : Nat} {i : Int32} {x : Int32} {c' : Zc} (hd : decode cc pc = .ok (.bastore, 1)) (ht : ztl[t]? = some .boolean) (h : zsi c k t i (vp_nar .boolean x) = some c') (kk : Zz p l e R s m args below meth cd Q D cid B nL cells slots c' (pc + 1) lv st) : Zz p l e R s m args below meth cd Q D cid B nL cells slots c pc lv (.int x :: .int i :: .ref k :: st) := by
  intro hn H locs ls hW hS hl
  obtain ⟨n, f, h1, h2, rfl⟩ := zsi_s h
  refine va_zast X.1.1 X.1.2.1 X.2.1 hW zw_D hS k t (zw_get h1) (ztys_get ht) h2 hd (fun H1 locs1 hP1 _ hS1 => ?_)
  refine kk (by rw [List.length_set]; exact hn) H1 locs1 ls ?_ hS1 hl
  rw [zW, zw_set]; exact hP1
theorem z_ldcS (X : zX p s m args cd D cid B cc nL own Ts) {i index : Nat} (hd : decode cc pc = .ok (.ldc index, 2)) (hi : i < 4) (hown : own = "PathQueries$Tokens") (hix : zs_ix.getD i 0 = index) (kk : Zz p l e R s m args below meth cd Q D cid B nL cells slots c (pc + 2) lv (zfs i :: st)) : Zz p l e R s m args below meth cd Q D cid B nL cells slots c pc lv st := by
  intro hn H locs ls hW hS hl
  have h := X.2.2.2.2.1 i hi
  rw [hix, ← hown] at h
  refine va_ldcS X.1.1 X.1.2.1 X.1.2.2.2.1 h hd ?_
  have k2 := kk hn H locs ls hW hS hl
  rw [List.map_cons, zr_fs (by omega)] at k2
  exact k2
theorem z_getSv (X : zX p s m args cd D cid B cc nL own Ts) {i index : Nat} (hd : decode cc pc = .ok (.getfield index, 3)) (hi : i < 4) (hw : Cond.fieldLink own index "java/lang/String" "value" "[B" ∈ Ts) (kk : Zz p l e R s m args below meth cd Q D cid B nL cells slots c (pc + 3) lv (zfb i :: st)) : Zz p l e R s m args below meth cd Q D cid B nL cells slots c pc lv (zfs i :: st) := by
  intro hn H locs ls hW hS hl
  have hE := (X.2.2.2.1.1 i hi).2.2.1
  rw [List.map_cons, zr_fs (by omega)]
  refine vk_getf X.1.1 X.1.2.1 hE hS X.1.2.2.2.1 (X.1.2.2.2.2 _ hw) (fun _ h => h) hd ?_
  have k2 := kk hn H locs ls hW hS hl
  rw [List.map_cons, zr_fb (by omega)] at k2
  exact k2
theorem z_getSc (X : zX p s m args cd D cid B cc nL own Ts) {i index : Nat} (hd : decode cc pc = .ok (.getfield index, 3)) (hi : i < 4) (hw : Cond.fieldLink own index "java/lang/String" "coder" "B" ∈ Ts) (kk : Zz p l e R s m args below meth cd Q D cid B nL cells slots c (pc + 3) lv (.int 0 :: st)) : Zz p l e R s m args below meth cd Q D cid B nL cells slots c pc lv (zfs i :: st) := by
  intro hn H locs ls hW hS hl
  have hE := (X.2.2.2.1.1 i hi).2.1
  rw [List.map_cons, zr_fs (by omega)]
  exact vk_getf X.1.1 X.1.2.1 hE hS X.1.2.2.2.1 (X.1.2.2.2.2 _ hw) (fun _ h => h) hd (kk hn H locs ls hW hS hl)
theorem z_getsC (X : zX p s m args cd D cid B cc nL own Ts) {index : Nat} (hd : decode cc pc = .ok (.getstatic index, 3)) (hw : Cond.fieldLink own index "java/lang/String" "COMPACT_STRINGS" "Z" ∈ Ts) (kk : Zz p l e R s m args below meth cd Q D cid B nL cells slots c (pc + 3) lv (.int 1 :: st)) : Zz p l e R s m args below meth cd Q D cid B nL cells slots c pc lv st := by
  intro hn H locs ls hW hS hl
  exact va_gets X.1.1 X.1.2.1 X.2.2.2.2.2.1 hS X.1.2.2.2.1 (X.1.2.2.2.2 _ hw) (fun _ h => h) hd (kk hn H locs ls hW hS hl)
theorem z_getsF (X : zX p s m args cd D cid B cc nL own Ts) {index : Nat} (hd : decode cc pc = .ok (.getstatic index, 3)) (hw : Cond.fieldLink own index "jdk/internal/util/Preconditions" "SIOOBE_FORMATTER" "Ljava/util/function/BiFunction;" ∈ Ts) (k0 : Zz p l e R s m args below meth cd Q D cid B nL cells slots c (pc + 3) lv (.null :: st)) (k1 : Zz p l e R s m args below meth cd Q D cid B nL cells slots c (pc + 3) lv (.retAddr 99 :: st)) : Zz p l e R s m args below meth cd Q D cid B nL cells slots c pc lv st := by
  intro hn H locs ls hW hS hl
  rcases X.2.2.2.2.2.2.2 with hz | hz
  · exact va_gets X.1.1 X.1.2.1 hz hS X.1.2.2.2.1 (X.1.2.2.2.2 _ hw) (fun _ h => h) hd (k0 hn H locs ls hW hS hl)
  · exact va_gets X.1.1 X.1.2.1 hz hS X.1.2.2.2.1 (X.1.2.2.2.2 _ hw) (fun _ h => h) hd (k1 hn H locs ls hW hS hl)
theorem z_alenS (X : zX p s m args cd D cid B cc nL own Ts) {i : Nat} {x : Int32} (hd : decode cc pc = .ok (.arraylength, 1)) (hi : i < 4) (h : x = Int32.ofNat (zs_len.getD i 0)) (kk : Zz p l e R s m args below meth cd Q D cid B nL cells slots c (pc + 1) lv (.int x :: st)) : Zz p l e R s m args below meth cd Q D cid B nL cells slots c pc lv (zfb i :: st) := by
  intro hn H locs ls hW hS hl
  subst h
  have hE := (X.2.2.2.1.1 i hi).2.2.2
  rw [List.map_cons, zr_fb (by omega)]
  exact va_tlen X.1.1 X.1.2.1 hE hS rfl hd (kk hn H locs ls hW hS hl)
/-- the byte j of the text i -/
def zsb (i : Nat) (j : Int32) : Option Int32 := if i < 4 ∧ ¬ (j < 0 ∨ zs_len.getD i 0 ≤ j.toNatClampNeg) then some ((zs_byt.getD i []).getD j.toNatClampNeg 0) else none
theorem z_baldS (X : zX p s m args cd D cid B cc nL own Ts) {i : Nat} {j x : Int32} (hd : decode cc pc = .ok (.baload, 1)) (h : zsb i j = some x) (kk : Zz p l e R s m args below meth cd Q D cid B nL cells slots c (pc + 1) lv (.int x :: st)) : Zz p l e R s m args below meth cd Q D cid B nL cells slots c pc lv (.int j :: zfb i :: st) := by
  intro hn H locs ls hW hS hl
  unfold zsb at h
  split at h
  · rename_i q
    cases h
    have hE := (X.2.2.2.1.1 i q.1).2.2.2
    rw [List.map_cons, List.map_cons, zr_fb (by omega)]
    exact va_tb X.1.1 X.1.2.1 hE hS q.2 rfl hd (kk hn H locs ls hW hS hl)
  · cases h
theorem z_aloadS_n (X : zX p s m args cd D cid B cc nL own Ts) {a : Fin 4} {i x : Nat} (hd : decode cc pc = .ok (.aload_n a, 1)) (hi : (a : Nat) = i) (j : Nat) (h : lv[j]? = some (i, zfs x)) (k : Zz p l e R s m args below meth cd Q D cid B nL cells slots c (pc + 1) lv (zfs x :: st)) : Zz p l e R s m args below meth cd Q D cid B nL cells slots c pc lv st := fun hn H locs ls hW hS hl => lv_aload_n X.1.1 X.1.2.1 hd hi (zl_at hl h) (k hn H locs ls hW hS hl)
theorem z_aloadT_n (X : zX p s m args cd D cid B cc nL own Ts) {a : Fin 4} {i x : Nat} (hd : decode cc pc = .ok (.aload_n a, 1)) (hi : (a : Nat) = i) (j : Nat) (h : lv[j]? = some (i, zfb x)) (k : Zz p l e R s m args below meth cd Q D cid B nL cells slots c (pc + 1) lv (zfb x :: st)) : Zz p l e R s m args below meth cd Q D cid B nL cells slots c pc lv st := fun hn H locs ls hW hS hl => lv_aload_n X.1.1 X.1.2.1 hd hi (zl_at hl h) (k hn H locs ls hW hS hl)
def zst (i : Nat) : Option Unit := if i < 4 then some () else none
theorem zst_s {i : Nat} {u : Unit} (h : zst i = some u) : i < 4 := by
  unfold zst at h
  split at h
  · assumption
  · cases h
def zrn (ty : FieldType) (x : Int32) (c : Zc) : Option (Int32 × Zc) := if vp_nar ty x = x then some (x, c) else none
theorem zrn_s {ty : FieldType} {x : Int32} {c : Zc} {q : Int32 × Zc} (h : zrn ty x c = some q) : vp_nar ty x = x ∧ (x, c) = q := by
  unfold zrn at h
  split at h
  · exact ⟨by assumption, Option.some.inj h⟩
  · cases h
theorem zn_b {x : Int32} (h : vp_nar .byte x = x) : narrow .byte (.int x) = .int x := by
  show Value.int (vp_nar .byte x) = .int x
  rw [h]
theorem zn_c {x : Int32} (h : vp_nar .char x = x) : narrow .char (.int x) = .int x := by
  show Value.int (vp_nar .char x) = .int x
  rw [h]
theorem z_callXi (X : zX p s m args cd D cid B cc nL own Ts) {y : MethodName} {bytes : ByteArray} {maxL index n fr lo mc ms : Nat} {i : Nat} {ret : Option FieldType} {ws : List Cond} {stk : List Value} {r : Int32} {c' : Zc} (As : List Value) (hsk : stk = As.reverse ++ zfs i :: st) (hd : decode cc pc = .ok (.invokevirtual index, 3)) (hM : zM l y ws fr lo mc ms (zfs i :: As) c (fun D cid B => zQi D cid B r c' c.length mc)) (cw : CallW R s args own "java/lang/String" index y bytes maxL ret ws (zRm fr lo mc ms) mc ms n) (hi : i < 4) (hn1 : As.length = n) (hrm : (st.map fun v => v.category).sum ≤ 8) (hf : cells + mc ≤ R.cells ∧ slots + ms ≤ R.slots) (kk : Zz p l e R s m args below meth cd Q D cid B nL (cells + mc) (slots + ms) c' (pc + 3) lv (.int r :: st)) : Zz p l e R s m args below meth cd Q D cid B nL cells slots c pc lv stk := by
  intro hn H locs ls hW hS hl
  subst hsk
  refine z_sz hn X.2.2.1 hW hS (fun hsz => ?_)
  have hrm2 : ((st.map (zr cid B)).map fun v => v.category).sum ≤ 8 := by
    have h9 : (fun v => v.category) ∘ zr cid B = fun v : Value => v.category := funext (fun v => zr_cat cid B v)
    rw [List.map_map, h9]; exact hrm
  refine va_calli (va_runV (As := As.map (zr cid B)) (rest := st.map (zr cid B)) X.1 (hM D cid B) cw ⟨zPc_bl, vk_recv X.2.2.2.1 hi hS, by have h7 := zPc_of (av := zfs i :: As) X hsz hW hS; rw [List.map_cons, zr_fs (by omega)] at h7; exact h7⟩ rfl (by rw [List.length_map]; exact hn1) hl.1 (by simp [zr_fs (show i < 100 by omega)]) (lv_room hrm2) hd hf) hS (fun q _ h => h) (fun q h => h) (fun r1 u t H1 locs1 ht hvm hw hb2 hz1 hk1 hS1 => ?_)
  obtain ⟨rfl, hlen⟩ := hw
  have h8 := (hb2).1
  rw [ht] at h8
  exact kk (by omega) H1 locs1 ls h8 hS1 hl
theorem zpr {A Y Z : Prop} (f : Y → Z) (h : A ∧ Y) : A ∧ Z := ⟨h.1, f h.2⟩
theorem zpc {A Y Z : Prop} (f : A → Y → Z) (h : A ∧ Y) : A ∧ Z := ⟨h.1, f h.1 h.2⟩
theorem zpr2 {q A Y1 Y2 Z : Prop} (f : (q → Y1) → (¬ q → Y2) → Z) (h1 : q → A ∧ Y1) (h2 : ¬ q → A ∧ Y2) : A ∧ Z := ⟨(Classical.em q).elim (fun w => (h1 w).1) (fun w => (h2 w).1), f (fun w => (h1 w).2) (fun w => (h2 w).2)⟩
theorem zprN {q A Y1 Y2 Z : Prop} (f : (¬ q → Y1) → (q → Y2) → Z) (h1 : ¬ q → A ∧ Y1) (h2 : q → A ∧ Y2) : A ∧ Z := ⟨(Classical.em q).elim (fun w => (h2 w).1) (fun w => (h1 w).1), f (fun w => (h1 w).2) (fun w => (h2 w).2)⟩
def zcp (c : Zc) (k0 : Nat) (sp : Int32) (k1 : Nat) (dp n : Int32) : Option Zc := match c[k0]?, c[k1]? with
  | some (.inl (t0, n0, .inl f)), some (.inl (t1, n1, .inl g)) => if t0 = 0 ∧ t1 = 0 ∧ ¬ sp < 0 ∧ ¬ dp < 0 ∧ ¬ n < 0 ∧ sp.toNatClampNeg + n.toNatClampNeg ≤ n0 ∧ dp.toNatClampNeg + n.toNatClampNeg ≤ n1 then some (c.set k1 (.inl (0, n1, .inl (va_cpy f g sp.toNatClampNeg dp.toNatClampNeg n.toNatClampNeg)))) else none
  | _, _ => none
theorem zcp_s {c c' : Zc} {k0 k1 : Nat} {sp dp n : Int32} (h : zcp c k0 sp k1 dp n = some c') : ∃ n0 n1 f g, c[k0]? = some (.inl (0, n0, .inl f)) ∧ c[k1]? = some (.inl (0, n1, .inl g)) ∧ ¬ sp < 0 ∧ ¬ dp < 0 ∧ ¬ n < 0 ∧ sp.toNatClampNeg + n.toNatClampNeg ≤ n0 ∧ dp.toNatClampNeg + n.toNatClampNeg ≤ n1 ∧ c' = c.set k1 (.inl (0, n1, .inl (va_cpy f g sp.toNatClampNeg dp.toNatClampNeg n.toNatClampNeg))) := by
  unfold zcp at h
  split at h
  · rename_i t0 n0 f t1 n1 g h0 h1
    split at h
    · rename_i q
      obtain ⟨rfl, rfl, q1, q2, q3, q4, q5⟩ := q
      cases h
      exact ⟨n0, n1, f, g, h0, h1, q1, q2, q3, q4, q5, rfl⟩
    · cases h
  · cases h
theorem z_copyi (X : zX p s m args cd D cid B cc nL own Ts) {index k0 k1 : Nat} {sp dp n : Int32} {c' : Zc} (hd : decode cc pc = .ok (.invokestatic index, 3)) (hw1 : Cond.methodLink own index arraycopyName ∈ Ts) (hw2 : Cond.native arraycopyName ∈ Ts) (hw3 : Cond.static arraycopyName ∈ Ts) (hw4 : Cond.initialized "java/lang/System" ∈ Ts) (hfr : 1 ≤ R.frames) (hlo : (st.map fun v => v.category).sum + (nativeFrameWords "java/lang/System" "arraycopy" 5 + 11) ≤ R.locals) (h : zcp c k0 sp k1 dp n = some c') (kk : Zz p l e R s m args below meth cd Q D cid B nL cells slots c' (pc + 3) lv st) : Zz p l e R s m args below meth cd Q D cid B nL cells slots c pc lv (.int n :: .int dp :: .ref k1 :: .int sp :: .ref k0 :: st) := by
  intro hn H locs ls hW hS hl
  obtain ⟨n0, n1, f, g, h0, h1, q1, q2, q3, q4, q5, rfl⟩ := zcp_s h
  have h9 : (fun v => v.category) ∘ zr cid B = fun v : Value => v.category := funext (fun v => zr_cat cid B v)
  refine va_copyi (ty := .int) X.1.1 X.1.2.1 (by rw [X.1.2.2.1, hl.1]) X.1.2.2.2.1 (X.1.2.2.2.2 _ hw1) (X.1.2.2.2.2 _ hw2) (X.1.2.2.2.2 _ hw3) (X.1.2.2.2.2 _ hw4) X.2.1 hW zw_D hS k0 k1 0 0 (zw_get h0) (zw_get h1) (ztys_get rfl) (ztys_get rfl) rfl q1 q2 q3 q4 q5 (fun _ _ => rfl) hfr (by rw [List.map_map, h9]; exact hlo) hd (fun H1 locs1 hP1 _ hS1 => ?_)
  refine kk (by rw [List.length_set]; exact hn) H1 locs1 ls ?_ hS1 hl
  rw [zW, zw_set]; exact hP1
/-- a size that an array may have -/
def zdim (x : Int32) : Option Nat := if ¬ x < 0 ∧ x.toNatClampNeg ≤ 60000000 then some x.toNatClampNeg else none
theorem zdim_s {x : Int32} {N : Nat} (h : zdim x = some N) : ¬ x < 0 ∧ x.toNatClampNeg = N ∧ N ≤ 60000000 := by
  unfold zdim at h
  split at h
  · rename_i q
    cases h
    exact ⟨q.1, rfl, q.2⟩
  · cases h
/-- a contract out of a walk -/
theorem z_metF {y : MethodName} {ws : List Cond} {fr lo mc ms maxL : Nat} {av : List Value} {ret : Option FieldType} {Qc : va_G → (Nat → ClassId) → Nat → Array Value → State → Outcome → State → Prop} (hy : plainFor y = true) (hw : ws = Cond.code y cc maxL ret :: Ts) (hlen : (lg_sl av).length ≤ maxL)
    (body : ∀ (p : Program) (e : Env) (s : State) (m : MethodId) (args : Array Value) (below : List Frame) (meth : Method) (cd : Code) (D : va_G) (cid : Nat → ClassId) (B : Nat), zX p s m args cd D cid B cc maxL y.cls Ts → meth.sig.returnType = ret → meth.locks = false → meth.name = y.name → s.heap.size = B + c.length → Zz p l e (zRm fr lo mc ms) s m args below meth cd (MQ below (Qc D cid B) args s mc ms (fun q => B ≤ q)) D cid B maxL 0 0 c 0 (lv_args 0 av) []) : zM l y ws fr lo mc ms av c Qc := by
  intro D cid B
  refine va_MetF (cc := cc) (maxL := maxL) (ret := ret) hy hw ?_
  intro p e s m args below meth cd s₁ Bd hml hv
  obtain ⟨rfl, hsz, hW, hK, hE⟩ := hv
  have hl := lv_entry (av.map (zr cid B)) (n := maxL) (by rw [zl_sl]; exact hlen)
  rw [lg_entry_eq]
  generalize (lg_sl (av.map (zr cid B)) ++ List.replicate (maxL - (lg_sl (av.map (zr cid B))).length) Slot.unset).toArray = ls at hl ⊢
  rw [zl_args] at hl
  exact body p e s m _ below meth cd D cid B ⟨⟨Bd.exec, Bd.bytes, hml, findClass_of_methodNamed Bd.named, fun w hw2 => atoms_spec (ws := ws) Bd.pre w (by rw [hw]; exact List.mem_cons_of_mem _ hw2)⟩, hK, by omega, hE⟩ Bd.returns Bd.notSynchronized (name_of_methodNamed Bd.named Bd.method).1 hsz hsz s.heap [] ls hW va_S.rf hl
end ZzN
