-- ===== end of PART A; then your names; then what follows =====
/-! THE CLAIM OUT OF ONE WALK OF THE LAW'S BODY. Your part is whole_start (and what it stands on); all else here is the same for every law, but numbers. -/
def R_law : String := "PathQueriesLaw"
def lw_P (b : Addr) (xs : List Int32) (args : Array Value) (s : State) : Prop := args = #[.ref b] ∧ s.IntsAt b xs ∧ xs.length ≤ 3072 ∧ (Jvm.Cond.and given_1 narrow_1).before args s = true
def lw_Q (_ : Array Value) (s : State) (o : Outcome) (t : State) : Prop := o = .returned (some (.int 1)) ∧ Framed s o t [] 600000 7302249
def lw_Z (below : List Frame) (a : Array Value) (s : State) : State → Prop := fun t => ∃ o, t.status = .running ∧ Ended t below o ∧ lw_Q a s o t
/-- the law's own end, with 1 on the stack, nothing written that was there before, its room as the claim has it -/
theorem lw_ret {p : Program} {l : Launch} {e : Env} {s : State} {m : MethodId} {below : List Frame} {meth : Method} {c : Code} {b : Nat} (hx : p.tables.exec = Jvm.exec) (hb : c.code = code) (hr : meth.sig.returnType = ret) (hlocks : meth.locks = false) {pc : Nat} {H : Heap} {ls : Array Slot} (hdg : decode code pc = .ok (.ireturn, 1)) : W p l e room_1 s m #[Value.ref b] below meth c H [] 600000 7302249 (lw_Z below #[Value.ref b] s) (F0 m pc ls [.int 1]) := by
  intro T hT X
  obtain ⟨fs, hret, hrun, hended, hW, hframe⟩ := X.leave (v := some (.int 1)) (hlocks := hlocks) (fun h => by rw [hr] at h; cases h)
  have hmeth' : T.vm.method? m = some meth := X.method'
  refine ⟨T.setFrames fs, ?_, .returned (some (.int 1)), hrun, hended, rfl, ⟨_, rfl⟩, hW, hframe⟩
  jvm_step X.here [X.here.top, hx, hb, hdg, hmeth', hr, ret, narrow_b1]
  (try refine ⟨rfl, ?_⟩); (try refine ⟨rfl, ?_⟩)
  first | (intro acts; rw [hret _ acts rfl rfl rfl]) | rw [hret _ _ rfl rfl rfl]
  exact Steps.refl _
/-- what holds at the law's entry: the machine, the code, the tables' words (any of lw_tbl by 'hts w (by decide +kernel)'), the script of L ints xs at the cell b, what the Statement gives of the start (any of its parts by flat_of_before) -/
def lw_At (p : Program) (s : State) (m : MethodId) (meth : Method) (c : Code) (b L : Nat) (xs : Nat → Int32) : Prop :=
  p.tables.exec = Jvm.exec ∧ c.code = code ∧ meth.sig.returnType = ret ∧ c.maxLocals = 4 ∧ s.vm.findClass R_law = some m.cls ∧ (∀ w ∈ lw_tbl, w.before #[Value.ref b] s = true) ∧ va_X b L xs s s.heap ∧ b < s.heap.size ∧ meth.locks = false ∧ (Jvm.Cond.and given_1 narrow_1).before #[Value.ref b] s = true
section ZzX
def zHL (s : State) (meth : Method) (B L : Nat) (xs : Nat → Int32) (cid : Nat → ClassId) (args : Array Value) : Prop := meth.sig.returnType = ret ∧ meth.locks = false ∧ B = s.heap.size ∧ va_X (cid 1090) L xs s s.heap ∧ cid 1090 < s.heap.size ∧ args = #[Value.ref (cid 1090)]
/-- the script's int at i -/
def zxs (L : Nat) (xs : Nat → Int32) (i : Int32) : Option Int32 := if ¬ (i < 0 ∨ L ≤ i.toNatClampNeg) then some (xs i.toNatClampNeg) else none
variable {p : Program} {l : Launch} {e : Env} {R : Room} {s : State} {m : MethodId} {args : Array Value} {below : List Frame} {meth : Method} {cd : Code} {Q : State → Prop} {D : va_G} {cid : Nat → ClassId} {B nL cells slots : Nat} {c : Zc} {cc : ByteArray} {own : String} {Ts : List Cond} {pc : Nat} {lv : List (Nat × Value)} {st : List Value} {L : Nat} {xs : Nat → Int32}
theorem z_aloadX_n (X : zX p s m args cd D cid B cc nL own Ts) {a : Fin 4} {i x : Nat} (hd : decode cc pc = .ok (.aload_n a, 1)) (hi : (a : Nat) = i) (j : Nat) (h : lv[j]? = some (i, .retAddr x)) (k : Zz p l e R s m args below meth cd Q D cid B nL cells slots c (pc + 1) lv (.retAddr x :: st)) : Zz p l e R s m args below meth cd Q D cid B nL cells slots c pc lv st := fun hn H locs ls hW hS hl => lv_aload_n X.1.1 X.1.2.1 hd hi (zl_at hl h) (k hn H locs ls hW hS hl)
theorem z_sld (X : zX p s m args cd D cid B cc nL own Ts) (Y : zHL s meth B L xs cid args) {i x : Int32} (hd : decode cc pc = .ok (.iaload, 1)) (h : zxs L xs i = some x) (k : Zz p l e R s m args below meth cd Q D cid B nL cells slots c (pc + 1) lv (.int x :: st)) : Zz p l e R s m args below meth cd Q D cid B nL cells slots c pc lv (.int i :: .retAddr 90 :: st) := by
  intro hn H locs ls hW hS hl
  unfold zxs at h
  split at h
  · rename_i q
    cases h
    exact va_sld X.1.1 X.1.2.1 Y.2.2.2.1 Y.2.2.2.2.1 (fun hq => by have h1 := Y.2.2.1; have h2 := Y.2.2.2.2.1; rw [← h1] at h2; exact absurd hq (Nat.not_le.mpr h2)) hS q hd (k hn H locs ls hW hS hl)
  · cases h
theorem z_slen (X : zX p s m args cd D cid B cc nL own Ts) (Y : zHL s meth B L xs cid args) (hd : decode cc pc = .ok (.arraylength, 1)) (k : Zz p l e R s m args below meth cd Q D cid B nL cells slots c (pc + 1) lv (.int (Int32.ofNat L) :: st)) : Zz p l e R s m args below meth cd Q D cid B nL cells slots c pc lv (.retAddr 90 :: st) := by
  intro hn H locs ls hW hS hl
  exact va_slen X.1.1 X.1.2.1 Y.2.2.2.1 Y.2.2.2.2.1 (fun hq => by have h1 := Y.2.2.1; have h2 := Y.2.2.2.2.1; rw [← h1] at h2; exact absurd hq (Nat.not_le.mpr h2)) hS hd (k hn H locs ls hW hS hl)
theorem z_lawret (X : zX p s m args cd D cid B code nL own Ts) (Y : zHL s meth B L xs cid args) (hd : decode code pc = .ok (.ireturn, 1)) (h1 : cells ≤ 600000) (h2 : slots ≤ 7302249) : Zz p l e (zRm 18 704 600000 7302249) s m args below meth cd (lw_Z below args s) D cid B nL cells slots c pc lv [.int 1] := by
  intro hn H locs ls hW hS hl
  obtain ⟨hr, hlk, hB, -, -, rfl⟩ := Y
  refine va_forget (fun q hq => by have h3 : B ≤ q.base := hS.2.2 q hq; rw [hB] at h3; exact h3) ?_
  refine W.widen h1 h2 ?_
  exact lw_ret X.1.1 X.1.2.1 hr hlk hd
end ZzX
