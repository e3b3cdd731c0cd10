section ZzS
theorem zs_arr {args : Array Value} {s : State} {ty : FieldType} (hp : ∀ C, ty ≠ .object C) (h : (Cond.arrayClass ty).before args s = true) : ∃ cA : ClassId, ArrOfT s cA ty ∧ va_RA s cA ty := by
  obtain ⟨c, k, comp, h1, h2, h3⟩ := Cond.arrayClass_spec h
  refine ⟨c, fun n z => ⟨fun k h => (by cases h), k, h2, comp, h3⟩, ?_⟩
  cases ty with
  | object C => exact absurd rfl (hp C)
  | _ => exact h1
theorem zs_arrO {args : Array Value} {s : State} {C : String} (h : (Cond.arrayOver (.object C)).before args s = true) : ∃ cA : ClassId, ArrOfT s cA (.object C) ∧ va_RA s cA (.object C) := by
  obtain ⟨comp, c, k, h1, h2, h3, h4, h5⟩ := Cond.arrayOver_spec h
  exact ⟨c, fun n z => ⟨fun k h => (by cases h), k, h3, comp, h4⟩, k, comp, h3, h4, h1, h5⟩
theorem zs_cong {N : Nat} {len : List Nat} {byt : List (List Int32)} {adK adV f g : Nat → Nat} {A : Nat → Prop} {U : State} {H : Heap} (hf : ∀ i, i < N → f i = adK i) (hg : ∀ i, i < N → g i = adV i) (h : vk_S N len byt adK adV A U H) : vk_S N len byt f g A U H := ⟨fun i hi => by rw [hf i hi, hg i hi]; exact h.1 i hi, fun i j hi hj e => h.2 i j hi hj (by rw [← hf i hi, ← hf j hj]; exact e)⟩
def zcid (a0 a1 a2 a3 a4 a5 a6 b fm : Nat) (adK adV : Nat → Nat) (t : Nat) : ClassId := if t < 7 then [a0, a1, a2, a3, a4, a5, a6].getD t 0 else if t = 1090 then b else if t = 1099 then fm else if 1100 ≤ t then adV (t - 1100) else adK (t - 1000)
theorem zcid_K {a0 a1 a2 a3 a4 a5 a6 b fm : Nat} {adK adV : Nat → Nat} {i : Nat} (h : i < 4) : zcid a0 a1 a2 a3 a4 a5 a6 b fm adK adV (1000 + i) = adK i := by
  unfold zcid
  rw [if_neg (by omega), if_neg (by omega), if_neg (by omega), if_neg (by omega), show 1000 + i - 1000 = i by omega]
theorem zcid_V {a0 a1 a2 a3 a4 a5 a6 b fm : Nat} {adK adV : Nat → Nat} {i : Nat} (h : i < 4) : zcid a0 a1 a2 a3 a4 a5 a6 b fm adK adV (1100 + i) = adV i := by
  unfold zcid
  rw [if_neg (by omega), if_neg (by omega), if_neg (by omega), if_pos (by omega), show 1100 + i - 1100 = i by omega]
def ztm (i : Nat) : Term := .string "PathQueries$Tokens" (zs_ix.getD i 0)
set_option maxRecDepth 100000 in
theorem zs_f1 : ∀ i, i < 4 → (Cond.exactly (ztm i) "java/lang/String") ∈ flatC (Jvm.Cond.and given_1 narrow_1) := by decide +kernel
set_option maxRecDepth 100000 in
theorem zs_f2 : ∀ i, i < 4 → (Cond.eq (.field (ztm i) "java/lang/String" "coder" "B") (.int 0)) ∈ flatC (Jvm.Cond.and given_1 narrow_1) := by decide +kernel
set_option maxRecDepth 100000 in
theorem zs_f3 : ∀ i, i < 4 → (Cond.arrayOf (.field (ztm i) "java/lang/String" "value" "[B") .byte) ∈ flatC (Jvm.Cond.and given_1 narrow_1) := by decide +kernel
set_option maxRecDepth 100000 in
theorem zs_f4 : ∀ i, i < 4 → (Cond.eq (.length (.field (ztm i) "java/lang/String" "value" "[B")) (.int (Int32.ofNat (zs_len.getD i 0)))) ∈ flatC (Jvm.Cond.and given_1 narrow_1) := by decide +kernel
set_option maxRecDepth 100000 in
theorem zs_f5 : ∀ i, i < 4 → ∀ j, j < zs_len.getD i 0 → (Cond.eq (.elem (.field (ztm i) "java/lang/String" "value" "[B") (.int (Int32.ofNat j))) (.int ((zs_byt.getD i []).getD j 0))) ∈ flatC (Jvm.Cond.and given_1 narrow_1) := by decide +kernel
set_option maxRecDepth 100000 in
theorem zs_f6 : ∀ i, i < 4 → ∀ j, j < 4 → i ≠ j → (Cond.not (Cond.eq (ztm i) (ztm j))) ∈ flatC (Jvm.Cond.and given_1 narrow_1) ∨ (Cond.not (Cond.eq (ztm j) (ztm i))) ∈ flatC (Jvm.Cond.and given_1 narrow_1) := by decide +kernel
set_option maxRecDepth 100000 in
theorem zs_f7 : (Cond.eq (.static "java/lang/String" "COMPACT_STRINGS" "Z") (.int 1)) ∈ flatC (Jvm.Cond.and given_1 narrow_1) := by decide +kernel
set_option maxRecDepth 100000 in
theorem zs_f8 : (Cond.isRef (.static "jdk/internal/util/Preconditions" "SIOOBE_FORMATTER" "Ljava/util/function/BiFunction;")) ∈ flatC (Jvm.Cond.and given_1 narrow_1) := by decide +kernel
set_option maxRecDepth 100000 in
theorem zs_w1 : ∀ i, i < 4 → (Cond.stringRef "PathQueries$Tokens" (zs_ix.getD i 0) (zs_tx.getD i "")) ∈ lw_tbl := by decide +kernel
set_option maxRecDepth 100000 in
theorem zs_w2 : ∀ C ∈ zao, (Cond.arrayOver (.object C)) ∈ lw_tbl := by decide +kernel
set_option maxRecDepth 100000 in
theorem zs_w3 : ∀ w ∈ ([.laysStatic "java/lang/String" "COMPACT_STRINGS" "Z", .initialized "java/lang/String", .laysStatic "jdk/internal/util/Preconditions" "SIOOBE_FORMATTER" "Ljava/util/function/BiFunction;", .initialized "jdk/internal/util/Preconditions", .arrayClass .int, .arrayClass .byte, .arrayClass .long, .arrayClass .boolean] : List Cond), w ∈ lw_tbl := by decide +kernel
set_option maxHeartbeats 4000000 in
set_option maxRecDepth 100000 in
theorem whole_start {p : Program} {e : Env} {s : State} {m : MethodId} {below : List Frame} {meth : Method} {c : Code} (l : Launch) {b L : Nat} {xs : Nat → Int32} (hL : L ≤ 3072) (C0 : lw_At p s m meth c b L xs) : W p l e room_1 s m #[Value.ref b] below meth c s.heap [] 0 0 (lw_Z below #[Value.ref b] s) (entryFrame m ([Value.ref b] : List Value).toArray 4) := by
  obtain ⟨hx, hb, hr, hml, hown, hts, hX, hbl, hlocks, hgv⟩ := id C0
  have htz : ∀ w ∈ zT, w.before #[Value.ref b] s = true := fun w hw => hts w (List.mem_filter.mp hw).1
  obtain ⟨c0, i0, hk0⟩ := u_known (C := rr_Graph) (T := ff_Graph) (N := 10) (n := 10) htz ki_0 (hts (.instantiable rr_Graph 10) (List.mem_of_getElem? (i := 156) (by decide +kernel)))
  obtain ⟨c1, i1, hk1⟩ := u_known (C := rr_Way) (T := ff_Way) (N := 18) (n := 18) htz ki_1 (hts (.instantiable rr_Way 18) (List.mem_of_getElem? (i := 215) (by decide +kernel)))
  obtain ⟨c2, i2, hk2⟩ := u_known (C := rr_Text) (T := ff_Text) (N := 21) (n := 21) htz ki_2 (hts (.instantiable rr_Text 21) (List.mem_of_getElem? (i := 208) (by decide +kernel)))
  obtain ⟨c3, i3, hk3⟩ := u_known (C := rr_Tokens) (T := ff_Tokens) (N := 6) (n := 6) htz ki_3 (hts (.instantiable rr_Tokens 6) (List.mem_of_getElem? (i := 411) (by decide +kernel)))
  obtain ⟨c4, i4, hk4⟩ := u_known (C := rr_Operators) (T := ff_Operators) (N := 8) (n := 8) htz ki_4 (hts (.instantiable rr_Operators 8) (List.mem_of_getElem? (i := 440) (by decide +kernel)))
  obtain ⟨c5, i5, hk5⟩ := u_known (C := rr_Reader) (T := ff_Reader) (N := 20) (n := 20) htz ki_5 (hts (.instantiable rr_Reader 20) (List.mem_of_getElem? (i := 405) (by decide +kernel)))
  obtain ⟨c6, i6, hk6⟩ := u_known (C := rr_Search) (T := ff_Search) (N := 12) (n := 12) htz ki_6 (hts (.instantiable rr_Search 12) (List.mem_of_getElem? (i := 542) (by decide +kernel)))
  obtain ⟨c7, i7, hk7⟩ := u_known (C := rr_Finder) (T := ff_Finder) (N := 9) (n := 9) htz ki_7 (hts (.instantiable rr_Finder 9) (List.mem_of_getElem? (i := 536) (by decide +kernel)))
  obtain ⟨c8, i8, hk8⟩ := u_known (C := rr_RuleBook) (T := ff_RuleBook) (N := 6) (n := 6) htz ki_8 (hts (.instantiable rr_RuleBook 6) (List.mem_of_getElem? (i := 614) (by decide +kernel)))
  obtain ⟨c9, i9, hk9⟩ := u_known (C := rr_Rows) (T := ff_Rows) (N := 5) (n := 5) htz ki_9 (hts (.instantiable rr_Rows 5) (List.mem_of_getElem? (i := 649) (by decide +kernel)))
  obtain ⟨c10, i10, hk10⟩ := u_known (C := rr_Collector) (T := ff_Collector) (N := 4) (n := 4) htz ki_10 (hts (.instantiable rr_Collector 4) (List.mem_of_getElem? (i := 643) (by decide +kernel)))
  obtain ⟨c11, i11, hk11⟩ := u_known (C := rr_PQ) (T := ff_PQ) (N := 11) (n := 11) htz ki_11 (hts (.instantiable rr_PQ 11) (List.mem_of_getElem? (i := 148) (by decide +kernel)))
  obtain ⟨c12, i12, hk12⟩ := u_known (C := rr_Mo) (T := ff_Mo) (N := 90) (n := 90) htz ki_12 (hts (.instantiable rr_Mo 90) (List.mem_of_getElem? (i := 1514) (by decide +kernel)))
  obtain ⟨dC, dI, hKc⟩ : ∃ (dC : Nat → ClassId) (dI : Nat → Nat → Nat), ∀ (k : Nat) (q : vw_C), vwCl[k]? = some q → u_Kn s q.1 q.2.1 q.2.2 (dC k) (dI k) := by
    refine ⟨fun k => [c0, c1, c2, c3, c4, c5, c6, c7, c8, c9, c10, c11, c12].getD k 0, fun k => [i0, i1, i2, i3, i4, i5, i6, i7, i8, i9, i10, i11, i12].getD k (fun _ => 0), ?_⟩
    intro k q hq
    match k, hq with
    | 0, hq => rw [kc_0] at hq; cases hq; exact hk0
    | 1, hq => rw [kc_1] at hq; cases hq; exact hk1
    | 2, hq => rw [kc_2] at hq; cases hq; exact hk2
    | 3, hq => rw [kc_3] at hq; cases hq; exact hk3
    | 4, hq => rw [kc_4] at hq; cases hq; exact hk4
    | 5, hq => rw [kc_5] at hq; cases hq; exact hk5
    | 6, hq => rw [kc_6] at hq; cases hq; exact hk6
    | 7, hq => rw [kc_7] at hq; cases hq; exact hk7
    | 8, hq => rw [kc_8] at hq; cases hq; exact hk8
    | 9, hq => rw [kc_9] at hq; cases hq; exact hk9
    | 10, hq => rw [kc_10] at hq; cases hq; exact hk10
    | 11, hq => rw [kc_11] at hq; cases hq; exact hk11
    | 12, hq => rw [kc_12] at hq; cases hq; exact hk12
    | k + 13, hq => simp [vwCl] at hq
  have hA : ∀ a : Nat, a < s.heap.size → ¬ (fun q => s.heap.size ≤ q) a := fun a h => Nat.not_le.mpr h
  have hw3 := fun w h => hts w (zs_w3 w h)
  obtain ⟨a0, h0⟩ := zs_arr (ty := .int) (fun _ q => by cases q) (hw3 _ (by simp))
  obtain ⟨a1, h1⟩ := zs_arr (ty := .byte) (fun _ q => by cases q) (hw3 _ (by simp))
  obtain ⟨a2, h2⟩ := zs_arr (ty := .long) (fun _ q => by cases q) (hw3 _ (by simp))
  obtain ⟨a3, h3⟩ := zs_arrO (C := "PathQueries$Way") (hts _ (zs_w2 _ (by simp [zao])))
  obtain ⟨a4, h4⟩ := zs_arrO (C := "PathQueries$Text") (hts _ (zs_w2 _ (by simp [zao])))
  obtain ⟨a5, h5⟩ := zs_arrO (C := "PathQueries$Rows") (hts _ (zs_w2 _ (by simp [zao])))
  obtain ⟨a6, h6⟩ := zs_arr (ty := .boolean) (fun _ q => by cases q) (hw3 _ (by simp))
  obtain ⟨adK, adV, hS4, hS5⟩ := vk_Sof (args := #[Value.ref b]) (s := s) (N := 4) (tm := ztm) (len := zs_len) (byt := zs_byt) (A := fun q => s.heap.size ≤ q) (by decide) (fun i hi => flat_of_before _ hgv _ (zs_f1 i hi)) (fun i hi => flat_of_before _ hgv _ (zs_f2 i hi)) (fun i hi => flat_of_before _ hgv _ (zs_f3 i hi)) (fun i hi => flat_of_before _ hgv _ (zs_f4 i hi)) (fun i hi j hj => flat_of_before _ hgv _ (zs_f5 i hi j hj)) (fun i j hi hj hne => (zs_f6 i hi j hj hne).imp (fun q => flat_of_before _ hgv _ q) (fun q => flat_of_before _ hgv _ q)) hA
  have hZ := va_Zof (A := fun q => s.heap.size ≤ q) (hw3 (.laysStatic "java/lang/String" "COMPACT_STRINGS" "Z") (by simp)) (hw3 (.initialized "java/lang/String") (by simp)) (va_eqi (flat_of_before _ hgv _ zs_f7)) hA
  have hF := va_Zqof (A := fun q => s.heap.size ≤ q) (hw3 (.laysStatic "jdk/internal/util/Preconditions" "SIOOBE_FORMATTER" "Ljava/util/function/BiFunction;") (by simp)) (hw3 (.initialized "jdk/internal/util/Preconditions") (by simp)) (flat_of_before _ hgv _ zs_f8) hA
  obtain ⟨fm, hF⟩ : ∃ fm : Nat, va_Z "jdk/internal/util/Preconditions" "SIOOBE_FORMATTER" "Ljava/util/function/BiFunction;" .null (fun q => s.heap.size ≤ q) s s.heap ∨ va_Z "jdk/internal/util/Preconditions" "SIOOBE_FORMATTER" "Ljava/util/function/BiFunction;" (.ref fm) (fun q => s.heap.size ≤ q) s s.heap := by
    rcases hF with q | ⟨t, q⟩
    · exact ⟨0, Or.inl q⟩
    · exact ⟨t, Or.inr q⟩
  have hK : va_K (dC, dI) vwCl (ztys (zcid a0 a1 a2 a3 a4 a5 a6 b fm adK adV)) s := by
    refine ⟨hKc, fun k q hq => ?_⟩
    match k, hq with
    | 0, hq => cases hq; exact h0
    | 1, hq => cases hq; exact h1
    | 2, hq => cases hq; exact h2
    | 3, hq => cases hq; exact h3
    | 4, hq => cases hq; exact h4
    | 5, hq => cases hq; exact h5
    | 6, hq => cases hq; exact h6
    | k + 7, hq => simp [ztys, ztl] at hq
  have hE : zE (zcid a0 a1 a2 a3 a4 a5 a6 b fm adK adV) s.heap.size s := by
    refine ⟨zs_cong (fun i hi => zcid_K hi) (fun i hi => zcid_V hi) hS4, fun i hi => ?_, hZ, fun C hC => va_AO.of (hts _ (zs_w2 C hC)), hF⟩
    rw [zcid_K hi]
    exact vk_R.of (hts _ (zs_w1 i hi)) (hS5 i hi)
  obtain ⟨nf, res, hf, hlim⟩ := pure_ok L xs hL
  have hl := lv_entry ([.ref b]) (n := 4) (Nat.le_of_ble_eq_true rfl)
  rw [lg_entry_eq]
  generalize (lg_sl ([.ref b]) ++ List.replicate (4 - (lg_sl ([.ref b])).length) Slot.unset).toArray = ls at hl ⊢
  have X : zX p s m #[Value.ref b] c (dC, dI) (zcid a0 a1 a2 a3 a4 a5 a6 b fm adK adV) s.heap.size code 4 R_law zT := ⟨⟨hx, hb, hml, hown, htz⟩, hK, Nat.le_refl _, hE⟩
  have Y : zHL s meth s.heap.size L xs (zcid a0 a1 a2 a3 a4 a5 a6 b fm adK adV) #[Value.ref b] := ⟨hr, hlocks, rfl, hX, hbl, rfl⟩
  have hz := (w_law (l := l) (e := e) (below := below) X Y hf hlim).2
  exact hz rfl s.heap [] ls (fun k q h => by simp [zw] at h) va_S.rf hl
end ZzS
