/-! the law's start: what the Statement gives -/
def NG9 : List Cond := flatC (Jvm.Cond.and given_1 narrow_1)
def strW (q : String × Nat × String × List Int32) : List Cond := Cond.exactly (.string q.1 q.2.1) "java/lang/String" :: Cond.eq (.field (.string q.1 q.2.1) "java/lang/String" "coder" "B") (.int 0) :: Cond.arrayOf (.field (.string q.1 q.2.1) "java/lang/String" "value" "[B") .byte :: Cond.eq (.length (.field (.string q.1 q.2.1) "java/lang/String" "value" "[B")) (.int (Int32.ofNat q.2.2.2.length)) :: (List.range q.2.2.2.length).map (fun j => Cond.eq (.elem (.field (.string q.1 q.2.1) "java/lang/String" "value" "[B") (.int (Int32.ofNat j))) (.int (q.2.2.2.getD j 0)))
def sps : List Nat := [134, 142, 148, 157, 165, 174, 182, 191, 198, 205, 215, 223, 230, 236, 243, 250, 259, 268, 276, 286, 294, 301, 307, 317, 324, 334, 343, 353, 362, 372, 380, 391, 399, 408, 416, 423, 431, 439, 449, 458, 469, 478, 486]
set_option maxRecDepth 20000 in
theorem strs_at : ∀ i, i < 43 → ∀ q, strs[i]? = some q → (NG9.drop (sps.getD i 0)).take (4 + q.2.2.2.length) = strW q := by
  intro i hi q h
  match i, hi with
  | 0, _ => cases h; rfl
  | 1, _ => cases h; rfl
  | 2, _ => cases h; rfl
  | 3, _ => cases h; rfl
  | 4, _ => cases h; rfl
  | 5, _ => cases h; rfl
  | 6, _ => cases h; rfl
  | 7, _ => cases h; rfl
  | 8, _ => cases h; rfl
  | 9, _ => cases h; rfl
  | 10, _ => cases h; rfl
  | 11, _ => cases h; rfl
  | 12, _ => cases h; rfl
  | 13, _ => cases h; rfl
  | 14, _ => cases h; rfl
  | 15, _ => cases h; rfl
  | 16, _ => cases h; rfl
  | 17, _ => cases h; rfl
  | 18, _ => cases h; rfl
  | 19, _ => cases h; rfl
  | 20, _ => cases h; rfl
  | 21, _ => cases h; rfl
  | 22, _ => cases h; rfl
  | 23, _ => cases h; rfl
  | 24, _ => cases h; rfl
  | 25, _ => cases h; rfl
  | 26, _ => cases h; rfl
  | 27, _ => cases h; rfl
  | 28, _ => cases h; rfl
  | 29, _ => cases h; rfl
  | 30, _ => cases h; rfl
  | 31, _ => cases h; rfl
  | 32, _ => cases h; rfl
  | 33, _ => cases h; rfl
  | 34, _ => cases h; rfl
  | 35, _ => cases h; rfl
  | 36, _ => cases h; rfl
  | 37, _ => cases h; rfl
  | 38, _ => cases h; rfl
  | 39, _ => cases h; rfl
  | 40, _ => cases h; rfl
  | 41, _ => cases h; rfl
  | 42, _ => cases h; rfl
  | n + 43, h9 => exact absurd h9 (by omega)
theorem strs_ng {i : Nat} (hi : i < 43) {q : String × Nat × String × List Int32} (h : strs[i]? = some q) : ∀ w ∈ strW q, w ∈ NG9 := fun w hw => by
  rw [← strs_at i hi q h] at hw
  exact List.mem_of_mem_drop (List.mem_of_mem_take hw)
theorem strs_rf : ∀ i, i < 43 → ∀ q, strs[i]? = some q → Cond.stringRef q.1 q.2.1 q.2.2.1 ∈ lw_tbl ∧ q.2.2.2.length < 2 ^ 31 := by
  intro i hi q h
  match i, hi with
  | 0, _ => cases h; exact ⟨(in_t3 (List.mem_of_getElem? (i := 209) rfl)), by decide⟩
  | 1, _ => cases h; exact ⟨(in_t4 (List.mem_of_getElem? (i := 44) rfl)), by decide⟩
  | 2, _ => cases h; exact ⟨(in_t4 (List.mem_of_getElem? (i := 56) rfl)), by decide⟩
  | 3, _ => cases h; exact ⟨(in_t4 (List.mem_of_getElem? (i := 66) rfl)), by decide⟩
  | 4, _ => cases h; exact ⟨(in_t4 (List.mem_of_getElem? (i := 71) rfl)), by decide⟩
  | 5, _ => cases h; exact ⟨(in_t4 (List.mem_of_getElem? (i := 76) rfl)), by decide⟩
  | 6, _ => cases h; exact ⟨(in_t4 (List.mem_of_getElem? (i := 77) rfl)), by decide⟩
  | 7, _ => cases h; exact ⟨(in_t4 (List.mem_of_getElem? (i := 78) rfl)), by decide⟩
  | 8, _ => cases h; exact ⟨(in_t4 (List.mem_of_getElem? (i := 79) rfl)), by decide⟩
  | 9, _ => cases h; exact ⟨(in_t4 (List.mem_of_getElem? (i := 88) rfl)), by decide⟩
  | 10, _ => cases h; exact ⟨(in_t4 (List.mem_of_getElem? (i := 94) rfl)), by decide⟩
  | 11, _ => cases h; exact ⟨(in_t4 (List.mem_of_getElem? (i := 200) rfl)), by decide⟩
  | 12, _ => cases h; exact ⟨(in_t4 (List.mem_of_getElem? (i := 202) rfl)), by decide⟩
  | 13, _ => cases h; exact ⟨(in_t4 (List.mem_of_getElem? (i := 221) rfl)), by decide⟩
  | 14, _ => cases h; exact ⟨(in_t4 (List.mem_of_getElem? (i := 224) rfl)), by decide⟩
  | 15, _ => cases h; exact ⟨(in_t4 (List.mem_of_getElem? (i := 233) rfl)), by decide⟩
  | 16, _ => cases h; exact ⟨(in_t4 (List.mem_of_getElem? (i := 234) rfl)), by decide⟩
  | 17, _ => cases h; exact ⟨(in_t4 (List.mem_of_getElem? (i := 235) rfl)), by decide⟩
  | 18, _ => cases h; exact ⟨(in_t4 (List.mem_of_getElem? (i := 236) rfl)), by decide⟩
  | 19, _ => cases h; exact ⟨(in_t4 (List.mem_of_getElem? (i := 237) rfl)), by decide⟩
  | 20, _ => cases h; exact ⟨(in_t4 (List.mem_of_getElem? (i := 238) rfl)), by decide⟩
  | 21, _ => cases h; exact ⟨(in_t4 (List.mem_of_getElem? (i := 239) rfl)), by decide⟩
  | 22, _ => cases h; exact ⟨(in_t8 (List.mem_of_getElem? (i := 49) rfl)), by decide⟩
  | 23, _ => cases h; exact ⟨(in_t8 (List.mem_of_getElem? (i := 69) rfl)), by decide⟩
  | 24, _ => cases h; exact ⟨(in_t8 (List.mem_of_getElem? (i := 78) rfl)), by decide⟩
  | 25, _ => cases h; exact ⟨(in_t8 (List.mem_of_getElem? (i := 98) rfl)), by decide⟩
  | 26, _ => cases h; exact ⟨(in_t8 (List.mem_of_getElem? (i := 103) rfl)), by decide⟩
  | 27, _ => cases h; exact ⟨(in_t8 (List.mem_of_getElem? (i := 108) rfl)), by decide⟩
  | 28, _ => cases h; exact ⟨(in_t8 (List.mem_of_getElem? (i := 109) rfl)), by decide⟩
  | 29, _ => cases h; exact ⟨(in_t8 (List.mem_of_getElem? (i := 110) rfl)), by decide⟩
  | 30, _ => cases h; exact ⟨(in_t8 (List.mem_of_getElem? (i := 111) rfl)), by decide⟩
  | 31, _ => cases h; exact ⟨(in_t8 (List.mem_of_getElem? (i := 133) rfl)), by decide⟩
  | 32, _ => cases h; exact ⟨(in_t8 (List.mem_of_getElem? (i := 134) rfl)), by decide⟩
  | 33, _ => cases h; exact ⟨(in_t8 (List.mem_of_getElem? (i := 143) rfl)), by decide⟩
  | 34, _ => cases h; exact ⟨(in_t8 (List.mem_of_getElem? (i := 144) rfl)), by decide⟩
  | 35, _ => cases h; exact ⟨(in_t8 (List.mem_of_getElem? (i := 165) rfl)), by decide⟩
  | 36, _ => cases h; exact ⟨(in_t8 (List.mem_of_getElem? (i := 170) rfl)), by decide⟩
  | 37, _ => cases h; exact ⟨(in_t8 (List.mem_of_getElem? (i := 179) rfl)), by decide⟩
  | 38, _ => cases h; exact ⟨(in_t8 (List.mem_of_getElem? (i := 180) rfl)), by decide⟩
  | 39, _ => cases h; exact ⟨(in_t8 (List.mem_of_getElem? (i := 181) rfl)), by decide⟩
  | 40, _ => cases h; exact ⟨(in_t8 (List.mem_of_getElem? (i := 182) rfl)), by decide⟩
  | 41, _ => cases h; exact ⟨(in_t8 (List.mem_of_getElem? (i := 183) rfl)), by decide⟩
  | 42, _ => cases h; exact ⟨(in_t8 (List.mem_of_getElem? (i := 184) rfl)), by decide⟩
  | n + 43, h9 => exact absurd h9 (by omega)
theorem str_of {args : Array Value} {s : State} {own tx : String} {idx : Nat} {bs : List Int32} {A : Nat → Prop} (hr : (Cond.stringRef own idx tx).before args s = true) (hlen : bs.length < 2 ^ 31) (hw : ∀ w ∈ strW (own, idx, tx, bs), w.before args s = true) (hA : ∀ a : Nat, a < s.heap.size → ¬ A a) :
    ∃ a v : Nat, vk_R own idx tx a s ∧ va_O "java/lang/String" a A s s.heap ∧ va_OF "java/lang/String" "coder" "B" (.int 0) a A s s.heap ∧ va_OF "java/lang/String" "value" "[B" (.ref v) a A s s.heap ∧ va_T .byte v bs.length (fun j => .int (bs.getD j 0)) A s s.heap := by
  have hex := hw _ List.mem_cons_self
  have hco := hw _ (List.mem_cons_of_mem _ List.mem_cons_self)
  have har := hw _ (List.mem_cons_of_mem _ (List.mem_cons_of_mem _ List.mem_cons_self))
  have hle := hw _ (List.mem_cons_of_mem _ (List.mem_cons_of_mem _ (List.mem_cons_of_mem _ List.mem_cons_self)))
  have hel : ∀ j : Nat, j < bs.length → (Cond.eq (.elem (.field (.string own idx) "java/lang/String" "value" "[B") (.int (Int32.ofNat j))) (.int (bs.getD j 0))).before args s = true := fun j hj => hw _ (List.mem_cons_of_mem _ (List.mem_cons_of_mem _ (List.mem_cons_of_mem _ (List.mem_cons_of_mem _ (List.mem_map.mpr ⟨j, List.mem_range.mpr hj, rfl⟩)))))
  obtain ⟨a, c, cA, kA, q1, -⟩ := Cond.exactly_spec (args := args) (first := s) (o := none) (s := s) (idx := []) (t := .string own idx) (cls := "java/lang/String") hex
  obtain ⟨v, ht, hT⟩ := va_Tof (f := fun j => .int (bs.getD j 0)) (A := A) hlen har (va_eqt hle) (fun j hj => va_eqt (hel j hj)) hA
  exact ⟨a, v, vk_R.of hr q1, va_Oof hex q1 hA, vk_OFof q1 (va_eqt hco) hA, vk_OFof q1 ht hA, hT⟩
theorem arr_p {args : Array Value} {s : State} {ty : FieldType} (h : (Cond.arrayClass ty).before args s = true) (hp : ty = .int ∨ ty = .long ∨ ty = .byte) : ∃ cA : ClassId, ArrOfT s cA ty ∧ va_RA s cA ty := by
  obtain ⟨c, k, comp, h1, h2, h3⟩ := Cond.arrayClass_spec h
  refine ⟨c, fun n z => ⟨fun k h => (by cases h), k, h2, comp, h3⟩, ?_⟩
  rcases hp with rfl | rfl | rfl <;> exact h1
theorem arr_o {args : Array Value} {s : State} {C : String} (h : (Cond.arrayOver (.object C)).before args s = true) : ∃ cA : ClassId, ArrOfT s cA (.object C) ∧ va_RA s cA (.object C) := by
  obtain ⟨comp, c, k, h1, -, h2, h3, h4⟩ := Cond.arrayOver_spec h
  exact ⟨c, fun n z => ⟨fun k h => (by cases h), k, h2, comp, h3⟩, k, comp, h2, h3, h1, h4⟩
set_option maxRecDepth 10000 in
theorem cl_ist : ∀ c, c < 13 → Cond.instantiable (cl3 c).1 (cl3 c).2.2 ∈ lw_tbl := by
  intro c hc
  match c, hc with
  | 0, _ => exact (in_t2 (List.mem_of_getElem? (i := 135) rfl))
  | 1, _ => exact (in_t1 (List.mem_of_getElem? (i := 123) rfl))
  | 2, _ => exact (in_t2 (List.mem_of_getElem? (i := 76) rfl))
  | 3, _ => exact (in_t2 (List.mem_of_getElem? (i := 165) rfl))
  | 4, _ => exact (in_t2 (List.mem_of_getElem? (i := 45) rfl))
  | 5, _ => exact (in_t1 (List.mem_of_getElem? (i := 209) rfl))
  | 6, _ => exact (in_t1 (List.mem_of_getElem? (i := 81) rfl))
  | 7, _ => exact (in_t2 (List.mem_of_getElem? (i := 97) rfl))
  | 8, _ => exact (in_t1 (List.mem_of_getElem? (i := 41) rfl))
  | 9, _ => exact (in_t1 (List.mem_of_getElem? (i := 75) rfl))
  | 10, _ => exact (in_t1 (List.mem_of_getElem? (i := 230) rfl))
  | 11, _ => exact (in_t1 (List.mem_of_getElem? (i := 33) rfl))
  | 12, _ => exact (in_t7 (List.mem_of_getElem? (i := 74) rfl))
  | n + 13, h9 => exact absurd h9 (by omega)
theorem ao_1 : Cond.arrayOver (.object RX1) ∈ lw_tbl := (in_t1 (List.mem_of_getElem? (i := 122) rfl))
theorem ao_9 : Cond.arrayOver (.object RX9) ∈ lw_tbl := (in_t1 (List.mem_of_getElem? (i := 228) rfl))
theorem ap_int : Cond.arrayClass .int ∈ lw_tbl := (in_t1 (List.mem_of_getElem? (i := 73) rfl))
theorem ap_long : Cond.arrayClass .long ∈ lw_tbl := (in_t1 (List.mem_of_getElem? (i := 120) rfl))
theorem ap_byte : Cond.arrayClass .byte ∈ lw_tbl := (in_t4 (List.mem_of_getElem? (i := 172) rfl))
theorem ls_cs : Cond.laysStatic "java/lang/String" "COMPACT_STRINGS" "Z" ∈ lw_tbl := (in_t3 (List.mem_of_getElem? (i := 223) rfl))
theorem li_cs : Cond.initialized "java/lang/String" ∈ lw_tbl := (in_t1 (List.mem_of_getElem? (i := 16) rfl))
theorem ls_so : Cond.laysStatic "jdk/internal/util/Preconditions" "SIOOBE_FORMATTER" "Ljava/util/function/BiFunction;" ∈ lw_tbl := (in_t3 (List.mem_of_getElem? (i := 239) rfl))
theorem li_so : Cond.initialized "jdk/internal/util/Preconditions" ∈ lw_tbl := (in_t1 (List.mem_of_getElem? (i := 18) rfl))
theorem ls_us : Cond.laysStatic "java/lang/Throwable" "UNASSIGNED_STACK" "[Ljava/lang/StackTraceElement;" ∈ lw_tbl := (in_t4 (List.mem_of_getElem? (i := 134) rfl))
theorem li_us : Cond.initialized "java/lang/Throwable" ∈ lw_tbl := (in_t1 (List.mem_of_getElem? (i := 20) rfl))
theorem ls_ss : Cond.laysStatic "java/lang/Throwable" "SUPPRESSED_SENTINEL" "Ljava/util/List;" ∈ lw_tbl := (in_t4 (List.mem_of_getElem? (i := 136) rfl))
theorem li_ss : Cond.initialized "java/lang/Throwable" ∈ lw_tbl := (in_t1 (List.mem_of_getElem? (i := 20) rfl))
theorem ng_cs : Cond.eq (.static "java/lang/String" "COMPACT_STRINGS" "Z") (.int 1) ∈ NG9 := (List.mem_of_getElem? (l := NG9) (i := 4) rfl)
theorem ng_so : Cond.isRef (.static "jdk/internal/util/Preconditions" "SIOOBE_FORMATTER" "Ljava/util/function/BiFunction;") ∈ NG9 := (List.mem_of_getElem? (l := NG9) (i := 5) rfl)
theorem ng_us : Cond.isRef (.static "java/lang/Throwable" "UNASSIGNED_STACK" "[Ljava/lang/StackTraceElement;") ∈ NG9 := (List.mem_of_getElem? (l := NG9) (i := 9) rfl)
theorem ng_ss : Cond.isRef (.static "java/lang/Throwable" "SUPPRESSED_SENTINEL" "Ljava/util/List;") ∈ NG9 := (List.mem_of_getElem? (l := NG9) (i := 10) rfl)
theorem ng_nc : ∀ q ∈ ncL, Cond.not (.castable q.1 q.2) ∈ NG9 := by
  intro q hq
  simp only [ncL, List.mem_cons, List.not_mem_nil, or_false] at hq
  rcases hq with rfl | rfl | rfl | rfl | rfl | rfl
  · exact (List.mem_of_getElem? (l := NG9) (i := 24) rfl)
  · exact (List.mem_of_getElem? (l := NG9) (i := 60) rfl)
  · exact (List.mem_of_getElem? (l := NG9) (i := 58) rfl)
  · exact (List.mem_of_getElem? (l := NG9) (i := 61) rfl)
  · exact (List.mem_of_getElem? (l := NG9) (i := 26) rfl)
  · exact (List.mem_of_getElem? (l := NG9) (i := 25) rfl)
theorem nest_tab {w : Cond} (h : nestW w = true) : w.onTables = true := by
  cases w <;> first | rfl | (simp [nestW] at h)
theorem flag_no {l : Launch} (h : l.flags = flags0) : l.stackTraces = false := by
  unfold Launch.stackTraces
  rw [h]
  decide
set_option maxHeartbeats 1000000 in
theorem en_of {s : State} (l : Launch) (hflags : l.flags = flags0) {b L : Nat} {xs : Nat → Int32} (hts : ∀ w ∈ lw_tbl, w.before #[Value.ref b] s = true) (hX : va_X b L xs s s.heap) (hb : b < s.heap.size) (hg : (Jvm.Cond.and given_1 narrow_1).before #[Value.ref b] s = true) :
    ∃ γ : Ga, gl γ = l ∧ glo γ = s.heap.size ∧ gex γ 0 = b ∧ gsl γ = L ∧ En γ s := by
  have hng : ∀ w ∈ NG9, w.before #[Value.ref b] s = true := flat_of_before _ hg
  have hA : ∀ a : Nat, a < s.heap.size → ¬ s.heap.size ≤ a := fun a h => Nat.not_le.mpr h
  have htb : ∀ w ∈ tbw, w.before #[Value.ref b] s = true := fun w hw => hts w (List.mem_filter.mp hw).1
  have h1 : ∀ c : Nat, ∃ x : ClassId × (Nat → Nat), c < 13 → u_Kn s (cl3 c).1 (cl3 c).2.1 (cl3 c).2.2 x.1 x.2 := fun c => by
    by_cases hc : c < 13
    · obtain ⟨cC, iS, h⟩ := u_known htb (cl_in c hc) (hts _ (cl_ist c hc))
      exact ⟨(cC, iS), fun _ => h⟩
    · exact ⟨(0, fun _ => 0), fun h => absurd h hc⟩
  obtain ⟨dc, hdc⟩ := Classical.axiomOfChoice h1
  obtain ⟨c1, k1⟩ := arr_p (hts _ ap_int) (Or.inl rfl)
  obtain ⟨c2, k2⟩ := arr_p (hts _ ap_long) (Or.inr (Or.inl rfl))
  obtain ⟨c3, k3⟩ := arr_p (hts _ ap_byte) (Or.inr (Or.inr rfl))
  obtain ⟨c4, k4⟩ := arr_o (hts _ ao_1)
  obtain ⟨c5, k5⟩ := arr_o (hts _ ao_9)
  have h2 : ∀ i : Nat, ∃ x : Nat × Nat, i < 43 → ∀ q : String × Nat × String × List Int32, strs[i]? = some q → vk_R q.1 q.2.1 q.2.2.1 x.1 s ∧ va_O "java/lang/String" x.1 (fun a => s.heap.size ≤ a) s s.heap ∧ va_OF "java/lang/String" "coder" "B" (.int 0) x.1 (fun a => s.heap.size ≤ a) s s.heap ∧ va_OF "java/lang/String" "value" "[B" (.ref x.2) x.1 (fun a => s.heap.size ≤ a) s s.heap ∧ va_T .byte x.2 q.2.2.2.length (fun j => .int (q.2.2.2.getD j 0)) (fun a => s.heap.size ≤ a) s s.heap := fun i => by
    by_cases hi : i < 43
    · cases hq : strs[i]? with
      | none => exact ⟨(0, 0), fun _ q h => by cases h⟩
      | some q =>
        have h9 := strs_rf i hi q hq
        obtain ⟨a, v, h⟩ := str_of (hts _ h9.1) h9.2 (fun w hw => hng w (strs_ng hi hq w hw)) hA
        exact ⟨(a, v), fun _ q' h' => by cases h'; exact h⟩
    · exact ⟨(0, 0), fun h => absurd h hi⟩
  obtain ⟨ad, had⟩ := Classical.axiomOfChoice h2
  have h3 : ∃ a9 : Nat, va_Z "jdk/internal/util/Preconditions" "SIOOBE_FORMATTER" "Ljava/util/function/BiFunction;" .null (fun a => s.heap.size ≤ a) s s.heap ∨ va_Z "jdk/internal/util/Preconditions" "SIOOBE_FORMATTER" "Ljava/util/function/BiFunction;" (.ref a9) (fun a => s.heap.size ≤ a) s s.heap := by
    obtain ⟨v, e, hv⟩ := Cond.isRef_spec (hng _ ng_so)
    have hz := va_Zof (hts _ ls_so) (hts _ li_so) e hA
    cases v with
    | null => exact ⟨0, Or.inl hz⟩
    | ref a => exact ⟨a, Or.inr hz⟩
    | _ => cases hv
  obtain ⟨a9, h9⟩ := h3
  have hlen : strs.length = 43 := by decide
  refine ⟨(l, (fun c => (dc c).1, fun c => (dc c).2), s.heap.size, (fun k => if k = 0 then b else if k = 99 then a9 else if k < 99 then (ad (k - 1)).1 else (ad (k - 100)).2), (fun k => match k with | 1 => c1 | 2 => c2 | 3 => c3 | 4 => c4 | _ => c5), L, xs), rfl, rfl, rfl, rfl, ⟨fun c q hq => ?_, fun k q hq => ?_⟩, fun w hw => va_Nw.of (nest_tab (List.mem_filter.mp hw).2) (hts w (List.mem_filter.mp hw).1), ⟨vx_Zqof (hts _ ls_us) (hts _ li_us) (hng _ ng_us) hA, vx_Zqof (hts _ ls_ss) (hts _ li_ss) (hng _ ng_ss) hA⟩, ⟨hX, hb⟩, fun i q hq => ?_, ⟨va_Zof (hts _ ls_cs) (hts _ li_cs) (va_eqt (hng _ ng_cs)) hA, h9⟩, ⟨⟨va_AO.of (hts _ ao_1), fun q hq => va_Nc.of (hng _ (ng_nc q hq))⟩, va_AO.of (hts _ ao_9), flag_no hflags⟩, Nat.le_refl _⟩
  · have hc : c < 13 := (List.getElem?_eq_some_iff.mp hq).1
    have e := (cl_some c hc).symm.trans hq
    cases e
    exact hdc c hc
  · match k, hq with
    | 0, hq => cases hq; exact k1
    | 1, hq => cases hq; exact k2
    | 2, hq => cases hq; exact k3
    | 3, hq => cases hq; exact k4
    | 4, hq => cases hq; exact k5
    | n + 5, hq => cases hq
  · have hi : i < 43 := by
      rw [← hlen]
      exact (List.getElem?_eq_some_iff.mp hq).1
    have e1 : (if i + 1 = 0 then b else if i + 1 = 99 then a9 else if i + 1 < 99 then (ad (i + 1 - 1)).1 else (ad (i + 1 - 100)).2) = (ad i).1 := by
      rw [if_neg (by omega), if_neg (by omega), if_pos (by omega), Nat.add_sub_cancel]
    have e2 : (if i + 100 = 0 then b else if i + 100 = 99 then a9 else if i + 100 < 99 then (ad (i + 100 - 1)).1 else (ad (i + 100 - 100)).2) = (ad i).2 := by
      rw [if_neg (by omega), if_neg (by omega), if_neg (by omega), Nat.add_sub_cancel]
    have h := had i hi q hq
    rw [← e1, ← e2] at h
    exact h

