/-! what stands unchanged below the system; the worlds of a method's start and end -/
def strs : List (String × Nat × String × List Int32) := [("BeastRules$Told", 126, "rule", [114, 117, 108, 101]), ("BeastRules$Told", 173, "to", [116, 111]), ("BeastRules$Told", 135, "field", [102, 105, 101, 108, 100]), ("BeastRules$Told", 140, "seen", [115, 101, 101, 110]), ("BeastRules$Told", 145, "first", [102, 105, 114, 115, 116]), ("BeastRules$Told", 186, "left", [108, 101, 102, 116]), ("BeastRules$Told", 187, "right", [114, 105, 103, 104, 116]), ("BeastRules$Told", 188, "all", [97, 108, 108]), ("BeastRules$Told", 150, "fog", [102, 111, 103]), ("BeastRules$Told", 154, "weight", [119, 101, 105, 103, 104, 116]), ("BeastRules$Told", 159, "drop", [100, 114, 111, 112]), ("BeastRules$Law", 39, "bar", [98, 97, 114]), ("BeastRules$Law", 45, "if", [105, 102]), ("BeastRules$Law", 79, "not", [110, 111, 116]), ("BeastRules$Law", 81, "end", [101, 110, 100]), ("BeastRules$Law", 93, "rule", [114, 117, 108, 101]), ("BeastRules$Law", 95, "place", [112, 108, 97, 99, 101]), ("BeastRules$Law", 97, "long", [108, 111, 110, 103]), ("BeastRules$Law", 99, "behind", [98, 101, 104, 105, 110, 100]), ("BeastRules$Law", 101, "year", [121, 101, 97, 114]), ("BeastRules$Law", 77, "and", [97, 110, 100]), ("BeastRules$Law", 72, "or", [111, 114]), ("BeastRulesModel", 191, "rule", [114, 117, 108, 101]), ("BeastRulesModel", 177, "to", [116, 111]), ("BeastRulesModel", 207, "field", [102, 105, 101, 108, 100]), ("BeastRulesModel", 212, "seen", [115, 101, 101, 110]), ("BeastRulesModel", 217, "first", [102, 105, 114, 115, 116]), ("BeastRulesModel", 189, "left", [108, 101, 102, 116]), ("BeastRulesModel", 190, "right", [114, 105, 103, 104, 116]), ("BeastRulesModel", 193, "all", [97, 108, 108]), ("BeastRulesModel", 222, "weight", [119, 101, 105, 103, 104, 116]), ("BeastRulesModel", 227, "fog", [102, 111, 103]), ("BeastRulesModel", 229, "drop", [100, 114, 111, 112]), ("BeastRulesModel", 281, "bar", [98, 97, 114]), ("BeastRulesModel", 283, "if", [105, 102]), ("BeastRulesModel", 262, "not", [110, 111, 116]), ("BeastRulesModel", 270, "end", [101, 110, 100]), ("BeastRulesModel", 242, "place", [112, 108, 97, 99, 101]), ("BeastRulesModel", 244, "long", [108, 111, 110, 103]), ("BeastRulesModel", 246, "behind", [98, 101, 104, 105, 110, 100]), ("BeastRulesModel", 247, "year", [121, 101, 97, 114]), ("BeastRulesModel", 274, "and", [97, 110, 100]), ("BeastRulesModel", 279, "or", [111, 114])]
/-- what is no kind of what, of what is thrown -/
def ncL : List (String × String) := [("java/lang/UnsupportedOperationException", "java/lang/IllegalArgumentException"), ("java/util/NoSuchElementException", "java/lang/IndexOutOfBoundsException"), ("java/lang/IllegalArgumentException", "java/lang/IndexOutOfBoundsException"), ("java/lang/IllegalStateException", "java/lang/IndexOutOfBoundsException"), ("java/util/NoSuchElementException", "java/lang/IllegalArgumentException"), ("java/lang/IndexOutOfBoundsException", "java/lang/IllegalArgumentException")]
def NcA (U : State) : Prop := ∀ q ∈ ncL, va_Nc q.1 q.2 U
def En (γ : Ga) (U : State) : Prop := va_K (gD γ) vwCl (tysof γ) U ∧ (∀ w ∈ nww, va_Nw w U) ∧
  (vx_Zq Bundle.tN "UNASSIGNED_STACK" Bundle.steD (gA γ) U U.heap ∧ vx_Zq Bundle.tN "SUPPRESSED_SENTINEL" Bundle.listD (gA γ) U U.heap) ∧
  (va_X (gex γ 0) (gsl γ) (gsx γ) U U.heap ∧ gex γ 0 < glo γ) ∧
  (∀ (i : Nat) (q : String × Nat × String × List Int32), strs[i]? = some q → StrOk γ (gex γ (i + 1)) (gex γ (i + 100)) q.1 q.2.1 q.2.2.1 q.2.2.2 U U.heap) ∧
  (va_Z "java/lang/String" "COMPACT_STRINGS" "Z" (.int 1) (gA γ) U U.heap ∧ (va_Z "jdk/internal/util/Preconditions" "SIOOBE_FORMATTER" "Ljava/util/function/BiFunction;" .null (gA γ) U U.heap ∨ va_Z "jdk/internal/util/Preconditions" "SIOOBE_FORMATTER" "Ljava/util/function/BiFunction;" (.ref (gex γ 99)) (gA γ) U U.heap)) ∧
  ((va_AO RX1 U ∧ NcA U) ∧ va_AO RX9 U ∧ (gl γ).stackTraces = false) ∧ glo γ ≤ U.heap.size
theorem StrOk.go {γ : Ga} {a v idx : Nat} {own tx : String} {bs : List Int32} {s U : State} {H : Heap} (h : StrOk γ a v own idx tx bs s s.heap) (hH : U.heap = H) (hW : s.WarmedH U.vm) (hq : ∀ q : Nat, q < s.heap.size → ¬ gA γ q → H[q]? = s.heap[q]?) : StrOk γ a v own idx tx bs U U.heap := by
  obtain ⟨h1, h2, h3, h4, h5⟩ := h
  rw [hH]
  exact ⟨h1.warm hW, (h2.kept hq).moved hW.alike, (h3.kept hq).moved hW.alike, (h4.kept hq).moved hW.alike, (h5.kept hq).moved hW.alike⟩
theorem En.go {γ : Ga} {s U : State} {H : Heap} {locs : List Loc} (h : En γ s) (hS : va_S (gA γ) s.heap H locs) (hH : U.heap = H) (hW : s.WarmedH U.vm) : En γ U := by
  obtain ⟨hK, hN, ⟨z1, z2⟩, ⟨hX, hb⟩, hstr, ⟨z3, z4⟩, ⟨⟨a1, a0⟩, a2, a3⟩, hlo⟩ := h
  have hq := hS.2.1
  refine ⟨va_K.moved hW.alike hK, fun w hw => nw_warm (List.mem_filter.mp hw).2 hW (hN w hw), ?_, ?_, ?_, ?_, ⟨⟨a1.moved hW.alike, fun q9 h9 => (a0 q9 h9).moved hW.alike⟩, a2.moved hW.alike, a3⟩, ?_⟩
  · rw [hH]
    exact ⟨(z1.kept hq).moved hW.alike, (z2.kept hq).moved hW.alike⟩
  · rw [hH]
    exact ⟨(hX.kept (hq _ (Nat.lt_of_lt_of_le hb hlo) (fun z => Nat.lt_irrefl _ (Nat.lt_of_lt_of_le hb z)))).moved hW.alike, hb⟩
  · exact fun i q h => (hstr i q h).go hH hW hq
  · rw [hH]
    exact ⟨(z3.kept hq).moved hW.alike, z4.elim (fun z => Or.inl ((z.kept hq).moved hW.alike)) (fun z => Or.inr ((z.kept hq).moved hW.alike))⟩
  · rw [hH]
    exact Nat.le_trans hlo hS.1
/-- the heap holds the memory -/
def Hp (γ : Ga) (μ : SMem) (H : Heap) : Prop := va_P (gD γ) vwCl (wsof γ μ) H ∧ glo γ + μ.1 ≤ H.size ∧ (μ.1 < N0 → H.size = glo γ + μ.1) ∧ μ.1 ≤ N0
def Wd (γ : Ga) (μ : SMem) (U : State) : Prop := En γ U ∧ Hp γ μ U.heap
/-- a method: name, code, size of its locals, what it answers, its handlers -/
abbrev MI : Type := MethodName × ByteArray × Nat × Option FieldType × List (Nat × Nat × Nat × Nat)
abbrev Mb (M : MI) : ByteArray := M.2.1
abbrev Ml (M : MI) : Nat := M.2.2.1
abbrev Mr (M : MI) : Option FieldType := M.2.2.2.1
abbrev Mh (M : MI) : List (Nat × Nat × Nat × Nat) := M.2.2.2.2
def wsM (M : MI) : List Cond := (match Mh M with
  | [] => Cond.code M.1 (Mb M) (Ml M) (Mr M)
  | h :: t => Cond.codeWith M.1 (Mb M) (Ml M) (Mr M) (h :: t)) :: tbw
abbrev Out : Type := Option Value ⊕ String
def rmd (d mc ms : Nat) : Room := { frames := d + 10, cells := mc, slots := ms, locals := 64 * d + 300 }
def QC (γ : Ga) (Q : Out → SMem → Prop) : Array Value → State → Outcome → State → Prop := fun _ st oc t => (∃ (v : Option Value) (μ : SMem), oc = .returned (v.map (rv γ)) ∧ Q (.inl v) μ ∧ Hp γ μ t.heap) ∧ va_F (gA γ) st t
def XC (γ : Ga) (Q : Out → SMem → Prop) : String → State → State → Prop := fun E st t => (∃ μ : SMem, Q (.inr E) μ ∧ Hp γ μ t.heap) ∧ va_F (gA γ) st t
/-- a contract: the method M at the values av, over the memory μ, comes to an end with Q -/
def Ex (γ : Ga) (d mc ms : Nat) (M : MI) (av : List Value) (μ : SMem) (Q : Out → SMem → Prop) : Prop :=
  vx_Met (gl γ) M.1 (wsM M) (rmd d mc ms) (va_Pc (av.map (rv γ)) (Wd γ μ)) (QC γ Q) (XC γ Q) mc ms (gA γ)
def Fr (γ : Ga) (M : MI) (p : Program) (s : State) (m : MethodId) (args : Array Value) (meth : Method) (c : Code) : Prop :=
  p.tables.exec = Jvm.exec ∧ c.code = Mb M ∧ c.maxLocals = Ml M ∧ s.vm.findClass M.1.cls = some m.cls ∧ (∀ w ∈ tbw, w.before args s = true) ∧ meth.sig.returnType = Mr M ∧ meth.locks = false ∧ meth.name = M.1.name ∧ c.exceptionTable.toList = tableOf (Mh M) ∧ (gl γ).stackTraces = false ∧ En γ s
def glk : List (Option Value) → Nat → Option Value
  | [], _ => none
  | a :: _, 0 => a
  | _ :: t, i + 1 => glk t i
def LH (γ : Ga) (n : Nat) (ls : List (Option Value)) (L : Array Slot) : Prop := L.size = n ∧ lv_wf L ∧ ∀ (i : Nat) (v : Value), glk ls i = some v → L[i]? = some (.val (rv γ v))
/-- a method's body from the place pc on -/
def T (γ : Ga) (d mc ms : Nat) (M : MI) (Q : Out → SMem → Prop) (kc ks : Nat) (pc : Nat) (ls : List (Option Value)) (st : List Value) (μ : SMem) : Prop :=
  ∀ (p : Program) (e : Env) (s : State) (m : MethodId) (args : Array Value) (below : List Frame) (meth : Method) (c : Code) (H : Heap) (locs : List Loc) (L : Array Slot),
    Fr γ M p s m args meth c → Hp γ μ H → va_S (gA γ) s.heap H locs → LH γ (Ml M) ls L →
    W p (gl γ) e (rmd d mc ms) s m args below meth c H locs kc ks (vx_MQ below (QC γ Q) (XC γ Q) args s mc ms (gA γ)) (F0 m pc L (st.map (rv γ)))
/-- the first locals -/
def eloc : List Value → Nat → List (Option Value)
  | [], n => List.replicate n none
  | v :: vs, n => if v.category = 2 then some v :: none :: eloc vs (n - 2) else some v :: eloc vs (n - 1)
theorem glk_rep (n i : Nat) : glk (List.replicate n none) i = none := by
  induction n generalizing i with
  | zero => rfl
  | succ n ih =>
    cases i with
    | zero => rfl
    | succ i => exact ih i
theorem glk_eloc {γ : Ga} (vs : List Value) : ∀ (n i b : Nat) (v : Value), glk (eloc vs n) i = some v → (b + i, rv γ v) ∈ lv_args b (vs.map (rv γ)) := by
  induction vs with
  | nil => intro n i b v h; rw [eloc, glk_rep] at h; cases h
  | cons a vs ih =>
    intro n i b v h
    rw [eloc] at h
    rw [List.map_cons, lv_args]
    by_cases hc : a.category = 2
    · rw [if_pos hc] at h
      rw [if_pos (by rw [rv_cat]; exact hc)]
      match i, h with
      | 0, h => cases h; exact List.mem_cons_self
      | 1, h => cases h
      | i + 2, h =>
        have := ih (n - 2) i (b + 2) v h
        rw [show b + (i + 2) = b + 2 + i by omega]
        exact List.mem_cons_of_mem _ this
    · rw [if_neg hc] at h
      rw [if_neg (by rw [rv_cat]; exact hc)]
      match i, h with
      | 0, h => cases h; exact List.mem_cons_self
      | i + 1, h =>
        have := ih (n - 1) i (b + 1) v h
        rw [show b + (i + 1) = b + 1 + i by omega]
        exact List.mem_cons_of_mem _ this
/-- a contract out of a body -/
theorem Ex.of {γ : Ga} {d mc ms : Nat} {M : MI} {av : List Value} {μ : SMem} {Q : Out → SMem → Prop} (hy : plainName M.1.cls = true) (hh : Mh M = []) (hlen : (lg_sl (av.map (rv γ))).length ≤ Ml M)
    (h : T γ d mc ms M Q 0 0 0 (eloc av (Ml M)) [] μ) : Ex γ d mc ms M av μ Q := by
  have hw : wsM M = Cond.code M.1 (Mb M) (Ml M) (Mr M) :: tbw := by unfold wsM; rw [hh]
  refine vx_ofW (cc := Mb M) (maxL := Ml M) (ret := Mr M) hy hw ?_
  intro p e s m args below meth c s₁ B hml hno hv
  obtain ⟨rfl, hEn, hHp⟩ := hv
  have hpre := atoms_spec (ws := wsM M) B.pre
  have hte : c.exceptionTable.toList = tableOf (Mh M) := by
    rw [hh]
    cases hl : c.exceptionTable.toList with
    | nil => rfl
    | cons x xs => exact absurd (hno x (by rw [hl]; exact List.mem_cons_self)) id
  have hF : Fr γ M p s m (av.map (rv γ)).toArray meth c := ⟨B.exec, B.bytes, hml, findClass_of_methodNamed B.named, fun w hw' => hpre w (by unfold wsM; exact List.mem_cons_of_mem _ hw'), B.returns, B.notSynchronized, (name_of_methodNamed B.named B.method).1, hte, hEn.2.2.2.2.2.2.1.2.2, hEn⟩
  have hl := lv_entry (av.map (rv γ)) hlen
  rw [lg_entry_eq]
  refine h p e s m _ below meth c s.heap [] _ hF hHp va_S.rf ⟨hl.1, hl.2.1, fun i v hg => ?_⟩
  have := glk_eloc (γ := γ) av (Ml M) i 0 v hg
  rw [Nat.zero_add] at this
  exact hl.2.2 _ this
