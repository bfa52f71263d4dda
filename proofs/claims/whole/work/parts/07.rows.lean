/-! the rows of T: numbers, locals, the stack, branches -/
def kill : Option Value → Option Value
  | some v => if v.category = 2 then none else some v
  | none => none
/-- a value of one place is stored -/
def sto1 : List (Option Value) → Nat → Value → List (Option Value)
  | [], _, _ => []
  | _ :: t, 0, v => some v :: t
  | a :: t, 1, v => kill a :: sto1 t 0 v
  | a :: t, i + 2, v => a :: sto1 t (i + 1) v
/-- a value of two -/
def sto2 : List (Option Value) → Nat → Value → List (Option Value)
  | [], _, _ => []
  | [_], 0, v => [some v]
  | _ :: _ :: t, 0, v => some v :: none :: t
  | a :: t, 1, v => kill a :: sto2 t 0 v
  | a :: t, i + 2, v => a :: sto2 t (i + 1) v
theorem kill_some {a : Option Value} {w : Value} (h : kill a = some w) : a = some w ∧ ¬ w.category = 2 := by
  cases a with
  | none => cases h
  | some v =>
    unfold kill at h
    dsimp only at h
    by_cases hc : v.category = 2
    · rw [if_pos hc] at h; cases h
    · rw [if_neg hc] at h; cases h; exact ⟨rfl, hc⟩
theorem glk_sto1 : ∀ (ls : List (Option Value)) (i : Nat) (v : Value) (j : Nat) (w : Value), glk (sto1 ls i v) j = some w → (j = i ∧ w = v) ∨ (¬ j = i ∧ glk ls j = some w ∧ ¬ (j + 1 = i ∧ w.category = 2))
  | [], _, _, _, _, h => by cases h
  | a :: t, 0, v, 0, w, h => by cases h; exact Or.inl ⟨rfl, rfl⟩
  | a :: t, 0, v, j + 1, w, h => Or.inr ⟨by omega, h, by omega⟩
  | a :: t, 1, v, 0, w, h => by
    obtain ⟨h1, h2⟩ := kill_some h
    exact Or.inr ⟨by omega, h1, fun z => h2 z.2⟩
  | a :: t, 1, v, j + 1, w, h => by
    rcases glk_sto1 t 0 v j w h with ⟨h1, h2⟩ | ⟨h1, h2, h3⟩
    · exact Or.inl ⟨by omega, h2⟩
    · exact Or.inr ⟨by omega, h2, by omega⟩
  | a :: t, i + 2, v, 0, w, h => Or.inr ⟨by omega, h, by omega⟩
  | a :: t, i + 2, v, j + 1, w, h => by
    rcases glk_sto1 t (i + 1) v j w h with ⟨h1, h2⟩ | ⟨h1, h2, h3⟩
    · exact Or.inl ⟨by omega, h2⟩
    · exact Or.inr ⟨by omega, h2, fun z => h3 ⟨by omega, z.2⟩⟩
theorem glk_sto2 : ∀ (ls : List (Option Value)) (i : Nat) (v : Value) (j : Nat) (w : Value), glk (sto2 ls i v) j = some w → (j = i ∧ w = v) ∨ (¬ j = i ∧ ¬ j = i + 1 ∧ glk ls j = some w ∧ ¬ (j + 1 = i ∧ w.category = 2))
  | [], _, _, _, _, h => by cases h
  | [a], 0, v, 0, w, h => by cases h; exact Or.inl ⟨rfl, rfl⟩
  | [a], 0, v, j + 1, w, h => by cases h
  | a :: b :: t, 0, v, 0, w, h => by cases h; exact Or.inl ⟨rfl, rfl⟩
  | a :: b :: t, 0, v, 1, w, h => by cases h
  | a :: b :: t, 0, v, j + 2, w, h => Or.inr ⟨by omega, by omega, h, by omega⟩
  | a :: t, 1, v, 0, w, h => by
    have h' : kill a = some w := by
      cases t <;> exact h
    obtain ⟨h1, h2⟩ := kill_some h'
    exact Or.inr ⟨by omega, by omega, h1, fun z => h2 z.2⟩
  | a :: t, 1, v, j + 1, w, h => by
    have h' : glk (sto2 t 0 v) j = some w := by
      cases t <;> exact h
    rcases glk_sto2 t 0 v j w h' with ⟨h1, h2⟩ | ⟨h1, h2, h3, h4⟩
    · exact Or.inl ⟨by omega, h2⟩
    · exact Or.inr ⟨by omega, by omega, h3, by omega⟩
  | a :: t, i + 2, v, 0, w, h => by
    have h' : a = some w := by
      cases t <;> exact h
    exact Or.inr ⟨by omega, by omega, h', by omega⟩
  | a :: t, i + 2, v, j + 1, w, h => by
    have h' : glk (sto2 t (i + 1) v) j = some w := by
      cases t <;> exact h
    rcases glk_sto2 t (i + 1) v j w h' with ⟨h1, h2⟩ | ⟨h1, h2, h3, h4⟩
    · exact Or.inl ⟨by omega, h2⟩
    · exact Or.inr ⟨by omega, by omega, h3, fun z => h4 ⟨by omega, z.2⟩⟩
def prs (γ : Ga) (ls : List (Option Value)) (n : Nat) : List (Nat × Value) := (List.range n).filterMap (fun j => (glk ls j).map (fun v => (j, rv γ v)))
theorem prs_in {γ : Ga} {ls : List (Option Value)} {n j : Nat} {v : Value} (hj : j < n) (h : glk ls j = some v) : (j, rv γ v) ∈ prs γ ls n :=
  List.mem_filterMap.mpr ⟨j, List.mem_range.mpr hj, by rw [h]; rfl⟩
theorem prs_out {γ : Ga} {ls : List (Option Value)} {n : Nat} {q : Nat × Value} (h : q ∈ prs γ ls n) : ∃ v, glk ls q.1 = some v ∧ q.2 = rv γ v := by
  obtain ⟨j, -, hj⟩ := List.mem_filterMap.mp h
  cases hg : glk ls j with
  | none => rw [hg] at hj; cases hj
  | some v => rw [hg] at hj; cases hj; exact ⟨v, hg, rfl⟩
theorem LH.has {γ : Ga} {n : Nat} {ls : List (Option Value)} {L : Array Slot} (h : LH γ n ls L) : lv_has L n (prs γ ls n) :=
  ⟨h.1, h.2.1, fun q hq => by
    obtain ⟨v, h1, h2⟩ := prs_out hq
    rw [h2]
    exact h.2.2 _ _ h1⟩
theorem LH.lt {γ : Ga} {n : Nat} {ls : List (Option Value)} {L : Array Slot} (h : LH γ n ls L) {i : Nat} {v : Value} (hg : glk ls i = some v) : i < n := by
  have := (Array.getElem?_eq_some_iff.mp (h.2.2 i v hg)).1
  rwa [h.1] at this
theorem LH.at {γ : Ga} {n : Nat} {ls : List (Option Value)} {L : Array Slot} (h : LH γ n ls L) {i : Nat} {v : Value} (hg : glk ls i = some v) : L[i]? = some (.val (rv γ v)) := h.2.2 i v hg
theorem LH.put1 {γ : Ga} {n i : Nat} {v : Value} {ls : List (Option Value)} {L0 L : Array Slot} (h0 : LH γ n ls L0) (h : lv_has L n ((i, rv γ v) :: (prs γ ls n).filter (fun q => !(q.1 == i) && !(q.1 + 1 == i && q.2.category == 2)))) : LH γ n (sto1 ls i v) L := by
  refine ⟨h.1, h.2.1, fun j w hg => ?_⟩
  rcases glk_sto1 ls i v j w hg with ⟨rfl, rfl⟩ | ⟨h1, h2, h3⟩
  · exact h.2.2 (j, rv γ w) List.mem_cons_self
  · refine h.2.2 (j, rv γ w) (List.mem_cons_of_mem _ (List.mem_filter.mpr ⟨prs_in (h0.lt h2) h2, ?_⟩))
    simp only [Bool.and_eq_true, Bool.not_eq_true', beq_eq_false_iff_ne, ne_eq, Bool.and_eq_false_iff, rv_cat]
    refine ⟨h1, ?_⟩
    by_cases hz : j + 1 = i
    · exact Or.inr (fun z => h3 ⟨hz, z⟩)
    · exact Or.inl hz
theorem LH.put2 {γ : Ga} {n i : Nat} {v : Value} {ls : List (Option Value)} {L0 L : Array Slot} (h0 : LH γ n ls L0) (h : lv_has L n ((i, rv γ v) :: (prs γ ls n).filter (fun q => !(q.1 == i) && (!(q.1 == i + 1) && !(q.1 + 1 == i && q.2.category == 2))))) : LH γ n (sto2 ls i v) L := by
  refine ⟨h.1, h.2.1, fun j w hg => ?_⟩
  rcases glk_sto2 ls i v j w hg with ⟨rfl, rfl⟩ | ⟨h1, h1', h2, h3⟩
  · exact h.2.2 (j, rv γ w) List.mem_cons_self
  · refine h.2.2 (j, rv γ w) (List.mem_cons_of_mem _ (List.mem_filter.mpr ⟨prs_in (h0.lt h2) h2, ?_⟩))
    simp only [Bool.and_eq_true, Bool.not_eq_true', beq_eq_false_iff_ne, ne_eq, Bool.and_eq_false_iff, rv_cat]
    refine ⟨h1, h1', ?_⟩
    by_cases hz : j + 1 = i
    · exact Or.inr (fun z => h3 ⟨hz, z⟩)
    · exact Or.inl hz
def iushr (x y : Int32) : Int32 := (x.toUInt32 >>> (y.toUInt32 &&& Int32.toUInt32 31)).toInt32
def lushr (x : Int64) (y : Int32) : Int64 := (x.toUInt64 >>> (y.toInt64.toUInt64 &&& Int64.toUInt64 63)).toInt64
def lshl (x : Int64) (y : Int32) : Int64 := x <<< (y.toInt64 &&& 63)
def lshr (x : Int64) (y : Int32) : Int64 := x >>> (y.toInt64 &&& 63)
def ishl (x y : Int32) : Int32 := x <<< (y &&& 31)
def ishr (x y : Int32) : Int32 := x >>> (y &&& 31)
def irem (x y : Int32) : Int32 := x - x / y * y

section TL
variable {γ : Ga} {d mc ms : Nat} {M : MI} {Q : Out → SMem → Prop} {kc ks : Nat} {pc : Nat} {ls : List (Option Value)} {st : List Value} {μ : SMem}
theorem T_iconst {n : Int} {v : Int32} (hd : decode (Mb M) pc = .ok (.iconst n, 1)) (hv : Int32.ofInt n = v) (kk : T γ d mc ms M Q kc ks (pc + 1) ls (.int v :: st) μ) : T γ d mc ms M Q kc ks pc ls (st) μ := fun p e s m args below meth c H locs L hF hH hS hl =>
  lv_iconst hF.1 hF.2.1 hd hv (kk p e s m args below meth c H locs L hF hH hS hl)
theorem T_bipush {n : Int} {v : Int32} (hd : decode (Mb M) pc = .ok (.bipush n, 2)) (hv : (Int8.ofInt n).toInt32 = v) (kk : T γ d mc ms M Q kc ks (pc + 2) ls (.int v :: st) μ) : T γ d mc ms M Q kc ks pc ls (st) μ := fun p e s m args below meth c H locs L hF hH hS hl =>
  lv_bipush hF.1 hF.2.1 hd hv (kk p e s m args below meth c H locs L hF hH hS hl)
theorem T_sipush {n : Int} {v : Int32} (hd : decode (Mb M) pc = .ok (.sipush n, 3)) (hv : (Int16.ofInt n).toInt32 = v) (kk : T γ d mc ms M Q kc ks (pc + 3) ls (.int v :: st) μ) : T γ d mc ms M Q kc ks pc ls (st) μ := fun p e s m args below meth c H locs L hF hH hS hl =>
  lv_sipush hF.1 hF.2.1 hd hv (kk p e s m args below meth c H locs L hF hH hS hl)
theorem T_lconst {n : Fin 2} {v : Int64} (hd : decode (Mb M) pc = .ok (.lconst n, 1)) (hv : Int64.ofNat (n : Nat) = v) (kk : T γ d mc ms M Q kc ks (pc + 1) ls (.long v :: st) μ) : T γ d mc ms M Q kc ks pc ls (st) μ := fun p e s m args below meth c H locs L hF hH hS hl =>
  lv_lconst hF.1 hF.2.1 hd hv (kk p e s m args below meth c H locs L hF hH hS hl)
theorem T_iload_n {k : Fin 4} {i : Nat} {x : Int32} (hd : decode (Mb M) pc = .ok (.iload_n k, 1)) (hi : (k : Nat) = i) (hg : glk ls i = some (.int x)) (kk : T γ d mc ms M Q kc ks (pc + 1) ls (.int x :: st) μ) : T γ d mc ms M Q kc ks pc ls (st) μ := fun p e s m args below meth c H locs L hF hH hS hl =>
  lv_iload_n hF.1 hF.2.1 hd hi (hl.at hg) (kk p e s m args below meth c H locs L hF hH hS hl)
theorem T_iload {i : Nat} {x : Int32} (hd : decode (Mb M) pc = .ok (.iload i, 2)) (hg : glk ls i = some (.int x)) (kk : T γ d mc ms M Q kc ks (pc + 2) ls (.int x :: st) μ) : T γ d mc ms M Q kc ks pc ls (st) μ := fun p e s m args below meth c H locs L hF hH hS hl =>
  lv_iload hF.1 hF.2.1 hd (hl.at hg) (kk p e s m args below meth c H locs L hF hH hS hl)
theorem T_istore_n {k : Fin 4} {i : Nat} {x : Int32} {ls' : List (Option Value)} (hd : decode (Mb M) pc = .ok (.istore_n k, 1)) (hi : (k : Nat) = i) (hn : i < Ml M) (hs : sto1 ls i (.int x) = ls') (kk : T γ d mc ms M Q kc ks (pc + 1) ls' st μ) : T γ d mc ms M Q kc ks pc ls (.int x :: st) μ := fun p e s m args below meth c H locs L hF hH hS hl =>
  lv_istore_n hF.1 hF.2.1 hd hi hl.has hn rfl (fun L' h9 => kk p e s m args below meth c H locs L' hF hH hS (by rw [← hs]; exact LH.put1 (v := .int x) hl h9))
theorem T_istore {i : Nat} {x : Int32} {ls' : List (Option Value)} (hd : decode (Mb M) pc = .ok (.istore i, 2)) (hn : i < Ml M) (hs : sto1 ls i (.int x) = ls') (kk : T γ d mc ms M Q kc ks (pc + 2) ls' st μ) : T γ d mc ms M Q kc ks pc ls (.int x :: st) μ := fun p e s m args below meth c H locs L hF hH hS hl =>
  lv_istore hF.1 hF.2.1 hd hl.has hn rfl (fun L' h9 => kk p e s m args below meth c H locs L' hF hH hS (by rw [← hs]; exact LH.put1 (v := .int x) hl h9))
theorem T_lload_n {k : Fin 4} {i : Nat} {x : Int64} (hd : decode (Mb M) pc = .ok (.lload_n k, 1)) (hi : (k : Nat) = i) (hg : glk ls i = some (.long x)) (kk : T γ d mc ms M Q kc ks (pc + 1) ls (.long x :: st) μ) : T γ d mc ms M Q kc ks pc ls (st) μ := fun p e s m args below meth c H locs L hF hH hS hl =>
  lv_lload_n hF.1 hF.2.1 hd hi (hl.at hg) (kk p e s m args below meth c H locs L hF hH hS hl)
theorem T_lload {i : Nat} {x : Int64} (hd : decode (Mb M) pc = .ok (.lload i, 2)) (hg : glk ls i = some (.long x)) (kk : T γ d mc ms M Q kc ks (pc + 2) ls (.long x :: st) μ) : T γ d mc ms M Q kc ks pc ls (st) μ := fun p e s m args below meth c H locs L hF hH hS hl =>
  lv_lload hF.1 hF.2.1 hd (hl.at hg) (kk p e s m args below meth c H locs L hF hH hS hl)
theorem T_lstore_n {k : Fin 4} {i : Nat} {x : Int64} {ls' : List (Option Value)} (hd : decode (Mb M) pc = .ok (.lstore_n k, 1)) (hi : (k : Nat) = i) (hn : i + 1 < Ml M) (hs : sto2 ls i (.long x) = ls') (kk : T γ d mc ms M Q kc ks (pc + 1) ls' st μ) : T γ d mc ms M Q kc ks pc ls (.long x :: st) μ := fun p e s m args below meth c H locs L hF hH hS hl =>
  lv_lstore_n hF.1 hF.2.1 hd hi hl.has hn rfl (fun L' h9 => kk p e s m args below meth c H locs L' hF hH hS (by rw [← hs]; exact LH.put2 (v := .long x) hl h9))
theorem T_lstore {i : Nat} {x : Int64} {ls' : List (Option Value)} (hd : decode (Mb M) pc = .ok (.lstore i, 2)) (hn : i + 1 < Ml M) (hs : sto2 ls i (.long x) = ls') (kk : T γ d mc ms M Q kc ks (pc + 2) ls' st μ) : T γ d mc ms M Q kc ks pc ls (.long x :: st) μ := fun p e s m args below meth c H locs L hF hH hS hl =>
  lv_lstore hF.1 hF.2.1 hd hl.has hn rfl (fun L' h9 => kk p e s m args below meth c H locs L' hF hH hS (by rw [← hs]; exact LH.put2 (v := .long x) hl h9))
theorem T_aload_n {k : Fin 4} {i : Nat} {x : Nat} (hd : decode (Mb M) pc = .ok (.aload_n k, 1)) (hi : (k : Nat) = i) (hg : glk ls i = some (.ref x)) (kk : T γ d mc ms M Q kc ks (pc + 1) ls (.ref x :: st) μ) : T γ d mc ms M Q kc ks pc ls (st) μ := fun p e s m args below meth c H locs L hF hH hS hl =>
  lv_aload_n hF.1 hF.2.1 hd hi (hl.at hg) (kk p e s m args below meth c H locs L hF hH hS hl)
theorem T_aload {i : Nat} {x : Nat} (hd : decode (Mb M) pc = .ok (.aload i, 2)) (hg : glk ls i = some (.ref x)) (kk : T γ d mc ms M Q kc ks (pc + 2) ls (.ref x :: st) μ) : T γ d mc ms M Q kc ks pc ls (st) μ := fun p e s m args below meth c H locs L hF hH hS hl =>
  lv_aload hF.1 hF.2.1 hd (hl.at hg) (kk p e s m args below meth c H locs L hF hH hS hl)
theorem T_astore_n {k : Fin 4} {i : Nat} {x : Nat} {ls' : List (Option Value)} (hd : decode (Mb M) pc = .ok (.astore_n k, 1)) (hi : (k : Nat) = i) (hn : i < Ml M) (hs : sto1 ls i (.ref x) = ls') (kk : T γ d mc ms M Q kc ks (pc + 1) ls' st μ) : T γ d mc ms M Q kc ks pc ls (.ref x :: st) μ := fun p e s m args below meth c H locs L hF hH hS hl =>
  lv_astore_n hF.1 hF.2.1 hd hi hl.has hn rfl (fun L' h9 => kk p e s m args below meth c H locs L' hF hH hS (by rw [← hs]; exact LH.put1 (v := .ref x) hl h9))
theorem T_astore {i : Nat} {x : Nat} {ls' : List (Option Value)} (hd : decode (Mb M) pc = .ok (.astore i, 2)) (hn : i < Ml M) (hs : sto1 ls i (.ref x) = ls') (kk : T γ d mc ms M Q kc ks (pc + 2) ls' st μ) : T γ d mc ms M Q kc ks pc ls (.ref x :: st) μ := fun p e s m args below meth c H locs L hF hH hS hl =>
  lv_astore hF.1 hF.2.1 hd hl.has hn rfl (fun L' h9 => kk p e s m args below meth c H locs L' hF hH hS (by rw [← hs]; exact LH.put1 (v := .ref x) hl h9))
theorem T_iinc {i : Nat} {n : Int} {x v : Int32} {ls' : List (Option Value)} (hd : decode (Mb M) pc = .ok (.iinc i n, 3)) (hg : glk ls i = some (.int x)) (hv : x + Int32.ofInt n = v) (hs : sto1 ls i (.int v) = ls') (kk : T γ d mc ms M Q kc ks (pc + 3) ls' st μ) : T γ d mc ms M Q kc ks pc ls st μ := by
  intro p e s m args below meth c H locs L hF hH hS hl
  obtain ⟨j, hj⟩ := List.getElem?_of_mem (prs_in (γ := γ) (hl.lt hg) hg)
  exact lv_iinc hF.1 hF.2.1 hd hl.has hj hv (hl.lt hg) rfl (fun L' h9 => kk p e s m args below meth c H locs L' hF hH hS (by rw [← hs]; exact LH.put1 (v := .int v) hl h9))
theorem T_iadd {x y : Int32} (hd : decode (Mb M) pc = .ok (.iadd, 1)) (kk : T γ d mc ms M Q kc ks (pc + 1) ls (.int (x + y) :: st) μ) : T γ d mc ms M Q kc ks pc ls (.int y :: .int x :: st) μ := fun p e s m args below meth c H locs L hF hH hS hl =>
  lv_iadd hF.1 hF.2.1 hd (kk p e s m args below meth c H locs L hF hH hS hl)
theorem T_isub {x y : Int32} (hd : decode (Mb M) pc = .ok (.isub, 1)) (kk : T γ d mc ms M Q kc ks (pc + 1) ls (.int (x - y) :: st) μ) : T γ d mc ms M Q kc ks pc ls (.int y :: .int x :: st) μ := fun p e s m args below meth c H locs L hF hH hS hl =>
  lv_isub hF.1 hF.2.1 hd (kk p e s m args below meth c H locs L hF hH hS hl)
theorem T_imul {x y : Int32} (hd : decode (Mb M) pc = .ok (.imul, 1)) (kk : T γ d mc ms M Q kc ks (pc + 1) ls (.int (x * y) :: st) μ) : T γ d mc ms M Q kc ks pc ls (.int y :: .int x :: st) μ := fun p e s m args below meth c H locs L hF hH hS hl =>
  lv_imul hF.1 hF.2.1 hd (kk p e s m args below meth c H locs L hF hH hS hl)
theorem T_iand {x y : Int32} (hd : decode (Mb M) pc = .ok (.iand, 1)) (kk : T γ d mc ms M Q kc ks (pc + 1) ls (.int (x &&& y) :: st) μ) : T γ d mc ms M Q kc ks pc ls (.int y :: .int x :: st) μ := fun p e s m args below meth c H locs L hF hH hS hl =>
  lv_iand hF.1 hF.2.1 hd (kk p e s m args below meth c H locs L hF hH hS hl)
theorem T_ior {x y : Int32} (hd : decode (Mb M) pc = .ok (.ior, 1)) (kk : T γ d mc ms M Q kc ks (pc + 1) ls (.int (x ||| y) :: st) μ) : T γ d mc ms M Q kc ks pc ls (.int y :: .int x :: st) μ := fun p e s m args below meth c H locs L hF hH hS hl =>
  lv_ior hF.1 hF.2.1 hd (kk p e s m args below meth c H locs L hF hH hS hl)
theorem T_ixor {x y : Int32} (hd : decode (Mb M) pc = .ok (.ixor, 1)) (kk : T γ d mc ms M Q kc ks (pc + 1) ls (.int (x ^^^ y) :: st) μ) : T γ d mc ms M Q kc ks pc ls (.int y :: .int x :: st) μ := fun p e s m args below meth c H locs L hF hH hS hl =>
  lv_ixor hF.1 hF.2.1 hd (kk p e s m args below meth c H locs L hF hH hS hl)
theorem T_ladd {x y : Int64} (hd : decode (Mb M) pc = .ok (.ladd, 1)) (kk : T γ d mc ms M Q kc ks (pc + 1) ls (.long (x + y) :: st) μ) : T γ d mc ms M Q kc ks pc ls (.long y :: .long x :: st) μ := fun p e s m args below meth c H locs L hF hH hS hl =>
  lv_ladd hF.1 hF.2.1 hd (kk p e s m args below meth c H locs L hF hH hS hl)
theorem T_lsub {x y : Int64} (hd : decode (Mb M) pc = .ok (.lsub, 1)) (kk : T γ d mc ms M Q kc ks (pc + 1) ls (.long (x - y) :: st) μ) : T γ d mc ms M Q kc ks pc ls (.long y :: .long x :: st) μ := fun p e s m args below meth c H locs L hF hH hS hl =>
  lv_lsub hF.1 hF.2.1 hd (kk p e s m args below meth c H locs L hF hH hS hl)
theorem T_lmul {x y : Int64} (hd : decode (Mb M) pc = .ok (.lmul, 1)) (kk : T γ d mc ms M Q kc ks (pc + 1) ls (.long (x * y) :: st) μ) : T γ d mc ms M Q kc ks pc ls (.long y :: .long x :: st) μ := fun p e s m args below meth c H locs L hF hH hS hl =>
  lv_lmul hF.1 hF.2.1 hd (kk p e s m args below meth c H locs L hF hH hS hl)
theorem T_land {x y : Int64} (hd : decode (Mb M) pc = .ok (.land, 1)) (kk : T γ d mc ms M Q kc ks (pc + 1) ls (.long (x &&& y) :: st) μ) : T γ d mc ms M Q kc ks pc ls (.long y :: .long x :: st) μ := fun p e s m args below meth c H locs L hF hH hS hl =>
  lv_land hF.1 hF.2.1 hd (kk p e s m args below meth c H locs L hF hH hS hl)
theorem T_lor {x y : Int64} (hd : decode (Mb M) pc = .ok (.lor, 1)) (kk : T γ d mc ms M Q kc ks (pc + 1) ls (.long (x ||| y) :: st) μ) : T γ d mc ms M Q kc ks pc ls (.long y :: .long x :: st) μ := fun p e s m args below meth c H locs L hF hH hS hl =>
  lv_lor hF.1 hF.2.1 hd (kk p e s m args below meth c H locs L hF hH hS hl)
theorem T_lxor {x y : Int64} (hd : decode (Mb M) pc = .ok (.lxor, 1)) (kk : T γ d mc ms M Q kc ks (pc + 1) ls (.long (x ^^^ y) :: st) μ) : T γ d mc ms M Q kc ks pc ls (.long y :: .long x :: st) μ := fun p e s m args below meth c H locs L hF hH hS hl =>
  lv_lxor hF.1 hF.2.1 hd (kk p e s m args below meth c H locs L hF hH hS hl)
theorem T_idiv {x y : Int32} (hd : decode (Mb M) pc = .ok (.idiv, 1)) (hne : ¬ y = 0) (kk : T γ d mc ms M Q kc ks (pc + 1) ls (.int (x / y) :: st) μ) : T γ d mc ms M Q kc ks pc ls (.int y :: .int x :: st) μ := fun p e s m args below meth c H locs L hF hH hS hl =>
  lv_idiv hF.1 hF.2.1 hd hne (kk p e s m args below meth c H locs L hF hH hS hl)
theorem T_irem {x y : Int32} (hd : decode (Mb M) pc = .ok (.irem, 1)) (hne : ¬ y = 0) (kk : T γ d mc ms M Q kc ks (pc + 1) ls (.int (irem x y) :: st) μ) : T γ d mc ms M Q kc ks pc ls (.int y :: .int x :: st) μ := fun p e s m args below meth c H locs L hF hH hS hl =>
  lv_irem hF.1 hF.2.1 hd hne (kk p e s m args below meth c H locs L hF hH hS hl)
theorem T_ineg {x : Int32} (hd : decode (Mb M) pc = .ok (.ineg, 1)) (kk : T γ d mc ms M Q kc ks (pc + 1) ls (.int (-x) :: st) μ) : T γ d mc ms M Q kc ks pc ls (.int x :: st) μ := fun p e s m args below meth c H locs L hF hH hS hl =>
  lv_ineg hF.1 hF.2.1 hd (kk p e s m args below meth c H locs L hF hH hS hl)
theorem T_ishl {x y : Int32} (hd : decode (Mb M) pc = .ok (.ishl, 1)) (kk : T γ d mc ms M Q kc ks (pc + 1) ls (.int (ishl x y) :: st) μ) : T γ d mc ms M Q kc ks pc ls (.int y :: .int x :: st) μ := fun p e s m args below meth c H locs L hF hH hS hl =>
  lv_ishl hF.1 hF.2.1 hd (kk p e s m args below meth c H locs L hF hH hS hl)
theorem T_ishr {x y : Int32} (hd : decode (Mb M) pc = .ok (.ishr, 1)) (kk : T γ d mc ms M Q kc ks (pc + 1) ls (.int (ishr x y) :: st) μ) : T γ d mc ms M Q kc ks pc ls (.int y :: .int x :: st) μ := fun p e s m args below meth c H locs L hF hH hS hl =>
  lv_ishr hF.1 hF.2.1 hd (kk p e s m args below meth c H locs L hF hH hS hl)
theorem T_iushr {x y : Int32} (hd : decode (Mb M) pc = .ok (.iushr, 1)) (kk : T γ d mc ms M Q kc ks (pc + 1) ls (.int (iushr x y) :: st) μ) : T γ d mc ms M Q kc ks pc ls (.int y :: .int x :: st) μ := fun p e s m args below meth c H locs L hF hH hS hl =>
  lv_iushr hF.1 hF.2.1 hd rfl (kk p e s m args below meth c H locs L hF hH hS hl)
theorem T_lushr {x : Int64} {y : Int32} (hd : decode (Mb M) pc = .ok (.lushr, 1)) (kk : T γ d mc ms M Q kc ks (pc + 1) ls (.long (lushr x y) :: st) μ) : T γ d mc ms M Q kc ks pc ls (.int y :: .long x :: st) μ := fun p e s m args below meth c H locs L hF hH hS hl =>
  lv_lushr hF.1 hF.2.1 hd rfl (kk p e s m args below meth c H locs L hF hH hS hl)
theorem T_lshl {x : Int64} {y : Int32} (hd : decode (Mb M) pc = .ok (.lshl, 1)) (kk : T γ d mc ms M Q kc ks (pc + 1) ls (.long (lshl x y) :: st) μ) : T γ d mc ms M Q kc ks pc ls (.int y :: .long x :: st) μ := fun p e s m args below meth c H locs L hF hH hS hl =>
  lv_lshl hF.1 hF.2.1 hd rfl (kk p e s m args below meth c H locs L hF hH hS hl)
theorem T_lshr {x : Int64} {y : Int32} (hd : decode (Mb M) pc = .ok (.lshr, 1)) (kk : T γ d mc ms M Q kc ks (pc + 1) ls (.long (lshr x y) :: st) μ) : T γ d mc ms M Q kc ks pc ls (.int y :: .long x :: st) μ := fun p e s m args below meth c H locs L hF hH hS hl =>
  lv_lshr hF.1 hF.2.1 hd rfl (kk p e s m args below meth c H locs L hF hH hS hl)
theorem T_i2l {x : Int32} (hd : decode (Mb M) pc = .ok (.i2l, 1)) (kk : T γ d mc ms M Q kc ks (pc + 1) ls (.long (x.toInt64) :: st) μ) : T γ d mc ms M Q kc ks pc ls (.int x :: st) μ := fun p e s m args below meth c H locs L hF hH hS hl =>
  lv_i2l hF.1 hF.2.1 hd rfl (kk p e s m args below meth c H locs L hF hH hS hl)
theorem T_l2i {x : Int64} (hd : decode (Mb M) pc = .ok (.l2i, 1)) (kk : T γ d mc ms M Q kc ks (pc + 1) ls (.int (x.toInt32) :: st) μ) : T γ d mc ms M Q kc ks pc ls (.long x :: st) μ := fun p e s m args below meth c H locs L hF hH hS hl =>
  lv_l2i hF.1 hF.2.1 hd rfl (kk p e s m args below meth c H locs L hF hH hS hl)
theorem T_i2b {x : Int32} (hd : decode (Mb M) pc = .ok (.i2b, 1)) (kk : T γ d mc ms M Q kc ks (pc + 1) ls (.int (x.toInt8.toInt32) :: st) μ) : T γ d mc ms M Q kc ks pc ls (.int x :: st) μ := fun p e s m args below meth c H locs L hF hH hS hl =>
  lv_i2b hF.1 hF.2.1 hd rfl (kk p e s m args below meth c H locs L hF hH hS hl)
theorem T_lcmp {x y : Int64} (hd : decode (Mb M) pc = .ok (.lcmp, 1)) (kk : T γ d mc ms M Q kc ks (pc + 1) ls (.int (lg_cmp x y) :: st) μ) : T γ d mc ms M Q kc ks pc ls (.long y :: .long x :: st) μ := fun p e s m args below meth c H locs L hF hH hS hl =>
  W.lcmp hF.1 hF.2.1 hd (kk p e s m args below meth c H locs L hF hH hS hl)
theorem T_dup {va : Value} (hd : decode (Mb M) pc = .ok (.dup, 1)) (hc : va.category = 1) (kk : T γ d mc ms M Q kc ks (pc + 1) ls (va :: va :: st) μ) : T γ d mc ms M Q kc ks pc ls (va :: st) μ := fun p e s m args below meth c H locs L hF hH hS hl =>
  lv_dup hF.1 hF.2.1 hd (by rw [rv_cat]; exact hc) (kk p e s m args below meth c H locs L hF hH hS hl)
theorem T_pop {va : Value} (hd : decode (Mb M) pc = .ok (.pop, 1)) (hc : va.category = 1) (kk : T γ d mc ms M Q kc ks (pc + 1) ls (st) μ) : T γ d mc ms M Q kc ks pc ls (va :: st) μ := fun p e s m args below meth c H locs L hF hH hS hl =>
  lv_pop hF.1 hF.2.1 hd (by rw [rv_cat]; exact hc) (kk p e s m args below meth c H locs L hF hH hS hl)
theorem T_dup2 {va vb : Value} (hd : decode (Mb M) pc = .ok (.dup2, 1)) (hc : va.category = 1) (hc2 : vb.category = 1) (kk : T γ d mc ms M Q kc ks (pc + 1) ls (va :: vb :: va :: vb :: st) μ) : T γ d mc ms M Q kc ks pc ls (va :: vb :: st) μ := fun p e s m args below meth c H locs L hF hH hS hl =>
  lv_dup2_11 hF.1 hF.2.1 hd (by rw [rv_cat]; exact hc) (by rw [rv_cat]; exact hc2) (kk p e s m args below meth c H locs L hF hH hS hl)
theorem T_dup_x1 {va vb : Value} (hd : decode (Mb M) pc = .ok (.dup_x1, 1)) (hc : va.category = 1) (hc2 : vb.category = 1) (kk : T γ d mc ms M Q kc ks (pc + 1) ls (va :: vb :: va :: st) μ) : T γ d mc ms M Q kc ks pc ls (va :: vb :: st) μ := fun p e s m args below meth c H locs L hF hH hS hl =>
  lv_dup_x1 hF.1 hF.2.1 hd (by rw [rv_cat]; exact hc) (by rw [rv_cat]; exact hc2) (kk p e s m args below meth c H locs L hF hH hS hl)
theorem T_ldc {idx : Nat} {v : Int32} (hd : decode (Mb M) pc = .ok (.ldc idx, 2)) (hw : Cond.constant M.1.cls idx v ∈ tbw) (kk : T γ d mc ms M Q kc ks (pc + 2) ls (.int v :: st) μ) : T γ d mc ms M Q kc ks pc ls (st) μ := fun p e s m args below meth c H locs L hF hH hS hl =>
  lv_ldc hF.1 hF.2.1 hF.2.2.2.1 (hF.2.2.2.2.1 _ hw) hd (kk p e s m args below meth c H locs L hF hH hS hl)
theorem T_ldcw {idx : Nat} {v : Int32} (hd : decode (Mb M) pc = .ok (.ldc_w idx, 3)) (hw : Cond.constant M.1.cls idx v ∈ tbw) (kk : T γ d mc ms M Q kc ks (pc + 3) ls (.int v :: st) μ) : T γ d mc ms M Q kc ks pc ls (st) μ := fun p e s m args below meth c H locs L hF hH hS hl =>
  lv_ldcw hF.1 hF.2.1 hF.2.2.2.1 (hF.2.2.2.2.1 _ hw) hd (kk p e s m args below meth c H locs L hF hH hS hl)
theorem T_ldc2 {idx : Nat} {v : Int64} (hd : decode (Mb M) pc = .ok (.ldc2_w idx, 3)) (hw : Cond.constantLong M.1.cls idx v ∈ tbw) (kk : T γ d mc ms M Q kc ks (pc + 3) ls (.long v :: st) μ) : T γ d mc ms M Q kc ks pc ls (st) μ := fun p e s m args below meth c H locs L hF hH hS hl =>
  lv_ldc2 hF.1 hF.2.1 hF.2.2.2.1 (hF.2.2.2.2.1 _ hw) hd (kk p e s m args below meth c H locs L hF hH hS hl)
theorem T_if_eq {x : Int32} {off : Int} {tgt : Nat} (hd : decode (Mb M) pc = .ok (.ifCond .eq off, 3)) (ht : (pc : Int) + off = (tgt : Int)) (kt : x = 0 → T γ d mc ms M Q kc ks tgt ls st μ) (kf : ¬ x = 0 → T γ d mc ms M Q kc ks (pc + 3) ls st μ) : T γ d mc ms M Q kc ks pc ls (.int x :: st) μ := fun p e s m args below meth c H locs L hF hH hS hl =>
  lv_if_eq hF.1 hF.2.1 hd ht (fun h => kt h p e s m args below meth c H locs L hF hH hS hl) (fun h => kf h p e s m args below meth c H locs L hF hH hS hl)
theorem T_icmp_eq {x y : Int32} {off : Int} {tgt : Nat} (hd : decode (Mb M) pc = .ok (.if_icmp .eq off, 3)) (ht : (pc : Int) + off = (tgt : Int)) (kt : x = y → T γ d mc ms M Q kc ks tgt ls st μ) (kf : ¬ x = y → T γ d mc ms M Q kc ks (pc + 3) ls st μ) : T γ d mc ms M Q kc ks pc ls (.int y :: .int x :: st) μ := fun p e s m args below meth c H locs L hF hH hS hl =>
  lv_icmp_eq hF.1 hF.2.1 hd ht (fun h => kt h p e s m args below meth c H locs L hF hH hS hl) (fun h => kf h p e s m args below meth c H locs L hF hH hS hl)
theorem T_if_ne {x : Int32} {off : Int} {tgt : Nat} (hd : decode (Mb M) pc = .ok (.ifCond .ne off, 3)) (ht : (pc : Int) + off = (tgt : Int)) (kt : ¬ x = 0 → T γ d mc ms M Q kc ks tgt ls st μ) (kf : x = 0 → T γ d mc ms M Q kc ks (pc + 3) ls st μ) : T γ d mc ms M Q kc ks pc ls (.int x :: st) μ := fun p e s m args below meth c H locs L hF hH hS hl =>
  lv_if_ne hF.1 hF.2.1 hd ht (fun h => kt h p e s m args below meth c H locs L hF hH hS hl) (fun h => kf h p e s m args below meth c H locs L hF hH hS hl)
theorem T_icmp_ne {x y : Int32} {off : Int} {tgt : Nat} (hd : decode (Mb M) pc = .ok (.if_icmp .ne off, 3)) (ht : (pc : Int) + off = (tgt : Int)) (kt : ¬ x = y → T γ d mc ms M Q kc ks tgt ls st μ) (kf : x = y → T γ d mc ms M Q kc ks (pc + 3) ls st μ) : T γ d mc ms M Q kc ks pc ls (.int y :: .int x :: st) μ := fun p e s m args below meth c H locs L hF hH hS hl =>
  lv_icmp_ne hF.1 hF.2.1 hd ht (fun h => kt h p e s m args below meth c H locs L hF hH hS hl) (fun h => kf h p e s m args below meth c H locs L hF hH hS hl)
theorem T_if_lt {x : Int32} {off : Int} {tgt : Nat} (hd : decode (Mb M) pc = .ok (.ifCond .lt off, 3)) (ht : (pc : Int) + off = (tgt : Int)) (kt : x < 0 → T γ d mc ms M Q kc ks tgt ls st μ) (kf : ¬ x < 0 → T γ d mc ms M Q kc ks (pc + 3) ls st μ) : T γ d mc ms M Q kc ks pc ls (.int x :: st) μ := fun p e s m args below meth c H locs L hF hH hS hl =>
  lv_if_lt hF.1 hF.2.1 hd ht (fun h => kt h p e s m args below meth c H locs L hF hH hS hl) (fun h => kf h p e s m args below meth c H locs L hF hH hS hl)
theorem T_icmp_lt {x y : Int32} {off : Int} {tgt : Nat} (hd : decode (Mb M) pc = .ok (.if_icmp .lt off, 3)) (ht : (pc : Int) + off = (tgt : Int)) (kt : x < y → T γ d mc ms M Q kc ks tgt ls st μ) (kf : ¬ x < y → T γ d mc ms M Q kc ks (pc + 3) ls st μ) : T γ d mc ms M Q kc ks pc ls (.int y :: .int x :: st) μ := fun p e s m args below meth c H locs L hF hH hS hl =>
  lv_icmp_lt hF.1 hF.2.1 hd ht (fun h => kt h p e s m args below meth c H locs L hF hH hS hl) (fun h => kf h p e s m args below meth c H locs L hF hH hS hl)
theorem T_if_ge {x : Int32} {off : Int} {tgt : Nat} (hd : decode (Mb M) pc = .ok (.ifCond .ge off, 3)) (ht : (pc : Int) + off = (tgt : Int)) (kt : 0 ≤ x → T γ d mc ms M Q kc ks tgt ls st μ) (kf : ¬ 0 ≤ x → T γ d mc ms M Q kc ks (pc + 3) ls st μ) : T γ d mc ms M Q kc ks pc ls (.int x :: st) μ := fun p e s m args below meth c H locs L hF hH hS hl =>
  lv_if_ge hF.1 hF.2.1 hd ht (fun h => kt h p e s m args below meth c H locs L hF hH hS hl) (fun h => kf h p e s m args below meth c H locs L hF hH hS hl)
theorem T_icmp_ge {x y : Int32} {off : Int} {tgt : Nat} (hd : decode (Mb M) pc = .ok (.if_icmp .ge off, 3)) (ht : (pc : Int) + off = (tgt : Int)) (kt : y ≤ x → T γ d mc ms M Q kc ks tgt ls st μ) (kf : ¬ y ≤ x → T γ d mc ms M Q kc ks (pc + 3) ls st μ) : T γ d mc ms M Q kc ks pc ls (.int y :: .int x :: st) μ := fun p e s m args below meth c H locs L hF hH hS hl =>
  lv_icmp_ge hF.1 hF.2.1 hd ht (fun h => kt h p e s m args below meth c H locs L hF hH hS hl) (fun h => kf h p e s m args below meth c H locs L hF hH hS hl)
theorem T_if_gt {x : Int32} {off : Int} {tgt : Nat} (hd : decode (Mb M) pc = .ok (.ifCond .gt off, 3)) (ht : (pc : Int) + off = (tgt : Int)) (kt : 0 < x → T γ d mc ms M Q kc ks tgt ls st μ) (kf : ¬ 0 < x → T γ d mc ms M Q kc ks (pc + 3) ls st μ) : T γ d mc ms M Q kc ks pc ls (.int x :: st) μ := fun p e s m args below meth c H locs L hF hH hS hl =>
  lv_if_gt hF.1 hF.2.1 hd ht (fun h => kt h p e s m args below meth c H locs L hF hH hS hl) (fun h => kf h p e s m args below meth c H locs L hF hH hS hl)
theorem T_icmp_gt {x y : Int32} {off : Int} {tgt : Nat} (hd : decode (Mb M) pc = .ok (.if_icmp .gt off, 3)) (ht : (pc : Int) + off = (tgt : Int)) (kt : y < x → T γ d mc ms M Q kc ks tgt ls st μ) (kf : ¬ y < x → T γ d mc ms M Q kc ks (pc + 3) ls st μ) : T γ d mc ms M Q kc ks pc ls (.int y :: .int x :: st) μ := fun p e s m args below meth c H locs L hF hH hS hl =>
  lv_icmp_gt hF.1 hF.2.1 hd ht (fun h => kt h p e s m args below meth c H locs L hF hH hS hl) (fun h => kf h p e s m args below meth c H locs L hF hH hS hl)
theorem T_if_le {x : Int32} {off : Int} {tgt : Nat} (hd : decode (Mb M) pc = .ok (.ifCond .le off, 3)) (ht : (pc : Int) + off = (tgt : Int)) (kt : x ≤ 0 → T γ d mc ms M Q kc ks tgt ls st μ) (kf : ¬ x ≤ 0 → T γ d mc ms M Q kc ks (pc + 3) ls st μ) : T γ d mc ms M Q kc ks pc ls (.int x :: st) μ := fun p e s m args below meth c H locs L hF hH hS hl =>
  lv_if_le hF.1 hF.2.1 hd ht (fun h => kt h p e s m args below meth c H locs L hF hH hS hl) (fun h => kf h p e s m args below meth c H locs L hF hH hS hl)
theorem T_icmp_le {x y : Int32} {off : Int} {tgt : Nat} (hd : decode (Mb M) pc = .ok (.if_icmp .le off, 3)) (ht : (pc : Int) + off = (tgt : Int)) (kt : x ≤ y → T γ d mc ms M Q kc ks tgt ls st μ) (kf : ¬ x ≤ y → T γ d mc ms M Q kc ks (pc + 3) ls st μ) : T γ d mc ms M Q kc ks pc ls (.int y :: .int x :: st) μ := fun p e s m args below meth c H locs L hF hH hS hl =>
  lv_icmp_le hF.1 hF.2.1 hd ht (fun h => kt h p e s m args below meth c H locs L hF hH hS hl) (fun h => kf h p e s m args below meth c H locs L hF hH hS hl)
theorem T_goto {off : Int} {tgt : Nat} (hd : decode (Mb M) pc = .ok (.goto off, 3)) (ht : (pc : Int) + off = (tgt : Int)) (k : T γ d mc ms M Q kc ks tgt ls st μ) : T γ d mc ms M Q kc ks pc ls st μ := fun p e s m args below meth c H locs L hF hH hS hl =>
  lv_goto hF.1 hF.2.1 hd ht (k p e s m args below meth c H locs L hF hH hS hl)
theorem T_tableIn {dflt lo hi : Int} {offs : Array Int} {len : Nat} {x : Int32} {off : Int} {tgt : Nat} (hd : decode (Mb M) pc = .ok (.tableswitch dflt lo hi offs, len)) (h1 : ¬ x.toInt < lo) (h2 : ¬ hi < x.toInt) (ho : offs[(x.toInt - lo).toNat]? = some off) (ht : (pc : Int) + off = (tgt : Int)) (k : T γ d mc ms M Q kc ks tgt ls st μ) : T γ d mc ms M Q kc ks pc ls (.int x :: st) μ := fun p e s m args below meth c H locs L hF hH hS hl =>
  lv_tableIn hF.1 hF.2.1 hd h1 h2 ho ht (k p e s m args below meth c H locs L hF hH hS hl)
theorem T_tableOut {dflt lo hi : Int} {offs : Array Int} {len : Nat} {x : Int32} {tgt : Nat} (hd : decode (Mb M) pc = .ok (.tableswitch dflt lo hi offs, len)) (h : x.toInt < lo ∨ hi < x.toInt) (ht : (pc : Int) + dflt = (tgt : Int)) (k : T γ d mc ms M Q kc ks tgt ls st μ) : T γ d mc ms M Q kc ks pc ls (.int x :: st) μ := fun p e s m args below meth c H locs L hF hH hS hl =>
  lv_tableOut hF.1 hF.2.1 hd h ht (k p e s m args below meth c H locs L hF hH hS hl)
theorem T_topi {x v : Int32} (h : x = v) (k : T γ d mc ms M Q kc ks pc ls (.int v :: st) μ) : T γ d mc ms M Q kc ks pc ls (.int x :: st) μ := h ▸ k
theorem T_topl {x v : Int64} (h : x = v) (k : T γ d mc ms M Q kc ks pc ls (.long v :: st) μ) : T γ d mc ms M Q kc ks pc ls (.long x :: st) μ := h ▸ k
theorem T_mem {μ' : SMem} (h : μ = μ') (k : T γ d mc ms M Q kc ks pc ls st μ') : T γ d mc ms M Q kc ks pc ls st μ := h ▸ k
theorem T_widen {k' n' : Nat} (h1 : kc ≤ k') (h2 : ks ≤ n') (k : T γ d mc ms M Q k' n' pc ls st μ) : T γ d mc ms M Q kc ks pc ls st μ := fun p e s m args below meth c H locs L hF hH hS hl =>
  W.widen h1 h2 (k p e s m args below meth c H locs L hF hH hS hl)
theorem Fr.end {p : Program} {s t : State} {m : MethodId} {args : Array Value} {meth : Method} {c : Code} {H : Heap} {locs : List Loc} {v : Option Value} (hF : Fr γ M p s m args meth c) (hH : Hp γ μ H) (hS : va_S (gA γ) s.heap H locs) (hQ : Q (.inl v) μ) (ht : t.heap = H) (_hW : s.WarmedH t.vm) : QC γ Q args s (.returned (v.map (rv γ))) t :=
  ⟨⟨v, μ, rfl, hQ, by rw [ht]; exact hH⟩, hS.F ht⟩
theorem T_iret {x : Int32} {ty : FieldType} (hd : decode (Mb M) pc = .ok (.ireturn, 1)) (hr : Mr M = some ty) (hn : narrow ty (.int x) = .int x) (h1 : kc ≤ mc) (h2 : ks ≤ ms) (hQ : Q (.inl (some (.int x))) μ) : T γ d mc ms M Q kc ks pc ls [.int x] μ := fun p e s m args below meth c H locs L hF hH hS hl =>
  W.widen h1 h2 (vx_ret (W.zret hF.1 hF.2.1 (hF.2.2.2.2.2.1.trans hr) hn (fun t ht hW => hF.end (v := some (.int x)) hH hS hQ ht hW) hS.2.2 hd hF.2.2.2.2.2.2.1))
theorem T_lret {x : Int64} (hd : decode (Mb M) pc = .ok (.lreturn, 1)) (hr : Mr M = some .long) (h1 : kc ≤ mc) (h2 : ks ≤ ms) (hQ : Q (.inl (some (.long x))) μ) : T γ d mc ms M Q kc ks pc ls [.long x] μ := fun p e s m args below meth c H locs L hF hH hS hl =>
  W.widen h1 h2 (vx_ret (W.lret hF.1 hF.2.1 (hF.2.2.2.2.2.1.trans hr) (fun t ht hW => hF.end (v := some (.long x)) hH hS hQ ht hW) hS.2.2 hd hF.2.2.2.2.2.2.1))
theorem T_vret (hd : decode (Mb M) pc = .ok (.return_, 1)) (hr : Mr M = none) (h1 : kc ≤ mc) (h2 : ks ≤ ms) (hQ : Q (.inl none) μ) : T γ d mc ms M Q kc ks pc ls [] μ := fun p e s m args below meth c H locs L hF hH hS hl =>
  W.widen h1 h2 (vx_ret (W.vret hF.1 hF.2.1 (hF.2.2.2.2.2.1.trans hr) (fun t ht hW => hF.end (v := none) hH hS hQ ht hW) hS.2.2 hd hF.2.2.2.2.2.2.1))
end TL
