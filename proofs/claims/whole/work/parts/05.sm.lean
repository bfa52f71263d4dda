/-! the system's memory as numbers; the judgement T: a method's body from a place on, over that memory -/
abbrev SMem : Type := Nat × (Nat → Nat → Nat) × (Nat → Nat → Int32) × (Nat → Nat → Int64)
abbrev SM2 : Type := (Nat → Nat → Int32) × (Nat → Nat → Int64)
def up2 {α : Type} (f : Nat → Nat → α) (k j : Nat) (v : α) : Nat → Nat → α := fun a b => if a = k ∧ b = j then v else f a b
def rm (μ : SM2) : SMem := (N0, R0, μ.1, μ.2)
abbrev Ga : Type := Launch × va_G × Nat × (Nat → Nat) × (Nat → ClassId) × Nat × (Nat → Int32)
abbrev gl (γ : Ga) : Launch := γ.1
abbrev gD (γ : Ga) : va_G := γ.2.1
abbrev glo (γ : Ga) : Nat := γ.2.2.1
abbrev gex (γ : Ga) : Nat → Nat := γ.2.2.2.1
abbrev gca (γ : Ga) : Nat → ClassId := γ.2.2.2.2.1
abbrev gsl (γ : Ga) : Nat := γ.2.2.2.2.2.1
abbrev gsx (γ : Ga) : Nat → Int32 := γ.2.2.2.2.2.2
/-- what the system may write: all that came since the law began -/
def gA (γ : Ga) : Nat → Prop := fun q => glo γ ≤ q
def XB : Nat := 100000
def rho (γ : Ga) (k : Nat) : Nat := if k < XB then glo γ + k else gex γ (k - XB)
def rv (γ : Ga) : Value → Value
  | .ref k => .ref (rho γ k)
  | v => v
def rf (γ : Ga) (i : Nat) : Value := match i with
  | 0 => .null
  | k + 1 => .ref (rho γ k)
def srf (i : Nat) : Value := match i with
  | 0 => .null
  | k + 1 => .ref k
theorem rv_srf {γ : Ga} (i : Nat) : rv γ (srf i) = rf γ i := by cases i <;> rfl
theorem rv_cat {γ : Ga} (v : Value) : (rv γ v).category = v.category := by cases v <;> rfl
def fval (γ : Ga) (μ : SMem) (c k j : Nat) : Value := match ft c j with
  | 0 => .int (μ.2.2.1 k j)
  | 1 => .long (μ.2.2.2 k j)
  | _ => rf γ (μ.2.1 k j)
def oref (γ : Ga) (i : Nat) : Option Nat := match i with
  | 0 => none
  | k + 1 => some (rho γ k)
def ent (γ : Ga) (μ : SMem) (k : Nat) : va_E := match KT k with
  | (0, c) => .inr (c, (List.range (nf c)).map (fval γ μ c k))
  | (1, n) => .inl (gca γ 1, n, .inl (μ.2.2.1 k))
  | (2, n) => .inl (gca γ 2, n, .inr (.inl (μ.2.2.2 k)))
  | (3, n) => .inl (gca γ 3, n, .inl (μ.2.2.1 k))
  | (t, n) => .inl (gca γ t, n, .inr (.inr (.inr (.inr (fun j => oref γ (μ.2.1 k j))))))
def wsof (γ : Ga) (μ : SMem) : va_W := (List.range μ.1).map (fun k => (glo γ + k, ent γ μ k))
def tysof (γ : Ga) : List (ClassId × FieldType) := [(gca γ 1, .int), (gca γ 2, .long), (gca γ 3, .byte), (gca γ 4, .object RX1), (gca γ 5, .object RX9)]
theorem wsof_get {γ : Ga} {μ : SMem} {k : Nat} (h : k < μ.1) : (wsof γ μ)[k]? = some (glo γ + k, ent γ μ k) := by
  simp [wsof, h]
theorem wsof_len {γ : Ga} {μ : SMem} : (wsof γ μ).length = μ.1 := by simp [wsof]
theorem wsof_D {γ : Ga} {μ : SMem} : va_D (gA γ) (wsof γ μ) := by
  have key : ∀ (k : Nat) (q : Nat × va_E), (wsof γ μ)[k]? = some q → q.1 = glo γ + k := by
    intro k q h
    have hk : k < μ.1 := by
      have := (List.getElem?_eq_some_iff.mp h).1
      rwa [wsof_len] at this
    rw [wsof_get hk] at h
    cases h
    rfl
  refine ⟨fun i j p q hp hq e => ?_, fun k q h => ?_⟩
  · have h1 := key i p hp
    have h2 := key j q hq
    omega
  · have h1 := key k q h
    show glo γ ≤ q.1
    omega
/-- a cell anew -/
theorem wsof_set {γ : Ga} {μ μ' : SMem} {k : Nat} {e : va_E} (hk : k < μ.1) (hn : μ'.1 = μ.1) (he : e = ent γ μ' k) (ho : ∀ j, j ≠ k → ent γ μ' j = ent γ μ j) : (wsof γ μ).set k (glo γ + k, e) = wsof γ μ' := by
  apply List.ext_getElem?
  intro j
  by_cases hj : j < μ.1
  · rw [wsof_get (by omega)]
    by_cases e1 : j = k
    · subst e1
      rw [List.getElem?_set_self (by rw [wsof_len]; exact hj), he]
    · rw [List.getElem?_set_ne (fun z => e1 z.symm), wsof_get hj, ho j e1]
  · rw [List.getElem?_eq_none (by rw [List.length_set, wsof_len]; omega), List.getElem?_eq_none (by rw [wsof_len]; omega)]
def tbw : List Cond := lw_tbl.filter goodWord
def nestW : Cond → Bool
  | .methodLinkNest .. | .fieldLinkNest .. | .castable .. | .declares .. => true
  | _ => false
def nww : List Cond := lw_tbl.filter nestW
theorem in_tb {w : Cond} (h : w ∈ lw_tbl) (g : goodWord w = true) : w ∈ tbw := List.mem_filter.mpr ⟨h, g⟩
theorem in_nw {w : Cond} (h : w ∈ lw_tbl) (g : nestW w = true) : w ∈ nww := List.mem_filter.mpr ⟨h, g⟩
theorem nw_warm {w : Cond} {s U : State} (h : nestW w = true) (hW : s.WarmedH U.vm) (hz : va_Nw w s) : va_Nw w U := by
  cases w <;> first | exact va_Nw.warmM hW hz | exact va_Nw.warmF hW hz | exact va_Nw.warmC hW hz | exact va_Nw.warmD hW hz | (simp [nestW] at h)
theorem tb_good : GoodIn tbw tbw := fun w h => ⟨h, good_of_word (List.mem_filter.mp h).2⟩
/-- the String constants: class, entry, text -/
def StrOk (γ : Ga) (a v : Nat) (own : String) (idx : Nat) (tx : String) (bs : List Int32) (U : State) (H : Heap) : Prop :=
  vk_R own idx tx a U ∧ va_O "java/lang/String" a (gA γ) U H ∧ va_OF "java/lang/String" "coder" "B" (.int 0) a (gA γ) U H ∧ va_OF "java/lang/String" "value" "[B" (.ref v) a (gA γ) U H ∧ va_T .byte v bs.length (fun j => .int (bs.getD j 0)) (gA γ) U H
