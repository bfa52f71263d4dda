/-! THE LAW reckoned -/
/-- RULE, PLACE, how long, how many behind, YEAR -/
abbrev Cx : Type := Int32 × Int32 × Int32 × Int32 × Int32
def sgV (c : Cx) (s : Int32) : Int32 := if s = -2 then c.1 else if s = -3 then c.2.1 else if s = -4 then c.2.2.1 else if s = -5 then c.2.2.2.1 else if s = -6 then c.2.2.2.2 else if s = -7 then (if c.2.1 = 0 ∨ c.2.2.2.1 = 0 then 1 else 0) else s
def jnV (s a b : Int32) : Int32 := if s = -10 then a + b else if s = -11 then (if a < b then 1 else 0) else if s = -12 then (if b < a then 1 else 0) else if s = -13 then a &&& b else a ||| b
def stV (c : Cx) (st : List Int32) (s : Int32) : List Int32 := if -8 < s then sgV c s :: st else if s = -8 then (match st with | [] => [] | a :: t => (1 - a) :: t) else (match st with | b :: a :: t => jnV s a b :: t | t => t)
/-- of what is on the stack: a truth (true) or a number -/
def tyS (o : Option (List Bool)) (s : Int32) : Option (List Bool) := match o with
  | none => none
  | some t => if -8 < s then (if t.length < 17 then some (decide (s = -7) :: t) else none) else if s = -8 then (match t with | true :: r => some (true :: r) | _ => none) else if s = -10 then (match t with | false :: false :: r => some (false :: r) | _ => none) else if s = -11 ∨ s = -12 then (match t with | false :: false :: r => some (true :: r) | _ => none) else if s = -13 ∨ s = -14 then (match t with | true :: true :: r => some (true :: r) | _ => none) else none
theorem tyS_none (l : List Int32) : l.foldl tyS none = none := by
  induction l with
  | nil => rfl
  | cons a t ih => exact ih
/-- a LINE's signs: without a condition it always bars -/
def ln1 (ln : List Int32) : List Int32 := if ln = [] then [1] else ln
def clS (ln : List Int32) : List Int32 := ln1 ln ++ [-9]
def wfl (ln : List Int32) : Prop := ln = [] ∨ ln.foldl tyS (some []) = some [true]
def evB (c : Cx) (ln : List Int32) : Bool := decide (((ln1 ln).foldl (stV c) []).headD 0 ≠ 0)
def brB (c : Cx) (LL : List (List Int32)) : Bool := LL.any (evB c)
theorem ln1_ty {ln : List Int32} (h : wfl ln) : ∃ b, (ln1 ln).foldl tyS (some []) = some [b] := by
  rcases h with rfl | h
  · exact ⟨false, by decide⟩
  · refine ⟨true, ?_⟩
    unfold ln1
    by_cases e : ln = []
    · subst e
      cases h
    · rw [if_neg e]
      exact h
theorem i_nle {a b : Int32} : ¬ a ≤ b ↔ b < a := by rw [fa_le, fa_lt]; omega
theorem i_nlt {a b : Int32} : ¬ a < b ↔ b ≤ a := by rw [fa_le, fa_lt]; omega
/-- one more sign: how many there are then -/
theorem tyS_push {ts ts' : List Bool} {s : Int32} (h : tyS (some ts) s = some ts') (hs : -8 < s) : ts.length < 17 ∧ ts'.length = ts.length + 1 := by
  unfold tyS at h
  simp only [hs, if_true] at h
  by_cases hl : ts.length < 17
  · rw [if_pos hl] at h
    cases h
    exact ⟨hl, rfl⟩
  · rw [if_neg hl] at h
    cases h
theorem tyS_not {ts ts' : List Bool} (h : tyS (some ts) (-8) = some ts') : 0 < ts.length ∧ ts'.length = ts.length := by
  have e : ¬ (-8 : Int32) < -8 := by decide
  unfold tyS at h
  simp only [e, if_false, if_true] at h
  split at h
  · cases h
    exact ⟨Nat.succ_pos _, rfl⟩
  · cases h
theorem tyS_bin {ts ts' : List Bool} {s : Int32} (h : tyS (some ts) s = some ts') (hs : ¬ -8 < s) (h8 : s ≠ -8) : 1 < ts.length ∧ ts'.length + 1 = ts.length ∧ s ≠ -9 := by
  have h9 : s ≠ -9 := by
    rintro rfl
    have : tyS (some ts) (-9) = none := by unfold tyS; simp only [show ¬ (-8 : Int32) < -9 by decide, show ¬ (-9 : Int32) = -8 by decide, show ¬ (-9 : Int32) = -10 by decide, show ¬ ((-9 : Int32) = -11 ∨ (-9 : Int32) = -12) by decide, show ¬ ((-9 : Int32) = -13 ∨ (-9 : Int32) = -14) by decide, if_false]
    rw [this] at h
    cases h
  unfold tyS at h
  simp only [hs, h8, if_false] at h
  refine (fun q : 1 < ts.length ∧ ts'.length + 1 = ts.length => ⟨q.1, q.2, h9⟩) ?_
  split at h
  · split at h
    · cases h
      exact ⟨by simp, by simp⟩
    · cases h
  · split at h
    · split at h
      · cases h
        exact ⟨by simp, by simp⟩
      · cases h
    · split at h
      · split at h
        · cases h
          exact ⟨by simp, by simp⟩
        · cases h
      · cases h
theorem drop_c {l t : List Int32} {s : Int32} {i : Nat} (h : l.drop i = s :: t) : i < l.length ∧ l.getD i 0 = s ∧ l.drop (i + 1) = t := by
  have hi : i < l.length := Classical.byContradiction fun z => by rw [List.drop_of_length_le (by omega)] at h; cases h
  rw [drop_s 0 hi] at h
  cases h
  exact ⟨hi, rfl, rfl⟩
def lsub : List (Option Value) → List (Option Value) → Prop
  | [], _ => True
  | none :: a, b => lsub a b.tail
  | some v :: a, b => b.head? = some (some v) ∧ lsub a b.tail
theorem lsub_g : ∀ {a b : List (Option Value)}, lsub a b → ∀ i v, glk a i = some v → glk b i = some v
  | [], _, _, i, v, hv => by cases hv
  | none :: a, b, h, 0, v, hv => by cases hv
  | none :: a, [], h, i + 1, v, hv => by
    have := lsub_g (a := a) (b := []) h i v hv
    cases this
  | none :: a, _ :: b, h, i + 1, v, hv => lsub_g (a := a) (b := b) h i v hv
  | some w :: a, [], h, _, v, hv => by cases h.1
  | some w :: a, c :: b, h, 0, v, hv => by
    have h1 : c = some w := Option.some.inj h.1
    rw [h1]
    exact hv
  | some w :: a, c :: b, h, i + 1, v, hv => lsub_g (a := a) (b := b) h.2 i v hv
/-- less known of the locals -/
theorem T_ls {γ : Ga} {d mc ms : Nat} {M : MI} {Q : Out → SMem → Prop} {kc ks pc : Nat} {ls ls' : List (Option Value)} {st : List Value} {μ : SMem} (h : lsub ls' ls) (k : T γ d mc ms M Q kc ks pc ls' st μ) : T γ d mc ms M Q kc ks pc ls st μ :=
  fun p e s m args below meth c H locs L hF hH hS hl => k p e s m args below meth c H locs L hF hH hS ⟨hl.1, hl.2.1, fun i v hv => hl.2.2 i v (lsub_g h i v hv)⟩
/-- the array holds the stack, the last on top -/
def StkAt (m : SM2) (a : Nat) : List Int32 → Prop
  | [] => True
  | v :: t => m.1 a t.length = v ∧ StkAt m a t
theorem StkAt.up {m : SM2} {a j : Nat} {x : Int32} : ∀ {t : List Int32}, StkAt m a t → t.length ≤ j → StkAt (wI m a j x) a t
  | [], _, _ => trivial
  | v :: t, h, hj => by
    have hj2 : t.length + 1 ≤ j := hj
    exact ⟨(n_wI (by omega)).trans h.1, StkAt.up h.2 (by omega)⟩
section LB
variable {γ : Ga} {μ : SM2}
theorem c_Law_isEmpty {l : Nat} {L : Lw} (hl : isLaw l) (h : LawAt μ l L) : Ex γ 1 0 0 M_X5_isEmpty [.ref l] (rm μ) (Fn (some (.int (bI (decide (L.2.length = 0))))) μ) := by
  have h4 := h.2.2.1
  refine Ex.of (by decide +kernel) rfl (Nat.le_of_ble_eq_true rfl) ?_
  show T _ _ _ _ _ _ _ _ _ [some (.ref l)] [] (rm μ)
  refine T_aload_n (pc := 0) (i := 0) dX5_isEmpty_0 rfl rfl ?_
  refine R_getI (pc := 1) (x := nI L.2.length) fl_X5_22 rfl (kt_law hl) (lt_law hl) h.2.1 dX5_isEmpty_1 ?_
  refine R_if_ne (pc := 4) (tgt := 11) (by omega) dX5_isEmpty_4 (by decide) (fun h1 => ?_) (fun h1 => ?_)
  · skip
    refine T_iconst (pc := 11) (v := nI 0) dX5_isEmpty_11 (by decide) ?_
    rw [decide_eq_false (by omega)]
    exact T_iret (pc := 12) (ty := .boolean) dX5_isEmpty_12 rfl (by decide) (Nat.le_refl _) (Nat.le_refl _) ⟨rfl, rfl⟩
  · skip
    refine T_iconst (pc := 7) (v := nI 1) dX5_isEmpty_7 (by decide) ?_
    refine T_goto (pc := 8) (tgt := 12) dX5_isEmpty_8 (by decide) ?_
    rw [decide_eq_true h1]
    exact T_iret (pc := 12) (ty := .boolean) dX5_isEmpty_12 rfl (by decide) (Nat.le_refl _) (Nat.le_refl _) ⟨rfl, rfl⟩
theorem c_Law_valueOf {s r p n b y : Int32} : Ex γ 1 0 0 M_X5_valueOf [.int s, .int r, .int p, .int n, .int b, .int y] (rm μ) (Fn (some (.int (sgV (r, p, n, b, y) s))) μ) := by
  by_cases h2 : s = -2
  · subst h2
    refine Ex.of (by decide +kernel) rfl (Nat.le_of_ble_eq_true rfl) ?_
    show T _ _ _ _ _ _ _ _ _ [some (.int ((-2))), some (.int (r)), some (.int (p)), some (.int (n)), some (.int (b)), some (.int (y))] [] (rm μ)
    refine T_iload_n (pc := 0) (i := 0) dX5_valueOf_0 rfl rfl ?_
    refine T_tableIn (pc := 1) (tgt := 40) dX5_valueOf_1 (by decide) (by decide) rfl (by decide) ?_
    refine T_iload_n (pc := 40) (i := 1) dX5_valueOf_40 rfl rfl ?_
    exact T_iret (pc := 41) (ty := .int) dX5_valueOf_41 rfl rfl (Nat.le_refl _) (Nat.le_refl _) ⟨rfl, rfl⟩
  by_cases h3 : s = -3
  · subst h3
    refine Ex.of (by decide +kernel) rfl (Nat.le_of_ble_eq_true rfl) ?_
    show T _ _ _ _ _ _ _ _ _ [some (.int ((-3))), some (.int (r)), some (.int (p)), some (.int (n)), some (.int (b)), some (.int (y))] [] (rm μ)
    refine T_iload_n (pc := 0) (i := 0) dX5_valueOf_0 rfl rfl ?_
    refine T_tableIn (pc := 1) (tgt := 42) dX5_valueOf_1 (by decide) (by decide) rfl (by decide) ?_
    refine T_iload_n (pc := 42) (i := 2) dX5_valueOf_42 rfl rfl ?_
    exact T_iret (pc := 43) (ty := .int) dX5_valueOf_43 rfl rfl (Nat.le_refl _) (Nat.le_refl _) ⟨rfl, rfl⟩
  by_cases h4 : s = -4
  · subst h4
    refine Ex.of (by decide +kernel) rfl (Nat.le_of_ble_eq_true rfl) ?_
    show T _ _ _ _ _ _ _ _ _ [some (.int ((-4))), some (.int (r)), some (.int (p)), some (.int (n)), some (.int (b)), some (.int (y))] [] (rm μ)
    refine T_iload_n (pc := 0) (i := 0) dX5_valueOf_0 rfl rfl ?_
    refine T_tableIn (pc := 1) (tgt := 44) dX5_valueOf_1 (by decide) (by decide) rfl (by decide) ?_
    refine T_iload_n (pc := 44) (i := 3) dX5_valueOf_44 rfl rfl ?_
    exact T_iret (pc := 45) (ty := .int) dX5_valueOf_45 rfl rfl (Nat.le_refl _) (Nat.le_refl _) ⟨rfl, rfl⟩
  by_cases h5 : s = -5
  · subst h5
    refine Ex.of (by decide +kernel) rfl (Nat.le_of_ble_eq_true rfl) ?_
    show T _ _ _ _ _ _ _ _ _ [some (.int ((-5))), some (.int (r)), some (.int (p)), some (.int (n)), some (.int (b)), some (.int (y))] [] (rm μ)
    refine T_iload_n (pc := 0) (i := 0) dX5_valueOf_0 rfl rfl ?_
    refine T_tableIn (pc := 1) (tgt := 46) dX5_valueOf_1 (by decide) (by decide) rfl (by decide) ?_
    refine T_iload (pc := 46) (i := 4) dX5_valueOf_46 rfl ?_
    exact T_iret (pc := 48) (ty := .int) dX5_valueOf_48 rfl rfl (Nat.le_refl _) (Nat.le_refl _) ⟨rfl, rfl⟩
  by_cases h6 : s = -6
  · subst h6
    refine Ex.of (by decide +kernel) rfl (Nat.le_of_ble_eq_true rfl) ?_
    show T _ _ _ _ _ _ _ _ _ [some (.int ((-6))), some (.int (r)), some (.int (p)), some (.int (n)), some (.int (b)), some (.int (y))] [] (rm μ)
    refine T_iload_n (pc := 0) (i := 0) dX5_valueOf_0 rfl rfl ?_
    refine T_tableIn (pc := 1) (tgt := 49) dX5_valueOf_1 (by decide) (by decide) rfl (by decide) ?_
    refine T_iload (pc := 49) (i := 5) dX5_valueOf_49 rfl ?_
    exact T_iret (pc := 51) (ty := .int) dX5_valueOf_51 rfl rfl (Nat.le_refl _) (Nat.le_refl _) ⟨rfl, rfl⟩
  by_cases h7 : s = -7
  · subst h7
    have e : sgV (r, p, n, b, y) (-7) = if p = 0 ∨ b = 0 then 1 else 0 := rfl
    rw [e]
    refine Ex.of (by decide +kernel) rfl (Nat.le_of_ble_eq_true rfl) ?_
    show T _ _ _ _ _ _ _ _ _ [some (.int ((-7))), some (.int (r)), some (.int (p)), some (.int (n)), some (.int (b)), some (.int (y))] [] (rm μ)
    refine T_iload_n (pc := 0) (i := 0) dX5_valueOf_0 rfl rfl ?_
    refine T_tableIn (pc := 1) (tgt := 52) dX5_valueOf_1 (by decide) (by decide) rfl (by decide) ?_
    refine T_iload_n (pc := 52) (i := 2) dX5_valueOf_52 rfl rfl ?_
    refine T_if_eq (pc := 53) (tgt := 61) dX5_valueOf_53 (by decide) (fun h8 => ?_) (fun h8 => ?_)
    · skip
      refine T_iconst (pc := 61) (v := nI 1) dX5_valueOf_61 (by decide) ?_
      refine T_goto (pc := 62) (tgt := 66) dX5_valueOf_62 (by decide) ?_
      rw [if_pos (Or.inl h8)]
      exact T_iret (pc := 66) (ty := .int) dX5_valueOf_66 rfl rfl (Nat.le_refl _) (Nat.le_refl _) ⟨rfl, rfl⟩
    · skip
      refine T_iload (pc := 56) (i := 4) dX5_valueOf_56 rfl ?_
      refine T_if_ne (pc := 58) (tgt := 65) dX5_valueOf_58 (by decide) (fun h9 => ?_) (fun h9 => ?_)
      · skip
        refine T_iconst (pc := 65) (v := nI 0) dX5_valueOf_65 (by decide) ?_
        rw [if_neg (fun z => z.elim h8 h9)]
        exact T_iret (pc := 66) (ty := .int) dX5_valueOf_66 rfl rfl (Nat.le_refl _) (Nat.le_refl _) ⟨rfl, rfl⟩
      · skip
        refine T_iconst (pc := 61) (v := nI 1) dX5_valueOf_61 (by decide) ?_
        refine T_goto (pc := 62) (tgt := 66) dX5_valueOf_62 (by decide) ?_
        rw [if_pos (Or.inr h9)]
        exact T_iret (pc := 66) (ty := .int) dX5_valueOf_66 rfl rfl (Nat.le_refl _) (Nat.le_refl _) ⟨rfl, rfl⟩
  · have e : sgV (r, p, n, b, y) s = s := by unfold sgV; simp only [h2, h3, h4, h5, h6, h7, if_false]
    rw [e]
    refine Ex.of (by decide +kernel) rfl (Nat.le_of_ble_eq_true rfl) ?_
    show T _ _ _ _ _ _ _ _ _ [some (.int (s)), some (.int (r)), some (.int (p)), some (.int (n)), some (.int (b)), some (.int (y))] [] (rm μ)
    refine T_iload_n (pc := 0) (i := 0) dX5_valueOf_0 rfl rfl ?_
    refine T_tableOut (pc := 1) (tgt := 67) dX5_valueOf_1 (by rw [fa_eq] at h2 h3 h4 h5 h6 h7; have e2 : ((-2 : Int32)).toInt = -2 := rfl; have e3 : ((-3 : Int32)).toInt = -3 := rfl; have e4 : ((-4 : Int32)).toInt = -4 := rfl; have e5 : ((-5 : Int32)).toInt = -5 := rfl; have e6 : ((-6 : Int32)).toInt = -6 := rfl; have e7 : ((-7 : Int32)).toInt = -7 := rfl; omega) (by decide) ?_
    refine T_iload_n (pc := 67) (i := 0) dX5_valueOf_67 rfl rfl ?_
    exact T_iret (pc := 68) (ty := .int) dX5_valueOf_68 rfl rfl (Nat.le_refl _) (Nat.le_refl _) ⟨rfl, rfl⟩
theorem c_Law_joined {s a b : Int32} : Ex γ 1 0 0 M_X5_joined [.int s, .int a, .int b] (rm μ) (Fn (some (.int (jnV s a b))) μ) := by
  by_cases h0 : s = -10
  · subst h0
    refine Ex.of (by decide +kernel) rfl (Nat.le_of_ble_eq_true rfl) ?_
    show T _ _ _ _ _ _ _ _ _ [some (.int ((-10))), some (.int (a)), some (.int (b))] [] (rm μ)
    refine T_iload_n (pc := 0) (i := 0) dX5_joined_0 rfl rfl ?_
    refine T_tableIn (pc := 1) (tgt := 32) dX5_joined_1 (by decide) (by decide) rfl (by decide) ?_
    refine T_iload_n (pc := 32) (i := 1) dX5_joined_32 rfl rfl ?_
    refine T_iload_n (pc := 33) (i := 2) dX5_joined_33 rfl rfl ?_
    refine T_iadd (pc := 34) dX5_joined_34 ?_
    exact T_iret (pc := 35) (ty := .int) dX5_joined_35 rfl rfl (Nat.le_refl _) (Nat.le_refl _) ⟨rfl, rfl⟩
  by_cases h1 : s = -11
  · subst h1
    have e : jnV (-11) a b = if a < b then 1 else 0 := rfl
    rw [e]
    refine Ex.of (by decide +kernel) rfl (Nat.le_of_ble_eq_true rfl) ?_
    show T _ _ _ _ _ _ _ _ _ [some (.int ((-11))), some (.int (a)), some (.int (b))] [] (rm μ)
    refine T_iload_n (pc := 0) (i := 0) dX5_joined_0 rfl rfl ?_
    refine T_tableIn (pc := 1) (tgt := 36) dX5_joined_1 (by decide) (by decide) rfl (by decide) ?_
    refine T_iload_n (pc := 36) (i := 1) dX5_joined_36 rfl rfl ?_
    refine T_iload_n (pc := 37) (i := 2) dX5_joined_37 rfl rfl ?_
    refine T_icmp_ge (pc := 38) (tgt := 45) dX5_joined_38 (by decide) (fun h => ?_) (fun h => ?_)
    · skip
      refine T_iconst (pc := 45) (v := nI 0) dX5_joined_45 (by decide) ?_
      rw [if_neg (fun z => absurd h (by rw [fa_le]; rw [fa_lt] at z; omega))]
      exact T_iret (pc := 46) (ty := .int) dX5_joined_46 rfl rfl (Nat.le_refl _) (Nat.le_refl _) ⟨rfl, rfl⟩
    · skip
      refine T_iconst (pc := 41) (v := nI 1) dX5_joined_41 (by decide) ?_
      refine T_goto (pc := 42) (tgt := 46) dX5_joined_42 (by decide) ?_
      rw [if_pos (i_nle.mp h)]
      exact T_iret (pc := 46) (ty := .int) dX5_joined_46 rfl rfl (Nat.le_refl _) (Nat.le_refl _) ⟨rfl, rfl⟩
  by_cases h2 : s = -12
  · subst h2
    have e : jnV (-12) a b = if b < a then 1 else 0 := rfl
    rw [e]
    refine Ex.of (by decide +kernel) rfl (Nat.le_of_ble_eq_true rfl) ?_
    show T _ _ _ _ _ _ _ _ _ [some (.int ((-12))), some (.int (a)), some (.int (b))] [] (rm μ)
    refine T_iload_n (pc := 0) (i := 0) dX5_joined_0 rfl rfl ?_
    refine T_tableIn (pc := 1) (tgt := 47) dX5_joined_1 (by decide) (by decide) rfl (by decide) ?_
    refine T_iload_n (pc := 47) (i := 1) dX5_joined_47 rfl rfl ?_
    refine T_iload_n (pc := 48) (i := 2) dX5_joined_48 rfl rfl ?_
    refine T_icmp_le (pc := 49) (tgt := 56) dX5_joined_49 (by decide) (fun h => ?_) (fun h => ?_)
    · skip
      refine T_iconst (pc := 56) (v := nI 0) dX5_joined_56 (by decide) ?_
      rw [if_neg (fun z => absurd h (by rw [fa_le]; rw [fa_lt] at z; omega))]
      exact T_iret (pc := 57) (ty := .int) dX5_joined_57 rfl rfl (Nat.le_refl _) (Nat.le_refl _) ⟨rfl, rfl⟩
    · skip
      refine T_iconst (pc := 52) (v := nI 1) dX5_joined_52 (by decide) ?_
      refine T_goto (pc := 53) (tgt := 57) dX5_joined_53 (by decide) ?_
      rw [if_pos (i_nle.mp h)]
      exact T_iret (pc := 57) (ty := .int) dX5_joined_57 rfl rfl (Nat.le_refl _) (Nat.le_refl _) ⟨rfl, rfl⟩
  by_cases h3 : s = -13
  · subst h3
    refine Ex.of (by decide +kernel) rfl (Nat.le_of_ble_eq_true rfl) ?_
    show T _ _ _ _ _ _ _ _ _ [some (.int ((-13))), some (.int (a)), some (.int (b))] [] (rm μ)
    refine T_iload_n (pc := 0) (i := 0) dX5_joined_0 rfl rfl ?_
    refine T_tableIn (pc := 1) (tgt := 58) dX5_joined_1 (by decide) (by decide) rfl (by decide) ?_
    refine T_iload_n (pc := 58) (i := 1) dX5_joined_58 rfl rfl ?_
    refine T_iload_n (pc := 59) (i := 2) dX5_joined_59 rfl rfl ?_
    refine T_iand (pc := 60) dX5_joined_60 ?_
    exact T_iret (pc := 61) (ty := .int) dX5_joined_61 rfl rfl (Nat.le_refl _) (Nat.le_refl _) ⟨rfl, rfl⟩
  · have e : jnV s a b = a ||| b := by unfold jnV; simp only [h0, h1, h2, h3, if_false]
    rw [e]
    refine Ex.of (by decide +kernel) rfl (Nat.le_of_ble_eq_true rfl) ?_
    show T _ _ _ _ _ _ _ _ _ [some (.int (s)), some (.int (a)), some (.int (b))] [] (rm μ)
    refine T_iload_n (pc := 0) (i := 0) dX5_joined_0 rfl rfl ?_
    refine T_tableOut (pc := 1) (tgt := 62) dX5_joined_1 (by rw [fa_eq] at h0 h1 h2 h3; have e2 : ((-10 : Int32)).toInt = -10 := rfl; have e3 : ((-11 : Int32)).toInt = -11 := rfl; have e4 : ((-12 : Int32)).toInt = -12 := rfl; have e5 : ((-13 : Int32)).toInt = -13 := rfl; omega) (by decide) ?_
    refine T_iload_n (pc := 62) (i := 1) dX5_joined_62 rfl rfl ?_
    refine T_iload_n (pc := 63) (i := 2) dX5_joined_63 rfl rfl ?_
    refine T_ior (pc := 64) dX5_joined_64 ?_
    exact T_iret (pc := 65) (ty := .int) dX5_joined_65 rfl rfl (Nat.le_refl _) (Nat.le_refl _) ⟨rfl, rfl⟩
theorem c_Law_bars {l : Nat} {L : Int32} {LL : List (List Int32)} {r p q b y : Int32} (hl : isLaw l) (h : LawAt μ l (L, LL.flatMap clS)) (hw : ∀ ln ∈ LL, wfl ln) : Ex γ 2 0 0 M_X5_bars [.ref l, .int r, .int p, .int q, .int b, .int y] (rm μ) (Rm (some (.int (bI (brB (r, p, q, b, y) LL)))) (fun m => Off (l + 2) 1 μ m)) := by
  have h4 : (LL.flatMap clS).length ≤ 400 := h.2.2.1
  suffices main : ∀ (K : List (List Int32)) (i : Nat) (m : SM2), (∀ ln ∈ K, wfl ln) → (LL.flatMap clS).drop i = K.flatMap clS → i ≤ (LL.flatMap clS).length → Off (l + 2) 1 μ m → T γ 2 0 0 M_X5_bars (Rm (some (.int (bI (brB (r, p, q, b, y) K)))) (fun m => Off (l + 2) 1 μ m)) 0 0 6 [some (.ref l), some (.int r), some (.int p), some (.int q), some (.int b), some (.int y), some (.int (nI 0)), some (.int (nI i)), none] [] (rm m) by
    refine Ex.of (by decide +kernel) rfl (Nat.le_of_ble_eq_true rfl) ?_
    show T _ _ _ _ _ _ _ _ _ [some (.ref l), some (.int (r)), some (.int (p)), some (.int (q)), some (.int (b)), some (.int (y)), none, none, none] [] (rm μ)
    refine T_iconst (pc := 0) (v := nI 0) dX5_bars_0 (by decide) ?_
    refine T_istore (pc := 1) (i := 6) (ls' := [some (.ref l), some (.int (r)), some (.int (p)), some (.int (q)), some (.int (b)), some (.int (y)), some (.int (nI 0)), none, none]) dX5_bars_1 (by decide) rfl ?_
    refine T_iconst (pc := 3) (v := nI 0) dX5_bars_3 (by decide) ?_
    refine T_istore (pc := 4) (i := 7) (ls' := [some (.ref l), some (.int (r)), some (.int (p)), some (.int (q)), some (.int (b)), some (.int (y)), some (.int (nI 0)), some (.int (nI 0)), none]) dX5_bars_4 (by decide) rfl ?_
    exact main LL 0 μ hw rfl (Nat.zero_le _) (Off.refl _ _ _)
  intro K
  induction K with
  | nil =>
    intro i m hK hd hi ho
    have e1 : (LL.flatMap clS).length ≤ i := List.drop_eq_nil_iff.mp hd
    refine T_iload (pc := 6) (i := 7) dX5_bars_6 rfl ?_
    refine T_aload_n (pc := 8) (i := 0) dX5_bars_8 rfl rfl ?_
    refine R_getI (pc := 9) (x := nI ((LL.flatMap clS).length)) fl_X5_22 rfl (kt_law hl) (lt_law hl) ((ho.i (by omega) 1).trans h.2.1) dX5_bars_9 ?_
    refine R_icmp_ge (pc := 12) (tgt := 173) (by omega) (by omega) dX5_bars_12 (by decide) (fun h1 => ?_) (fun h1 => ?_)
    · skip
      refine T_iconst (pc := 173) (v := nI 0) dX5_bars_173 (by decide) ?_
      exact T_iret (pc := 174) (ty := .boolean) dX5_bars_174 rfl (by decide) (Nat.le_refl _) (Nat.le_refl _) ⟨_, rfl, rfl, ho⟩
    · exact absurd h1 (by omega)
  | cons ln K' ihK =>
    intro i m hK hd hi ho
    obtain ⟨tb, hb⟩ := ln1_ty (hK ln List.mem_cons_self)
    have hK' : ∀ ln ∈ K', wfl ln := fun z hz => hK z (List.mem_cons_of_mem _ hz)
    suffices inner : ∀ (rest st : List Int32) (ts : List Bool) (i : Nat) (m : SM2), rest.foldl tyS (some ts) = some [tb] → st.length = ts.length → ts.length ≤ 17 → (LL.flatMap clS).drop i = rest ++ (-9 :: K'.flatMap clS) → StkAt m (l + 2) st → Off (l + 2) 1 μ m → T γ 2 0 0 M_X5_bars (Rm (some (.int (bI (decide ((rest.foldl (stV (r, p, q, b, y)) st).headD 0 ≠ 0) || brB (r, p, q, b, y) K')))) (fun m => Off (l + 2) 1 μ m)) 0 0 6 [some (.ref l), some (.int r), some (.int p), some (.int q), some (.int b), some (.int y), some (.int (nI st.length)), some (.int (nI i)), none] [] (rm m) by
      have h9 := inner (ln1 ln) [] [] i m hb rfl (Nat.zero_le _) (by rw [hd]; show clS ln ++ _ = _; unfold clS; rw [List.append_assoc]; rfl) trivial ho
      exact h9
    intro rest
    induction rest with
    | nil =>
      intro st ts i m ht hs h17 hd hk ho
      cases ht
      obtain ⟨v, rfl⟩ : ∃ v, st = [v] := by
        match st, hs with
        | [v], _ => exact ⟨v, rfl⟩
      obtain ⟨hi, hg, hd2⟩ := drop_c hd
      have e0 : (List.foldl (stV (r, p, q, b, y)) [v] []).headD 0 = v := rfl
      rw [e0]
      refine T_iload (pc := 6) (i := 7) dX5_bars_6 rfl ?_
      refine T_aload_n (pc := 8) (i := 0) dX5_bars_8 rfl rfl ?_
      refine R_getI (pc := 9) (x := nI ((LL.flatMap clS).length)) fl_X5_22 rfl (kt_law hl) (lt_law hl) ((ho.i (by omega) 1).trans h.2.1) dX5_bars_9 ?_
      refine R_icmp_ge (pc := 12) (tgt := 173) (by omega) (by omega) dX5_bars_12 (by decide) (fun h1 => ?_) (fun h1 => ?_)
      · exact absurd h1 (by omega)
      · skip
        refine T_aload_n (pc := 15) (i := 0) dX5_bars_15 rfl rfl ?_
        refine R_getR (pc := 16) (i := (l + 1)) fl_X5_15 rfl (kt_law hl) (lt_law hl) (rt_law_signs hl) dX5_bars_16 ?_
        refine T_iload (pc := 19) (i := 7) dX5_bars_19 rfl ?_
        refine R_iald (pc := 21) (x := (-9)) (kt_law_signs hl) (lt_law_signs hl) (by omega) (by first | decide | assumption) (((ho.i (by omega) i).trans (h.2.2.2 i hi)).trans hg) dX5_bars_21 ?_
        refine T_istore (pc := 22) (i := 8) (ls' := [some (.ref l), some (.int (r)), some (.int (p)), some (.int (q)), some (.int (b)), some (.int (y)), some (.int (nI 1)), some (.int (nI i)), some (.int ((-9)))]) dX5_bars_22 (by decide) rfl ?_
        refine T_iload (pc := 24) (i := 8) dX5_bars_24 rfl ?_
        refine T_bipush (pc := 26) (v := (-8)) dX5_bars_26 (by decide) ?_
        refine T_icmp_le (pc := 28) (tgt := 66) dX5_bars_28 (by decide) (fun h2 => ?_) (fun h2 => ?_)
        · skip
          refine T_iload (pc := 66) (i := 8) dX5_bars_66 rfl ?_
          refine T_bipush (pc := 68) (v := (-8)) dX5_bars_68 (by decide) ?_
          refine T_icmp_ne (pc := 70) (tgt := 101) dX5_bars_70 (by decide) (fun h3 => ?_) (fun h3 => ?_)
          · skip
            refine T_iload (pc := 101) (i := 8) dX5_bars_101 rfl ?_
            refine T_bipush (pc := 103) (v := (-9)) dX5_bars_103 (by decide) ?_
            refine T_icmp_ne (pc := 105) (tgt := 128) dX5_bars_105 (by decide) (fun h4 => ?_) (fun h4 => ?_)
            · exact absurd rfl h4
            · skip
              refine T_iload (pc := 108) (i := 6) dX5_bars_108 rfl ?_
              refine R_if_le (pc := 110) (tgt := 128) (by omega) dX5_bars_110 (by decide) (fun h5 => ?_) (fun h5 => ?_)
              · exact absurd h5 (by decide)
              · skip
                refine R_idec (pc := 113) (i := 6) (ls' := [some (.ref l), some (.int (r)), some (.int (p)), some (.int (q)), some (.int (b)), some (.int (y)), some (.int (nI (1 - 1))), some (.int (nI i)), some (.int ((-9)))]) dX5_bars_113 (by omega) rfl rfl ?_
                refine T_aload_n (pc := 116) (i := 0) dX5_bars_116 rfl rfl ?_
                refine R_getR (pc := 117) (i := (l + 2)) fl_X5_19 rfl (kt_law hl) (lt_law hl) (rt_law_waiting hl) dX5_bars_117 ?_
                refine T_iload (pc := 120) (i := 6) dX5_bars_120 rfl ?_
                refine R_iald (pc := 122) (x := v) (kt_law_waiting hl) (lt_law_waiting hl) (by omega) (by first | decide | assumption) hk.1 dX5_bars_122 ?_
                refine T_if_eq (pc := 123) (tgt := 167) dX5_bars_123 (by decide) (fun h6 => ?_) (fun h6 => ?_)
                · skip
                  refine R_iinc (pc := 167) (i := 7) (n := 1) (ls' := [some (.ref l), some (.int (r)), some (.int (p)), some (.int (q)), some (.int (b)), some (.int (y)), some (.int (nI (1 - 1))), some (.int (nI (i + 1))), some (.int ((-9)))]) dX5_bars_167 rfl rfl ?_
                  refine T_goto (pc := 170) (tgt := 6) dX5_bars_170 (by decide) ?_
                  subst h6
                  rw [show (decide ((0 : Int32) ≠ 0) || brB (r, p, q, b, y) K') = brB (r, p, q, b, y) K' by rw [decide_eq_false (fun z => z rfl)]; rfl]
                  refine T_ls (ls' := [some (.ref l), some (.int (r)), some (.int (p)), some (.int (q)), some (.int (b)), some (.int (y)), some (.int (nI (1 - 1))), some (.int (nI (i + 1))), none]) (And.intro rfl (And.intro rfl (And.intro rfl (And.intro rfl (And.intro rfl (And.intro rfl (And.intro rfl (And.intro rfl True.intro)))))))) ?_
                  have h9 := ihK (i + 1) m hK' hd2 hi ho
                  exact h9
                · skip
                  refine T_iconst (pc := 126) (v := nI 1) dX5_bars_126 (by decide) ?_
                  rw [decide_eq_true h6]
                  exact T_iret (pc := 127) (ty := .boolean) dX5_bars_127 rfl (by decide) (Nat.le_refl _) (Nat.le_refl _) ⟨_, rfl, rfl, ho⟩
          · exact absurd h3 (by decide)
        · exact absurd (show (-9 : Int32) ≤ -8 by decide) h2
    | cons s rest' ihR =>
      intro st ts i m ht hs h17 hd hk ho
      obtain ⟨hi, hg, hd2⟩ := drop_c hd
      have ht0 : rest'.foldl tyS (tyS (some ts) s) = some [tb] := ht
      cases et : tyS (some ts) s with
      | none =>
        rw [et, tyS_none] at ht0
        cases ht0
      | some ts' =>
      rw [et] at ht0
      have e0 : List.foldl (stV (r, p, q, b, y)) st (s :: rest') = List.foldl (stV (r, p, q, b, y)) (stV (r, p, q, b, y) st s) rest' := rfl
      rw [e0]
      have hsz : m.1 l 1 = nI (LL.flatMap clS).length := (ho.i (by omega) 1).trans h.2.1
      have hsg : m.1 (l + 1) i = s := ((ho.i (by omega) i).trans (h.2.2.2 i hi)).trans hg
      by_cases h8 : -8 < s
      · obtain ⟨hp1, hp2⟩ := tyS_push et h8
        have e8 : stV (r, p, q, b, y) st s = sgV (r, p, q, b, y) s :: st := by unfold stV; rw [if_pos h8]
        rw [e8]
        refine T_iload (pc := 6) (i := 7) dX5_bars_6 rfl ?_
        refine T_aload_n (pc := 8) (i := 0) dX5_bars_8 rfl rfl ?_
        refine R_getI (pc := 9) (x := nI ((LL.flatMap clS).length)) fl_X5_22 rfl (kt_law hl) (lt_law hl) hsz dX5_bars_9 ?_
        refine R_icmp_ge (pc := 12) (tgt := 173) (by omega) (by omega) dX5_bars_12 (by decide) (fun h1 => ?_) (fun h1 => ?_)
        · exact absurd h1 (by omega)
        · skip
          refine T_aload_n (pc := 15) (i := 0) dX5_bars_15 rfl rfl ?_
          refine R_getR (pc := 16) (i := (l + 1)) fl_X5_15 rfl (kt_law hl) (lt_law hl) (rt_law_signs hl) dX5_bars_16 ?_
          refine T_iload (pc := 19) (i := 7) dX5_bars_19 rfl ?_
          refine R_iald (pc := 21) (x := s) (kt_law_signs hl) (lt_law_signs hl) (by omega) (by first | decide | assumption) hsg dX5_bars_21 ?_
          refine T_istore (pc := 22) (i := 8) (ls' := [some (.ref l), some (.int (r)), some (.int (p)), some (.int (q)), some (.int (b)), some (.int (y)), some (.int (nI st.length)), some (.int (nI i)), some (.int (s))]) dX5_bars_22 (by decide) rfl ?_
          refine T_iload (pc := 24) (i := 8) dX5_bars_24 rfl ?_
          refine T_bipush (pc := 26) (v := (-8)) dX5_bars_26 (by decide) ?_
          refine T_icmp_le (pc := 28) (tgt := 66) dX5_bars_28 (by decide) (fun h2 => ?_) (fun h2 => ?_)
          · exact absurd h8 (fun z => absurd h2 (i_nle.mpr z))
          · skip
            refine T_iload (pc := 31) (i := 6) dX5_bars_31 rfl ?_
            refine T_aload_n (pc := 33) (i := 0) dX5_bars_33 rfl rfl ?_
            refine R_getR (pc := 34) (i := (l + 2)) fl_X5_19 rfl (kt_law hl) (lt_law hl) (rt_law_waiting hl) dX5_bars_34 ?_
            refine R_alen (pc := 37) (kt_law_waiting hl) (by decide) (lt_law_waiting hl) dX5_bars_37 ?_
            refine R_icmp_ge (pc := 38) (tgt := 167) (by omega) (by omega) dX5_bars_38 (by decide) (fun h3 => ?_) (fun h3 => ?_)
            · exact absurd h3 (by omega)
            · skip
              refine T_aload_n (pc := 41) (i := 0) dX5_bars_41 rfl rfl ?_
              refine R_getR (pc := 42) (i := (l + 2)) fl_X5_19 rfl (kt_law hl) (lt_law hl) (rt_law_waiting hl) dX5_bars_42 ?_
              refine T_iload (pc := 45) (i := 6) dX5_bars_45 rfl ?_
              refine T_iload (pc := 47) (i := 8) dX5_bars_47 rfl ?_
              refine T_iload_n (pc := 49) (i := 1) dX5_bars_49 rfl rfl ?_
              refine T_iload_n (pc := 50) (i := 2) dX5_bars_50 rfl rfl ?_
              refine T_iload_n (pc := 51) (i := 3) dX5_bars_51 rfl rfl ?_
              refine T_iload (pc := 52) (i := 4) dX5_bars_52 rfl ?_
              refine T_iload (pc := 54) (i := 5) dX5_bars_54 rfl ?_
              refine R_callS1 (pc := 56) (av := [.int (s), .int (r), .int (p), .int (q), .int (b), .int (y)]) (rest := [.int (nI st.length), .ref (l + 2)]) (Or.inl lk_X5_103) mk_X5_valueOf c_Law_valueOf dX5_bars_56 rfl rfl (Nat.le_of_ble_eq_true rfl) (by decide) rfl (Nat.le_refl _) (Nat.le_refl _) ?_
              refine R_iast (pc := 59) (kt_law_waiting hl) (lt_law_waiting hl) (by omega) (by first | decide | assumption) dX5_bars_59 ?_
              refine R_iinc (pc := 60) (i := 6) (n := 1) (ls' := [some (.ref l), some (.int (r)), some (.int (p)), some (.int (q)), some (.int (b)), some (.int (y)), some (.int (nI (st.length + 1))), some (.int (nI i)), some (.int (s))]) dX5_bars_60 rfl rfl ?_
              refine T_goto (pc := 63) (tgt := 167) dX5_bars_63 (by decide) ?_
              refine R_iinc (pc := 167) (i := 7) (n := 1) (ls' := [some (.ref l), some (.int (r)), some (.int (p)), some (.int (q)), some (.int (b)), some (.int (y)), some (.int (nI (st.length + 1))), some (.int (nI (i + 1))), some (.int (s))]) dX5_bars_167 rfl rfl ?_
              refine T_goto (pc := 170) (tgt := 6) dX5_bars_170 (by decide) ?_
              refine T_ls (ls' := [some (.ref l), some (.int (r)), some (.int (p)), some (.int (q)), some (.int (b)), some (.int (y)), some (.int (nI (st.length + 1))), some (.int (nI (i + 1))), none]) (And.intro rfl (And.intro rfl (And.intro rfl (And.intro rfl (And.intro rfl (And.intro rfl (And.intro rfl (And.intro rfl True.intro)))))))) ?_
              have hof : Off (l + 2) 1 m (wI m (l + 2) st.length ((sgV (r, p, q, b, y) s))) := (Off.sI (Off.refl _ _ _) (by omega))
              exact ihR (sgV (r, p, q, b, y) s :: st) ts' (i + 1) _ ht0 (by rw [hp2, ← hs]; rfl) (by omega) hd2 ⟨e_wI ⟨rfl, rfl⟩, hk.up (Nat.le_refl _)⟩ (ho.trans hof)
      · have h8' : s ≤ -8 := i_nlt.mp h8
        by_cases h7 : s = -8
        · subst h7
          obtain ⟨hp1, hp2⟩ := tyS_not et
          obtain ⟨a, t, rfl⟩ : ∃ a t, st = a :: t := by
            match st, hs with
            | [], z => rw [← z] at hp1; cases hp1
            | a :: t, _ => exact ⟨a, t, rfl⟩
          have hlt : t.length + 1 = ts.length := hs
          have e8 : stV (r, p, q, b, y) (a :: t) (-8) = (1 - a) :: t := by unfold stV; rw [if_neg (by decide), if_pos rfl]
          rw [e8]
          refine T_iload (pc := 6) (i := 7) dX5_bars_6 rfl ?_
          refine T_aload_n (pc := 8) (i := 0) dX5_bars_8 rfl rfl ?_
          refine R_getI (pc := 9) (x := nI ((LL.flatMap clS).length)) fl_X5_22 rfl (kt_law hl) (lt_law hl) hsz dX5_bars_9 ?_
          refine R_icmp_ge (pc := 12) (tgt := 173) (by omega) (by omega) dX5_bars_12 (by decide) (fun h1 => ?_) (fun h1 => ?_)
          · exact absurd h1 (by omega)
          · skip
            refine T_aload_n (pc := 15) (i := 0) dX5_bars_15 rfl rfl ?_
            refine R_getR (pc := 16) (i := (l + 1)) fl_X5_15 rfl (kt_law hl) (lt_law hl) (rt_law_signs hl) dX5_bars_16 ?_
            refine T_iload (pc := 19) (i := 7) dX5_bars_19 rfl ?_
            refine R_iald (pc := 21) (x := (-8)) (kt_law_signs hl) (lt_law_signs hl) (by omega) (by first | decide | assumption) hsg dX5_bars_21 ?_
            refine T_istore (pc := 22) (i := 8) (ls' := [some (.ref l), some (.int (r)), some (.int (p)), some (.int (q)), some (.int (b)), some (.int (y)), some (.int (nI (t.length + 1))), some (.int (nI i)), some (.int ((-8)))]) dX5_bars_22 (by decide) rfl ?_
            refine T_iload (pc := 24) (i := 8) dX5_bars_24 rfl ?_
            refine T_bipush (pc := 26) (v := (-8)) dX5_bars_26 (by decide) ?_
            refine T_icmp_le (pc := 28) (tgt := 66) dX5_bars_28 (by decide) (fun h2 => ?_) (fun h2 => ?_)
            · skip
              refine T_iload (pc := 66) (i := 8) dX5_bars_66 rfl ?_
              refine T_bipush (pc := 68) (v := (-8)) dX5_bars_68 (by decide) ?_
              refine T_icmp_ne (pc := 70) (tgt := 101) dX5_bars_70 (by decide) (fun h3 => ?_) (fun h3 => ?_)
              · exact absurd rfl h3
              · skip
                refine T_iload (pc := 73) (i := 6) dX5_bars_73 rfl ?_
                refine R_if_le (pc := 75) (tgt := 101) (by omega) dX5_bars_75 (by decide) (fun h4 => ?_) (fun h4 => ?_)
                · exact absurd h4 (by omega)
                · skip
                  refine T_aload_n (pc := 78) (i := 0) dX5_bars_78 rfl rfl ?_
                  refine R_getR (pc := 79) (i := (l + 2)) fl_X5_19 rfl (kt_law hl) (lt_law hl) (rt_law_waiting hl) dX5_bars_79 ?_
                  refine T_iload (pc := 82) (i := 6) dX5_bars_82 rfl ?_
                  refine T_iconst (pc := 84) (v := nI 1) dX5_bars_84 (by decide) ?_
                  refine R_isub (pc := 85) (by omega) dX5_bars_85 ?_
                  refine T_iconst (pc := 86) (v := nI 1) dX5_bars_86 (by decide) ?_
                  refine T_aload_n (pc := 87) (i := 0) dX5_bars_87 rfl rfl ?_
                  refine R_getR (pc := 88) (i := (l + 2)) fl_X5_19 rfl (kt_law hl) (lt_law hl) (rt_law_waiting hl) dX5_bars_88 ?_
                  refine T_iload (pc := 91) (i := 6) dX5_bars_91 rfl ?_
                  refine T_iconst (pc := 93) (v := nI 1) dX5_bars_93 (by decide) ?_
                  refine R_isub (pc := 94) (by omega) dX5_bars_94 ?_
                  refine R_iald (pc := 95) (x := a) (kt_law_waiting hl) (lt_law_waiting hl) (by omega) (by first | decide | assumption) hk.1 dX5_bars_95 ?_
                  refine T_isub (pc := 96) dX5_bars_96 ?_
                  refine R_iast (pc := 97) (kt_law_waiting hl) (lt_law_waiting hl) (by omega) (by first | decide | assumption) dX5_bars_97 ?_
                  refine T_goto (pc := 98) (tgt := 167) dX5_bars_98 (by decide) ?_
                  refine R_iinc (pc := 167) (i := 7) (n := 1) (ls' := [some (.ref l), some (.int (r)), some (.int (p)), some (.int (q)), some (.int (b)), some (.int (y)), some (.int (nI (t.length + 1))), some (.int (nI (i + 1))), some (.int ((-8)))]) dX5_bars_167 rfl rfl ?_
                  refine T_goto (pc := 170) (tgt := 6) dX5_bars_170 (by decide) ?_
                  refine T_ls (ls' := [some (.ref l), some (.int (r)), some (.int (p)), some (.int (q)), some (.int (b)), some (.int (y)), some (.int (nI (t.length + 1))), some (.int (nI (i + 1))), none]) (And.intro rfl (And.intro rfl (And.intro rfl (And.intro rfl (And.intro rfl (And.intro rfl (And.intro rfl (And.intro rfl True.intro)))))))) ?_
                  have hof : Off (l + 2) 1 m (wI m (l + 2) ((t.length + 1) - 1) (((nI 1) - (a)))) := (Off.sI (Off.refl _ _ _) (by omega))
                  exact ihR ((1 - a) :: t) ts' (i + 1) _ ht0 (by rw [hp2, ← hlt]; rfl) (by omega) hd2 ⟨e_wI ⟨rfl, rfl⟩, hk.2.up (by omega)⟩ (ho.trans hof)
            · exact absurd h8' h2
        · obtain ⟨hp1, hp2, h9⟩ := tyS_bin et h8 h7
          obtain ⟨v, a, t, rfl⟩ : ∃ v a t, st = v :: a :: t := by
            match st, hs with
            | [], z => rw [← z] at hp1; cases hp1
            | [_], z => rw [← z] at hp1; exact absurd hp1 (by simp)
            | v :: a :: t, _ => exact ⟨v, a, t, rfl⟩
          have hlt : t.length + 2 = ts.length := hs
          have e8 : stV (r, p, q, b, y) (v :: a :: t) s = jnV s a v :: t := by unfold stV; rw [if_neg h8, if_neg h7]
          rw [e8]
          refine T_iload (pc := 6) (i := 7) dX5_bars_6 rfl ?_
          refine T_aload_n (pc := 8) (i := 0) dX5_bars_8 rfl rfl ?_
          refine R_getI (pc := 9) (x := nI ((LL.flatMap clS).length)) fl_X5_22 rfl (kt_law hl) (lt_law hl) hsz dX5_bars_9 ?_
          refine R_icmp_ge (pc := 12) (tgt := 173) (by omega) (by omega) dX5_bars_12 (by decide) (fun h1 => ?_) (fun h1 => ?_)
          · exact absurd h1 (by omega)
          · skip
            refine T_aload_n (pc := 15) (i := 0) dX5_bars_15 rfl rfl ?_
            refine R_getR (pc := 16) (i := (l + 1)) fl_X5_15 rfl (kt_law hl) (lt_law hl) (rt_law_signs hl) dX5_bars_16 ?_
            refine T_iload (pc := 19) (i := 7) dX5_bars_19 rfl ?_
            refine R_iald (pc := 21) (x := s) (kt_law_signs hl) (lt_law_signs hl) (by omega) (by first | decide | assumption) hsg dX5_bars_21 ?_
            refine T_istore (pc := 22) (i := 8) (ls' := [some (.ref l), some (.int (r)), some (.int (p)), some (.int (q)), some (.int (b)), some (.int (y)), some (.int (nI (t.length + 2))), some (.int (nI i)), some (.int (s))]) dX5_bars_22 (by decide) rfl ?_
            refine T_iload (pc := 24) (i := 8) dX5_bars_24 rfl ?_
            refine T_bipush (pc := 26) (v := (-8)) dX5_bars_26 (by decide) ?_
            refine T_icmp_le (pc := 28) (tgt := 66) dX5_bars_28 (by decide) (fun h2 => ?_) (fun h2 => ?_)
            · skip
              refine T_iload (pc := 66) (i := 8) dX5_bars_66 rfl ?_
              refine T_bipush (pc := 68) (v := (-8)) dX5_bars_68 (by decide) ?_
              refine T_icmp_ne (pc := 70) (tgt := 101) dX5_bars_70 (by decide) (fun h3 => ?_) (fun h3 => ?_)
              · skip
                refine T_iload (pc := 101) (i := 8) dX5_bars_101 rfl ?_
                refine T_bipush (pc := 103) (v := (-9)) dX5_bars_103 (by decide) ?_
                refine T_icmp_ne (pc := 105) (tgt := 128) dX5_bars_105 (by decide) (fun h4 => ?_) (fun h4 => ?_)
                · skip
                  refine T_iload (pc := 128) (i := 6) dX5_bars_128 rfl ?_
                  refine T_iconst (pc := 130) (v := nI 1) dX5_bars_130 (by decide) ?_
                  refine R_icmp_le (pc := 131) (tgt := 167) (by omega) (by omega) dX5_bars_131 (by decide) (fun h5 => ?_) (fun h5 => ?_)
                  · exact absurd h5 (by omega)
                  · skip
                    refine R_idec (pc := 134) (i := 6) (ls' := [some (.ref l), some (.int (r)), some (.int (p)), some (.int (q)), some (.int (b)), some (.int (y)), some (.int (nI (t.length + 2 - 1))), some (.int (nI i)), some (.int (s))]) dX5_bars_134 (by omega) rfl rfl ?_
                    refine T_aload_n (pc := 137) (i := 0) dX5_bars_137 rfl rfl ?_
                    refine R_getR (pc := 138) (i := (l + 2)) fl_X5_19 rfl (kt_law hl) (lt_law hl) (rt_law_waiting hl) dX5_bars_138 ?_
                    refine T_iload (pc := 141) (i := 6) dX5_bars_141 rfl ?_
                    refine T_iconst (pc := 143) (v := nI 1) dX5_bars_143 (by decide) ?_
                    refine R_isub (pc := 144) (by omega) dX5_bars_144 ?_
                    refine T_iload (pc := 145) (i := 8) dX5_bars_145 rfl ?_
                    refine T_aload_n (pc := 147) (i := 0) dX5_bars_147 rfl rfl ?_
                    refine R_getR (pc := 148) (i := (l + 2)) fl_X5_19 rfl (kt_law hl) (lt_law hl) (rt_law_waiting hl) dX5_bars_148 ?_
                    refine T_iload (pc := 151) (i := 6) dX5_bars_151 rfl ?_
                    refine T_iconst (pc := 153) (v := nI 1) dX5_bars_153 (by decide) ?_
                    refine R_isub (pc := 154) (by omega) dX5_bars_154 ?_
                    refine R_iald (pc := 155) (x := a) (kt_law_waiting hl) (lt_law_waiting hl) (by omega) (by first | decide | assumption) hk.2.1 dX5_bars_155 ?_
                    refine T_aload_n (pc := 156) (i := 0) dX5_bars_156 rfl rfl ?_
                    refine R_getR (pc := 157) (i := (l + 2)) fl_X5_19 rfl (kt_law hl) (lt_law hl) (rt_law_waiting hl) dX5_bars_157 ?_
                    refine T_iload (pc := 160) (i := 6) dX5_bars_160 rfl ?_
                    refine R_iald (pc := 162) (x := v) (kt_law_waiting hl) (lt_law_waiting hl) (by omega) (by first | decide | assumption) hk.1 dX5_bars_162 ?_
                    refine R_callS1 (pc := 163) (av := [.int (s), .int (a), .int (v)]) (rest := [.int (nI ((t.length + 2 - 1) - 1)), .ref (l + 2)]) (Or.inl lk_X5_107) mk_X5_joined c_Law_joined dX5_bars_163 rfl rfl (Nat.le_of_ble_eq_true rfl) (by decide) rfl (Nat.le_refl _) (Nat.le_refl _) ?_
                    refine R_iast (pc := 166) (kt_law_waiting hl) (lt_law_waiting hl) (by omega) (by first | decide | assumption) dX5_bars_166 ?_
                    refine R_iinc (pc := 167) (i := 7) (n := 1) (ls' := [some (.ref l), some (.int (r)), some (.int (p)), some (.int (q)), some (.int (b)), some (.int (y)), some (.int (nI (t.length + 2 - 1))), some (.int (nI (i + 1))), some (.int (s))]) dX5_bars_167 rfl rfl ?_
                    refine T_goto (pc := 170) (tgt := 6) dX5_bars_170 (by decide) ?_
                    refine T_ls (ls' := [some (.ref l), some (.int (r)), some (.int (p)), some (.int (q)), some (.int (b)), some (.int (y)), some (.int (nI (t.length + 2 - 1))), some (.int (nI (i + 1))), none]) (And.intro rfl (And.intro rfl (And.intro rfl (And.intro rfl (And.intro rfl (And.intro rfl (And.intro rfl (And.intro rfl True.intro)))))))) ?_
                    have hof : Off (l + 2) 1 m (wI m (l + 2) ((t.length + 2 - 1) - 1) ((jnV s a v))) := (Off.sI (Off.refl _ _ _) (by omega))
                    exact ihR (jnV s a v :: t) ts' (i + 1) _ ht0 (by have e7 : (jnV s a v :: t).length = t.length + 1 := rfl; omega) (by omega) hd2 ⟨e_wI ⟨rfl, rfl⟩, hk.2.2.up (by omega)⟩ (ho.trans hof)
                · exact absurd h4 h9
              · exact absurd h3 h7
            · exact absurd h8' h2
end LB

