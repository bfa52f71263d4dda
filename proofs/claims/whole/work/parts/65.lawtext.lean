/-! a text of THE LAW -/
abbrev wBar : List Int32 := [98, 97, 114]
abbrev wIf : List Int32 := [105, 102]
abbrev wNot : List Int32 := [110, 111, 116]
abbrev wEnd : List Int32 := [101, 110, 100]
abbrev wPlace : List Int32 := [112, 108, 97, 99, 101]
abbrev wLong : List Int32 := [108, 111, 110, 103]
abbrev wBehind : List Int32 := [98, 101, 104, 105, 110, 100]
abbrev wYear : List Int32 := [121, 101, 97, 114]
abbrev wAnd : List Int32 := [97, 110, 100]
abbrev wOr : List Int32 := [111, 114]
theorem st11 : strs[11]? = some ("BeastRules$Law", 39, "bar", wBar) := rfl
theorem st12 : strs[12]? = some ("BeastRules$Law", 45, "if", wIf) := rfl
theorem st13 : strs[13]? = some ("BeastRules$Law", 79, "not", wNot) := rfl
theorem st14 : strs[14]? = some ("BeastRules$Law", 81, "end", wEnd) := rfl
theorem st15 : strs[15]? = some ("BeastRules$Law", 93, "rule", wRule) := rfl
theorem st16 : strs[16]? = some ("BeastRules$Law", 95, "place", wPlace) := rfl
theorem st17 : strs[17]? = some ("BeastRules$Law", 97, "long", wLong) := rfl
theorem st18 : strs[18]? = some ("BeastRules$Law", 99, "behind", wBehind) := rfl
theorem st19 : strs[19]? = some ("BeastRules$Law", 101, "year", wYear) := rfl
theorem st20 : strs[20]? = some ("BeastRules$Law", 77, "and", wAnd) := rfl
theorem st21 : strs[21]? = some ("BeastRules$Law", 72, "or", wOr) := rfl
/-- the first wrong byte; or where one stands, and the signs read -/
abbrev Lv : Type := Nat ⊕ (Nat × List Int32)
def sgP (B : List Nat) (p : Nat) : Int32 := if tK B p = -3 then tV B p else if wdB B p wRule = true then -2 else if wdB B p wPlace = true then -3 else if wdB B p wLong = true then -4 else if wdB B p wBehind = true then -5 else if wdB B p wYear = true then -6 else -1
def lvP (B : List Nat) (p : Nat) : Lv := if sgP B p = -1 then .inl (tS B p) else .inr (tE B p, [sgP B p])
def lvL (B : List Nat) (A : Nat → Lv) (c : Nat → Bool) (s : Int32) : Nat → Nat → List Int32 → Lv
  | 0, p, l => .inr (p, l)
  | f + 1, p, l => if c p = true then (match A (tE B p) with
    | .inl e => .inl e
    | .inr q => lvL B A c s f q.1 (l ++ q.2 ++ [s])) else .inr (p, l)
def lvS (B : List Nat) (A : Nat → Lv) (c : Nat → Bool) (s : Int32) (p : Nat) : Lv := match A p with
  | .inl e => .inl e
  | .inr q => lvL B A c s 400 q.1 q.2
def cPl (B : List Nat) (p : Nat) : Bool := decide (tK B p = nI 43)
def lvSum (B : List Nat) (p : Nat) : Lv := lvS B (lvP B) (cPl B) (-10) p
def lvC (B : List Nat) (p : Nat) : Lv := match lvSum B p with
  | .inl e => .inl e
  | .inr q => if tK B q.1 = nI 60 ∨ tK B q.1 = nI 62 then (match lvSum B (tE B q.1) with
    | .inl e => .inl e
    | .inr r => .inr (r.1, q.2 ++ r.2 ++ [if tK B q.1 = nI 60 then -11 else -12])) else .inl (tS B q.1)
def lvT (B : List Nat) (p : Nat) : Lv := if wdB B p wEnd = true then .inr (tE B p, [-7]) else lvC B p
def lvOr (B : List Nat) (A : Nat → Lv) (p : Nat) : Lv := lvS B (lvS B A (fun p => wdB B p wAnd) (-13)) (fun p => wdB B p wOr) (-14) p
/-- how many may stand deeper -/
def lvA (B : List Nat) : Nat → Nat → Lv
  | 0, p => if wdB B p wNot = true ∨ tK B p = nI 40 then .inl (tS B p) else lvT B p
  | d + 1, p => if wdB B p wNot = true then (match lvA B d (tE B p) with
      | .inl e => .inl e
      | .inr q => .inr (q.1, q.2 ++ [-8])) else if tK B p = nI 40 then (match lvOr B (lvA B d) (tE B p) with
      | .inl e => .inl e
      | .inr q => if tK B q.1 = nI 41 then .inr (tE B q.1, q.2) else .inl (tS B q.1)) else lvT B p
theorem tE_gt {B : List Nat} {p : Nat} (hp : p ≤ B.length) (h : tK B p ≠ -1) : p < tE B p := by
  have h1 := tS_le hp
  by_cases hl : tS B p < B.length
  · unfold tE
    rw [if_pos hl]
    split
    · next g =>
      rw [spn_y hl g]
      have := spn_le (P := isL) (B := B) (p := tS B p + 1) hl
      omega
    · split
      · next g =>
        rw [spn_y hl g]
        have := spn_le (P := isD) (B := B) (p := tS B p + 1) hl
        omega
      · omega
  · exact absurd (by unfold tK; rw [if_neg hl]) h
theorem wd_k {B : List Nat} {p : Nat} {w : List Int32} (h : wdB B p w = true) : tK B p = -2 := by
  unfold wdB at h
  rw [Bool.and_eq_true] at h
  exact of_decide_eq_true h.1
theorem wd_gt {B : List Nat} {p : Nat} {w : List Int32} (hp : p ≤ B.length) (h : wdB B p w = true) : p < tE B p := tE_gt hp (by rw [wd_k h]; decide)
theorem sgP_k {B : List Nat} {p : Nat} (h : sgP B p ≠ -1) : tK B p ≠ -1 := by
  unfold sgP at h
  split at h
  · next g =>
    rw [g]
    decide
  · repeat (split at h; · next g => (rw [wd_k g]; decide))
    exact absurd rfl h
theorem tV_lt {B : List Nat} {p : Nat} (hB : ∀ i, i < B.length → B.getD i 0 < 256) (h : tK B p = -3) : tV B p = -1 ∨ ∃ n, n < 1000 ∧ tV B p = nI n := by
  obtain ⟨w1, w2⟩ := tok_num hB h
  unfold tV
  by_cases h3 : 3 < tE B p - tS B p
  · rw [if_pos h3]
    exact Or.inl rfl
  · rw [if_neg h3]
    refine Or.inr ⟨_, ?_, rfl⟩
    have h4 := nvN_lt (B := B) (s := tS B p) (tE B p - tS B p) (fun i hi => by
      have := spF_all (P := isD) (B := B) (B.length - tS B p) (tS B p) (tS B p + i) (by omega) (by
        have e : spF isD B (B.length - tS B p) (tS B p) = tE B p := by rw [w2]; rfl
        rw [e]
        omega)
      unfold isD at this
      simp only [Bool.and_eq_true, decide_eq_true_eq] at this
      exact this.2)
    have h5 : 10 ^ (tE B p - tS B p) ≤ 10 ^ 3 := Nat.pow_le_pow_right (by decide) (by omega)
    omega
theorem sgP_ty {B : List Nat} {p : Nat} (hB : ∀ i, i < B.length → B.getD i 0 < 256) (h : sgP B p ≠ -1) : -8 < sgP B p ∧ sgP B p ≠ -7 := by
  by_cases g : tK B p = -3
  · have e : sgP B p = tV B p := by unfold sgP; rw [if_pos g]
    rw [e] at h ⊢
    rcases tV_lt hB g with h1 | ⟨n, h1, h2⟩
    · exact absurd h1 h
    · rw [h2, fa_lt, ne_eq, fa_eq, nI_toInt (by omega)]
      have e1 : (-8 : Int32).toInt = -8 := rfl
      have e2 : (-7 : Int32).toInt = -7 := rfl
      omega
  · have e : sgP B p = -2 ∨ sgP B p = -3 ∨ sgP B p = -4 ∨ sgP B p = -5 ∨ sgP B p = -6 := by
      unfold sgP at h ⊢
      rw [if_neg g] at h ⊢
      by_cases a1 : wdB B p wRule = true
      · rw [if_pos a1]
        exact Or.inl rfl
      rw [if_neg a1] at h ⊢
      by_cases a2 : wdB B p wPlace = true
      · rw [if_pos a2]
        exact Or.inr (Or.inl rfl)
      rw [if_neg a2] at h ⊢
      by_cases a3 : wdB B p wLong = true
      · rw [if_pos a3]
        exact Or.inr (Or.inr (Or.inl rfl))
      rw [if_neg a3] at h ⊢
      by_cases a4 : wdB B p wBehind = true
      · rw [if_pos a4]
        exact Or.inr (Or.inr (Or.inr (Or.inl rfl)))
      rw [if_neg a4] at h ⊢
      by_cases a5 : wdB B p wYear = true
      · rw [if_pos a5]
        exact Or.inr (Or.inr (Or.inr (Or.inr rfl)))
      rw [if_neg a5] at h
      exact absurd rfl h
    rcases e with e | e | e | e | e <;> rw [e] <;> decide
/-- a reader goes on, with no more signs than bytes -/
def Gr (B : List Nat) (A : Nat → Lv) : Prop := ∀ p q, p ≤ B.length → A p = .inr q → p + q.2.length ≤ q.1 ∧ q.1 ≤ B.length
/-- what a reader leaves on a stack of at most so many -/
def Tyd (A : Nat → Lv) (ty : Bool) (b : Nat) : Prop := ∀ p q t, A p = .inr q → t.length ≤ b → q.2.foldl tyS (some t) = some (ty :: t)
theorem gr_lvP {B : List Nat} : Gr B (lvP B) := fun p q hp h => by
  unfold lvP at h
  split at h
  · cases h
  · next g =>
    cases h
    exact ⟨tE_gt hp (sgP_k g), (tE_le hp).2⟩
theorem ty_lvP {B : List Nat} (hB : ∀ i, i < B.length → B.getD i 0 < 256) : Tyd (lvP B) false 16 := fun p q t h hl => by
  unfold lvP at h
  split at h
  · cases h
  · next g =>
    cases h
    have := sgP_ty hB g
    show tyS (some t) (sgP B p) = _
    unfold tyS
    simp only [this.1, if_true]
    rw [if_pos (by omega), decide_eq_false this.2]
theorem gr_lvL {B : List Nat} {A : Nat → Lv} {c : Nat → Bool} {s : Int32} (hA : Gr B A) (hc : ∀ p, p ≤ B.length → c p = true → p < tE B p) : ∀ f p l q k, p ≤ B.length → k + l.length ≤ p → lvL B A c s f p l = .inr q → k + q.2.length ≤ q.1 ∧ q.1 ≤ B.length
  | 0, p, l, q, k, hp, hk, h => by
    cases h
    exact ⟨hk, hp⟩
  | f + 1, p, l, q, k, hp, hk, h => by
    unfold lvL at h
    by_cases hcp : c p = true
    · rw [if_pos hcp] at h
      have h1 := hc p hp hcp
      cases e : A (tE B p) with
      | inl z =>
        rw [e] at h
        cases h
      | inr r =>
        rw [e] at h
        have h2 := hA _ r (tE_le hp).2 e
        refine gr_lvL hA hc f r.1 _ q k h2.2 ?_ h
        rw [List.length_append, List.length_append]
        show k + (l.length + r.2.length + 1) ≤ r.1
        omega
    · rw [if_neg hcp] at h
      cases h
      exact ⟨hk, hp⟩
theorem gr_lvS {B : List Nat} {A : Nat → Lv} {c : Nat → Bool} {s : Int32} (hA : Gr B A) (hc : ∀ p, p ≤ B.length → c p = true → p < tE B p) : Gr B (lvS B A c s) := fun p q hp h => by
  unfold lvS at h
  cases e : A p with
  | inl z =>
    rw [e] at h
    cases h
  | inr r =>
    rw [e] at h
    have h2 := hA _ r hp e
    exact gr_lvL hA hc _ r.1 _ q p h2.2 h2.1 h
theorem ty_lvL {B : List Nat} {A : Nat → Lv} {c : Nat → Bool} {s : Int32} {ty : Bool} {b : Nat} (hA : Tyd A ty (b + 1)) (hs : ∀ t, tyS (some (ty :: ty :: t)) s = some (ty :: t)) : ∀ f p l q t, t.length ≤ b → l.foldl tyS (some t) = some (ty :: t) → lvL B A c s f p l = .inr q → q.2.foldl tyS (some t) = some (ty :: t)
  | 0, p, l, q, t, _, hl, h => by
    cases h
    exact hl
  | f + 1, p, l, q, t, ht, hl, h => by
    unfold lvL at h
    by_cases hcp : c p = true
    · rw [if_pos hcp] at h
      cases e : A (tE B p) with
      | inl z =>
        rw [e] at h
        cases h
      | inr r =>
        rw [e] at h
        refine ty_lvL hA hs f r.1 _ q t ht ?_ h
        rw [List.foldl_append, List.foldl_append, hl, hA _ r (ty :: t) e (by show t.length + 1 ≤ b + 1; omega)]
        exact hs t
    · rw [if_neg hcp] at h
      cases h
      exact hl
theorem ty_lvS {B : List Nat} {A : Nat → Lv} {c : Nat → Bool} {s : Int32} {ty : Bool} {b : Nat} (hA : Tyd A ty (b + 1)) (hs : ∀ t, tyS (some (ty :: ty :: t)) s = some (ty :: t)) : Tyd (lvS B A c s) ty b := fun p q t h ht => by
  unfold lvS at h
  cases e : A p with
  | inl z =>
    rw [e] at h
    cases h
  | inr r =>
    rw [e] at h
    exact ty_lvL hA hs _ r.1 _ q t ht (hA _ r t e (by omega)) h
theorem cPl_gt {B : List Nat} : ∀ p, p ≤ B.length → cPl B p = true → p < tE B p := fun p hp h => tE_gt hp (by
  have e : tK B p = nI 43 := of_decide_eq_true h
  rw [e]
  decide)
theorem gr_lvSum {B : List Nat} : Gr B (lvSum B) := gr_lvS gr_lvP cPl_gt
theorem ty_lvSum {B : List Nat} (hB : ∀ i, i < B.length → B.getD i 0 < 256) : Tyd (lvSum B) false 15 := ty_lvS (ty_lvP hB) (fun t => rfl)
theorem gr_lvT {B : List Nat} : Gr B (lvT B) := fun p q hp h => by
  unfold lvT at h
  split at h
  · next g =>
    cases h
    exact ⟨wd_gt hp g, (tE_le hp).2⟩
  · unfold lvC at h
    cases e : lvSum B p with
    | inl z =>
      rw [e] at h
      cases h
    | inr r =>
      rw [e] at h
      replace h : (if tK B r.1 = nI 60 ∨ tK B r.1 = nI 62 then (match lvSum B (tE B r.1) with | .inl e => .inl e | .inr v => .inr (v.1, r.2 ++ v.2 ++ [if tK B r.1 = nI 60 then -11 else -12])) else .inl (tS B r.1) : Lv) = .inr q := h
      have h2 := gr_lvSum _ r hp e
      split at h
      · next g =>
        have h3 := tE_gt h2.2 (by rcases g with g | g <;> rw [g] <;> decide)
        cases e2 : lvSum B (tE B r.1) with
        | inl z =>
          rw [e2] at h
          cases h
        | inr v =>
          rw [e2] at h
          cases h
          have h4 := gr_lvSum _ v (tE_le h2.2).2 e2
          refine ⟨?_, h4.2⟩
          show p + (r.2 ++ v.2 ++ _).length ≤ v.1
          rw [List.length_append, List.length_append]
          show p + (r.2.length + v.2.length + 1) ≤ v.1
          omega
      · cases h
theorem ty_lvT {B : List Nat} (hB : ∀ i, i < B.length → B.getD i 0 < 256) : Tyd (lvT B) true 14 := fun p q t h ht => by
  unfold lvT at h
  split at h
  · cases h
    show tyS (some t) (-7) = _
    unfold tyS
    simp only [show (-8 : Int32) < -7 by decide, if_true]
    rw [if_pos (by omega)]
    rfl
  · unfold lvC at h
    cases e : lvSum B p with
    | inl z =>
      rw [e] at h
      cases h
    | inr r =>
      rw [e] at h
      replace h : (if tK B r.1 = nI 60 ∨ tK B r.1 = nI 62 then (match lvSum B (tE B r.1) with | .inl e => .inl e | .inr v => .inr (v.1, r.2 ++ v.2 ++ [if tK B r.1 = nI 60 then -11 else -12])) else .inl (tS B r.1) : Lv) = .inr q := h
      split at h
      · cases e2 : lvSum B (tE B r.1) with
        | inl z =>
          rw [e2] at h
          cases h
        | inr v =>
          rw [e2] at h
          cases h
          show (r.2 ++ v.2 ++ [_]).foldl tyS (some t) = _
          rw [List.foldl_append, List.foldl_append, ty_lvSum hB _ r t e (by omega), ty_lvSum hB _ v _ e2 (by show t.length + 1 ≤ 15; omega)]
          split <;> rfl
      · cases h
theorem gr_lvOr {B : List Nat} {A : Nat → Lv} (hA : Gr B A) : Gr B (lvOr B A) := gr_lvS (gr_lvS hA (fun p hp h => wd_gt hp h)) (fun p hp h => wd_gt hp h)
theorem ty_lvOr {B : List Nat} {A : Nat → Lv} {b : Nat} (hA : Tyd A true (b + 2)) : Tyd (lvOr B A) true b := ty_lvS (ty_lvS hA (fun t => rfl)) (fun t => rfl)
theorem gr_lvA {B : List Nat} : ∀ d, Gr B (lvA B d)
  | 0 => fun p q hp h => by
    unfold lvA at h
    split at h
    · cases h
    · exact gr_lvT p q hp h
  | d + 1 => fun p q hp h => by
    unfold lvA at h
    split at h
    · next g =>
      have h3 := wd_gt hp g
      cases e : lvA B d (tE B p) with
      | inl z =>
        rw [e] at h
        cases h
      | inr r =>
        rw [e] at h
        cases h
        have h2 := gr_lvA d _ r (tE_le hp).2 e
        refine ⟨?_, h2.2⟩
        show p + (r.2 ++ [_]).length ≤ r.1
        rw [List.length_append]
        show p + (r.2.length + 1) ≤ r.1
        omega
    · split at h
      · next g =>
        have h3 := tE_gt hp (by rw [g]; decide)
        cases e : lvOr B (lvA B d) (tE B p) with
        | inl z =>
          rw [e] at h
          cases h
        | inr r =>
          rw [e] at h
          replace h : (if tK B r.1 = nI 41 then .inr (tE B r.1, r.2) else .inl (tS B r.1) : Lv) = .inr q := h
          split at h
          · cases h
            have h2 := gr_lvOr (gr_lvA d) _ r (tE_le hp).2 e
            have h4 := tE_le h2.2
            have h5 := tS_le h2.2
            refine ⟨?_, h4.2⟩
            show p + r.2.length ≤ tE B r.1
            omega
          · cases h
      · exact gr_lvT p q hp h
theorem ty_lvA {B : List Nat} (hB : ∀ i, i < B.length → B.getD i 0 < 256) : ∀ d, d ≤ 6 → Tyd (lvA B d) true (14 - 2 * d)
  | 0, _ => fun p q t h ht => by
    unfold lvA at h
    split at h
    · cases h
    · exact ty_lvT hB p q t h (by omega)
  | d + 1, hd => fun p q t h ht => by
    unfold lvA at h
    split at h
    · cases e : lvA B d (tE B p) with
      | inl z =>
        rw [e] at h
        cases h
      | inr r =>
        rw [e] at h
        cases h
        show (r.2 ++ [_]).foldl tyS (some t) = _
        rw [List.foldl_append, ty_lvA hB d (by omega) _ r t e (by omega)]
        rfl
    · split at h
      · cases e : lvOr B (lvA B d) (tE B p) with
        | inl z =>
          rw [e] at h
          cases h
        | inr r =>
          rw [e] at h
          replace h : (if tK B r.1 = nI 41 then .inr (tE B r.1, r.2) else .inl (tS B r.1) : Lv) = .inr q := h
          split at h
          · cases h
            exact ty_lvOr (b := 14 - 2 * (d + 1)) (by rw [show 14 - 2 * (d + 1) + 2 = 14 - 2 * d by omega]; exact ty_lvA hB d (by omega)) _ r t e ht
          · cases h
      · exact ty_lvT hB p q t h (by omega)

