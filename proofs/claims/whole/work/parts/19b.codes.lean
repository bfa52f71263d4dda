/-! more of CODES: masks, joins, what stands where -/
theorem and_mask (x n : Nat) : x &&& (8 ^ n - 1) = x % 8 ^ n := by
  rw [← p8]
  exact Nat.and_two_pow_sub_one_eq_mod x (3 * n)
theorem or_add {b n : Nat} (a : Nat) (h : b < 8 ^ n) : a * 8 ^ n ||| b = a * 8 ^ n + b := by
  rw [← p8] at h ⊢
  rw [Nat.mul_comm]
  exact (Nat.two_pow_add_eq_or_of_lt h a).symm
theorem xor_z {x y : Nat} : x ^^^ y = 0 ↔ x = y := by
  constructor
  · intro h
    have h1 : (x ^^^ y) ^^^ y = 0 ^^^ y := by rw [h]
    rwa [Nat.xor_assoc, Nat.xor_self, Nat.xor_zero, Nat.zero_xor] at h1
  · rintro rfl
    exact Nat.xor_self _
theorem xor_mask {x y n : Nat} : (x ^^^ y) &&& (8 ^ n - 1) = 0 ↔ x % 8 ^ n = y % 8 ^ n := by
  rw [and_mask, ← p8, Nat.xor_mod_two_pow, xor_z]
theorem take_s {α : Type} {l : List α} {i : Nat} (z : α) (h : i < l.length) : l.take (i + 1) = l.take i ++ [l.getD i z] := by
  rw [List.take_succ, List.getElem?_eq_getElem h, List.getD_eq_getElem?_getD, List.getElem?_eq_getElem h]
  rfl
theorem drop_s {α : Type} {l : List α} {i : Nat} (z : α) (h : i < l.length) : l.drop i = l.getD i z :: l.drop (i + 1) := by
  rw [List.drop_eq_getElem_cons h, List.getD_eq_getElem?_getD, List.getElem?_eq_getElem h]
  rfl
theorem getD_lt {l : List Nat} (h : okb l) (i : Nat) : l.getD i 0 < 8 := by
  rw [List.getD_eq_getElem?_getD]
  by_cases hi : i < l.length
  · rw [List.getElem?_eq_getElem hi]
    exact h _ (List.getElem_mem hi)
  · rw [List.getElem?_eq_none (by omega)]
    decide
theorem cd_digD {l : List Nat} (h : okb l) {i : Nat} (hi : i < l.length) : cd l / 8 ^ (l.length - 1 - i) % 8 = l.getD i 0 := by
  rw [cd_dig h hi, List.getD_eq_getElem?_getD, List.getElem?_eq_getElem hi]
  rfl
/-- the beasts of a meadow, as bits -/
def kd (l : List Nat) : Nat := l.foldl (fun a d => a ||| 2 ^ d) 0
theorem kd_snoc (l : List Nat) (d : Nat) : kd (l ++ [d]) = kd l ||| 2 ^ d := by
  unfold kd
  rw [List.foldl_append]
  rfl
theorem kd_lt {l : List Nat} (h : okb l) : kd l < 2 ^ 8 := by
  have key : ∀ (l : List Nat) (a : Nat), okb l → a < 2 ^ 8 → l.foldl (fun a d => a ||| 2 ^ d) a < 2 ^ 8 := by
    intro l
    induction l with
    | nil => intro a _ h; exact h
    | cons d t ih =>
      intro a ho ha
      refine ih _ (fun x hx => ho x (List.mem_cons_of_mem _ hx)) (Nat.or_lt_two_pow ha ?_)
      exact Nat.pow_lt_pow_right (by decide) (ho d List.mem_cons_self)
  exact key l 0 h (by decide)
theorem cd_snoc (l : List Nat) (d : Nat) : cd (l ++ [d]) = cd l * 8 + d := by
  rw [cd_app]
  simp [vl]
/-- a row of beasts stands in a meadow at a place -/
def stB (l : List Nat) (p : Nat) (L : List Nat) : Bool := decide (p < l.length) && (decide (L.length ≤ l.length - p) && decide ((l.drop p).take L.length = L))
/-- what a meadow becomes, L for R at a place -/
def usd (l : List Nat) (p : Nat) (L R : List Nat) : List Nat := l.take p ++ R ++ l.drop (p + L.length)
theorem stB_code {l L : List Nat} (hl : okb l) (hL : okb L) {p : Nat} (hp : p < l.length) (hn : L.length ≤ l.length - p) : (cd l / 8 ^ (l.length - p - L.length) ^^^ cd L) &&& (8 ^ L.length - 1) = 0 ↔ (l.drop p).take L.length = L := by
  rw [xor_mask, cd_div hl (by omega), show l.length - (l.length - p - L.length) = p + L.length by omega]
  have h1 := cd_mod (okb_take (n := p + L.length) hl) (k := L.length) (by rw [List.length_take]; omega)
  have h2 := cd_mod hL (Nat.le_refl L.length)
  rw [h1, h2, Nat.sub_self, List.drop_zero, List.length_take, show min (p + L.length) l.length - L.length = p by omega]
  have e : (l.take (p + L.length)).drop p = (l.drop p).take L.length := by
    rw [List.drop_take, show p + L.length - p = L.length by omega]
  rw [e]
  constructor
  · intro h
    exact vl_inj (okb_take (okb_drop hl)) hL (by rw [List.length_take, List.length_drop]; omega) h
  · intro h
    rw [h]
theorem usd_ok {l L R : List Nat} {p : Nat} (hl : okb l) (hR : okb R) : okb (usd l p L R) := okb_app.mpr ⟨okb_app.mpr ⟨okb_take hl, hR⟩, okb_drop hl⟩
theorem usd_len {l L R : List Nat} {p : Nat} (h : p + L.length ≤ l.length) : (usd l p L R).length + L.length = l.length + R.length := by
  unfold usd
  rw [List.length_append, List.length_append, List.length_take, List.length_drop]
  omega
theorem nI8 {n : Nat} (h : n ≤ 20) : 8 ^ n ≤ 2 ^ 60 := by
  have : 8 ^ n ≤ 8 ^ 20 := Nat.pow_le_pow_right (by decide) h
  have h3 : (8 : Nat) ^ 20 = 2 ^ 60 := by decide
  omega
/-- a CODE, of any number -/
def codeB (x : Int64) : Bool := decide (0 < x) && (decide (x.toInt.toNat < 2 ^ 61) && decide (x.toInt.toNat / 2 ^ (3 * sz x.toInt.toNat) = 1))
theorem l_of_pos {x : Int64} (h : 0 < x) : ∃ c, 0 < c ∧ c < 2 ^ 63 ∧ x = lN c ∧ x.toInt.toNat = c := by
  rw [fa_lt64] at h
  have h0 : (0 : Int64).toInt = 0 := rfl
  rw [h0] at h
  have h1 := (fb_rngL x).2
  refine ⟨x.toInt.toNat, by omega, by omega, ?_, rfl⟩
  rw [fa_eq64, pk_lT (by omega)]
  omega
theorem codeB_iff {x : Int64} : codeB x = true ↔ ∃ l, Mw l ∧ x = lN (cd l) := by
  unfold codeB
  simp only [Bool.and_eq_true, decide_eq_true_eq]
  constructor
  · rintro ⟨h1, h2, h3⟩
    obtain ⟨c, -, -, h4, h5⟩ := l_of_pos h1
    rw [h5] at h2 h3
    obtain ⟨l, hl, e⟩ := isCd_iff.mpr ⟨h2, h3⟩
    exact ⟨l, hl, by rw [h4, e]⟩
  · rintro ⟨l, hl, rfl⟩
    have h1 := cd_lt hl
    have h2 := cd_pos l
    have h3 : (lN (cd l)).toInt.toNat = cd l := by rw [pk_lT (by omega)]; rfl
    rw [h3]
    refine ⟨?_, h1, (isCd_iff.mp ⟨l, hl, rfl⟩).2⟩
    rw [fa_lt64, pk_lT (by omega)]
    show (0 : Int) < _
    omega
