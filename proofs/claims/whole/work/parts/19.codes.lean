/-! MEADOWS as lists of numbers below 8, and their CODES -/
def vl (l : List Nat) : Nat := l.foldl (fun a d => 8 * a + d) 0
def cd (l : List Nat) : Nat := l.foldl (fun a d => 8 * a + d) 1
def okb (l : List Nat) : Prop := ∀ d ∈ l, d < 8
def Mw (l : List Nat) : Prop := l.length ≤ 20 ∧ okb l
theorem fold8 (l : List Nat) : ∀ a : Nat, l.foldl (fun a d => 8 * a + d) a = a * 8 ^ l.length + vl l := by
  induction l with
  | nil => intro a; simp [vl]
  | cons d t ih =>
    intro a
    have h1 := ih (8 * a + d)
    have h2 := ih (8 * 0 + d)
    show t.foldl _ (8 * a + d) = _
    have h3 : vl (d :: t) = t.foldl (fun a d => 8 * a + d) (8 * 0 + d) := rfl
    rw [h1, h3, h2, List.length_cons, Nat.pow_succ]
    have e : (8 * a + d) * 8 ^ t.length = a * (8 ^ t.length * 8) + d * 8 ^ t.length := by
      rw [Nat.add_mul, Nat.mul_comm 8 a, Nat.mul_assoc, Nat.mul_comm 8 (8 ^ t.length)]
    rw [e]
    simp [Nat.add_assoc]
theorem cd_eq (l : List Nat) : cd l = 8 ^ l.length + vl l := by
  have := fold8 l 1
  rw [Nat.one_mul] at this
  exact this
theorem vl_app (a b : List Nat) : vl (a ++ b) = vl a * 8 ^ b.length + vl b := by
  unfold vl
  rw [List.foldl_append]
  exact fold8 b _
theorem cd_app (a b : List Nat) : cd (a ++ b) = cd a * 8 ^ b.length + vl b := by
  unfold cd
  rw [List.foldl_append]
  exact fold8 b _
theorem vl_cons (d : Nat) (t : List Nat) : vl (d :: t) = d * 8 ^ t.length + vl t := by
  have := vl_app [d] t
  simpa [vl] using this
theorem okb_nil : okb [] := fun _ h => nomatch h
theorem okb_app {a b : List Nat} : okb (a ++ b) ↔ okb a ∧ okb b :=
  ⟨fun h => ⟨fun d hd => h d (List.mem_append_left _ hd), fun d hd => h d (List.mem_append_right _ hd)⟩, fun h d hd => (List.mem_append.mp hd).elim (h.1 d) (h.2 d)⟩
theorem okb_take {a : List Nat} {n : Nat} (h : okb a) : okb (a.take n) := fun d hd => h d (List.mem_of_mem_take hd)
theorem okb_drop {a : List Nat} {n : Nat} (h : okb a) : okb (a.drop n) := fun d hd => h d (List.mem_of_mem_drop hd)
theorem vl_lt {l : List Nat} (h : okb l) : vl l < 8 ^ l.length := by
  induction l with
  | nil => simp [vl]
  | cons d t ih =>
    rw [vl_cons, List.length_cons, Nat.pow_succ]
    have h1 := ih (fun x hx => h x (List.mem_cons_of_mem _ hx))
    have h2 := h d List.mem_cons_self
    have h3 : d * 8 ^ t.length ≤ 7 * 8 ^ t.length := Nat.mul_le_mul_right _ (by omega)
    omega
theorem cd_lo (l : List Nat) : 8 ^ l.length ≤ cd l := by rw [cd_eq]; omega
theorem cd_hi {l : List Nat} (h : okb l) : cd l < 2 * 8 ^ l.length := by
  have := vl_lt h
  rw [cd_eq]; omega
theorem cd_pos (l : List Nat) : 0 < cd l := Nat.lt_of_lt_of_le (Nat.pow_pos (by decide)) (cd_lo l)
theorem cd_div {l : List Nat} (h : okb l) {k : Nat} (hk : k ≤ l.length) : cd l / 8 ^ k = cd (l.take (l.length - k)) := by
  have e : cd l = cd (l.take (l.length - k)) * 8 ^ k + vl (l.drop (l.length - k)) := by
    have := cd_app (l.take (l.length - k)) (l.drop (l.length - k))
    rw [List.take_append_drop] at this
    rw [this, List.length_drop]
    congr 2
    congr 1
    omega
  have h2 : vl (l.drop (l.length - k)) < 8 ^ k := by
    have := vl_lt (okb_drop (n := l.length - k) h)
    rw [List.length_drop] at this
    have e2 : l.length - (l.length - k) = k := by omega
    rwa [e2] at this
  rw [e, Nat.mul_comm, Nat.mul_add_div (Nat.pow_pos (by decide)), Nat.div_eq_of_lt h2, Nat.add_zero]
theorem cd_mod {l : List Nat} (h : okb l) {k : Nat} (hk : k ≤ l.length) : cd l % 8 ^ k = vl (l.drop (l.length - k)) := by
  have e : cd l = cd (l.take (l.length - k)) * 8 ^ k + vl (l.drop (l.length - k)) := by
    have := cd_app (l.take (l.length - k)) (l.drop (l.length - k))
    rw [List.take_append_drop] at this
    rw [this, List.length_drop]
    congr 2
    congr 1
    omega
  have h2 : vl (l.drop (l.length - k)) < 8 ^ k := by
    have := vl_lt (okb_drop (n := l.length - k) h)
    rw [List.length_drop] at this
    have e2 : l.length - (l.length - k) = k := by omega
    rwa [e2] at this
  rw [e, Nat.mul_comm, Nat.mul_add_mod, Nat.mod_eq_of_lt h2]
theorem cd_dig {l : List Nat} (h : okb l) {i : Nat} (hi : i < l.length) : cd l / 8 ^ (l.length - 1 - i) % 8 = l[i] := by
  rw [cd_div h (by omega), show l.length - (l.length - 1 - i) = i + 1 by omega]
  have h1 := cd_mod (okb_take (n := i + 1) h) (k := 1) (by rw [List.length_take]; omega)
  rw [Nat.pow_one] at h1
  rw [h1, List.length_take, show min (i + 1) l.length - 1 = i by omega]
  have e : (l.take (i + 1)).drop i = [l[i]] := by
    rw [List.drop_take, show i + 1 - i = 1 by omega, List.drop_eq_getElem_cons hi]
    rfl
  rw [e]
  simp [vl]
theorem pow8_inj {a b x : Nat} (h1 : 8 ^ a ≤ x) (h2 : x < 2 * 8 ^ a) (h3 : 8 ^ b ≤ x) (h4 : x < 2 * 8 ^ b) : a = b := by
  rcases Nat.lt_trichotomy a b with h | h | h
  · have : 8 ^ (a + 1) ≤ 8 ^ b := Nat.pow_le_pow_right (by decide) h
    rw [Nat.pow_succ] at this
    omega
  · exact h
  · have : 8 ^ (b + 1) ≤ 8 ^ a := Nat.pow_le_pow_right (by decide) h
    rw [Nat.pow_succ] at this
    omega
theorem cd_len {a b : List Nat} (ha : okb a) (hb : okb b) (h : cd a = cd b) : a.length = b.length :=
  pow8_inj (cd_lo a) (cd_hi ha) (by rw [h]; exact cd_lo b) (by rw [h]; exact cd_hi hb)
theorem cd_inj {a b : List Nat} (ha : okb a) (hb : okb b) (h : cd a = cd b) : a = b := by
  have hl := cd_len ha hb h
  apply List.ext_getElem hl
  intro i h1 h2
  rw [← cd_dig ha h1, ← cd_dig hb h2, h, hl]
theorem vl_inj {a b : List Nat} (ha : okb a) (hb : okb b) (hl : a.length = b.length) (h : vl a = vl b) : a = b :=
  cd_inj ha hb (by rw [cd_eq, cd_eq, hl, h])
theorem cd_lt {l : List Nat} (h : Mw l) : cd l < 2 ^ 61 := by
  have h1 := cd_hi h.2
  have h2 : 8 ^ l.length ≤ 8 ^ 20 := Nat.pow_le_pow_right (by decide) h.1
  have h3 : (8 : Nat) ^ 20 = 2 ^ 60 := by decide
  omega
theorem cd_ex : ∀ (n c : Nat), 8 ^ n ≤ c → c < 2 * 8 ^ n → ∃ l, okb l ∧ l.length = n ∧ cd l = c
  | 0, c, h1, h2 => ⟨[], okb_nil, rfl, by simp [cd]; omega⟩
  | n + 1, c, h1, h2 => by
    rw [Nat.pow_succ] at h1 h2
    obtain ⟨l, hl, hn, hc⟩ := cd_ex n (c / 8) (by omega) (by omega)
    refine ⟨l ++ [c % 8], okb_app.mpr ⟨hl, fun d hd => by rw [List.mem_singleton.mp hd]; omega⟩, by simp [hn], ?_⟩
    rw [cd_app, hc]
    simp [vl]
    omega
theorem p8 (k : Nat) : 2 ^ (3 * k) = 8 ^ k := by rw [Nat.pow_mul]
/-- how many beasts, as the system counts them -/
def szF (c : Nat) : Nat → Nat → Nat
  | 0, k => k
  | f + 1, k => if c / 2 ^ (3 * k + 3) = 0 then k else szF c f (k + 1)
def sz (c : Nat) : Nat := szF c 20 0
theorem szF_le (c : Nat) : ∀ f k, k ≤ szF c f k ∧ szF c f k ≤ k + f
  | 0, k => ⟨Nat.le_refl _, Nat.le_refl _⟩
  | f + 1, k => by
    unfold szF
    have := szF_le c f (k + 1)
    split <;> omega
theorem szF_eq {c n : Nat} (h1 : 8 ^ n ≤ c) (h2 : c < 8 ^ (n + 1)) : ∀ f k, k ≤ n → n ≤ k + f → szF c f k = n
  | 0, k, a, b => by unfold szF; omega
  | f + 1, k, a, b => by
    unfold szF
    have e : 2 ^ (3 * k + 3) = 8 ^ (k + 1) := by rw [show 3 * k + 3 = 3 * (k + 1) by omega, p8]
    rw [e]
    by_cases hk : k = n
    · subst hk
      rw [if_pos (Nat.div_eq_of_lt h2)]
    · have h3 : 8 ^ (k + 1) ≤ 8 ^ n := Nat.pow_le_pow_right (by decide) (by omega)
      have h4 : 0 < c / 8 ^ (k + 1) := Nat.div_pos (Nat.le_trans h3 h1) (Nat.pow_pos (by decide))
      rw [if_neg (by omega)]
      exact szF_eq h1 h2 f (k + 1) (by omega) (by omega)
theorem sz_cd {l : List Nat} (h : Mw l) : sz (cd l) = l.length := by
  have h1 := cd_hi h.2
  exact szF_eq (cd_lo l) (by rw [Nat.pow_succ]; omega) 20 0 (Nat.zero_le _) (by have := h.1; omega)
/-- a number is a CODE -/
def isCd (c : Nat) : Prop := ∃ l, Mw l ∧ cd l = c
theorem isCd_iff {c : Nat} : isCd c ↔ c < 2 ^ 61 ∧ c / 2 ^ (3 * sz c) = 1 := by
  constructor
  · rintro ⟨l, hl, rfl⟩
    refine ⟨cd_lt hl, ?_⟩
    rw [sz_cd hl, p8, cd_div hl.2 (Nat.le_refl _), Nat.sub_self]
    rfl
  · rintro ⟨h1, h2⟩
    have hs : sz c ≤ 20 := by have := (szF_le c 20 0).2; unfold sz; omega
    rw [p8] at h2
    have hp : 0 < 8 ^ sz c := Nat.pow_pos (by decide)
    have h3 := Nat.div_add_mod c (8 ^ sz c)
    have h4 := Nat.mod_lt c hp
    rw [h2, Nat.mul_one] at h3
    obtain ⟨l, a, b, e⟩ := cd_ex (sz c) c (by omega) (by omega)
    exact ⟨l, ⟨by omega, a⟩, e⟩
