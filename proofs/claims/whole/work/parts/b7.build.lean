/-! what is made: the memory as it grows -/
/-- the object k is being made: its row, the row of an array a of it (a = k: none), its ints; all else that is new has its row -/
def Bd (k a n : Nat) (row arow : Nat → Nat) (irow : Nat → Int32) (S m : SMem) : Prop :=
  (m.1 = n ∧ k < n) ∧ (∀ i, i < k → m.2.1 i = S.2.1 i ∧ m.2.2.1 i = S.2.2.1 i) ∧ (m.2.1 k = row ∧ m.2.2.1 k = irow) ∧ (∀ i, k < i → i < n → i ≠ a → m.2.1 i = R0 i) ∧ (k < a → a < n ∧ m.2.1 a = arow) ∧ (∀ i, n ≤ i → m.2.1 i = S.2.1 i)
/-- made: rows k to n' are as they are to be -/
def Cp (k n' : Nat) (S m : SMem) (P : (Nat → Nat → Int32) → Prop) : Prop := m.1 = n' ∧ (∀ i, i < k → m.2.1 i = S.2.1 i ∧ m.2.2.1 i = S.2.2.1 i) ∧ (∀ i, k ≤ i → i < n' → m.2.1 i = R0 i) ∧ (∀ i, n' ≤ i → m.2.1 i = S.2.1 i) ∧ P m.2.2.1
def Ci (k n' : Nat) (S : SMem) (P : (Nat → Nat → Int32) → Prop) : Out → SMem → Prop := fun o m => o = .inl none ∧ Cp k n' S m P
abbrev z0 : Nat → Nat := fun _ => 0
abbrev zi : Nat → Int32 := fun _ => 0
abbrev upr {α : Type} (row : Nat → α) (j : Nat) (v : α) : Nat → α := fun b => if b = j then v else row b
theorem R0_arr {k t N : Nat} (h : KT k = (t, N)) (ht : t = 1 ∨ t = 2 ∨ t = 3) : R0 k = z0 := by
  funext j
  show rt (KT k) k j = 0
  rw [h]
  rcases ht with rfl | rfl | rfl <;> rfl
theorem Bd.start {k : Nat} {μ : SMem} (h1 : μ.1 = k + 1) (h2 : μ.2.1 k = z0) (h3 : μ.2.2.1 k = zi) : Bd k k (k + 1) z0 z0 zi μ μ :=
  ⟨⟨h1, Nat.lt_succ_self k⟩, fun i _ => ⟨rfl, rfl⟩, ⟨h2, h3⟩, fun i h1 h2 => absurd h2 (by omega), fun h => absurd h (Nat.lt_irrefl k), fun i _ => rfl⟩
theorem new_r {μ : SMem} {i : Nat} (h : i ≠ μ.1) : (mNew μ).2.1 i = μ.2.1 i := zr_ne h
theorem new_i {μ : SMem} {i : Nat} (h : i ≠ μ.1) : (mNew μ).2.2.1 i = μ.2.2.1 i := zr_ne h
theorem Bd.newp {k a n : Nat} {row arow : Nat → Nat} {irow : Nat → Int32} {S μ : SMem} (b : Bd k a n row arow irow S μ) (hR : R0 n = z0) : Bd k a (n + 1) row arow irow S (mNew μ) := by
  obtain ⟨⟨h1, h2⟩, h3, ⟨h4, h5⟩, h6, h7, h8⟩ := b
  refine ⟨⟨by show μ.1 + 1 = n + 1; rw [h1], by omega⟩, fun i hi => ⟨(new_r (by omega)).trans (h3 i hi).1, (new_i (by omega)).trans (h3 i hi).2⟩, ⟨(new_r (by omega)).trans h4, (new_i (by omega)).trans h5⟩, fun i g1 g2 g3 => ?_, fun h => ⟨by have := (h7 h).1; omega, (new_r (by have := (h7 h).1; omega)).trans (h7 h).2⟩, fun i hi => (new_r (by omega)).trans (h8 i (by omega))⟩
  by_cases e : i = n
  · rw [e, hR, ← h1]
    exact zr_eq
  · exact (new_r (by omega)).trans (h6 i g1 (by omega) g3)
theorem Bd.newr {k n : Nat} {row arow : Nat → Nat} {irow : Nat → Int32} {S μ : SMem} (b : Bd k k n row arow irow S μ) : Bd k n (n + 1) row z0 irow S (mNew μ) := by
  obtain ⟨⟨h1, h2⟩, h3, ⟨h4, h5⟩, h6, h7, h8⟩ := b
  exact ⟨⟨by show μ.1 + 1 = n + 1; rw [h1], by omega⟩, fun i hi => ⟨(new_r (by omega)).trans (h3 i hi).1, (new_i (by omega)).trans (h3 i hi).2⟩, ⟨(new_r (by omega)).trans h4, (new_i (by omega)).trans h5⟩, fun i g1 g2 g3 => (new_r (by omega)).trans (h6 i g1 (by omega) (by omega)), fun h => ⟨Nat.lt_succ_self n, by rw [← h1]; exact zr_eq⟩, fun i hi => (new_r (by omega)).trans (h8 i (by omega))⟩
theorem Bd.putR {k a n j v : Nat} {row arow : Nat → Nat} {irow : Nat → Int32} {S μ : SMem} (b : Bd k a n row arow irow S μ) : Bd k a n (upr row j v) arow irow S (mR μ k j v) := by
  obtain ⟨⟨h1, h2⟩, h3, ⟨h4, h5⟩, h6, h7, h8⟩ := b
  refine ⟨⟨h1, h2⟩, fun i hi => ⟨(up2_ne (by omega)).trans (h3 i hi).1, (h3 i hi).2⟩, ⟨?_, h5⟩, fun i g1 g2 g3 => (up2_ne (by omega)).trans (h6 i g1 g2 g3), fun h => ⟨(h7 h).1, (up2_ne (by omega)).trans (h7 h).2⟩, fun i hi => (up2_ne (by omega)).trans (h8 i hi)⟩
  show up2 μ.2.1 k j v k = _
  rw [up2_row, h4]
theorem Bd.putI {k a n j : Nat} {v : Int32} {row arow : Nat → Nat} {irow : Nat → Int32} {S μ : SMem} (b : Bd k a n row arow irow S μ) : Bd k a n row arow (upr irow j v) S (mI μ k j v) := by
  obtain ⟨⟨h1, h2⟩, h3, ⟨h4, h5⟩, h6, h7, h8⟩ := b
  refine ⟨⟨h1, h2⟩, fun i hi => ⟨(h3 i hi).1, (up2_ne (by omega)).trans (h3 i hi).2⟩, ⟨h4, ?_⟩, h6, h7, h8⟩
  show up2 μ.2.2.1 k j v k = _
  rw [up2_row, h5]
theorem Bd.putL {k a n j : Nat} {v : Int64} {row arow : Nat → Nat} {irow : Nat → Int32} {S μ : SMem} (b : Bd k a n row arow irow S μ) : Bd k a n row arow irow S (mL μ k j v) := b
theorem Bd.ast {k a n j v : Nat} {row arow : Nat → Nat} {irow : Nat → Int32} {S μ : SMem} (b : Bd k a n row arow irow S μ) (ha : k < a) : Bd k a n row (upr arow j v) irow S (mR μ a j v) := by
  obtain ⟨⟨h1, h2⟩, h3, ⟨h4, h5⟩, h6, h7, h8⟩ := b
  have h9 := h7 ha
  refine ⟨⟨h1, h2⟩, fun i hi => ⟨(up2_ne (by omega)).trans (h3 i hi).1, (h3 i hi).2⟩, ⟨(up2_ne (by omega)).trans h4, h5⟩, fun i g1 g2 g3 => (up2_ne g3).trans (h6 i g1 g2 g3), fun h => ⟨h9.1, ?_⟩, fun i hi => (up2_ne (by omega)).trans (h8 i hi)⟩
  show up2 μ.2.1 a j v a = _
  rw [up2_row, h9.2]
theorem Bd.ist {k a n c j : Nat} {v : Int32} {row arow : Nat → Nat} {irow : Nat → Int32} {S μ : SMem} (b : Bd k a n row arow irow S μ) (hc : k < c) : Bd k a n row arow irow S (mI μ c j v) := by
  obtain ⟨⟨h1, h2⟩, h3, ⟨h4, h5⟩, h6, h7, h8⟩ := b
  exact ⟨⟨h1, h2⟩, fun i hi => ⟨(h3 i hi).1, (up2_ne (by omega)).trans (h3 i hi).2⟩, ⟨h4, (up2_ne (by omega)).trans h5⟩, h6, h7, h8⟩
theorem Bd.call {k a n n' : Nat} {row arow : Nat → Nat} {irow : Nat → Int32} {S μ m : SMem} {P : (Nat → Nat → Int32) → Prop} (b : Bd k a n row arow irow S μ) (c : Cp n n' (mNew μ) m P) (hn : n < n') : Bd k a n' row arow irow S m := by
  obtain ⟨⟨h1, h2⟩, h3, ⟨h4, h5⟩, h6, h7, h8⟩ := b
  obtain ⟨c1, c2, c3, c4, c5⟩ := c
  have e : ∀ i, i < n → m.2.1 i = μ.2.1 i ∧ m.2.2.1 i = μ.2.2.1 i := fun i hi => ⟨(c2 i hi).1.trans (new_r (by omega)), (c2 i hi).2.trans (new_i (by omega))⟩
  refine ⟨⟨c1, by omega⟩, fun i hi => ⟨(e i (by omega)).1.trans (h3 i hi).1, (e i (by omega)).2.trans (h3 i hi).2⟩, ⟨(e k h2).1.trans h4, (e k h2).2.trans h5⟩, fun i g1 g2 g3 => ?_, fun h => ⟨by have := (h7 h).1; omega, (e a (h7 h).1).1.trans (h7 h).2⟩, fun i hi => (c4 i hi).trans ((new_r (by omega)).trans (h8 i (by omega)))⟩
  by_cases g : i < n
  · exact (e i g).1.trans (h6 i g1 g g3)
  · exact c3 i (by omega) g2
theorem Bd.done {k a n : Nat} {row arow : Nat → Nat} {irow : Nat → Int32} {S μ : SMem} {P : (Nat → Nat → Int32) → Prop} (b : Bd k a n row arow irow S μ) (hr : R0 k = row) (ha : k < a → R0 a = arow) (hP : P μ.2.2.1) : Cp k n S μ P := by
  obtain ⟨⟨h1, h2⟩, h3, ⟨h4, h5⟩, h6, h7, h8⟩ := b
  refine ⟨h1, h3, fun i g1 g2 => ?_, h8, hP⟩
  by_cases e : i = k
  · rw [e, h4, hr]
  · by_cases e2 : i = a
    · rw [e2, (h7 (by omega)).2, ha (by omega)]
    · exact h6 i (by omega) g2 e2
theorem Bd.n {k a n : Nat} {row arow : Nat → Nat} {irow : Nat → Int32} {S μ : SMem} (b : Bd k a n row arow irow S μ) : μ.1 = n := b.1.1
theorem Bd.r {k a n : Nat} {row arow : Nat → Nat} {irow : Nat → Int32} {S μ : SMem} (b : Bd k a n row arow irow S μ) : μ.2.1 k = row := b.2.2.1.1
theorem Bd.i {k a n : Nat} {row arow : Nat → Nat} {irow : Nat → Int32} {S μ : SMem} (b : Bd k a n row arow irow S μ) : μ.2.2.1 k = irow := b.2.2.1.2
theorem Cp.lo {k n' : Nat} {μ m : SMem} {P : (Nat → Nat → Int32) → Prop} (c : Cp k n' (mNew μ) m P) (hk : μ.1 = k) {i : Nat} (hi : i < k) : m.2.2.1 i = μ.2.2.1 i := (c.2.1 i hi).2.trans (new_i (by omega))

