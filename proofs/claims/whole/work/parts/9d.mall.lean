/-! THE MODEL: all that lasts; image, back, undo, seed -/
abbrev Kp : Type := Option (Td × Int32 × List (List Int32))
def mdK (μ : SM2) (K : Kp) : Prop := μ.1 572 5 = bI K.isSome ∧ ∀ q, K = some q → mdT (μ.1 574) q.1 ∧ mdH (μ.1 574) q.2.1 q.2.2 ∧ ∀ ln ∈ q.2.2, wfl ln
/-- the TAPE, as bytes with a sign -/
def TapeAt (μ : SM2) (B : List Nat) : Prop := (μ.1 572 8 = nI B.length ∧ B.length ≤ 400) ∧ ∀ i, i < B.length → B.getD i 0 < 256 ∧ μ.1 577 i = (nI (B.getD i 0)).toInt8.toInt32
abbrev Sta : Type := Td × (Int32 × List (List Int32)) × List Td × Kp × List Nat × Int32
/-- all that lasts in the model: told, LAW, acts, IMAGE, TAPE, fault -/
def MAll (μ : SM2) (s : Sta) : Prop := mdT (μ.1 573) s.1 ∧ (mdH (μ.1 573) s.2.1.1 s.2.1.2 ∧ ∀ ln ∈ s.2.1.2, wfl ln) ∧ mdA μ s.2.2.1 ∧ mdK μ s.2.2.2.1 ∧ TapeAt μ s.2.2.2.2.1 ∧ μ.1 572 13 = s.2.2.2.2.2
def Smo (k : Nat) : Prop := 572 ≤ k ∧ k < 594
/-- behind a call of the model -/
def MO (μ m : SM2) (t : Nat) (s : Sta) : Prop := MAll m s ∧ m.1 572 0 = nI t ∧ OfS Smo μ m
theorem mdL.wk {g g' : Nat → Int32} {b : Nat} {LL : List (List Int32)} (h : mdL g b LL) (e : ∀ j, b ≤ j → g' j = g j) : mdL g' b LL :=
  ⟨h.1, fun n hn => ⟨(e _ (by omega)).trans (h.2.1 n hn).1, (e _ (by omega)).trans (h.2.1 n hn).2⟩, fun i hi => ⟨(e _ (by omega)).trans (h.2.2 i hi).1, (e _ (by omega)).trans (h.2.2 i hi).2⟩⟩
theorem mdH.wk {g g' : Nat → Int32} {c : Int32} {LL : List (List Int32)} (h : mdH g c LL) (e : ∀ j, (j = 4 ∨ 339 ≤ j) → g' j = g j) : mdH g' c LL := by
  refine ⟨?_, h.2.wk (fun j hj => e j (Or.inr hj))⟩
  rcases h.1 with ⟨a, b, d⟩ | ⟨a, b, d⟩
  · exact Or.inl ⟨a, (e 4 (by omega)).trans b, d⟩
  · exact Or.inr ⟨(e 4 (by omega)).trans a, b, (e 339 (by omega)).trans d⟩
/-- of a row of 1164 ints -/
theorem mdL.up {g g' : Nat → Int32} {LL : List (List Int32)} (h : mdL g 339 LL) (e : ∀ j, j < 1164 → g' j = g j) : mdL g' 339 LL := by
  have h12 := h.1.1
  have h400 := h.1.2
  exact ⟨h.1, fun n hn => ⟨(e _ (by omega)).trans (h.2.1 n hn).1, (e _ (by omega)).trans (h.2.1 n hn).2⟩, fun i hi => ⟨(e _ (by omega)).trans (h.2.2 i hi).1, (e _ (by omega)).trans (h.2.2 i hi).2⟩⟩
theorem mdH.up {g g' : Nat → Int32} {c : Int32} {LL : List (List Int32)} (h : mdH g c LL) (e : ∀ j, j < 1164 → g' j = g j) : mdH g' c LL := by
  refine ⟨?_, h.2.up e⟩
  rcases h.1 with ⟨a, b, d⟩ | ⟨a, b, d⟩
  · exact Or.inl ⟨a, (e 4 (by omega)).trans b, d⟩
  · exact Or.inr ⟨(e 4 (by omega)).trans a, b, (e 339 (by omega)).trans d⟩
theorem mdK.of {μ m : SM2} {K : Kp} (h : mdK μ K) (e1 : m.1 572 5 = μ.1 572 5) (e2 : m.1 574 = μ.1 574) : mdK m K := by
  unfold mdK at h ⊢
  rw [e1, e2]
  exact h
theorem TapeAt.of {μ m : SM2} {B : List Nat} (h : TapeAt μ B) (e1 : m.1 572 8 = μ.1 572 8) (e2 : m.1 577 = μ.1 577) : TapeAt m B := by
  unfold TapeAt at h ⊢
  rw [e1, e2]
  exact h
theorem MdU.all {μ m : SM2} {t : Nat} {s : Sta} {X2 : Td} {U2 : List Td} (h : MdU μ m t) (a : MAll μ s) (b : mdT (m.1 573) X2 ∧ mdA m U2) : MO μ m t (X2, s.2.1, U2, s.2.2.2) :=
  ⟨⟨b.1, ⟨a.2.1.1.wk h.2.2.2, a.2.1.2⟩, b.2, a.2.2.2.1.of (h.2.2.1 5 (by omega)) (h.2.1 574 (by unfold Sz; omega)).1, a.2.2.2.2.1.of (h.2.2.1 8 (by omega)) (h.2.1 577 (by unfold Sz; omega)).1, (h.2.2.1 13 (by omega)).trans a.2.2.2.2.2⟩, h.1, h.2.1.mono (fun k hk => by unfold Sz at hk; unfold Smo; omega)⟩
theorem MdN.all {μ m : SM2} {t : Nat} {s : Sta} (h : MdN μ m t) (a : MAll μ s) : MO μ m t s := h.u.all a (h.s a.1 a.2.2.1).1
theorem MAll.law {μ : SM2} {s : Sta} (a : MAll μ s) : LawM (μ.1 573) s.2.1.2 := ⟨_, a.2.1⟩
section MZ
variable {γ : Ga} {μ : SM2}
theorem m_imageA {s : Sta} (hs : MAll μ s) : Ex γ 1 0 0 M_X12_image [.ref 572] (rm μ) (Rm none (fun m => MO μ m 0 (s.1, s.2.1, s.2.2.1, some (s.1, s.2.1.1, s.2.1.2), s.2.2.2.2))) :=
  m_image.mono (fun o m9 h => by
    obtain ⟨m, e1, e2, h1, ⟨h2, h3, h4⟩, h5⟩ := h
    refine ⟨m, e1, e2, ⟨?_, ?_, ?_, ?_, ?_, ?_⟩, h2, h5.mono (fun k hk => by unfold Smo; omega)⟩
    · show mdT (m.1 573) _
      rw [(h5 573 (by omega)).1]
      exact hs.1
    · show mdH (m.1 573) _ _ ∧ _
      rw [(h5 573 (by omega)).1]
      exact hs.2.1
    · exact hs.2.2.1.of (h4 6 (by decide) (by decide)) (h5 576 (by omega)).1 (h5.i (by omega) 4)
    · refine ⟨h3, fun q hq => ?_⟩
      cases hq
      exact ⟨hs.1.to (fun k hk => h1 k (by omega)), hs.2.1.1.up h1, hs.2.1.2⟩
    · exact hs.2.2.2.2.1.of (h4 8 (by decide) (by decide)) (h5 577 (by omega)).1
    · exact (h4 13 (by decide) (by decide)).trans hs.2.2.2.2.2)
/-- behind going back -/
def baS (s : Sta) : Sta := match s.2.2.2.1 with
  | none => s
  | some q => (q.1, q.2, [], s.2.2.2)
theorem m_backA {s : Sta} (hs : MAll μ s) : Ex γ 1 0 0 M_X12_back [.ref 572] (rm μ) (Rm (some (.int (bI s.2.2.2.1.isSome))) (fun m => MO μ m 0 (baS s))) :=
  (m_back hs.2.2.2.1.1).mono (fun o m9 h => by
    obtain ⟨m, e1, e2, h1, ⟨h2, h3, h4⟩, h5⟩ := h
    refine ⟨m, e1, e2, ?_, h2, h5.mono (fun k hk => by unfold Smo; omega)⟩
    have hk := hs.2.2.2.1
    unfold baS
    cases eK : s.2.2.2.1 with
    | none =>
      rw [eK] at h1 h4
      have e573 : ∀ j, m.1 573 j = μ.1 573 j := fun j => (h1 j).trans (if_neg (fun z => Bool.noConfusion z.1))
      have f573 : m.1 573 = μ.1 573 := funext e573
      refine ⟨by rw [f573]; exact hs.1, by rw [f573]; exact hs.2.1, hs.2.2.1.of (h4 6 (by decide) (Or.inr rfl)) (h5 576 (by omega)).1 (e573 4), ?_, hs.2.2.2.2.1.of (h4 8 (by decide) (Or.inl (by decide))) (h5 577 (by omega)).1, (h4 13 (by decide) (Or.inl (by decide))).trans hs.2.2.2.2.2⟩
      exact hk.of (h4 5 (by decide) (Or.inl (by decide))) (h5 574 (by omega)).1
    | some q =>
      rw [eK] at h1 h3 h4
      have hq := hk.2 q eK
      have e9 : ∀ j, j < 1164 → m.1 573 j = μ.1 574 j := fun j hj => (h1 j).trans (if_pos ⟨rfl, hj⟩)
      refine ⟨hq.1.to (fun k hk => e9 k (by omega)), ⟨hq.2.1.up e9, hq.2.2⟩, ⟨⟨h3 rfl, Nat.zero_le _⟩, fun j hj => absurd hj (Nat.not_lt_zero _)⟩, ?_, hs.2.2.2.2.1.of (h4 8 (by decide) (Or.inl (by decide))) (h5 577 (by omega)).1, (h4 13 (by decide) (Or.inl (by decide))).trans hs.2.2.2.2.2⟩
      exact hk.of (h4 5 (by decide) (Or.inl (by decide))) (h5 574 (by omega)).1)
/-- behind an act undone -/
def unS (s : Sta) : Sta := match s.2.2.1 with
  | [] => s
  | X :: U => (X, s.2.1, U, s.2.2.2)
theorem m_undoA {s : Sta} (hs : MAll μ s) : Ex γ 1 0 0 M_X12_undo [.ref 572] (rm μ) (Rm (some (.int (bI (decide (s.2.2.1.length ≠ 0))))) (fun m => MO μ m 0 (unS s))) :=
  (m_undo hs.2.2.1.1.1 hs.2.2.1.1.2).mono (fun o m9 h => by
    obtain ⟨m, e1, e2, h1, ⟨h2, h3, h4⟩, h5⟩ := h
    refine ⟨m, e1, e2, ?_, h2, h5.mono (fun k hk => by unfold Smo; omega)⟩
    have hA := hs.2.2.1
    have hk := hs.2.2.2.1
    unfold unS
    cases eU : s.2.2.1 with
    | nil =>
      rw [eU] at h1 h3 hA
      have f573 : m.1 573 = μ.1 573 := funext (fun j => (h1 j).trans (if_neg (fun z => z.1 rfl)))
      refine ⟨by rw [f573]; exact hs.1, by rw [f573]; exact hs.2.1, ?_, hk.of (h4 5 (by decide) (by decide)) (h5 574 (by omega)).1, hs.2.2.2.2.1.of (h4 8 (by decide) (by decide)) (h5 577 (by omega)).1, (h4 13 (by decide) (by decide)).trans hs.2.2.2.2.2⟩
      rw [eU]
      exact hA.of (h3.trans hA.1.1.symm) (h5 576 (by omega)).1 (congrFun f573 4)
    | cons X U =>
      rw [eU] at h1 h3 hA
      have hl : (X :: U).length = U.length + 1 := rfl
      have h0 := hA.2 0 (by rw [hl]; omega)
      have e9 : ∀ j, j < 339 → m.1 573 j = μ.1 576 (339 * ((X :: U).length - 1 - 0) + j) := fun j hj => (h1 j).trans (if_pos ⟨by rw [hl]; omega, hj⟩)
      have e8 : ∀ j, ¬ j < 339 → m.1 573 j = μ.1 573 j := fun j hj => (h1 j).trans (if_neg (fun z => hj z.2))
      have e4 : m.1 573 4 = μ.1 573 4 := (e9 4 (by decide)).trans h0.2
      refine ⟨h0.1.to (fun k hk => e9 k hk), ⟨hs.2.1.1.wk (fun j hj => ?_), hs.2.1.2⟩, ?_, hk.of (h4 5 (by decide) (by decide)) (h5 574 (by omega)).1, hs.2.2.2.2.1.of (h4 8 (by decide) (by decide)) (h5 577 (by omega)).1, (h4 13 (by decide) (by decide)).trans hs.2.2.2.2.2⟩
      · rcases hj with rfl | hj
        · exact e4
        · exact e8 j (by omega)
      · show mdA m U
        have h16 := hA.1.2
        rw [hl] at h16
        refine ⟨⟨h3, by omega⟩, fun j hj => ?_⟩
        have h9 := hA.2 (j + 1) (by rw [hl]; omega)
        have e7 : (X :: U).length - 1 - (j + 1) = U.length - 1 - j := by rw [hl]; omega
        rw [e7] at h9
        rw [(h5 576 (by omega)).1, e4]
        exact h9)
theorem m_seedA {s : Sta} {x : Int32} (hs : MAll μ s) : Ex γ 1 0 0 M_X12_seed [.ref 572, .int x] (rm μ) (Rm (some (.int s.1.seed)) (fun m => MO μ m 0 (tdY s.1 s.1.year x, s.2))) :=
  (m_seed hs.1.2.2.2.2.2.2.2.2.2).mono (fun o m9 h => by
    obtain ⟨m, e1, e2, ⟨h1, h2⟩, ⟨h3, h4⟩, h5⟩ := h
    exact ⟨m, e1, e2, ⟨hs.1.sd h1 (fun j _ hj => h2 j hj), ⟨hs.2.1.1.wk (fun j hj => h2 j (by omega)), hs.2.1.2⟩, hs.2.2.1.of (h4 6 (by decide)) (h5 576 (by omega)).1 (h2 4 (by decide)), hs.2.2.2.1.of (h4 5 (by decide)) (h5 574 (by omega)).1, hs.2.2.2.2.1.of (h4 8 (by decide)) (h5 577 (by omega)).1, (h4 13 (by decide)).trans hs.2.2.2.2.2⟩, h3, h5.mono (fun k hk => by unfold Smo; omega)⟩)
end MZ

