/-! facts of the cells -/
def isTold (t : Nat) : Prop := t = 3 ∨ t = 31 ∨ t = 65 ∨ ∃ i, i < 16 ∧ t = 124 + 28 * i
def isRules (r : Nat) : Prop := ∃ t, isTold t ∧ r = t + 1
def isField (q : Nat) : Prop := ∃ t i, isTold t ∧ i < 6 ∧ q = t + 10 + 3 * i
def isHerd (h : Nat) : Prop := h = 105 ∨ h = 109
def isLaw (l : Nat) : Prop := l = 59 ∨ l = 62 ∨ l = 93
theorem told_all {t : Nat} (ht : isTold t) : ∀ o, o < 28 → KT (t + o) = kTold.getD o (9, 0) ∧ t + o < N0 := by
  rcases ht with rfl | rfl | rfl | ⟨i, hi, rfl⟩
  · decide +kernel
  · decide +kernel
  · decide +kernel
  · intro o ho
    refine ⟨?_, by unfold N0; omega⟩
    unfold KT
    rw [if_neg (by omega), if_pos (by omega), show (124 + 28 * i + o - 124) % 28 = o by omega]
theorem told_lt {t o : Nat} (ht : isTold t) (ho : o < 28) : t + o < N0 := (told_all ht o ho).2
theorem kt_told {t : Nat} (ht : isTold t) : KT t = (0, 9) := (told_all ht 0 (by decide)).1
theorem lt_told {t : Nat} (ht : isTold t) : t < N0 := told_lt (o := 0) ht (by decide)
theorem kt_told_rules {t : Nat} (ht : isTold t) : KT (t + 1) = (0, 6) := (told_all ht 1 (by decide)).1
theorem lt_told_rules {t : Nat} (ht : isTold t) : t + 1 < N0 := told_lt ht (by decide)
theorem rt_told_rules {t : Nat} (ht : isTold t) : R0 t 0 = t + 1 + 1 := by unfold R0; rw [kt_told ht]; rfl
theorem kt_told_fields {t : Nat} (ht : isTold t) : KT (t + 6) = (4, 6) := (told_all ht 6 (by decide)).1
theorem lt_told_fields {t : Nat} (ht : isTold t) : t + 6 < N0 := told_lt ht (by decide)
theorem rt_told_fields {t : Nat} (ht : isTold t) : R0 t 1 = t + 6 + 1 := by unfold R0; rw [kt_told ht]; rfl
theorem kt_told_seenFirst {t : Nat} (ht : isTold t) : KT (t + 7) = (2, 10) := (told_all ht 7 (by decide)).1
theorem lt_told_seenFirst {t : Nat} (ht : isTold t) : t + 7 < N0 := told_lt ht (by decide)
theorem rt_told_seenFirst {t : Nat} (ht : isTold t) : R0 t 3 = t + 7 + 1 := by unfold R0; rw [kt_told ht]; rfl
theorem kt_told_seenThen {t : Nat} (ht : isTold t) : KT (t + 8) = (2, 10) := (told_all ht 8 (by decide)).1
theorem lt_told_seenThen {t : Nat} (ht : isTold t) : t + 8 < N0 := told_lt ht (by decide)
theorem rt_told_seenThen {t : Nat} (ht : isTold t) : R0 t 4 = t + 8 + 1 := by unfold R0; rw [kt_told ht]; rfl
theorem kt_told_weights {t : Nat} (ht : isTold t) : KT (t + 9) = (1, 8) := (told_all ht 9 (by decide)).1
theorem lt_told_weights {t : Nat} (ht : isTold t) : t + 9 < N0 := told_lt ht (by decide)
theorem rt_told_weights {t : Nat} (ht : isTold t) : R0 t 6 = t + 9 + 1 := by unfold R0; rw [kt_told ht]; rfl
theorem told_rules {t : Nat} (ht : isTold t) : isRules (t + 1) := ⟨t, ht, rfl⟩
theorem told_field {t i : Nat} (ht : isTold t) (hi : i < 6) : isField (t + 10 + 3 * i) := ⟨t, i, ht, hi, rfl⟩
theorem rt_told_el {t i : Nat} (ht : isTold t) (hi : i < 6) : R0 (t + 6) i = t + 10 + 3 * i + 1 := by
  unfold R0; rw [kt_told_fields ht]
  show (if i < 6 then t + 6 + 5 + 3 * i else 0) = _
  rw [if_pos hi]; omega
theorem memory_told {i : Nat} (hi : i < 16) : isTold (124 + 28 * i) := Or.inr (Or.inr (Or.inr ⟨i, hi, rfl⟩))
theorem rt_memory {i : Nat} (hi : i < 16) : R0 96 i = 124 + 28 * i + 1 := by
  show (if i < 16 then 125 + 28 * i else 0) = _
  rw [if_pos hi]; omega
theorem kt_rules {r : Nat} (h : isRules r) : KT r = (0, 6) := by obtain ⟨t, ht, rfl⟩ := h; exact kt_told_rules ht
theorem lt_rules {r : Nat} (h : isRules r) : r < N0 := by obtain ⟨t, ht, rfl⟩ := h; exact lt_told_rules ht
theorem kt_rules_left {r : Nat} (h : isRules r) : KT (r + 1) = (2, 12) := by obtain ⟨t, ht, rfl⟩ := h; exact (told_all ht 2 (by decide)).1
theorem lt_rules_left {r : Nat} (h : isRules r) : r + 1 < N0 := by obtain ⟨t, ht, rfl⟩ := h; exact told_lt (o := 2) ht (by decide)
theorem rt_rules_left {r : Nat} (h : isRules r) : R0 r 1 = r + 1 + 1 := by unfold R0; rw [kt_rules h]; rfl
theorem kt_rules_right {r : Nat} (h : isRules r) : KT (r + 2) = (2, 12) := by obtain ⟨t, ht, rfl⟩ := h; exact (told_all ht 3 (by decide)).1
theorem lt_rules_right {r : Nat} (h : isRules r) : r + 2 < N0 := by obtain ⟨t, ht, rfl⟩ := h; exact told_lt (o := 3) ht (by decide)
theorem rt_rules_right {r : Nat} (h : isRules r) : R0 r 2 = r + 2 + 1 := by unfold R0; rw [kt_rules h]; rfl
theorem kt_rules_leftSize {r : Nat} (h : isRules r) : KT (r + 3) = (1, 12) := by obtain ⟨t, ht, rfl⟩ := h; exact (told_all ht 4 (by decide)).1
theorem lt_rules_leftSize {r : Nat} (h : isRules r) : r + 3 < N0 := by obtain ⟨t, ht, rfl⟩ := h; exact told_lt (o := 4) ht (by decide)
theorem rt_rules_leftSize {r : Nat} (h : isRules r) : R0 r 3 = r + 3 + 1 := by unfold R0; rw [kt_rules h]; rfl
theorem kt_rules_rightSize {r : Nat} (h : isRules r) : KT (r + 4) = (1, 12) := by obtain ⟨t, ht, rfl⟩ := h; exact (told_all ht 5 (by decide)).1
theorem lt_rules_rightSize {r : Nat} (h : isRules r) : r + 4 < N0 := by obtain ⟨t, ht, rfl⟩ := h; exact told_lt (o := 5) ht (by decide)
theorem rt_rules_rightSize {r : Nat} (h : isRules r) : R0 r 4 = r + 4 + 1 := by unfold R0; rw [kt_rules h]; rfl
theorem field_all {q : Nat} (h : isField q) : KT q = (0, 1) ∧ KT (q + 1) = (1, 20) ∧ KT (q + 2) = (1, 20) ∧ q + 2 < N0 := by
  obtain ⟨t, i, ht, hi, rfl⟩ := h
  have key : ∀ i, i < 6 → (kTold.getD (10 + 3 * i) (9, 0) = (0, 1) ∧ kTold.getD (10 + 3 * i + 1) (9, 0) = (1, 20) ∧ kTold.getD (10 + 3 * i + 2) (9, 0) = (1, 20)) := by decide
  obtain ⟨k0, k1, k2⟩ := key i hi
  have a0 := told_all ht (10 + 3 * i) (by omega)
  have a1 := told_all ht (10 + 3 * i + 1) (by omega)
  have a2 := told_all ht (10 + 3 * i + 2) (by omega)
  rw [k0] at a0
  rw [k1] at a1
  rw [k2] at a2
  exact ⟨by rw [show t + 10 + 3 * i = t + (10 + 3 * i) by omega]; exact a0.1, by rw [show t + 10 + 3 * i + 1 = t + (10 + 3 * i + 1) by omega]; exact a1.1, by rw [show t + 10 + 3 * i + 2 = t + (10 + 3 * i + 2) by omega]; exact a2.1, by have := a2.2; omega⟩
theorem kt_field {q : Nat} (h : isField q) : KT q = (0, 1) := (field_all h).1
theorem lt_field {q : Nat} (h : isField q) : q < N0 := by have := (field_all h).2.2.2; omega
theorem kt_field_makers {q : Nat} (h : isField q) : KT (q + 1) = (1, 20) := (field_all h).2.1
theorem lt_field_makers {q : Nat} (h : isField q) : q + 1 < N0 := by have := (field_all h).2.2.2; omega
theorem kt_field_makings {q : Nat} (h : isField q) : KT (q + 2) = (1, 20) := (field_all h).2.2.1
theorem lt_field_makings {q : Nat} (h : isField q) : q + 2 < N0 := (field_all h).2.2.2
theorem rt_field_makers {q : Nat} (h : isField q) : R0 q 2 = q + 1 + 1 := by unfold R0; rw [kt_field h]; rfl
theorem rt_field_makings {q : Nat} (h : isField q) : R0 q 3 = q + 2 + 1 := by unfold R0; rw [kt_field h]; rfl
theorem kt_herd {h : Nat} (hh : isHerd h) : KT h = (0, 4) := by rcases hh with rfl | rfl <;> decide
theorem lt_herd {h : Nat} (hh : isHerd h) : h < N0 := by rcases hh with rfl | rfl <;> decide
theorem kt_herd_codes {h : Nat} (hh : isHerd h) : KT (h + 1) = (2, 1500) := by rcases hh with rfl | rfl <;> decide
theorem lt_herd_codes {h : Nat} (hh : isHerd h) : h + 1 < N0 := by rcases hh with rfl | rfl <;> decide
theorem rt_herd_codes {h : Nat} (hh : isHerd h) : R0 h 1 = h + 1 + 1 := by rcases hh with rfl | rfl <;> decide
theorem kt_herd_far {h : Nat} (hh : isHerd h) : KT (h + 2) = (1, 1500) := by rcases hh with rfl | rfl <;> decide
theorem lt_herd_far {h : Nat} (hh : isHerd h) : h + 2 < N0 := by rcases hh with rfl | rfl <;> decide
theorem rt_herd_far {h : Nat} (hh : isHerd h) : R0 h 2 = h + 2 + 1 := by rcases hh with rfl | rfl <;> decide
theorem kt_herd_slots {h : Nat} (hh : isHerd h) : KT (h + 3) = (1, 4096) := by rcases hh with rfl | rfl <;> decide
theorem lt_herd_slots {h : Nat} (hh : isHerd h) : h + 3 < N0 := by rcases hh with rfl | rfl <;> decide
theorem rt_herd_slots {h : Nat} (hh : isHerd h) : R0 h 3 = h + 3 + 1 := by rcases hh with rfl | rfl <;> decide
theorem kt_law {h : Nat} (hh : isLaw h) : KT h = (0, 5) := by rcases hh with rfl | rfl | rfl <;> decide
theorem lt_law {h : Nat} (hh : isLaw h) : h < N0 := by rcases hh with rfl | rfl | rfl <;> decide
theorem kt_law_signs {h : Nat} (hh : isLaw h) : KT (h + 1) = (1, 400) := by rcases hh with rfl | rfl | rfl <;> decide
theorem lt_law_signs {h : Nat} (hh : isLaw h) : h + 1 < N0 := by rcases hh with rfl | rfl | rfl <;> decide
theorem rt_law_signs {h : Nat} (hh : isLaw h) : R0 h 2 = h + 1 + 1 := by rcases hh with rfl | rfl | rfl <;> decide
theorem kt_law_waiting {h : Nat} (hh : isLaw h) : KT (h + 2) = (1, 17) := by rcases hh with rfl | rfl | rfl <;> decide
theorem lt_law_waiting {h : Nat} (hh : isLaw h) : h + 2 < N0 := by rcases hh with rfl | rfl | rfl <;> decide
theorem rt_law_waiting {h : Nat} (hh : isLaw h) : R0 h 3 = h + 2 + 1 := by rcases hh with rfl | rfl | rfl <;> decide
theorem told3 : isTold 3 := Or.inl rfl
theorem told31 : isTold 31 := Or.inr (Or.inl rfl)
theorem told65 : isTold 65 := Or.inr (Or.inr (Or.inl rfl))
theorem rules4 : isRules 4 := told_rules told3
theorem herd105 : isHerd 105 := Or.inl rfl
theorem herd109 : isHerd 109 := Or.inr rfl
theorem law59 : isLaw 59 := Or.inl rfl
theorem law62 : isLaw 62 := Or.inr (Or.inl rfl)
theorem law93 : isLaw 93 := Or.inr (Or.inr rfl)
theorem kc_0 : KT 0 = (0, 11) := by decide
theorem lc_0 : 0 < N0 := by decide
theorem rc_0_0 : R0 0 0 = 1 + 1 := by decide
theorem rc_0_1 : R0 0 1 = 3 + 1 := by decide
theorem rc_0_2 : R0 0 2 = 31 + 1 := by decide
theorem rc_0_3 : R0 0 3 = 59 + 1 := by decide
theorem rc_0_4 : R0 0 4 = 62 + 1 := by decide
theorem rc_0_5 : R0 0 5 = 65 + 1 := by decide
theorem rc_0_6 : R0 0 6 = 93 + 1 := by decide
theorem rc_0_8 : R0 0 8 = 96 + 1 := by decide
theorem rc_0_11 : R0 0 11 = 97 + 1 := by decide
theorem rc_0_12 : R0 0 12 = 105 + 1 := by decide
theorem rc_0_13 : R0 0 13 = 109 + 1 := by decide
theorem rc_0_14 : R0 0 14 = 113 + 1 := by decide
theorem rc_0_15 : R0 0 15 = 116 + 1 := by decide
theorem rc_0_16 : R0 0 16 = 121 + 1 := by decide
theorem rc_0_17 : R0 0 17 = 122 + 1 := by decide
theorem kc_1 : KT 1 = (0, 8) := by decide
theorem lc_1 : 1 < N0 := by decide
theorem rc_1_0 : R0 1 0 = 2 + 1 := by decide
theorem kc_2 : KT 2 = (1, 400) := by decide
theorem lc_2 : 2 < N0 := by decide
theorem kc_96 : KT 96 = (5, 16) := by decide
theorem lc_96 : 96 < N0 := by decide
theorem kc_97 : KT 97 = (0, 10) := by decide
theorem lc_97 : 97 < N0 := by decide
theorem rc_97_0 : R0 97 0 = 4 + 1 := by decide
theorem rc_97_1 : R0 97 1 = 59 + 1 := by decide
theorem rc_97_7 : R0 97 7 = 98 + 1 := by decide
theorem rc_97_8 : R0 97 8 = 99 + 1 := by decide
theorem rc_97_9 : R0 97 9 = 100 + 1 := by decide
theorem rc_97_10 : R0 97 10 = 101 + 1 := by decide
theorem rc_97_11 : R0 97 11 = 102 + 1 := by decide
theorem rc_97_12 : R0 97 12 = 103 + 1 := by decide
theorem rc_97_13 : R0 97 13 = 104 + 1 := by decide
theorem kc_98 : KT 98 = (1, 240) := by decide
theorem lc_98 : 98 < N0 := by decide
theorem kc_99 : KT 99 = (1, 20) := by decide
theorem lc_99 : 99 < N0 := by decide
theorem kc_100 : KT 100 = (1, 20) := by decide
theorem lc_100 : 100 < N0 := by decide
theorem kc_101 : KT 101 = (1, 252) := by decide
theorem lc_101 : 101 < N0 := by decide
theorem kc_102 : KT 102 = (1, 252) := by decide
theorem lc_102 : 102 < N0 := by decide
theorem kc_103 : KT 103 = (1, 20) := by decide
theorem lc_103 : 103 < N0 := by decide
theorem kc_104 : KT 104 = (1, 20) := by decide
theorem lc_104 : 104 < N0 := by decide
theorem kc_113 : KT 113 = (0, 2) := by decide
theorem lc_113 : 113 < N0 := by decide
theorem rc_113_2 : R0 113 2 = 114 + 1 := by decide
theorem rc_113_3 : R0 113 3 = 115 + 1 := by decide
theorem kc_114 : KT 114 = (1, 1500) := by decide
theorem lc_114 : 114 < N0 := by decide
theorem kc_115 : KT 115 = (1, 1500) := by decide
theorem lc_115 : 115 < N0 := by decide
theorem kc_116 : KT 116 = (0, 7) := by decide
theorem lc_116 : 116 < N0 := by decide
theorem rc_116_0 : R0 116 0 = 117 + 1 := by decide
theorem rc_116_1 : R0 116 1 = 118 + 1 := by decide
theorem rc_116_3 : R0 116 3 = 119 + 1 := by decide
theorem rc_116_4 : R0 116 4 = 120 + 1 := by decide
theorem kc_117 : KT 117 = (1, 8) := by decide
theorem lc_117 : 117 < N0 := by decide
theorem kc_118 : KT 118 = (1, 6) := by decide
theorem lc_118 : 118 < N0 := by decide
theorem kc_119 : KT 119 = (1, 104) := by decide
theorem lc_119 : 119 < N0 := by decide
theorem kc_120 : KT 120 = (1, 13) := by decide
theorem lc_120 : 120 < N0 := by decide
theorem kc_121 : KT 121 = (0, 0) := by decide
theorem lc_121 : 121 < N0 := by decide
theorem kc_122 : KT 122 = (0, 3) := by decide
theorem lc_122 : 122 < N0 := by decide
theorem rc_122_3 : R0 122 3 = 123 + 1 := by decide
theorem kc_123 : KT 123 = (1, 10) := by decide
theorem lc_123 : 123 < N0 := by decide
theorem kc_572 : KT 572 = (0, 12) := by decide
theorem lc_572 : 572 < N0 := by decide
theorem rc_572_1 : R0 572 1 = 573 + 1 := by decide
theorem rc_572_2 : R0 572 2 = 574 + 1 := by decide
theorem rc_572_3 : R0 572 3 = 575 + 1 := by decide
theorem rc_572_4 : R0 572 4 = 576 + 1 := by decide
theorem rc_572_7 : R0 572 7 = 577 + 1 := by decide
theorem rc_572_14 : R0 572 14 = 578 + 1 := by decide
theorem rc_572_18 : R0 572 18 = 579 + 1 := by decide
theorem rc_572_23 : R0 572 23 = 580 + 1 := by decide
theorem rc_572_25 : R0 572 25 = 581 + 1 := by decide
theorem rc_572_26 : R0 572 26 = 582 + 1 := by decide
theorem rc_572_27 : R0 572 27 = 583 + 1 := by decide
theorem rc_572_28 : R0 572 28 = 584 + 1 := by decide
theorem rc_572_30 : R0 572 30 = 585 + 1 := by decide
theorem rc_572_31 : R0 572 31 = 586 + 1 := by decide
theorem rc_572_41 : R0 572 41 = 587 + 1 := by decide
theorem rc_572_42 : R0 572 42 = 588 + 1 := by decide
theorem rc_572_44 : R0 572 44 = 589 + 1 := by decide
theorem rc_572_45 : R0 572 45 = 590 + 1 := by decide
theorem rc_572_46 : R0 572 46 = 591 + 1 := by decide
theorem rc_572_48 : R0 572 48 = 592 + 1 := by decide
theorem rc_572_49 : R0 572 49 = 593 + 1 := by decide
theorem kc_573 : KT 573 = (1, 1989) := by decide
theorem lc_573 : 573 < N0 := by decide
theorem kc_574 : KT 574 = (1, 1164) := by decide
theorem lc_574 : 574 < N0 := by decide
theorem kc_575 : KT 575 = (1, 1164) := by decide
theorem lc_575 : 575 < N0 := by decide
theorem kc_576 : KT 576 = (1, 5424) := by decide
theorem lc_576 : 576 < N0 := by decide
theorem kc_577 : KT 577 = (3, 400) := by decide
theorem lc_577 : 577 < N0 := by decide
theorem kc_578 : KT 578 = (1, 5) := by decide
theorem lc_578 : 578 < N0 := by decide
theorem kc_579 : KT 579 = (1, 400) := by decide
theorem lc_579 : 579 < N0 := by decide
theorem kc_580 : KT 580 = (1, 40) := by decide
theorem lc_580 : 580 < N0 := by decide
theorem kc_581 : KT 581 = (2, 501) := by decide
theorem lc_581 : 581 < N0 := by decide
theorem kc_582 : KT 582 = (2, 1501) := by decide
theorem lc_582 : 582 < N0 := by decide
theorem kc_583 : KT 583 = (1, 1501) := by decide
theorem lc_583 : 583 < N0 := by decide
theorem kc_584 : KT 584 = (1, 4096) := by decide
theorem lc_584 : 584 < N0 := by decide
theorem kc_585 : KT 585 = (2, 1501) := by decide
theorem lc_585 : 585 < N0 := by decide
theorem kc_586 : KT 586 = (1, 1501) := by decide
theorem lc_586 : 586 < N0 := by decide
theorem kc_587 : KT 587 = (1, 8) := by decide
theorem lc_587 : 587 < N0 := by decide
theorem kc_588 : KT 588 = (1, 8) := by decide
theorem lc_588 : 588 < N0 := by decide
theorem kc_589 : KT 589 = (1, 10) := by decide
theorem lc_589 : 589 < N0 := by decide
theorem kc_590 : KT 590 = (2, 100) := by decide
theorem lc_590 : 590 < N0 := by decide
theorem kc_591 : KT 591 = (2, 100) := by decide
theorem lc_591 : 591 < N0 := by decide
theorem kc_592 : KT 592 = (1, 1501) := by decide
theorem lc_592 : 592 < N0 := by decide
theorem kc_593 : KT 593 = (1, 1501) := by decide
theorem lc_593 : 593 < N0 := by decide
theorem kc_594 : KT 594 = (2, 1) := by decide
theorem lc_594 : 594 < N0 := by decide
theorem bI_01 (b : Bool) : bI b = 0 ∨ bI b = 1 := by cases b <;> simp [bI]
theorem wI_eq {μ : SM2} {k j : Nat} {x : Int32} : (wI μ k j x).1 k j = x := by simp [wI, up2]
theorem wI_ne {μ : SM2} {k j a b : Nat} {x : Int32} (h : a ≠ k ∨ b ≠ j) : (wI μ k j x).1 a b = μ.1 a b := by
  unfold wI up2
  dsimp only
  rw [if_neg (fun z => h.elim (fun q => q z.1) (fun q => q z.2))]
theorem wL_eq {μ : SM2} {k j : Nat} {x : Int64} : (wL μ k j x).2 k j = x := by simp [wL, up2]
theorem wL_ne {μ : SM2} {k j a b : Nat} {x : Int64} (h : a ≠ k ∨ b ≠ j) : (wL μ k j x).2 a b = μ.2 a b := by
  unfold wL up2
  dsimp only
  rw [if_neg (fun z => h.elim (fun q => q z.1) (fun q => q z.2))]
theorem wI_2 {μ : SM2} {k j : Nat} {x : Int32} : (wI μ k j x).2 = μ.2 := rfl
theorem wL_1 {μ : SM2} {k j : Nat} {x : Int64} : (wL μ k j x).1 = μ.1 := rfl
