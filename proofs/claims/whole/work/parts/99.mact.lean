/-! THE MODEL: acts: use, run, put, add, drop -/
/-- what is remembered, the newest first -/
def mdA (μ : SM2) (U : List Td) : Prop := (μ.1 572 6 = nI U.length ∧ U.length ≤ 16) ∧ ∀ j, j < U.length → mdT (fun i => μ.1 576 (339 * (U.length - 1 - j) + i)) (uAt U j) ∧ μ.1 576 (339 * (U.length - 1 - j) + 4) = μ.1 573 4
theorem mdA.of {μ m : SM2} {U : List Td} (h : mdA μ U) (e1 : m.1 572 6 = μ.1 572 6) (e2 : m.1 576 = μ.1 576) (e3 : m.1 573 4 = μ.1 573 4) : mdA m U := by
  unfold mdA at h ⊢
  rw [e1, e2, e3]
  exact h
theorem tk_len {α : Type} {x : α} {U : List α} (h : U.length ≤ 16) : ((x :: U).take 16).length = if U.length = 16 then 16 else U.length + 1 := by
  rw [List.length_take, List.length_cons]
  split <;> omega
theorem tk_at {X : Td} {U : List Td} {j : Nat} (hj : j < ((X :: U).take 16).length) : uAt ((X :: U).take 16) j = if j = 0 then X else uAt U (j - 1) := by
  rw [List.length_take] at hj
  show ((X :: U).take 16).getD j _ = _
  rw [List.getD_eq_getElem?_getD, List.getElem?_take, if_pos (by omega)]
  cases j with
  | zero => rfl
  | succ j =>
    rw [if_neg (by omega)]
    rfl
theorem rem_A {μ m : SM2} {X : Td} {U : List Td} (hX : mdT (μ.1 573) X) (hA : mdA μ U) (g1 : m.1 572 6 = nI (if U.length = 16 then 16 else U.length + 1)) (g2 : ∀ j, j < 339 → m.1 576 (339 * ((if U.length = 16 then 16 else U.length + 1) - 1) + j) = μ.1 573 j) (g3 : ∀ j, j < 339 * ((if U.length = 16 then 16 else U.length + 1) - 1) → m.1 576 j = if U.length = 16 then μ.1 576 (j + 339) else μ.1 576 j) (g4 : m.1 573 = μ.1 573) : mdA m ((X :: U).take 16) := by
  have h16 := hA.1.2
  have hl := tk_len (x := X) h16
  refine ⟨⟨by rw [hl]; exact g1, by rw [hl]; split <;> omega⟩, fun j hj => ?_⟩
  rw [tk_at hj]
  rw [hl] at hj
  rw [hl, g4]
  by_cases e : j = 0
  · subst e
    rw [if_pos rfl, Nat.sub_zero]
    exact ⟨hX.to (fun i hi => g2 i hi), g2 4 (by decide)⟩
  · rw [if_neg e]
    obtain ⟨j', rfl⟩ : ∃ j', j = j' + 1 := ⟨j - 1, by omega⟩
    have hj' : j' < U.length := by split at hj <;> omega
    have h9 := hA.2 j' hj'
    rw [Nat.add_sub_cancel]
    have key : ∀ i, i < 339 → m.1 576 (339 * ((if U.length = 16 then 16 else U.length + 1) - 1 - (j' + 1)) + i) = μ.1 576 (339 * (U.length - 1 - j') + i) := fun i hi => by
      by_cases q : U.length = 16
      · have := g3 (339 * (16 - 1 - (j' + 1)) + i) (by rw [if_pos q]; omega)
        rw [if_pos q] at this hj ⊢
        rw [this, show 339 * (16 - 1 - (j' + 1)) + i + 339 = 339 * (U.length - 1 - j') + i by omega]
      · have := g3 (339 * (U.length + 1 - 1 - (j' + 1)) + i) (by rw [if_neg q]; omega)
        rw [if_neg q] at this hj ⊢
        rw [this, show 339 * (U.length + 1 - 1 - (j' + 1)) + i = 339 * (U.length - 1 - j') + i by omega]
    exact ⟨h9.1.to key, (key 4 (by decide)).trans h9.2⟩
/-- what an act leaves -/
def MdU (μ m : SM2) (t : Nat) : Prop := m.1 572 0 = nI t ∧ OfS (fun k => k = 572 ∨ k = 573 ∨ k = 576 ∨ Sz k) μ m ∧ (∀ j, (j = 5 ∨ j = 8 ∨ j = 13) → m.1 572 j = μ.1 572 j) ∧ ∀ j, (j = 4 ∨ 339 ≤ j) → m.1 573 j = μ.1 573 j
theorem MdN.u {μ m : SM2} {t : Nat} (h : MdN μ m t) : MdU μ m t := ⟨h.1, h.2.1.mono (fun k hk => hk.elim Or.inl (fun z => Or.inr (Or.inr (Or.inr z)))), fun j hj => h.2.2 j (by unfold Fz; omega), fun j _ => h.2.1.i (by unfold Sz; omega) j⟩
theorem MdN.s {μ m : SM2} {t : Nat} {X : Td} {U : List Td} (h : MdN μ m t) (hX : mdT (μ.1 573) X) (hA : mdA μ U) : (mdT (m.1 573) X ∧ mdA m U) ∧ MdU μ m t :=
  ⟨⟨by rw [(h.2.1 573 (by unfold Sz; omega)).1]; exact hX, hA.of (h.2.2 6 (by unfold Fz; omega)) (h.2.1 576 (by unfold Sz; omega)).1 (h.2.1.i (by unfold Sz; omega) 4)⟩, h.u⟩
/-- ahead of the change: thrown is 0, one act more -/
def MdR (μ m : SM2) (X : Td) (U : List Td) : Prop := (mdT (m.1 573) X ∧ mdA m ((X :: U).take 16)) ∧ (m.1 572 0 = nI 0 ∧ m.1 573 = μ.1 573 ∧ OfS (fun k => k = 572 ∨ k = 576 ∨ Sz k) μ m) ∧ ∀ j, (j = 5 ∨ j = 8 ∨ j = 13) → m.1 572 j = μ.1 572 j
/-- the change -/
theorem MdR.u {μ m m2 : SM2} {X : Td} {U : List Td} (h : MdR μ m X U) (g : OfS (fun k => k = 572 ∨ k = 573 ∨ Sz k) m m2) (g1 : ∀ j, (j = 0 ∨ j = 5 ∨ j = 6 ∨ j = 8 ∨ j = 13) → m2.1 572 j = m.1 572 j) (g2 : ∀ j, (j = 4 ∨ 339 ≤ j) → m2.1 573 j = m.1 573 j) : mdA m2 ((X :: U).take 16) ∧ MdU μ m2 0 :=
  ⟨h.1.2.of (g1 6 (by omega)) (g 576 (by unfold Sz; omega)).1 (g2 4 (by omega)), (g1 0 (by omega)).trans h.2.1.1, (h.2.1.2.2.mono (fun k hk => by unfold Sz at *; omega)).trans (g.mono (fun k hk => by unfold Sz at *; omega)), fun j hj => (g1 j (by omega)).trans (h.2.2 j hj), fun j hj => (g2 j hj).trans (congrFun h.2.1.2.1 j)⟩
section MA1
variable {γ : Ga} {μ : SM2}
theorem m_remR {X : Td} {U : List Td} {m m2 : SM2} (h0 : MdN μ m 0) (hX : mdT (μ.1 573) X) (hA : mdA μ U) (h : (m2.1 572 6 = nI (if U.length = 16 then 16 else U.length + 1) ∧ ∀ j, j ≠ 6 → m2.1 572 j = m.1 572 j) ∧ (∀ j, j < 339 → m2.1 576 (339 * ((if U.length = 16 then 16 else U.length + 1) - 1) + j) = m.1 573 j) ∧ (∀ j, j < 339 * ((if U.length = 16 then 16 else U.length + 1) - 1) → m2.1 576 j = if U.length = 16 then m.1 576 (j + 339) else m.1 576 j) ∧ OfS (fun k => k = 572 ∨ k = 576) m m2) : MdR μ m2 X U := by
  have hs := h0.s hX hA
  have e : m2.1 573 = m.1 573 := (h.2.2.2 573 (by omega)).1
  have e2 : m.1 573 = μ.1 573 := (h0.2.1 573 (by unfold Sz; omega)).1
  exact ⟨⟨by rw [e]; exact hs.1.1, rem_A hs.1.1 hs.1.2 h.1.1 h.2.1 h.2.2.1 e⟩, ⟨(h.1.2 0 (by decide)).trans h0.1, e.trans e2, (h0.2.1.mono (fun k hk => by unfold Sz at *; omega)).trans (h.2.2.2.mono (fun k hk => by unfold Sz at *; omega))⟩, fun j hj => (h.1.2 j (by omega)).trans (h0.2.2 j (by unfold Fz; omega))⟩
theorem MdN.one {μ : SM2} {t : Nat} : MdN μ (wI μ 572 0 (nI t)) t := Tn.one.n
theorem m_drop {x : Int32} {X : Td} {U : List Td} (hX : mdT (μ.1 573) X) (hA : mdA μ U) : Ex γ 3 0 0 M_X12_drop [.ref 572, .int x] (rm μ) (Rm (some (.int (if inB x X.R.length = true then nI (X.R.length - 1) else nI 0))) (fun m => (mdT (m.1 573) (if inB x X.R.length = true then (X.R.eraseIdx x.toNatClampNeg, X.2) else X) ∧ mdA m (if inB x X.R.length = true then (X :: U).take 16 else U)) ∧ MdU μ m (mT1 (inB x X.R.length)))) := by
  have h12 := hX.1.1.2
  have hX2 : mdT ((wI μ 572 0 (nI 0)).1 573) X := by rw [w573]; exact hX
  have hn := m_noRule (γ := γ) (x := x) hX2.1
  cases e : inB x X.R.length with
  | false =>
    rw [e, Bool.not_false] at hn
    simp only [Bool.false_eq_true, if_false]
    refine Ex.of (by decide +kernel) rfl (Nat.le_of_ble_eq_true rfl) ?_
    show T _ _ _ _ _ _ _ _ _ [some (.ref 572), some (.int (x))] [] (rm μ)
    refine T_aload_n (pc := 0) (i := 0) dX12_drop_0 rfl rfl ?_
    refine T_iconst (pc := 1) (v := nI 0) dX12_drop_1 (by decide) ?_
    refine R_putI (pc := 2) fl_X12_3 ⟨rfl, rfl⟩ (Or.inl rfl) kc_572 lc_572 dX12_drop_2 ?_
    refine T_aload_n (pc := 5) (i := 0) dX12_drop_5 rfl rfl ?_
    refine T_aload_n (pc := 6) (i := 0) dX12_drop_6 rfl rfl ?_
    refine T_iload_n (pc := 7) (i := 1) dX12_drop_7 rfl rfl ?_
    refine R_callV1 (pc := 8) (As := [.int (x)]) (rest := [.ref 572]) (Or.inl lk_X12_373) mk_X12_noRule hn kc_572 ⟨by decide, rfl⟩ lc_572 dX12_drop_8 rfl rfl (Nat.le_of_ble_eq_true rfl) (by decide) rfl (Nat.le_refl _) (Nat.le_refl _) ?_
    refine T_iconst (pc := 11) (v := nI 1) dX12_drop_11 (by decide) ?_
    refine R_callV1 (pc := 12) (As := [.int (bI true), .int (nI 1)]) (rest := []) (Or.inl lk_X12_302) mk_X12_throwsIf m_throws1 kc_572 ⟨by decide, rfl⟩ lc_572 dX12_drop_12 rfl rfl (Nat.le_of_ble_eq_true rfl) (by decide) rfl (Nat.le_refl _) (Nat.le_refl _) ?_
    refine R_ifb_eq (pc := 15) (tgt := 20) dX12_drop_15 (by decide) (fun h1 => ?_) (fun h1 => ?_)
    · exact absurd h1 (by decide)
    · skip
      refine T_iconst (pc := 18) (v := nI 0) dX12_drop_18 (by decide) ?_
      exact T_iret (pc := 19) (ty := .int) dX12_drop_19 rfl rfl (Nat.le_refl _) (Nat.le_refl _) ⟨_, rfl, rfl, Tn.two.n.s hX hA⟩
  | true =>
    rw [e, Bool.not_true] at hn
    obtain ⟨k, hk, rfl⟩ := inB_of (by omega) e
    simp only [if_true]
    rw [nI_clamp (n := k) (by omega)]
    refine Ex.of (by decide +kernel) rfl (Nat.le_of_ble_eq_true rfl) ?_
    show T _ _ _ _ _ _ _ _ _ [some (.ref 572), some (.int (nI k))] [] (rm μ)
    refine T_aload_n (pc := 0) (i := 0) dX12_drop_0 rfl rfl ?_
    refine T_iconst (pc := 1) (v := nI 0) dX12_drop_1 (by decide) ?_
    refine R_putI (pc := 2) fl_X12_3 ⟨rfl, rfl⟩ (Or.inl rfl) kc_572 lc_572 dX12_drop_2 ?_
    refine T_aload_n (pc := 5) (i := 0) dX12_drop_5 rfl rfl ?_
    refine T_aload_n (pc := 6) (i := 0) dX12_drop_6 rfl rfl ?_
    refine T_iload_n (pc := 7) (i := 1) dX12_drop_7 rfl rfl ?_
    refine R_callV1 (pc := 8) (As := [.int (nI k)]) (rest := [.ref 572]) (Or.inl lk_X12_373) mk_X12_noRule hn kc_572 ⟨by decide, rfl⟩ lc_572 dX12_drop_8 rfl rfl (Nat.le_of_ble_eq_true rfl) (by decide) rfl (Nat.le_refl _) (Nat.le_refl _) ?_
    refine T_iconst (pc := 11) (v := nI 1) dX12_drop_11 (by decide) ?_
    refine R_callV1 (pc := 12) (As := [.int (bI false), .int (nI 1)]) (rest := []) (Or.inl lk_X12_302) mk_X12_throwsIf m_throws0 kc_572 ⟨by decide, rfl⟩ lc_572 dX12_drop_12 rfl rfl (Nat.le_of_ble_eq_true rfl) (by decide) rfl (Nat.le_refl _) (Nat.le_refl _) ?_
    refine R_ifb_eq (pc := 15) (tgt := 20) dX12_drop_15 (by decide) (fun h1 => ?_) (fun h1 => ?_)
    · skip
      refine T_aload_n (pc := 20) (i := 0) dX12_drop_20 rfl rfl ?_
      refine R_callVm0 (pc := 21) (As := []) (rest := []) (Or.inl lk_X12_408) mk_X12_remembers (m_remembers ((n_wI (by omega)).trans hA.1.1) hA.1.2) kc_572 ⟨by decide, rfl⟩ lc_572 dX12_drop_21 rfl rfl (Nat.le_of_ble_eq_true rfl) (by decide) rfl (Nat.le_refl _) (Nat.le_refl _) (fun m1 h2 => ?_)
      have hR := m_remR MdN.one hX hA h2
      refine T_aload_n (pc := 24) (i := 0) dX12_drop_24 rfl rfl ?_
      refine T_iload_n (pc := 25) (i := 1) dX12_drop_25 rfl rfl ?_
      refine R_callVm0 (pc := 26) (As := [.int (nI k)]) (rest := []) (Or.inl lk_X12_231) mk_X12_drops (m_drops hR.1.1 hk) kc_572 ⟨by decide, rfl⟩ lc_572 dX12_drop_26 rfl rfl (Nat.le_of_ble_eq_true rfl) (by decide) rfl (Nat.le_refl _) (Nat.le_refl _) (fun m2 h3 => ?_)
      have hl : (X.R.eraseIdx k).length = X.R.length - 1 := by rw [List.length_eraseIdx, if_pos hk]
      have hRm : m2.1 573 0 = nI (X.R.length - 1) := h3.1.1.1.1.trans (congrArg nI hl)
      refine T_aload_n (pc := 29) (i := 0) dX12_drop_29 rfl rfl ?_
      refine R_callV1 (pc := 30) (As := []) (rest := []) (Or.inl lk_X12_121) mk_X12_rules (m_rulesN hRm) kc_572 ⟨by decide, rfl⟩ lc_572 dX12_drop_30 rfl rfl (Nat.le_of_ble_eq_true rfl) (by decide) rfl (Nat.le_refl _) (Nat.le_refl _) ?_
      have hu := hR.u (m2 := m2) (h3.2.1.mono (fun k hk => Or.inr (Or.inl hk))) (fun j _ => h3.2.1.i (by unfold S573; omega) j) h3.2.2
      exact T_iret (pc := 33) (ty := .int) dX12_drop_33 rfl rfl (Nat.le_refl _) (Nat.le_refl _) ⟨_, rfl, rfl, ⟨h3.1, hu.1⟩, hu.2⟩
    · exact absurd h1 (by decide)
end MA1

