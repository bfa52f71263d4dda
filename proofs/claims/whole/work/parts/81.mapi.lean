/-! THE MODEL: calls that look at what is told -/
/-- only what was thrown is another -/
def Tn (μ m : SM2) (t : Nat) : Prop := (m.1 572 0 = nI t ∧ ∀ j, j ≠ 0 → m.1 572 j = μ.1 572 j) ∧ OfS (fun k => k = 572) μ m
theorem Tn.one {μ : SM2} {t : Nat} : Tn μ (wI μ 572 0 (nI t)) t := ⟨⟨e_wI ⟨rfl, rfl⟩, fun j hj => n_wI (by omega)⟩, OfS.sI (OfS.refl _ _) rfl⟩
theorem Tn.two {μ : SM2} {s t : Nat} : Tn μ (wI (wI μ 572 0 (nI s)) 572 0 (nI t)) t := ⟨⟨e_wI ⟨rfl, rfl⟩, fun j hj => (n_wI (by omega)).trans (n_wI (by omega))⟩, OfS.sI (OfS.sI (OfS.refl _ _) rfl) rfl⟩
theorem w573 {μ : SM2} {x : Int32} : (wI μ 572 0 x).1 573 = μ.1 573 := ((OfS.sI (OfS.refl _ _) rfl : OfS (fun k => k = 572) μ (wI μ 572 0 x)) 573 (fun z => absurd (show (573 : Nat) = 572 from z) (by decide))).1
section ME
variable {γ : Ga} {μ : SM2}
theorem m_throws1 {x : Int32} : Ex γ 1 0 0 M_X12_throwsIf [.ref 572, .int (bI true), .int x] (rm μ) (Fn (some (.int (bI true))) (wI μ 572 0 x)) := m_throwsIf (b := true)
theorem m_throws0 {x : Int32} : Ex γ 1 0 0 M_X12_throwsIf [.ref 572, .int (bI false), .int x] (rm μ) (Fn (some (.int (bI false))) μ) := m_throwsIf (b := false)
theorem m_rule {x : Int32} {b : Bool} {R : List Ru} (h : mdR (μ.1 573) R) : Ex γ 3 0 0 M_X12_rule [.ref 572, .int x, .int (bI b)] (rm μ) (Rm (some (.long (if inB x R.length = true then lN (cd (if b = true then (rAt R x.toNatClampNeg).2 else (rAt R x.toNatClampNeg).1)) else lN 0))) (fun m => Tn μ m (if inB x R.length = true then 0 else 1))) := by
  have h2 : mdR ((wI μ 572 0 (nI 0)).1 573) R := by rw [w573]; exact h
  have h12 := h.1.2
  have hn := m_noRule (γ := γ) (x := x) h2
  cases e : inB x R.length with
  | false =>
    rw [e, Bool.not_false] at hn
    rw [if_neg Bool.false_ne_true, if_neg Bool.false_ne_true]
    refine Ex.of (by decide +kernel) rfl (Nat.le_of_ble_eq_true rfl) ?_
    show T _ _ _ _ _ _ _ _ _ [some (.ref 572), some (.int (x)), some (.int (bI b))] [] (rm μ)
    refine T_aload_n (pc := 0) (i := 0) dX12_rule_0 rfl rfl ?_
    refine T_iconst (pc := 1) (v := nI 0) dX12_rule_1 (by decide) ?_
    refine R_putI (pc := 2) fl_X12_3 ⟨rfl, rfl⟩ (Or.inl rfl) kc_572 lc_572 dX12_rule_2 ?_
    refine T_aload_n (pc := 5) (i := 0) dX12_rule_5 rfl rfl ?_
    refine T_aload_n (pc := 6) (i := 0) dX12_rule_6 rfl rfl ?_
    refine T_iload_n (pc := 7) (i := 1) dX12_rule_7 rfl rfl ?_
    refine R_callV1 (pc := 8) (As := [.int (x)]) (rest := [.ref 572]) (Or.inl lk_X12_373) mk_X12_noRule hn kc_572 ⟨by decide, rfl⟩ lc_572 dX12_rule_8 rfl rfl (Nat.le_of_ble_eq_true rfl) (by decide) rfl (Nat.le_refl _) (Nat.le_refl _) ?_
    refine T_iconst (pc := 11) (v := nI 1) dX12_rule_11 (by decide) ?_
    refine R_callV1 (pc := 12) (As := [.int (bI true), .int (nI 1)]) (rest := []) (Or.inl lk_X12_302) mk_X12_throwsIf m_throws1 kc_572 ⟨by decide, rfl⟩ lc_572 dX12_rule_12 rfl rfl (Nat.le_of_ble_eq_true rfl) (by decide) rfl (Nat.le_refl _) (Nat.le_refl _) ?_
    refine R_ifb_eq (pc := 15) (tgt := 20) dX12_rule_15 (by decide) (fun h1 => ?_) (fun h1 => ?_)
    · exact absurd h1 (by decide)
    · skip
      refine T_lconst (pc := 18) (v := lN 0) dX12_rule_18 rfl ?_
      exact T_lret dX12_rule_19 rfl (Nat.le_refl _) (Nat.le_refl _) ⟨_, rfl, rfl, Tn.two⟩
  | true =>
    rw [e, Bool.not_true] at hn
    obtain ⟨k, hk, rfl⟩ := inB_of (by omega) e
    rw [if_pos (c := true = true) rfl, if_pos (c := true = true) rfl, nI_clamp (n := k) (by omega)]
    refine Ex.of (by decide +kernel) rfl (Nat.le_of_ble_eq_true rfl) ?_
    show T _ _ _ _ _ _ _ _ _ [some (.ref 572), some (.int (nI k)), some (.int (bI b))] [] (rm μ)
    refine T_aload_n (pc := 0) (i := 0) dX12_rule_0 rfl rfl ?_
    refine T_iconst (pc := 1) (v := nI 0) dX12_rule_1 (by decide) ?_
    refine R_putI (pc := 2) fl_X12_3 ⟨rfl, rfl⟩ (Or.inl rfl) kc_572 lc_572 dX12_rule_2 ?_
    refine T_aload_n (pc := 5) (i := 0) dX12_rule_5 rfl rfl ?_
    refine T_aload_n (pc := 6) (i := 0) dX12_rule_6 rfl rfl ?_
    refine T_iload_n (pc := 7) (i := 1) dX12_rule_7 rfl rfl ?_
    refine R_callV1 (pc := 8) (As := [.int (nI k)]) (rest := [.ref 572]) (Or.inl lk_X12_373) mk_X12_noRule hn kc_572 ⟨by decide, rfl⟩ lc_572 dX12_rule_8 rfl rfl (Nat.le_of_ble_eq_true rfl) (by decide) rfl (Nat.le_refl _) (Nat.le_refl _) ?_
    refine T_iconst (pc := 11) (v := nI 1) dX12_rule_11 (by decide) ?_
    refine R_callV1 (pc := 12) (As := [.int (bI false), .int (nI 1)]) (rest := []) (Or.inl lk_X12_302) mk_X12_throwsIf m_throws0 kc_572 ⟨by decide, rfl⟩ lc_572 dX12_rule_12 rfl rfl (Nat.le_of_ble_eq_true rfl) (by decide) rfl (Nat.le_refl _) (Nat.le_refl _) ?_
    refine R_ifb_eq (pc := 15) (tgt := 20) dX12_rule_15 (by decide) (fun h1 => ?_) (fun h1 => ?_)
    · skip
      refine T_iload_n (pc := 20) (i := 2) dX12_rule_20 rfl rfl ?_
      refine R_ifb_eq (pc := 21) (tgt := 32) dX12_rule_21 (by decide) (fun h3 => ?_) (fun h3 => ?_)
      · skip
        refine T_aload_n (pc := 32) (i := 0) dX12_rule_32 rfl rfl ?_
        refine T_iload_n (pc := 33) (i := 1) dX12_rule_33 rfl rfl ?_
        refine R_callV1 (pc := 34) (As := [.int (nI k)]) (rest := []) (Or.inl lk_X12_107) mk_X12_left (m_left h2 hk) kc_572 ⟨by decide, rfl⟩ lc_572 dX12_rule_34 rfl rfl (Nat.le_of_ble_eq_true rfl) (by decide) rfl (Nat.le_refl _) (Nat.le_refl _) ?_
        subst h3
        rw [if_neg (c := false = true) Bool.false_ne_true]
        exact T_lret dX12_rule_37 rfl (Nat.le_refl _) (Nat.le_refl _) ⟨_, rfl, rfl, Tn.one⟩
      · skip
        refine T_aload_n (pc := 24) (i := 0) dX12_rule_24 rfl rfl ?_
        refine T_iload_n (pc := 25) (i := 1) dX12_rule_25 rfl rfl ?_
        refine R_callV1 (pc := 26) (As := [.int (nI k)]) (rest := []) (Or.inl lk_X12_111) mk_X12_right (m_right h2 hk) kc_572 ⟨by decide, rfl⟩ lc_572 dX12_rule_26 rfl rfl (Nat.le_of_ble_eq_true rfl) (by decide) rfl (Nat.le_refl _) (Nat.le_refl _) ?_
        subst h3
        rw [if_pos (c := true = true) rfl]
        refine T_goto (pc := 29) (tgt := 37) dX12_rule_29 (by decide) ?_
        exact T_lret dX12_rule_37 rfl (Nat.le_refl _) (Nat.le_refl _) ⟨_, rfl, rfl, Tn.one⟩
    · exact absurd h1 (by decide)
end ME

