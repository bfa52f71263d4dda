/-! THE MODEL: field, steps -/
section MF
variable {γ : Ga} {μ : SM2}
theorem m_thrown {t : Nat} (h : μ.1 572 0 = nI t) : Ex γ 1 0 0 M_X12_thrown [.ref 572] (rm μ) (Fn (some (.int (nI t))) μ) := by
  refine Ex.of (by decide +kernel) rfl (Nat.le_of_ble_eq_true rfl) ?_
  show T _ _ _ _ _ _ _ _ _ [some (.ref 572)] [] (rm μ)
  refine T_aload_n (pc := 0) (i := 0) dX12_thrown_0 rfl rfl ?_
  refine R_getI (pc := 1) (x := nI t) fl_X12_3 rfl kc_572 lc_572 h dX12_thrown_1 ?_
  exact T_iret (pc := 4) (ty := .int) dX12_thrown_4 rfl rfl (Nat.le_refl _) (Nat.le_refl _) ⟨rfl, rfl⟩
theorem m_field {x : Int32} {F : List Fld} (h : mdF (μ.1 573) F) : Ex γ 3 0 0 M_X12_field [.ref 572, .int x] (rm μ) (Rm (some (.long (if inB x F.length = true then lN (cd (fAt F x.toNatClampNeg).1) else lN 0))) (fun m => Tn μ m (if inB x F.length = true then 0 else 1))) := by
  have h2 : mdF ((wI μ 572 0 (nI 0)).1 573) F := by rw [w573]; exact h
  have h6 := h.1.2
  have hn := m_noField (γ := γ) (x := x) h2
  cases e : inB x F.length with
  | false =>
    rw [e, Bool.not_false] at hn
    rw [if_neg Bool.false_ne_true, if_neg Bool.false_ne_true]
    refine Ex.of (by decide +kernel) rfl (Nat.le_of_ble_eq_true rfl) ?_
    show T _ _ _ _ _ _ _ _ _ [some (.ref 572), some (.int (x))] [] (rm μ)
    refine T_aload_n (pc := 0) (i := 0) dX12_field_0 rfl rfl ?_
    refine T_iconst (pc := 1) (v := nI 0) dX12_field_1 (by decide) ?_
    refine R_putI (pc := 2) fl_X12_3 ⟨rfl, rfl⟩ (Or.inl rfl) kc_572 lc_572 dX12_field_2 ?_
    refine T_aload_n (pc := 5) (i := 0) dX12_field_5 rfl rfl ?_
    refine T_aload_n (pc := 6) (i := 0) dX12_field_6 rfl rfl ?_
    refine T_iload_n (pc := 7) (i := 1) dX12_field_7 rfl rfl ?_
    refine R_callV1 (pc := 8) (As := [.int (x)]) (rest := [.ref 572]) (Or.inl lk_X12_376) mk_X12_noField hn kc_572 ⟨by decide, rfl⟩ lc_572 dX12_field_8 rfl rfl (Nat.le_of_ble_eq_true rfl) (by decide) rfl (Nat.le_refl _) (Nat.le_refl _) ?_
    refine T_iconst (pc := 11) (v := nI 1) dX12_field_11 (by decide) ?_
    refine R_callV1 (pc := 12) (As := [.int (bI true), .int (nI 1)]) (rest := []) (Or.inl lk_X12_302) mk_X12_throwsIf m_throws1 kc_572 ⟨by decide, rfl⟩ lc_572 dX12_field_12 rfl rfl (Nat.le_of_ble_eq_true rfl) (by decide) rfl (Nat.le_refl _) (Nat.le_refl _) ?_
    refine R_ifb_eq (pc := 15) (tgt := 22) dX12_field_15 (by decide) (fun h1 => ?_) (fun h1 => ?_)
    · exact absurd h1 (by decide)
    · skip
      refine T_lconst (pc := 18) (v := lN 0) dX12_field_18 rfl ?_
      refine T_goto (pc := 19) (tgt := 27) dX12_field_19 (by decide) ?_
      exact T_lret dX12_field_27 rfl (Nat.le_refl _) (Nat.le_refl _) ⟨_, rfl, rfl, Tn.two⟩
  | true =>
    rw [e, Bool.not_true] at hn
    obtain ⟨k, hk, rfl⟩ := inB_of (by omega) e
    rw [if_pos (c := true = true) rfl, if_pos (c := true = true) rfl, nI_clamp (n := k) (by omega)]
    refine Ex.of (by decide +kernel) rfl (Nat.le_of_ble_eq_true rfl) ?_
    show T _ _ _ _ _ _ _ _ _ [some (.ref 572), some (.int (nI k))] [] (rm μ)
    refine T_aload_n (pc := 0) (i := 0) dX12_field_0 rfl rfl ?_
    refine T_iconst (pc := 1) (v := nI 0) dX12_field_1 (by decide) ?_
    refine R_putI (pc := 2) fl_X12_3 ⟨rfl, rfl⟩ (Or.inl rfl) kc_572 lc_572 dX12_field_2 ?_
    refine T_aload_n (pc := 5) (i := 0) dX12_field_5 rfl rfl ?_
    refine T_aload_n (pc := 6) (i := 0) dX12_field_6 rfl rfl ?_
    refine T_iload_n (pc := 7) (i := 1) dX12_field_7 rfl rfl ?_
    refine R_callV1 (pc := 8) (As := [.int (nI k)]) (rest := [.ref 572]) (Or.inl lk_X12_376) mk_X12_noField hn kc_572 ⟨by decide, rfl⟩ lc_572 dX12_field_8 rfl rfl (Nat.le_of_ble_eq_true rfl) (by decide) rfl (Nat.le_refl _) (Nat.le_refl _) ?_
    refine T_iconst (pc := 11) (v := nI 1) dX12_field_11 (by decide) ?_
    refine R_callV1 (pc := 12) (As := [.int (bI false), .int (nI 1)]) (rest := []) (Or.inl lk_X12_302) mk_X12_throwsIf m_throws0 kc_572 ⟨by decide, rfl⟩ lc_572 dX12_field_12 rfl rfl (Nat.le_of_ble_eq_true rfl) (by decide) rfl (Nat.le_refl _) (Nat.le_refl _) ?_
    refine R_ifb_eq (pc := 15) (tgt := 22) dX12_field_15 (by decide) (fun h1 => ?_) (fun h1 => ?_)
    · skip
      refine T_aload_n (pc := 22) (i := 0) dX12_field_22 rfl rfl ?_
      refine T_iload_n (pc := 23) (i := 1) dX12_field_23 rfl rfl ?_
      refine R_callV1 (pc := 24) (As := [.int (nI k)]) (rest := []) (Or.inl lk_X12_379) mk_X12_meadow (m_meadow h2 hk) kc_572 ⟨by decide, rfl⟩ lc_572 dX12_field_24 rfl rfl (Nat.le_of_ble_eq_true rfl) (by decide) rfl (Nat.le_refl _) (Nat.le_refl _) ?_
      exact T_lret dX12_field_27 rfl (Nat.le_refl _) (Nat.le_refl _) ⟨_, rfl, rfl, Tn.one⟩
    · exact absurd h1 (by decide)
theorem m_steps {x : Int32} {F : List Fld} (h : mdF (μ.1 573) F) : Ex γ 3 0 0 M_X12_steps [.ref 572, .int x] (rm μ) (Rm (some (.int (if inB x F.length = true then (fAt F x.toNatClampNeg).2.1 else nI 0))) (fun m => Tn μ m (if inB x F.length = true then 0 else 1))) := by
  have h2 : mdF ((wI μ 572 0 (nI 0)).1 573) F := by rw [w573]; exact h
  have h6 := h.1.2
  have hn := m_noField (γ := γ) (x := x) h2
  cases e : inB x F.length with
  | false =>
    rw [e, Bool.not_false] at hn
    rw [if_neg Bool.false_ne_true, if_neg Bool.false_ne_true]
    refine Ex.of (by decide +kernel) rfl (Nat.le_of_ble_eq_true rfl) ?_
    show T _ _ _ _ _ _ _ _ _ [some (.ref 572), some (.int (x))] [] (rm μ)
    refine T_aload_n (pc := 0) (i := 0) dX12_steps_0 rfl rfl ?_
    refine T_iconst (pc := 1) (v := nI 0) dX12_steps_1 (by decide) ?_
    refine R_putI (pc := 2) fl_X12_3 ⟨rfl, rfl⟩ (Or.inl rfl) kc_572 lc_572 dX12_steps_2 ?_
    refine T_aload_n (pc := 5) (i := 0) dX12_steps_5 rfl rfl ?_
    refine T_aload_n (pc := 6) (i := 0) dX12_steps_6 rfl rfl ?_
    refine T_iload_n (pc := 7) (i := 1) dX12_steps_7 rfl rfl ?_
    refine R_callV1 (pc := 8) (As := [.int (x)]) (rest := [.ref 572]) (Or.inl lk_X12_376) mk_X12_noField hn kc_572 ⟨by decide, rfl⟩ lc_572 dX12_steps_8 rfl rfl (Nat.le_of_ble_eq_true rfl) (by decide) rfl (Nat.le_refl _) (Nat.le_refl _) ?_
    refine T_iconst (pc := 11) (v := nI 1) dX12_steps_11 (by decide) ?_
    refine R_callV1 (pc := 12) (As := [.int (bI true), .int (nI 1)]) (rest := []) (Or.inl lk_X12_302) mk_X12_throwsIf m_throws1 kc_572 ⟨by decide, rfl⟩ lc_572 dX12_steps_12 rfl rfl (Nat.le_of_ble_eq_true rfl) (by decide) rfl (Nat.le_refl _) (Nat.le_refl _) ?_
    refine R_ifb_eq (pc := 15) (tgt := 22) dX12_steps_15 (by decide) (fun h1 => ?_) (fun h1 => ?_)
    · exact absurd h1 (by decide)
    · skip
      refine T_iconst (pc := 18) (v := nI 0) dX12_steps_18 (by decide) ?_
      refine T_goto (pc := 19) (tgt := 33) dX12_steps_19 (by decide) ?_
      exact T_iret (pc := 33) (ty := .int) dX12_steps_33 rfl rfl (Nat.le_refl _) (Nat.le_refl _) ⟨_, rfl, rfl, Tn.two⟩
  | true =>
    rw [e, Bool.not_true] at hn
    obtain ⟨k, hk, rfl⟩ := inB_of (by omega) e
    have hf := h.2 k hk
    rw [if_pos (c := true = true) rfl, if_pos (c := true = true) rfl, nI_clamp (n := k) (by omega)]
    refine Ex.of (by decide +kernel) rfl (Nat.le_of_ble_eq_true rfl) ?_
    show T _ _ _ _ _ _ _ _ _ [some (.ref 572), some (.int (nI k))] [] (rm μ)
    refine T_aload_n (pc := 0) (i := 0) dX12_steps_0 rfl rfl ?_
    refine T_iconst (pc := 1) (v := nI 0) dX12_steps_1 (by decide) ?_
    refine R_putI (pc := 2) fl_X12_3 ⟨rfl, rfl⟩ (Or.inl rfl) kc_572 lc_572 dX12_steps_2 ?_
    refine T_aload_n (pc := 5) (i := 0) dX12_steps_5 rfl rfl ?_
    refine T_aload_n (pc := 6) (i := 0) dX12_steps_6 rfl rfl ?_
    refine T_iload_n (pc := 7) (i := 1) dX12_steps_7 rfl rfl ?_
    refine R_callV1 (pc := 8) (As := [.int (nI k)]) (rest := [.ref 572]) (Or.inl lk_X12_376) mk_X12_noField hn kc_572 ⟨by decide, rfl⟩ lc_572 dX12_steps_8 rfl rfl (Nat.le_of_ble_eq_true rfl) (by decide) rfl (Nat.le_refl _) (Nat.le_refl _) ?_
    refine T_iconst (pc := 11) (v := nI 1) dX12_steps_11 (by decide) ?_
    refine R_callV1 (pc := 12) (As := [.int (bI false), .int (nI 1)]) (rest := []) (Or.inl lk_X12_302) mk_X12_throwsIf m_throws0 kc_572 ⟨by decide, rfl⟩ lc_572 dX12_steps_12 rfl rfl (Nat.le_of_ble_eq_true rfl) (by decide) rfl (Nat.le_refl _) (Nat.le_refl _) ?_
    refine R_ifb_eq (pc := 15) (tgt := 22) dX12_steps_15 (by decide) (fun h1 => ?_) (fun h1 => ?_)
    · skip
      refine T_aload_n (pc := 22) (i := 0) dX12_steps_22 rfl rfl ?_
      refine R_getR (pc := 23) (i := 573) fl_X12_29 rfl kc_572 lc_572 rc_572_1 dX12_steps_23 ?_
      refine T_iload_n (pc := 26) (i := 1) dX12_steps_26 rfl rfl ?_
      refine R_callS1 (pc := 27) (av := [.int (nI k)]) (rest := [.ref 573]) (Or.inl lk_X12_114) mk_X12_at m_at dX12_steps_27 rfl rfl (Nat.le_of_ble_eq_true rfl) (by decide) rfl (Nat.le_refl _) (Nat.le_refl _) ?_
      refine T_iconst (pc := 30) (v := nI 2) dX12_steps_30 (by decide) ?_
      refine R_iadd (pc := 31) dX12_steps_31 ?_
      refine R_iald (pc := 32) (x := ((fAt F k).2.1)) kc_573 lc_573 (by omega) (by first | decide | assumption) ((wI_ne (by first | omega | simp)).trans hf.2.2.1) dX12_steps_32 ?_
      exact T_iret (pc := 33) (ty := .int) dX12_steps_33 rfl rfl (Nat.le_refl _) (Nat.le_refl _) ⟨_, rfl, rfl, Tn.one⟩
    · exact absurd h1 (by decide)
end MF

