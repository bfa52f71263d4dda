/-! THE MODEL: is it a CODE, is it a RULE
-/
theorem pw_uni {k e c : Nat} (h : 2 ^ k ≤ c ∧ c < 2 ^ (k + 1)) (g : 2 ^ e ≤ c ∧ c < 2 ^ (e + 1)) : k = e := by
  have h1 := pw_lt h.1 g.2
  have h2 := pw_lt g.1 h.2
  omega
theorem codeB_k {c k : Nat} (h : 2 ^ k ≤ c ∧ c < 2 ^ (k + 1)) (hc : c < 2 ^ 63) : codeB (lN c) = (decide (k % 3 = 0) && decide (k / 3 ≤ 20)) := by
  have hcc : (lN c).toInt.toNat = c := by rw [pf_lI hc]; rfl
  by_cases g : k % 3 = 0 ∧ k / 3 ≤ 20
  · rw [decide_eq_true g.1, decide_eq_true g.2]
    obtain ⟨l, h1, h2, h3⟩ := cd_ex (k / 3) c (by rw [← p8, show 3 * (k / 3) = k by omega]; exact h.1) (by
      have := h.2
      rw [Nat.pow_succ] at this
      rw [← p8, show 3 * (k / 3) = k by omega]
      omega)
    exact codeB_iff.mpr ⟨l, ⟨by omega, h1⟩, by rw [h3]⟩
  · have e : codeB (lN c) = false := by
      cases e : codeB (lN c) with
      | false => rfl
      | true =>
        obtain ⟨l, hl, e2⟩ := codeB_iff.mp e
        have e3 : c = cd l := by
          have e4 := congrArg (fun x : Int64 => x.toInt.toNat) e2
          have e5 : (lN (cd l)).toInt.toNat = cd l := by
            have := cd_lt hl
            rw [pf_lI (by omega)]
            rfl
          exact hcc.symm.trans (e4.trans e5)
        have hk := pw_uni h (by rw [e3]; exact cd_2 hl.2)
        have := hl.1
        exact absurd ⟨by omega, by omega⟩ g
    rw [e]
    by_cases g1 : k % 3 = 0
    · rw [decide_eq_false (p := k / 3 ≤ 20) (fun z => g ⟨g1, z⟩), Bool.and_false]
    · rw [decide_eq_false g1, Bool.false_and]
theorem in_inB {x : Int32} {n : Nat} (hn : n < 1000) : (!decide (x < nI 0) && !decide (nI n - nI 1 < x)) = inB x n := by
  unfold inB
  have e1 : (nI n - nI 1).toInt = (n : Int) - 1 := by
    rw [← ofI_n, ← ofI_n, ← Int32.ofInt_sub]
    exact Int32.toInt_ofInt_of_le (by omega) (by omega)
  have e2 : (nI n).toInt = n := nI_toInt (by omega)
  have e3 : (!decide (nI n - nI 1 < x)) = decide (x < nI n) := by
    by_cases g : x < nI n
    · rw [decide_eq_true g, decide_eq_false]
      · rfl
      · rw [fa_lt] at g ⊢
        omega
    · rw [decide_eq_false g, decide_eq_true (p := nI n - nI 1 < x)]
      · rfl
      · rw [fa_lt] at g ⊢
        omega
  rw [e3]
  rfl
section MD
variable {γ : Ga} {μ : SM2}
theorem m_sizeK {c k : Nat} (h : 2 ^ k ≤ c ∧ c < 2 ^ (k + 1)) (hk : k < 63) : Ex γ 3 0 0 M_X12_size [.long (lN c)] (rm μ) (Fn (some (.int (nI (k / 3)))) μ) := by
  refine Ex.of (by decide +kernel) rfl (Nat.le_of_ble_eq_true rfl) ?_
  show T _ _ _ _ _ _ _ _ _ [some (.long (lN c)), none] [] (rm μ)
  refine T_bipush (pc := 0) (v := nI 63) dX12_size_0 (by decide) ?_
  refine T_lload_n (pc := 2) (i := 0) dX12_size_2 rfl rfl ?_
  refine R_callS1 (pc := 3) (av := [.long (lN c)]) (rest := [.int (nI 63)]) (Or.inl lk_X12_7) mk_J13_numberOfLeadingZeros_95d88 (c_nlz64 h hk) dX12_size_3 rfl rfl (Nat.le_of_ble_eq_true rfl) (by decide) rfl (Nat.le_refl _) (Nat.le_refl _) ?_
  refine R_isub (pc := 6) (by omega) dX12_size_6 ?_
  refine T_iconst (pc := 7) (v := nI 3) dX12_size_7 (by decide) ?_
  refine R_idiv (pc := 8) ⟨by omega, by omega, by omega⟩ dX12_size_8 ?_
  exact T_iret (pc := 9) (ty := .int) dX12_size_9 rfl rfl (Nat.le_refl _) (Nat.le_refl _) ⟨by rw [show (63 - (63 - k)) / 3 = k / 3 by omega], rfl⟩
theorem m_isCode {x : Int64} : Ex γ 4 0 0 M_X12_isCode [.long x] (rm μ) (Fn (some (.int (bI (codeB x)))) μ) := by
  refine Ex.of (by decide +kernel) rfl (Nat.le_of_ble_eq_true rfl) ?_
  show T _ _ _ _ _ _ _ _ _ [some (.long (x)), none] [] (rm μ)
  refine T_lload_n (pc := 0) (i := 0) dX12_isCode_0 rfl rfl ?_
  refine T_lconst (pc := 1) (v := lN 0) dX12_isCode_1 rfl ?_
  refine T_lcmp (pc := 2) dX12_isCode_2 ?_
  refine R_lx_le (pc := 3) (tgt := 31) dX12_isCode_3 (by decide) (fun h => ?_) (fun h => ?_)
  · skip
    refine T_iconst (pc := 31) (v := nI 0) dX12_isCode_31 (by decide) ?_
    exact T_iret (pc := 32) (ty := .boolean) dX12_isCode_32 rfl (by decide) (Nat.le_refl _) (Nat.le_refl _) ⟨by unfold codeB; rw [decide_eq_false (p := 0 < x) h]; rfl, rfl⟩
  · obtain ⟨c, h0, h1, rfl, hc⟩ := l_of_pos h
    obtain ⟨k, hk, hk63⟩ : ∃ k, (2 ^ k ≤ c ∧ c < 2 ^ (k + 1)) ∧ k < 63 := ⟨c.log2, ⟨Nat.log2_self_le (by omega), Nat.lt_log2_self⟩, (Nat.log2_lt (by omega)).mpr h1⟩
    rw [codeB_k hk h1]
    refine T_bipush (pc := 6) (v := nI 63) dX12_isCode_6 (by decide) ?_
    refine T_lload_n (pc := 8) (i := 0) dX12_isCode_8 rfl rfl ?_
    refine R_callS1 (pc := 9) (av := [.long (lN c)]) (rest := [.int (nI 63)]) (Or.inl lk_X12_7) mk_J13_numberOfLeadingZeros_95d88 (c_nlz64 hk hk63) dX12_isCode_9 rfl rfl (Nat.le_of_ble_eq_true rfl) (by decide) rfl (Nat.le_refl _) (Nat.le_refl _) ?_
    refine R_isub (pc := 12) (by omega) dX12_isCode_12 ?_
    refine T_iconst (pc := 13) (v := nI 3) dX12_isCode_13 (by decide) ?_
    refine R_irem (pc := 14) ⟨by omega, by omega, by omega⟩ dX12_isCode_14 ?_
    refine R_if_ne (pc := 15) (tgt := 31) (by omega) dX12_isCode_15 (by decide) (fun h3 => ?_) (fun h3 => ?_)
    · skip
      rw [decide_eq_false (p := k % 3 = 0) (by omega), Bool.false_and]
      refine T_iconst (pc := 31) (v := nI 0) dX12_isCode_31 (by decide) ?_
      exact T_iret (pc := 32) (ty := .boolean) dX12_isCode_32 rfl (by decide) (Nat.le_refl _) (Nat.le_refl _) ⟨rfl, rfl⟩
    · skip
      rw [decide_eq_true (p := k % 3 = 0) (by omega), Bool.true_and]
      refine T_lload_n (pc := 18) (i := 0) dX12_isCode_18 rfl rfl ?_
      refine R_callS1 (pc := 19) (av := [.long (lN c)]) (rest := []) (Or.inl lk_X12_13) mk_X12_size (m_sizeK hk hk63) dX12_isCode_19 rfl rfl (Nat.le_of_ble_eq_true rfl) (by decide) rfl (Nat.le_refl _) (Nat.le_refl _) ?_
      refine T_bipush (pc := 22) (v := nI 20) dX12_isCode_22 (by decide) ?_
      refine R_icmp_gt (pc := 24) (tgt := 31) (by omega) (by omega) dX12_isCode_24 (by decide) (fun h4 => ?_) (fun h4 => ?_)
      · skip
        rw [decide_eq_false (p := k / 3 ≤ 20) (by omega)]
        refine T_iconst (pc := 31) (v := nI 0) dX12_isCode_31 (by decide) ?_
        exact T_iret (pc := 32) (ty := .boolean) dX12_isCode_32 rfl (by decide) (Nat.le_refl _) (Nat.le_refl _) ⟨rfl, rfl⟩
      · skip
        rw [decide_eq_true (p := k / 3 ≤ 20) (by omega)]
        refine T_iconst (pc := 27) (v := nI 1) dX12_isCode_27 (by decide) ?_
        refine T_goto (pc := 28) (tgt := 32) dX12_isCode_28 (by decide) ?_
        exact T_iret (pc := 32) (ty := .boolean) dX12_isCode_32 rfl (by decide) (Nat.le_refl _) (Nat.le_refl _) ⟨rfl, rfl⟩
theorem m_noRule {x : Int32} {R : List Ru} (h : mdR (μ.1 573) R) : Ex γ 2 0 0 M_X12_noRule [.ref 572, .int x] (rm μ) (Fn (some (.int (bI (!inB x R.length)))) μ) := by
  have h12 := h.1.2
  refine Ex.of (by decide +kernel) rfl (Nat.le_of_ble_eq_true rfl) ?_
  show T _ _ _ _ _ _ _ _ _ [some (.ref 572), some (.int (x))] [] (rm μ)
  refine T_iload_n (pc := 0) (i := 1) dX12_noRule_0 rfl rfl ?_
  refine T_iconst (pc := 1) (v := nI 0) dX12_noRule_1 (by decide) ?_
  refine T_aload_n (pc := 2) (i := 0) dX12_noRule_2 rfl rfl ?_
  refine R_callV1 (pc := 3) (As := []) (rest := [.int (nI 0), .int (x)]) (Or.inl lk_X12_121) mk_X12_rules (m_rules h) kc_572 ⟨by decide, rfl⟩ lc_572 dX12_noRule_3 rfl rfl (Nat.le_of_ble_eq_true rfl) (by decide) rfl (Nat.le_refl _) (Nat.le_refl _) ?_
  refine T_iconst (pc := 6) (v := nI 1) dX12_noRule_6 (by decide) ?_
  refine T_isub (pc := 7) dX12_noRule_7 ?_
  refine R_callS1 (pc := 8) (av := [.int (x), .int (nI 0), .int (((nI R.length) - (nI 1)))]) (rest := []) (Or.inl lk_X12_125) mk_X12_in m_in dX12_noRule_8 rfl rfl (Nat.le_of_ble_eq_true rfl) (by decide) rfl (Nat.le_refl _) (Nat.le_refl _) ?_
  rw [in_inB (by omega)]
  cases inB x R.length with
  | true =>
    refine R_ifb_ne (pc := 11) (tgt := 18) dX12_noRule_11 (by decide) (fun h1 => ?_) (fun h1 => ?_)
    · skip
      refine T_iconst (pc := 18) (v := nI 0) dX12_noRule_18 (by decide) ?_
      exact T_iret (pc := 19) (ty := .boolean) dX12_noRule_19 rfl (by decide) (Nat.le_refl _) (Nat.le_refl _) ⟨rfl, rfl⟩
    · exact absurd h1 (by decide)
  | false =>
    refine R_ifb_ne (pc := 11) (tgt := 18) dX12_noRule_11 (by decide) (fun h1 => ?_) (fun h1 => ?_)
    · exact absurd h1 (by decide)
    · skip
      refine T_iconst (pc := 14) (v := nI 1) dX12_noRule_14 (by decide) ?_
      refine T_goto (pc := 15) (tgt := 19) dX12_noRule_15 (by decide) ?_
      exact T_iret (pc := 19) (ty := .boolean) dX12_noRule_19 rfl (by decide) (Nat.le_refl _) (Nat.le_refl _) ⟨rfl, rfl⟩
theorem m_noField {x : Int32} {F : List Fld} (h : mdF (μ.1 573) F) : Ex γ 2 0 0 M_X12_noField [.ref 572, .int x] (rm μ) (Fn (some (.int (bI (!inB x F.length)))) μ) := by
  have h6 := h.1.2
  refine Ex.of (by decide +kernel) rfl (Nat.le_of_ble_eq_true rfl) ?_
  show T _ _ _ _ _ _ _ _ _ [some (.ref 572), some (.int (x))] [] (rm μ)
  refine T_iload_n (pc := 0) (i := 1) dX12_noField_0 rfl rfl ?_
  refine T_iconst (pc := 1) (v := nI 0) dX12_noField_1 (by decide) ?_
  refine T_aload_n (pc := 2) (i := 0) dX12_noField_2 rfl rfl ?_
  refine R_callV1 (pc := 3) (As := []) (rest := [.int (nI 0), .int (x)]) (Or.inl lk_X12_129) mk_X12_fields (m_fields h) kc_572 ⟨by decide, rfl⟩ lc_572 dX12_noField_3 rfl rfl (Nat.le_of_ble_eq_true rfl) (by decide) rfl (Nat.le_refl _) (Nat.le_refl _) ?_
  refine T_iconst (pc := 6) (v := nI 1) dX12_noField_6 (by decide) ?_
  refine T_isub (pc := 7) dX12_noField_7 ?_
  refine R_callS1 (pc := 8) (av := [.int (x), .int (nI 0), .int (((nI F.length) - (nI 1)))]) (rest := []) (Or.inl lk_X12_125) mk_X12_in m_in dX12_noField_8 rfl rfl (Nat.le_of_ble_eq_true rfl) (by decide) rfl (Nat.le_refl _) (Nat.le_refl _) ?_
  rw [in_inB (by omega)]
  cases inB x F.length with
  | true =>
    refine R_ifb_ne (pc := 11) (tgt := 18) dX12_noField_11 (by decide) (fun h1 => ?_) (fun h1 => ?_)
    · skip
      refine T_iconst (pc := 18) (v := nI 0) dX12_noField_18 (by decide) ?_
      exact T_iret (pc := 19) (ty := .boolean) dX12_noField_19 rfl (by decide) (Nat.le_refl _) (Nat.le_refl _) ⟨rfl, rfl⟩
    · exact absurd h1 (by decide)
  | false =>
    refine R_ifb_ne (pc := 11) (tgt := 18) dX12_noField_11 (by decide) (fun h1 => ?_) (fun h1 => ?_)
    · exact absurd h1 (by decide)
    · skip
      refine T_iconst (pc := 14) (v := nI 1) dX12_noField_14 (by decide) ?_
      refine T_goto (pc := 15) (tgt := 19) dX12_noField_15 (by decide) ?_
      exact T_iret (pc := 19) (ty := .boolean) dX12_noField_19 rfl (by decide) (Nat.le_refl _) (Nat.le_refl _) ⟨rfl, rfl⟩
theorem m_meadow {F : List Fld} (h : mdF (μ.1 573) F) {i : Nat} (hi : i < F.length) : Ex γ 2 0 0 M_X12_meadow [.ref 572, .int (nI i)] (rm μ) (Fn (some (.long (lN (cd (fAt F i).1)))) μ) := by
  have h6 := h.1.2
  have hf := h.2 i hi
  refine Ex.of (by decide +kernel) rfl (Nat.le_of_ble_eq_true rfl) ?_
  show T _ _ _ _ _ _ _ _ _ [some (.ref 572), some (.int (nI i))] [] (rm μ)
  refine T_aload_n (pc := 0) (i := 0) dX12_meadow_0 rfl rfl ?_
  refine T_iload_n (pc := 1) (i := 1) dX12_meadow_1 rfl rfl ?_
  refine R_callS1 (pc := 2) (av := [.int (nI i)]) (rest := [.ref 572]) (Or.inl lk_X12_114) mk_X12_at m_at dX12_meadow_2 rfl rfl (Nat.le_of_ble_eq_true rfl) (by decide) rfl (Nat.le_refl _) (Nat.le_refl _) ?_
  refine R_callV1 (pc := 5) (As := [.int (nI (41 + 43 * i))]) (rest := []) (Or.inl lk_X12_118) mk_X12_codeAt (m_codeAt hf.1.1 hf.2.1 (by omega)) kc_572 ⟨by decide, rfl⟩ lc_572 dX12_meadow_5 rfl rfl (Nat.le_of_ble_eq_true rfl) (by decide) rfl (Nat.le_refl _) (Nat.le_refl _) ?_
  exact T_lret dX12_meadow_8 rfl (Nat.le_refl _) (Nat.le_refl _) ⟨rfl, rfl⟩
theorem m_throwsIf {b : Bool} {x : Int32} : Ex γ 1 0 0 M_X12_throwsIf [.ref 572, .int (bI b), .int x] (rm μ) (Fn (some (.int (bI b))) (if b = true then wI μ 572 0 x else μ)) := by
  cases b with
  | true =>
    refine Ex.of (by decide +kernel) rfl (Nat.le_of_ble_eq_true rfl) ?_
    show T _ _ _ _ _ _ _ _ _ [some (.ref 572), some (.int (bI true)), some (.int (x))] [] (rm μ)
    refine T_iload_n (pc := 0) (i := 1) dX12_throwsIf_0 rfl rfl ?_
    refine R_ifb_eq (pc := 1) (tgt := 9) dX12_throwsIf_1 (by decide) (fun h1 => ?_) (fun h1 => ?_)
    · exact absurd h1 (by decide)
    · skip
      rw [if_pos (c := true = true) rfl]
      refine T_aload_n (pc := 4) (i := 0) dX12_throwsIf_4 rfl rfl ?_
      refine T_iload_n (pc := 5) (i := 2) dX12_throwsIf_5 rfl rfl ?_
      refine R_putI (pc := 6) fl_X12_3 ⟨rfl, rfl⟩ (Or.inl rfl) kc_572 lc_572 dX12_throwsIf_6 ?_
      refine T_iload_n (pc := 9) (i := 1) dX12_throwsIf_9 rfl rfl ?_
      exact T_iret (pc := 10) (ty := .boolean) dX12_throwsIf_10 rfl (nar_b _) (Nat.le_refl _) (Nat.le_refl _) ⟨rfl, rfl⟩
  | false =>
    refine Ex.of (by decide +kernel) rfl (Nat.le_of_ble_eq_true rfl) ?_
    show T _ _ _ _ _ _ _ _ _ [some (.ref 572), some (.int (bI false)), some (.int (x))] [] (rm μ)
    refine T_iload_n (pc := 0) (i := 1) dX12_throwsIf_0 rfl rfl ?_
    refine R_ifb_eq (pc := 1) (tgt := 9) dX12_throwsIf_1 (by decide) (fun h1 => ?_) (fun h1 => ?_)
    · skip
      rw [if_neg (c := false = true) Bool.false_ne_true]
      refine T_iload_n (pc := 9) (i := 1) dX12_throwsIf_9 rfl rfl ?_
      exact T_iret (pc := 10) (ty := .boolean) dX12_throwsIf_10 rfl (nar_b _) (Nat.le_refl _) (Nat.le_refl _) ⟨rfl, rfl⟩
    · exact absurd h1 (by decide)
end MD

