/-! THE MODEL: loss, seen, maker; rows of one BEAST; CODES put -/
section MI1
variable {γ : Ga} {μ : SM2}
theorem m_loss {x : Int32} {R : List Ru} {W : List Nat} (h : mdR (μ.1 573) R) (hW : mdW (μ.1 573) W) : Ex γ 6 0 0 M_X12_loss [.ref 572, .int x] (rm μ) (Rm (some (.int (if inB x R.length = true then nI (wgN W (rAt R x.toNatClampNeg).1 (rAt R x.toNatClampNeg).1.length) - nI (wgN W (rAt R x.toNatClampNeg).2 (rAt R x.toNatClampNeg).2.length) else nI 0))) (fun m => Tn μ m (if inB x R.length = true then 0 else 1))) := by
  have h2 : mdR ((wI μ 572 0 (nI 0)).1 573) R := by rw [w573]; exact h
  have hW2 : mdW ((wI μ 572 0 (nI 0)).1 573) W := by rw [w573]; exact hW
  have h12 := h.1.2
  have hn := m_noRule (γ := γ) (x := x) h2
  cases e : inB x R.length with
  | false =>
    rw [e, Bool.not_false] at hn
    rw [if_neg Bool.false_ne_true, if_neg Bool.false_ne_true]
    refine Ex.of (by decide +kernel) rfl (Nat.le_of_ble_eq_true rfl) ?_
    show T _ _ _ _ _ _ _ _ _ [some (.ref 572), some (.int (x))] [] (rm μ)
    refine T_aload_n (pc := 0) (i := 0) dX12_loss_0 rfl rfl ?_
    refine T_iconst (pc := 1) (v := nI 0) dX12_loss_1 (by decide) ?_
    refine R_putI (pc := 2) fl_X12_3 ⟨rfl, rfl⟩ (Or.inl rfl) kc_572 lc_572 dX12_loss_2 ?_
    refine T_aload_n (pc := 5) (i := 0) dX12_loss_5 rfl rfl ?_
    refine T_aload_n (pc := 6) (i := 0) dX12_loss_6 rfl rfl ?_
    refine T_iload_n (pc := 7) (i := 1) dX12_loss_7 rfl rfl ?_
    refine R_callV1 (pc := 8) (As := [.int (x)]) (rest := [.ref 572]) (Or.inl lk_X12_373) mk_X12_noRule hn kc_572 ⟨by decide, rfl⟩ lc_572 dX12_loss_8 rfl rfl (Nat.le_of_ble_eq_true rfl) (by decide) rfl (Nat.le_refl _) (Nat.le_refl _) ?_
    refine T_iconst (pc := 11) (v := nI 1) dX12_loss_11 (by decide) ?_
    refine R_callV1 (pc := 12) (As := [.int (bI true), .int (nI 1)]) (rest := []) (Or.inl lk_X12_302) mk_X12_throwsIf m_throws1 kc_572 ⟨by decide, rfl⟩ lc_572 dX12_loss_12 rfl rfl (Nat.le_of_ble_eq_true rfl) (by decide) rfl (Nat.le_refl _) (Nat.le_refl _) ?_
    refine R_ifb_eq (pc := 15) (tgt := 22) dX12_loss_15 (by decide) (fun h1 => ?_) (fun h1 => ?_)
    · exact absurd h1 (by decide)
    · skip
      refine T_iconst (pc := 18) (v := nI 0) dX12_loss_18 (by decide) ?_
      refine T_goto (pc := 19) (tgt := 41) dX12_loss_19 (by decide) ?_
      exact T_iret (pc := 41) (ty := .int) dX12_loss_41 rfl rfl (Nat.le_refl _) (Nat.le_refl _) ⟨_, rfl, rfl, Tn.two⟩
  | true =>
    rw [e, Bool.not_true] at hn
    obtain ⟨k, hk, rfl⟩ := inB_of (by omega) e
    rw [if_pos (c := true = true) rfl, if_pos (c := true = true) rfl, nI_clamp (n := k) (by omega)]
    have ok := h.2.1 k hk
    refine Ex.of (by decide +kernel) rfl (Nat.le_of_ble_eq_true rfl) ?_
    show T _ _ _ _ _ _ _ _ _ [some (.ref 572), some (.int (nI k))] [] (rm μ)
    refine T_aload_n (pc := 0) (i := 0) dX12_loss_0 rfl rfl ?_
    refine T_iconst (pc := 1) (v := nI 0) dX12_loss_1 (by decide) ?_
    refine R_putI (pc := 2) fl_X12_3 ⟨rfl, rfl⟩ (Or.inl rfl) kc_572 lc_572 dX12_loss_2 ?_
    refine T_aload_n (pc := 5) (i := 0) dX12_loss_5 rfl rfl ?_
    refine T_aload_n (pc := 6) (i := 0) dX12_loss_6 rfl rfl ?_
    refine T_iload_n (pc := 7) (i := 1) dX12_loss_7 rfl rfl ?_
    refine R_callV1 (pc := 8) (As := [.int (nI k)]) (rest := [.ref 572]) (Or.inl lk_X12_373) mk_X12_noRule hn kc_572 ⟨by decide, rfl⟩ lc_572 dX12_loss_8 rfl rfl (Nat.le_of_ble_eq_true rfl) (by decide) rfl (Nat.le_refl _) (Nat.le_refl _) ?_
    refine T_iconst (pc := 11) (v := nI 1) dX12_loss_11 (by decide) ?_
    refine R_callV1 (pc := 12) (As := [.int (bI false), .int (nI 1)]) (rest := []) (Or.inl lk_X12_302) mk_X12_throwsIf m_throws0 kc_572 ⟨by decide, rfl⟩ lc_572 dX12_loss_12 rfl rfl (Nat.le_of_ble_eq_true rfl) (by decide) rfl (Nat.le_refl _) (Nat.le_refl _) ?_
    refine R_ifb_eq (pc := 15) (tgt := 22) dX12_loss_15 (by decide) (fun h1 => ?_) (fun h1 => ?_)
    · skip
      refine T_aload_n (pc := 22) (i := 0) dX12_loss_22 rfl rfl ?_
      refine T_aload_n (pc := 23) (i := 0) dX12_loss_23 rfl rfl ?_
      refine T_iload_n (pc := 24) (i := 1) dX12_loss_24 rfl rfl ?_
      refine R_callV1 (pc := 25) (As := [.int (nI k)]) (rest := [.ref 572]) (Or.inl lk_X12_107) mk_X12_left (m_left h2 hk) kc_572 ⟨by decide, rfl⟩ lc_572 dX12_loss_25 rfl rfl (Nat.le_of_ble_eq_true rfl) (by decide) rfl (Nat.le_refl _) (Nat.le_refl _) ?_
      refine R_callV1 (pc := 28) (As := [.long (lN (cd (rAt R k).1))]) (rest := []) (Or.inl lk_X12_544) mk_X12_lightOf (m_lightOf hW2 ok.l) kc_572 ⟨by decide, rfl⟩ lc_572 dX12_loss_28 rfl rfl (Nat.le_of_ble_eq_true rfl) (by decide) rfl (Nat.le_refl _) (Nat.le_refl _) ?_
      refine T_aload_n (pc := 31) (i := 0) dX12_loss_31 rfl rfl ?_
      refine T_aload_n (pc := 32) (i := 0) dX12_loss_32 rfl rfl ?_
      refine T_iload_n (pc := 33) (i := 1) dX12_loss_33 rfl rfl ?_
      refine R_callV1 (pc := 34) (As := [.int (nI k)]) (rest := [.ref 572, .int (nI (wgN W (rAt R k).1 (rAt R k).1.length))]) (Or.inl lk_X12_111) mk_X12_right (m_right h2 hk) kc_572 ⟨by decide, rfl⟩ lc_572 dX12_loss_34 rfl rfl (Nat.le_of_ble_eq_true rfl) (by decide) rfl (Nat.le_refl _) (Nat.le_refl _) ?_
      refine R_callV1 (pc := 37) (As := [.long (lN (cd (rAt R k).2))]) (rest := [.int (nI (wgN W (rAt R k).1 (rAt R k).1.length))]) (Or.inl lk_X12_544) mk_X12_lightOf (m_lightOf hW2 ok.r) kc_572 ⟨by decide, rfl⟩ lc_572 dX12_loss_37 rfl rfl (Nat.le_of_ble_eq_true rfl) (by decide) rfl (Nat.le_refl _) (Nat.le_refl _) ?_
      refine T_isub (pc := 40) dX12_loss_40 ?_
      exact T_iret (pc := 41) (ty := .int) dX12_loss_41 rfl rfl (Nat.le_refl _) (Nat.le_refl _) ⟨_, rfl, rfl, Tn.one⟩
    · exact absurd h1 (by decide)
theorem m_seen {x : Int32} {b : Bool} {S : List (List Nat × List Nat)} (h : mdS (μ.1 573) S) : Ex γ 3 0 0 M_X12_seen [.ref 572, .int x, .int (bI b)] (rm μ) (Rm (some (.long (if inB x S.length = true then lN (cd (if b = true then (sAt S x.toNatClampNeg).2 else (sAt S x.toNatClampNeg).1)) else lN 0))) (fun m => Tn μ m (if inB x S.length = true then 0 else 1))) := by
  have h2 : mdS ((wI μ 572 0 (nI 0)).1 573) S := by rw [w573]; exact h
  have h10 := h.1.2
  refine Ex.of (by decide +kernel) rfl (Nat.le_of_ble_eq_true rfl) ?_
  show T _ _ _ _ _ _ _ _ _ [some (.ref 572), some (.int (x)), some (.int (bI b))] [] (rm μ)
  refine T_aload_n (pc := 0) (i := 0) dX12_seen_0 rfl rfl ?_
  refine T_iconst (pc := 1) (v := nI 0) dX12_seen_1 (by decide) ?_
  refine R_putI (pc := 2) fl_X12_3 ⟨rfl, rfl⟩ (Or.inl rfl) kc_572 lc_572 dX12_seen_2 ?_
  refine T_aload_n (pc := 5) (i := 0) dX12_seen_5 rfl rfl ?_
  refine T_iload_n (pc := 6) (i := 1) dX12_seen_6 rfl rfl ?_
  refine T_iconst (pc := 7) (v := nI 0) dX12_seen_7 (by decide) ?_
  refine T_aload_n (pc := 8) (i := 0) dX12_seen_8 rfl rfl ?_
  refine R_getR (pc := 9) (i := 573) fl_X12_29 rfl kc_572 lc_572 rc_572_1 dX12_seen_9 ?_
  refine T_iconst (pc := 12) (v := nI 2) dX12_seen_12 (by decide) ?_
  refine R_iald (pc := 13) (x := nI S.length) kc_573 lc_573 (by omega) (by first | decide | assumption) ((wI_ne (by decide)).trans h.1.1) dX12_seen_13 ?_
  refine T_iconst (pc := 14) (v := nI 1) dX12_seen_14 (by decide) ?_
  refine T_isub (pc := 15) dX12_seen_15 ?_
  refine R_callS1 (pc := 16) (av := [.int (x), .int (nI 0), .int (((nI S.length) - (nI 1)))]) (rest := [.ref 572]) (Or.inl lk_X12_125) mk_X12_in m_in dX12_seen_16 rfl rfl (Nat.le_of_ble_eq_true rfl) (by decide) rfl (Nat.le_refl _) (Nat.le_refl _) ?_
  rw [in_inB (by omega)]
  cases e : inB x S.length with
  | false =>
    rw [if_neg Bool.false_ne_true, if_neg Bool.false_ne_true]
    refine R_ifb_ne (pc := 19) (tgt := 26) dX12_seen_19 (by decide) (fun h1 => ?_) (fun h1 => ?_)
    · exact absurd h1 (by decide)
    · skip
      refine T_iconst (pc := 22) (v := nI 1) dX12_seen_22 (by decide) ?_
      refine T_goto (pc := 23) (tgt := 27) dX12_seen_23 (by decide) ?_
      refine T_iconst (pc := 27) (v := nI 1) dX12_seen_27 (by decide) ?_
      refine R_callV1 (pc := 28) (As := [.int (nI 1), .int (nI 1)]) (rest := []) (Or.inl lk_X12_302) mk_X12_throwsIf m_throws1n kc_572 ⟨by decide, rfl⟩ lc_572 dX12_seen_28 rfl rfl (Nat.le_of_ble_eq_true rfl) (by decide) rfl (Nat.le_refl _) (Nat.le_refl _) ?_
      refine R_ifb_eq (pc := 31) (tgt := 36) dX12_seen_31 (by decide) (fun h1 => ?_) (fun h1 => ?_)
      · exact absurd h1 (by decide)
      · skip
        refine T_lconst (pc := 34) (v := lN 0) dX12_seen_34 rfl ?_
        exact T_lret dX12_seen_35 rfl (Nat.le_refl _) (Nat.le_refl _) ⟨_, rfl, rfl, Tn.two⟩
  | true =>
    obtain ⟨k, hk, rfl⟩ := inB_of (by omega) e
    have hs := h2.2 k hk
    rw [if_pos (c := true = true) rfl, if_pos (c := true = true) rfl, nI_clamp (n := k) (by omega)]
    refine R_ifb_ne (pc := 19) (tgt := 26) dX12_seen_19 (by decide) (fun h1 => ?_) (fun h1 => ?_)
    · skip
      refine T_iconst (pc := 26) (v := nI 0) dX12_seen_26 (by decide) ?_
      refine T_iconst (pc := 27) (v := nI 1) dX12_seen_27 (by decide) ?_
      refine R_callV1 (pc := 28) (As := [.int (nI 0), .int (nI 1)]) (rest := []) (Or.inl lk_X12_302) mk_X12_throwsIf m_throws0n kc_572 ⟨by decide, rfl⟩ lc_572 dX12_seen_28 rfl rfl (Nat.le_of_ble_eq_true rfl) (by decide) rfl (Nat.le_refl _) (Nat.le_refl _) ?_
      refine R_ifb_eq (pc := 31) (tgt := 36) dX12_seen_31 (by decide) (fun h2 => ?_) (fun h2 => ?_)
      · skip
        refine T_aload_n (pc := 36) (i := 0) dX12_seen_36 rfl rfl ?_
        refine T_sipush (pc := 37) (v := nI 299) dX12_seen_37 (by decide) ?_
        refine T_iconst (pc := 40) (v := nI 4) dX12_seen_40 (by decide) ?_
        refine T_iload_n (pc := 41) (i := 1) dX12_seen_41 rfl rfl ?_
        refine R_imul (pc := 42) dX12_seen_42 ?_
        refine R_iadd (pc := 43) dX12_seen_43 ?_
        refine T_iload_n (pc := 44) (i := 2) dX12_seen_44 rfl rfl ?_
        refine R_ifb_eq (pc := 45) (tgt := 52) dX12_seen_45 (by decide) (fun h3 => ?_) (fun h3 => ?_)
        · skip
          refine T_iconst (pc := 52) (v := nI 0) dX12_seen_52 (by decide) ?_
          refine R_iadd (pc := 53) dX12_seen_53 ?_
          refine R_callV1 (pc := 54) (As := [.int (nI ((299 + (4 * k)) + 0))]) (rest := []) (Or.inl lk_X12_118) mk_X12_codeAt (m_codeAt hs.1.1 hs.2.1 (by omega)) kc_572 ⟨by decide, rfl⟩ lc_572 dX12_seen_54 rfl rfl (Nat.le_of_ble_eq_true rfl) (by decide) rfl (Nat.le_refl _) (Nat.le_refl _) ?_
          subst h3
          rw [if_neg (c := false = true) Bool.false_ne_true]
          exact T_lret dX12_seen_57 rfl (Nat.le_refl _) (Nat.le_refl _) ⟨_, rfl, rfl, Tn.one⟩
        · skip
          refine T_iconst (pc := 48) (v := nI 2) dX12_seen_48 (by decide) ?_
          refine T_goto (pc := 49) (tgt := 53) dX12_seen_49 (by decide) ?_
          refine R_iadd (pc := 53) dX12_seen_53 ?_
          refine R_callV1 (pc := 54) (As := [.int (nI ((299 + (4 * k)) + 2))]) (rest := []) (Or.inl lk_X12_118) mk_X12_codeAt (m_codeAt hs.1.2 hs.2.2 (by omega)) kc_572 ⟨by decide, rfl⟩ lc_572 dX12_seen_54 rfl rfl (Nat.le_of_ble_eq_true rfl) (by decide) rfl (Nat.le_refl _) (Nat.le_refl _) ?_
          subst h3
          rw [if_pos (c := true = true) rfl]
          exact T_lret dX12_seen_57 rfl (Nat.le_refl _) (Nat.le_refl _) ⟨_, rfl, rfl, Tn.one⟩
      · exact absurd h2 (by decide)
    · exact absurd h1 (by decide)
theorem m_row {b n : Nat} (hb : b < 8) (hn : n ≤ 20) : Ex γ 1 0 0 M_X12_row [.int (nI b), .int (nI n)] (rm μ) (Fn (some (.long (lN (cd (List.replicate n b))))) μ) := by
  refine Ex.of (by decide +kernel) rfl (Nat.le_of_ble_eq_true rfl) ?_
  show T _ _ _ _ _ _ _ _ _ [some (.int (nI b)), some (.int (nI n)), none, none, none] [] (rm μ)
  refine T_lconst (pc := 0) (v := lN 1) dX12_row_0 rfl ?_
  refine T_lstore_n (pc := 1) (i := 2) (ls' := [some (.int (nI b)), some (.int (nI n)), some (.long (lN 1)), none, none]) dX12_row_1 rfl (by decide) rfl ?_
  refine T_iconst (pc := 2) (v := nI 0) dX12_row_2 (by decide) ?_
  refine T_istore (pc := 3) (i := 4) (ls' := [some (.int (nI b)), some (.int (nI n)), some (.long (lN 1)), none, some (.int (nI 0))]) dX12_row_3 (by decide) rfl ?_
  suffices loop : ∀ (f k : Nat), k + f = n → T γ 1 0 0 M_X12_row (Fn (some (.long (lN (cd (List.replicate n b))))) μ) 0 0 5 [some (.int (nI b)), some (.int (nI n)), some (.long (lN (cd (List.replicate k b)))), none, some (.int (nI k))] [] (rm μ) by
    exact loop n 0 (Nat.zero_add _)
  intro f
  induction f with
  | zero =>
    intro k hk
    have e : k = n := by omega
    subst e
    refine T_iload (pc := 5) (i := 4) dX12_row_5 rfl ?_
    refine T_iload_n (pc := 7) (i := 1) dX12_row_7 rfl rfl ?_
    refine R_icmp_ge (pc := 8) (tgt := 24) (by omega) (by omega) dX12_row_8 (by decide) (fun h1 => ?_) (fun h1 => ?_)
    · skip
      refine T_lload_n (pc := 24) (i := 2) dX12_row_24 rfl rfl ?_
      exact T_lret dX12_row_25 rfl (Nat.le_refl _) (Nat.le_refl _) ⟨rfl, rfl⟩
    · exact absurd h1 (by omega)
  | succ f ih =>
    intro k hk
    refine T_iload (pc := 5) (i := 4) dX12_row_5 rfl ?_
    refine T_iload_n (pc := 7) (i := 1) dX12_row_7 rfl rfl ?_
    refine R_icmp_ge (pc := 8) (tgt := 24) (by omega) (by omega) dX12_row_8 (by decide) (fun h1 => ?_) (fun h1 => ?_)
    · exact absurd h1 (by omega)
    · skip
      refine T_lload_n (pc := 11) (i := 2) dX12_row_11 rfl rfl ?_
      refine T_iconst (pc := 12) (v := nI 3) dX12_row_12 (by decide) ?_
      refine R_lshl (pc := 13) (by omega) dX12_row_13 ?_
      refine T_iload_n (pc := 14) (i := 0) dX12_row_14 rfl rfl ?_
      refine R_i2l (pc := 15) (by omega) dX12_row_15 ?_
      refine R_lor (pc := 16) dX12_row_16 ?_
      refine T_topl (v := lN (cd (List.replicate (k + 1) b))) (by rw [show (2 : Nat) ^ 3 = 8 ^ 1 by decide, or_add _ (by omega), List.replicate_succ', cd_snoc]) ?_
      refine T_lstore_n (pc := 17) (i := 2) (ls' := [some (.int (nI b)), some (.int (nI n)), some (.long (lN (cd (List.replicate (k + 1) b)))), none, some (.int (nI k))]) dX12_row_17 rfl (by decide) rfl ?_
      refine R_iinc (pc := 18) (i := 4) (n := 1) (ls' := [some (.int (nI b)), some (.int (nI n)), some (.long (lN (cd (List.replicate (k + 1) b)))), none, some (.int (nI (k + 1)))]) dX12_row_18 rfl rfl ?_
      refine T_goto (pc := 21) (tgt := 5) dX12_row_21 (by decide) ?_
      exact ih (k + 1) (by omega)
theorem m_putsCode {k : Nat} {l : List Nat} (hl : Mw l) (hk : k + 1 < 1989) : Ex γ 1 0 0 M_X12_putsCode [.ref 572, .int (nI k), .long (lN (cd l))] (rm μ) (Fn none (wI (wI μ 573 k (nI (cd l / 2 ^ 32))) 573 (k + 1) (nI (cd l)))) := by
  have hc := cd_lt hl
  refine Ex.of (by decide +kernel) rfl (Nat.le_of_ble_eq_true rfl) ?_
  show T _ _ _ _ _ _ _ _ _ [some (.ref 572), some (.int (nI k)), some (.long (lN (cd l))), none] [] (rm μ)
  refine T_aload_n (pc := 0) (i := 0) dX12_putsCode_0 rfl rfl ?_
  refine R_getR (pc := 1) (i := 573) fl_X12_29 rfl kc_572 lc_572 rc_572_1 dX12_putsCode_1 ?_
  refine T_iload_n (pc := 4) (i := 1) dX12_putsCode_4 rfl rfl ?_
  refine T_lload_n (pc := 5) (i := 2) dX12_putsCode_5 rfl rfl ?_
  refine T_bipush (pc := 6) (v := nI 32) dX12_putsCode_6 (by decide) ?_
  refine R_lshr (pc := 8) ⟨by omega, by omega⟩ dX12_putsCode_8 ?_
  refine R_l2i (pc := 9) dX12_putsCode_9 ?_
  refine R_iast (pc := 10) kc_573 lc_573 (by omega) (by first | decide | assumption) dX12_putsCode_10 ?_
  refine T_aload_n (pc := 11) (i := 0) dX12_putsCode_11 rfl rfl ?_
  refine R_getR (pc := 12) (i := 573) fl_X12_29 rfl kc_572 lc_572 rc_572_1 dX12_putsCode_12 ?_
  refine T_iload_n (pc := 15) (i := 1) dX12_putsCode_15 rfl rfl ?_
  refine T_iconst (pc := 16) (v := nI 1) dX12_putsCode_16 (by decide) ?_
  refine R_iadd (pc := 17) dX12_putsCode_17 ?_
  refine T_lload_n (pc := 18) (i := 2) dX12_putsCode_18 rfl rfl ?_
  refine R_l2i (pc := 19) dX12_putsCode_19 ?_
  refine R_iast (pc := 20) kc_573 lc_573 (by omega) (by first | decide | assumption) dX12_putsCode_20 ?_
  exact T_vret dX12_putsCode_21 rfl (Nat.le_refl _) (Nat.le_refl _) ⟨rfl, rfl⟩
end MI1

