/-! THE MODEL: beast, seed -/
section MG
variable {γ : Ga} {μ : SM2}
theorem m_throws1n {x : Int32} : Ex γ 1 0 0 M_X12_throwsIf [.ref 572, .int (nI 1), .int x] (rm μ) (Fn (some (.int (bI true))) (wI μ 572 0 x)) := m_throws1
theorem m_throws0n {x : Int32} : Ex γ 1 0 0 M_X12_throwsIf [.ref 572, .int (nI 0), .int x] (rm μ) (Fn (some (.int (bI false))) μ) := m_throws0
theorem m_beast {x : Int64} {y : Int32} : Ex γ 5 0 0 M_X12_beast [.ref 572, .long x, .int y] (rm μ) (Rm (some (.int (if codeB x = true then (if inB y (ml x).length = true then nI ((ml x).getD y.toNatClampNeg 0) else -1) else nI 0))) (fun m => Tn μ m (if codeB x = true then 0 else 1))) := by
  cases e : codeB x with
  | false =>
    have hn : Ex γ 4 0 0 M_X12_isCode [.long x] (rm (wI μ 572 0 (nI 0))) (Fn (some (.int (bI false))) (wI μ 572 0 (nI 0))) := by rw [← e]; exact m_isCode
    rw [if_neg Bool.false_ne_true, if_neg Bool.false_ne_true]
    refine Ex.of (by decide +kernel) rfl (Nat.le_of_ble_eq_true rfl) ?_
    show T _ _ _ _ _ _ _ _ _ [some (.ref 572), some (.long (x)), none, some (.int (y))] [] (rm μ)
    refine T_aload_n (pc := 0) (i := 0) dX12_beast_0 rfl rfl ?_
    refine T_iconst (pc := 1) (v := nI 0) dX12_beast_1 (by decide) ?_
    refine R_putI (pc := 2) fl_X12_3 ⟨rfl, rfl⟩ (Or.inl rfl) kc_572 lc_572 dX12_beast_2 ?_
    refine T_aload_n (pc := 5) (i := 0) dX12_beast_5 rfl rfl ?_
    refine T_lload_n (pc := 6) (i := 1) dX12_beast_6 rfl rfl ?_
    refine R_callS1 (pc := 7) (av := [.long (x)]) (rest := [.ref 572]) (Or.inl lk_X12_382) mk_X12_isCode hn dX12_beast_7 rfl rfl (Nat.le_of_ble_eq_true rfl) (by decide) rfl (Nat.le_refl _) (Nat.le_refl _) ?_
    refine R_ifb_ne (pc := 10) (tgt := 17) dX12_beast_10 (by decide) (fun h1 => ?_) (fun h1 => ?_)
    · exact absurd h1 (by decide)
    · skip
      refine T_iconst (pc := 13) (v := nI 1) dX12_beast_13 (by decide) ?_
      refine T_goto (pc := 14) (tgt := 18) dX12_beast_14 (by decide) ?_
      refine T_iconst (pc := 18) (v := nI 1) dX12_beast_18 (by decide) ?_
      refine R_callV1 (pc := 19) (As := [.int (nI 1), .int (nI 1)]) (rest := []) (Or.inl lk_X12_302) mk_X12_throwsIf m_throws1n kc_572 ⟨by decide, rfl⟩ lc_572 dX12_beast_19 rfl rfl (Nat.le_of_ble_eq_true rfl) (by decide) rfl (Nat.le_refl _) (Nat.le_refl _) ?_
      refine R_ifb_eq (pc := 22) (tgt := 27) dX12_beast_22 (by decide) (fun h2 => ?_) (fun h2 => ?_)
      · exact absurd h2 (by decide)
      · skip
        refine T_iconst (pc := 25) (v := nI 0) dX12_beast_25 (by decide) ?_
        exact T_iret (pc := 26) (ty := .int) dX12_beast_26 rfl rfl (Nat.le_refl _) (Nat.le_refl _) ⟨_, rfl, rfl, Tn.two⟩
  | true =>
    have hn : Ex γ 4 0 0 M_X12_isCode [.long x] (rm (wI μ 572 0 (nI 0))) (Fn (some (.int (bI true))) (wI μ 572 0 (nI 0))) := by rw [← e]; exact m_isCode
    obtain ⟨l, hl, rfl⟩ := codeB_iff.mp e
    have h20 := hl.1
    rw [if_pos (c := true = true) rfl, if_pos (c := true = true) rfl, ml_cd hl]
    refine Ex.of (by decide +kernel) rfl (Nat.le_of_ble_eq_true rfl) ?_
    show T _ _ _ _ _ _ _ _ _ [some (.ref 572), some (.long (lN (cd l))), none, some (.int (y))] [] (rm μ)
    refine T_aload_n (pc := 0) (i := 0) dX12_beast_0 rfl rfl ?_
    refine T_iconst (pc := 1) (v := nI 0) dX12_beast_1 (by decide) ?_
    refine R_putI (pc := 2) fl_X12_3 ⟨rfl, rfl⟩ (Or.inl rfl) kc_572 lc_572 dX12_beast_2 ?_
    refine T_aload_n (pc := 5) (i := 0) dX12_beast_5 rfl rfl ?_
    refine T_lload_n (pc := 6) (i := 1) dX12_beast_6 rfl rfl ?_
    refine R_callS1 (pc := 7) (av := [.long (lN (cd l))]) (rest := [.ref 572]) (Or.inl lk_X12_382) mk_X12_isCode hn dX12_beast_7 rfl rfl (Nat.le_of_ble_eq_true rfl) (by decide) rfl (Nat.le_refl _) (Nat.le_refl _) ?_
    refine R_ifb_ne (pc := 10) (tgt := 17) dX12_beast_10 (by decide) (fun h1 => ?_) (fun h1 => ?_)
    · skip
      refine T_iconst (pc := 17) (v := nI 0) dX12_beast_17 (by decide) ?_
      refine T_iconst (pc := 18) (v := nI 1) dX12_beast_18 (by decide) ?_
      refine R_callV1 (pc := 19) (As := [.int (nI 0), .int (nI 1)]) (rest := []) (Or.inl lk_X12_302) mk_X12_throwsIf m_throws0n kc_572 ⟨by decide, rfl⟩ lc_572 dX12_beast_19 rfl rfl (Nat.le_of_ble_eq_true rfl) (by decide) rfl (Nat.le_refl _) (Nat.le_refl _) ?_
      refine R_ifb_eq (pc := 22) (tgt := 27) dX12_beast_22 (by decide) (fun h2 => ?_) (fun h2 => ?_)
      · skip
        refine T_iload_n (pc := 27) (i := 3) dX12_beast_27 rfl rfl ?_
        refine T_iconst (pc := 28) (v := nI 0) dX12_beast_28 (by decide) ?_
        refine T_lload_n (pc := 29) (i := 1) dX12_beast_29 rfl rfl ?_
        refine R_callS1 (pc := 30) (av := [.long (lN (cd l))]) (rest := [.int (nI 0), .int (y)]) (Or.inl lk_X12_13) mk_X12_size (m_size hl) dX12_beast_30 rfl rfl (Nat.le_of_ble_eq_true rfl) (by decide) rfl (Nat.le_refl _) (Nat.le_refl _) ?_
        refine T_iconst (pc := 33) (v := nI 1) dX12_beast_33 (by decide) ?_
        refine T_isub (pc := 34) dX12_beast_34 ?_
        refine R_callS1 (pc := 35) (av := [.int (y), .int (nI 0), .int (((nI l.length) - (nI 1)))]) (rest := []) (Or.inl lk_X12_125) mk_X12_in m_in dX12_beast_35 rfl rfl (Nat.le_of_ble_eq_true rfl) (by decide) rfl (Nat.le_refl _) (Nat.le_refl _) ?_
        rw [in_inB (by omega)]
        cases e2 : inB y l.length with
        | false =>
          rw [if_neg Bool.false_ne_true]
          refine R_ifb_eq (pc := 38) (tgt := 49) dX12_beast_38 (by decide) (fun h3 => ?_) (fun h3 => ?_)
          · skip
            refine T_iconst (pc := 49) (v := (-1)) dX12_beast_49 (by decide) ?_
            exact T_iret (pc := 50) (ty := .int) dX12_beast_50 rfl rfl (Nat.le_refl _) (Nat.le_refl _) ⟨_, rfl, rfl, Tn.one⟩
          · exact absurd h3 (by decide)
        | true =>
          obtain ⟨k, hk, rfl⟩ := inB_of (by omega) e2
          rw [if_pos (c := true = true) rfl, nI_clamp (n := k) (by omega)]
          refine R_ifb_eq (pc := 38) (tgt := 49) dX12_beast_38 (by decide) (fun h3 => ?_) (fun h3 => ?_)
          · exact absurd h3 (by decide)
          · skip
            refine T_lload_n (pc := 41) (i := 1) dX12_beast_41 rfl rfl ?_
            refine T_iload_n (pc := 42) (i := 3) dX12_beast_42 rfl rfl ?_
            refine R_callS1 (pc := 43) (av := [.long (lN (cd l)), .int (nI k)]) (rest := []) (Or.inl lk_X12_199) mk_X12_beastOf (m_beastOf hl hk) dX12_beast_43 rfl rfl (Nat.le_of_ble_eq_true rfl) (by decide) rfl (Nat.le_refl _) (Nat.le_refl _) ?_
            refine T_goto (pc := 46) (tgt := 50) dX12_beast_46 (by decide) ?_
            exact T_iret (pc := 50) (ty := .int) dX12_beast_50 rfl rfl (Nat.le_refl _) (Nat.le_refl _) ⟨_, rfl, rfl, Tn.one⟩
      · exact absurd h2 (by decide)
    · exact absurd h1 (by decide)
theorem m_seed {x y : Int32} (h : μ.1 573 8 = y) : Ex γ 1 0 0 M_X12_seed [.ref 572, .int x] (rm μ) (Rm (some (.int y)) (fun m => (m.1 573 8 = x ∧ ∀ j, j ≠ 8 → m.1 573 j = μ.1 573 j) ∧ (m.1 572 0 = nI 0 ∧ ∀ j, j ≠ 0 → m.1 572 j = μ.1 572 j) ∧ OfS (fun k => k = 572 ∨ k = 573) μ m)) := by
  refine Ex.of (by decide +kernel) rfl (Nat.le_of_ble_eq_true rfl) ?_
  show T _ _ _ _ _ _ _ _ _ [some (.ref 572), some (.int (x)), none] [] (rm μ)
  refine T_aload_n (pc := 0) (i := 0) dX12_seed_0 rfl rfl ?_
  refine T_iconst (pc := 1) (v := nI 0) dX12_seed_1 (by decide) ?_
  refine R_putI (pc := 2) fl_X12_3 ⟨rfl, rfl⟩ (Or.inl rfl) kc_572 lc_572 dX12_seed_2 ?_
  refine T_aload_n (pc := 5) (i := 0) dX12_seed_5 rfl rfl ?_
  refine R_getR (pc := 6) (i := 573) fl_X12_29 rfl kc_572 lc_572 rc_572_1 dX12_seed_6 ?_
  refine T_bipush (pc := 9) (v := nI 8) dX12_seed_9 (by decide) ?_
  refine R_iald (pc := 11) (x := y) kc_573 lc_573 (by omega) (by first | decide | assumption) ((wI_ne (by decide)).trans h) dX12_seed_11 ?_
  refine T_istore_n (pc := 12) (i := 2) (ls' := [some (.ref 572), some (.int (x)), some (.int (y))]) dX12_seed_12 rfl (by decide) rfl ?_
  refine T_aload_n (pc := 13) (i := 0) dX12_seed_13 rfl rfl ?_
  refine R_getR (pc := 14) (i := 573) fl_X12_29 rfl kc_572 lc_572 rc_572_1 dX12_seed_14 ?_
  refine T_bipush (pc := 17) (v := nI 8) dX12_seed_17 (by decide) ?_
  refine T_iload_n (pc := 19) (i := 1) dX12_seed_19 rfl rfl ?_
  refine R_iast (pc := 20) kc_573 lc_573 (by omega) (by first | decide | assumption) dX12_seed_20 ?_
  refine T_iload_n (pc := 21) (i := 2) dX12_seed_21 rfl rfl ?_
  exact T_iret (pc := 22) (ty := .int) dX12_seed_22 rfl rfl (Nat.le_refl _) (Nat.le_refl _) ⟨_, rfl, rfl, ⟨e_wI ⟨rfl, rfl⟩, fun j hj => (n_wI (by omega)).trans (n_wI (by omega))⟩, ⟨(n_wI (by omega)).trans (e_wI ⟨rfl, rfl⟩), fun j hj => (n_wI (by omega)).trans (n_wI (by omega))⟩, OfS.sI (OfS.sI (OfS.refl _ _) (Or.inl rfl)) (Or.inr rfl)⟩
end MG

