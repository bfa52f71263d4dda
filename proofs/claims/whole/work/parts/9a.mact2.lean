/-! THE MODEL: put, add, use -/
section MA2
variable {γ : Ga} {μ : SM2}
theorem m_put {x : Int32} {y : Int64} {X : Td} {U : List Td} (hX : mdT (μ.1 573) X) (hA : mdA μ U) : Ex γ 5 0 0 M_X12_put [.ref 572, .int x, .long y] (rm μ) (Rm (some (.long (if (inB x X.F.length && codeB y) = true then lN (cd (fAt X.F x.toNatClampNeg).1) else lN 0))) (fun m => (mdT (m.1 573) (if (inB x X.F.length && codeB y) = true then tdF X x.toNatClampNeg (ml y, 0, List.replicate (ml y).length (-1, -1)) else X) ∧ mdA m (if (inB x X.F.length && codeB y) = true then (X :: U).take 16 else U)) ∧ MdU μ m (mT2 (inB x X.F.length) (codeB y)))) := by
  have h6 := hX.2.1.1.2
  have hX2 : mdT ((wI μ 572 0 (nI 0)).1 573) X := by rw [w573]; exact hX
  have hn := m_noField (γ := γ) (x := x) hX2.2.1
  cases e : inB x X.F.length with
  | false =>
    rw [e, Bool.not_false] at hn
    simp only [Bool.false_and, Bool.false_eq_true, if_false]
    refine Ex.of (by decide +kernel) rfl (Nat.le_of_ble_eq_true rfl) ?_
    show T _ _ _ _ _ _ _ _ _ [some (.ref 572), some (.int (x)), some (.long (y)), none, none, none] [] (rm μ)
    refine T_aload_n (pc := 0) (i := 0) dX12_put_0 rfl rfl ?_
    refine T_iconst (pc := 1) (v := nI 0) dX12_put_1 (by decide) ?_
    refine R_putI (pc := 2) fl_X12_3 ⟨rfl, rfl⟩ (Or.inl rfl) kc_572 lc_572 dX12_put_2 ?_
    refine T_aload_n (pc := 5) (i := 0) dX12_put_5 rfl rfl ?_
    refine T_aload_n (pc := 6) (i := 0) dX12_put_6 rfl rfl ?_
    refine T_iload_n (pc := 7) (i := 1) dX12_put_7 rfl rfl ?_
    refine R_callV1 (pc := 8) (As := [.int (x)]) (rest := [.ref 572]) (Or.inl lk_X12_376) mk_X12_noField hn kc_572 ⟨by decide, rfl⟩ lc_572 dX12_put_8 rfl rfl (Nat.le_of_ble_eq_true rfl) (by decide) rfl (Nat.le_refl _) (Nat.le_refl _) ?_
    refine T_iconst (pc := 11) (v := nI 1) dX12_put_11 (by decide) ?_
    refine R_callV1 (pc := 12) (As := [.int (bI true), .int (nI 1)]) (rest := []) (Or.inl lk_X12_302) mk_X12_throwsIf m_throws1 kc_572 ⟨by decide, rfl⟩ lc_572 dX12_put_12 rfl rfl (Nat.le_of_ble_eq_true rfl) (by decide) rfl (Nat.le_refl _) (Nat.le_refl _) ?_
    refine R_ifb_ne (pc := 15) (tgt := 38) dX12_put_15 (by decide) (fun h1 => ?_) (fun h1 => ?_)
    · skip
      refine T_lconst (pc := 38) (v := lN 0) dX12_put_38 rfl ?_
      exact T_lret dX12_put_39 rfl (Nat.le_refl _) (Nat.le_refl _) ⟨_, rfl, rfl, Tn.two.n.s hX hA⟩
    · exact absurd h1 (by decide)
  | true =>
    rw [e, Bool.not_true] at hn
    obtain ⟨k, hk, rfl⟩ := inB_of (by omega) e
    cases e2 : codeB y with
    | false =>
      simp only [Bool.and_false, Bool.false_eq_true, if_false]
      refine Ex.of (by decide +kernel) rfl (Nat.le_of_ble_eq_true rfl) ?_
      show T _ _ _ _ _ _ _ _ _ [some (.ref 572), some (.int (nI k)), some (.long (y)), none, none, none] [] (rm μ)
      refine T_aload_n (pc := 0) (i := 0) dX12_put_0 rfl rfl ?_
      refine T_iconst (pc := 1) (v := nI 0) dX12_put_1 (by decide) ?_
      refine R_putI (pc := 2) fl_X12_3 ⟨rfl, rfl⟩ (Or.inl rfl) kc_572 lc_572 dX12_put_2 ?_
      refine T_aload_n (pc := 5) (i := 0) dX12_put_5 rfl rfl ?_
      refine T_aload_n (pc := 6) (i := 0) dX12_put_6 rfl rfl ?_
      refine T_iload_n (pc := 7) (i := 1) dX12_put_7 rfl rfl ?_
      refine R_callV1 (pc := 8) (As := [.int (nI k)]) (rest := [.ref 572]) (Or.inl lk_X12_376) mk_X12_noField hn kc_572 ⟨by decide, rfl⟩ lc_572 dX12_put_8 rfl rfl (Nat.le_of_ble_eq_true rfl) (by decide) rfl (Nat.le_refl _) (Nat.le_refl _) ?_
      refine T_iconst (pc := 11) (v := nI 1) dX12_put_11 (by decide) ?_
      refine R_callV1 (pc := 12) (As := [.int (bI false), .int (nI 1)]) (rest := []) (Or.inl lk_X12_302) mk_X12_throwsIf m_throws0 kc_572 ⟨by decide, rfl⟩ lc_572 dX12_put_12 rfl rfl (Nat.le_of_ble_eq_true rfl) (by decide) rfl (Nat.le_refl _) (Nat.le_refl _) ?_
      refine R_ifb_ne (pc := 15) (tgt := 38) dX12_put_15 (by decide) (fun h1 => ?_) (fun h1 => ?_)
      · exact absurd h1 (by decide)
      · skip
        refine T_aload_n (pc := 18) (i := 0) dX12_put_18 rfl rfl ?_
        refine T_lload_n (pc := 19) (i := 2) dX12_put_19 rfl rfl ?_
        refine R_callS1 (pc := 20) (av := [.long (y)]) (rest := [.ref 572]) (Or.inl lk_X12_382) mk_X12_isCode (m_isCodeE e2) dX12_put_20 rfl rfl (Nat.le_of_ble_eq_true rfl) (by decide) rfl (Nat.le_refl _) (Nat.le_refl _) ?_
        refine R_ifb_ne (pc := 23) (tgt := 30) dX12_put_23 (by decide) (fun h2 => ?_) (fun h2 => ?_)
        · exact absurd h2 (by decide)
        · skip
          refine T_iconst (pc := 26) (v := nI 1) dX12_put_26 (by decide) ?_
          refine T_goto (pc := 27) (tgt := 31) dX12_put_27 (by decide) ?_
          refine T_iconst (pc := 31) (v := nI 2) dX12_put_31 (by decide) ?_
          refine R_callV1 (pc := 32) (As := [.int (nI 1), .int (nI 2)]) (rest := []) (Or.inl lk_X12_302) mk_X12_throwsIf m_throws1n kc_572 ⟨by decide, rfl⟩ lc_572 dX12_put_32 rfl rfl (Nat.le_of_ble_eq_true rfl) (by decide) rfl (Nat.le_refl _) (Nat.le_refl _) ?_
          refine R_ifb_eq (pc := 35) (tgt := 40) dX12_put_35 (by decide) (fun h3 => ?_) (fun h3 => ?_)
          · exact absurd h3 (by decide)
          · skip
            refine T_lconst (pc := 38) (v := lN 0) dX12_put_38 rfl ?_
            exact T_lret dX12_put_39 rfl (Nat.le_refl _) (Nat.le_refl _) ⟨_, rfl, rfl, Tn.two.n.s hX hA⟩
    | true =>
      obtain ⟨l, hl, rfl⟩ := codeB_iff.mp e2
      simp only [Bool.and_true, if_true]
      rw [ml_cd hl, nI_clamp (n := k) (by omega)]
      refine Ex.of (by decide +kernel) rfl (Nat.le_of_ble_eq_true rfl) ?_
      show T _ _ _ _ _ _ _ _ _ [some (.ref 572), some (.int (nI k)), some (.long (lN (cd l))), none, none, none] [] (rm μ)
      refine T_aload_n (pc := 0) (i := 0) dX12_put_0 rfl rfl ?_
      refine T_iconst (pc := 1) (v := nI 0) dX12_put_1 (by decide) ?_
      refine R_putI (pc := 2) fl_X12_3 ⟨rfl, rfl⟩ (Or.inl rfl) kc_572 lc_572 dX12_put_2 ?_
      refine T_aload_n (pc := 5) (i := 0) dX12_put_5 rfl rfl ?_
      refine T_aload_n (pc := 6) (i := 0) dX12_put_6 rfl rfl ?_
      refine T_iload_n (pc := 7) (i := 1) dX12_put_7 rfl rfl ?_
      refine R_callV1 (pc := 8) (As := [.int (nI k)]) (rest := [.ref 572]) (Or.inl lk_X12_376) mk_X12_noField hn kc_572 ⟨by decide, rfl⟩ lc_572 dX12_put_8 rfl rfl (Nat.le_of_ble_eq_true rfl) (by decide) rfl (Nat.le_refl _) (Nat.le_refl _) ?_
      refine T_iconst (pc := 11) (v := nI 1) dX12_put_11 (by decide) ?_
      refine R_callV1 (pc := 12) (As := [.int (bI false), .int (nI 1)]) (rest := []) (Or.inl lk_X12_302) mk_X12_throwsIf m_throws0 kc_572 ⟨by decide, rfl⟩ lc_572 dX12_put_12 rfl rfl (Nat.le_of_ble_eq_true rfl) (by decide) rfl (Nat.le_refl _) (Nat.le_refl _) ?_
      refine R_ifb_ne (pc := 15) (tgt := 38) dX12_put_15 (by decide) (fun h1 => ?_) (fun h1 => ?_)
      · exact absurd h1 (by decide)
      · skip
        refine T_aload_n (pc := 18) (i := 0) dX12_put_18 rfl rfl ?_
        refine T_lload_n (pc := 19) (i := 2) dX12_put_19 rfl rfl ?_
        refine R_callS1 (pc := 20) (av := [.long (lN (cd l))]) (rest := [.ref 572]) (Or.inl lk_X12_382) mk_X12_isCode (m_isCodeE e2) dX12_put_20 rfl rfl (Nat.le_of_ble_eq_true rfl) (by decide) rfl (Nat.le_refl _) (Nat.le_refl _) ?_
        refine R_ifb_ne (pc := 23) (tgt := 30) dX12_put_23 (by decide) (fun h2 => ?_) (fun h2 => ?_)
        · skip
          refine T_iconst (pc := 30) (v := nI 0) dX12_put_30 (by decide) ?_
          refine T_iconst (pc := 31) (v := nI 2) dX12_put_31 (by decide) ?_
          refine R_callV1 (pc := 32) (As := [.int (nI 0), .int (nI 2)]) (rest := []) (Or.inl lk_X12_302) mk_X12_throwsIf m_throws0n kc_572 ⟨by decide, rfl⟩ lc_572 dX12_put_32 rfl rfl (Nat.le_of_ble_eq_true rfl) (by decide) rfl (Nat.le_refl _) (Nat.le_refl _) ?_
          refine R_ifb_eq (pc := 35) (tgt := 40) dX12_put_35 (by decide) (fun h3 => ?_) (fun h3 => ?_)
          · skip
            refine T_aload_n (pc := 40) (i := 0) dX12_put_40 rfl rfl ?_
            refine R_callVm0 (pc := 41) (As := []) (rest := []) (Or.inl lk_X12_408) mk_X12_remembers (m_remembers ((n_wI (by omega)).trans hA.1.1) hA.1.2) kc_572 ⟨by decide, rfl⟩ lc_572 dX12_put_41 rfl rfl (Nat.le_of_ble_eq_true rfl) (by decide) rfl (Nat.le_refl _) (Nat.le_refl _) (fun m1 h4 => ?_)
            have hR := m_remR MdN.one hX hA h4
            refine T_aload_n (pc := 44) (i := 0) dX12_put_44 rfl rfl ?_
            refine T_iload_n (pc := 45) (i := 1) dX12_put_45 rfl rfl ?_
            refine R_callV1 (pc := 46) (As := [.int (nI k)]) (rest := []) (Or.inl lk_X12_379) mk_X12_meadow (m_meadow hR.1.1.2.1 hk) kc_572 ⟨by decide, rfl⟩ lc_572 dX12_put_46 rfl rfl (Nat.le_of_ble_eq_true rfl) (by decide) rfl (Nat.le_refl _) (Nat.le_refl _) ?_
            refine T_lstore (pc := 49) (i := 4) (ls' := [some (.ref 572), some (.int (nI k)), some (.long (lN (cd l))), none, some (.long (lN (cd (fAt X.F k).1))), none]) dX12_put_49 (by decide) rfl ?_
            refine T_aload_n (pc := 51) (i := 0) dX12_put_51 rfl rfl ?_
            refine T_iload_n (pc := 52) (i := 1) dX12_put_52 rfl rfl ?_
            refine T_lload_n (pc := 53) (i := 2) dX12_put_53 rfl rfl ?_
            refine R_callVm0 (pc := 54) (As := [.int (nI k), .long (lN (cd l))]) (rest := []) (Or.inl lk_X12_186) mk_X12_tells (m_tells hl (by omega)) kc_572 ⟨by decide, rfl⟩ lc_572 dX12_put_54 rfl rfl (Nat.le_of_ble_eq_true rfl) (by decide) rfl (Nat.le_refl _) (Nat.le_refl _) (fun m2 h5 => ?_)
            have hu := hR.u (m2 := m2) (h5.2.mono (fun k hk => Or.inr (Or.inl hk))) (fun j _ => h5.2.i (by unfold S573; omega) j) (fun j hj => h5.1.2 j (by omega))
            refine T_lload (pc := 57) (i := 4) dX12_put_57 rfl ?_
            exact T_lret dX12_put_59 rfl (Nat.le_refl _) (Nat.le_refl _) ⟨_, rfl, rfl, ⟨hR.1.1.fld hk h5.1.1 (fun j _ hj => h5.1.2 j hj), hu.1⟩, hu.2⟩
          · exact absurd h3 (by decide)
        · exact absurd h2 (by decide)
theorem m_add {a b : Int64} {X : Td} {U : List Td} (hX : mdT (μ.1 573) X) (hA : mdA μ U) : Ex γ 5 0 0 M_X12_add [.ref 572, .long a, .long b] (rm μ) (Rm (some (.int (if (addB a b && decide (X.R.length < 12)) = true then nI X.R.length else nI 0))) (fun m => (mdT (m.1 573) (if (addB a b && decide (X.R.length < 12)) = true then (X.R ++ [(ml a, ml b)], X.2) else X) ∧ mdA m (if (addB a b && decide (X.R.length < 12)) = true then (X :: U).take 16 else U)) ∧ MdU μ m (mT2 (addB a b) (decide (X.R.length < 12))))) := by
  have h12 := hX.1.1.2
  have hX2 : mdT ((wI μ 572 0 (nI 0)).1 573) X := by rw [w573]; exact hX
  have t44 : ∀ q : Bool, addB a b = q → T γ 5 0 0 M_X12_add (Rm (some (.int (if (addB a b && decide (X.R.length < 12)) = true then nI X.R.length else nI 0))) (fun m => (mdT (m.1 573) (if (addB a b && decide (X.R.length < 12)) = true then (X.R ++ [(ml a, ml b)], X.2) else X) ∧ mdA m (if (addB a b && decide (X.R.length < 12)) = true then (X :: U).take 16 else U)) ∧ MdU μ m (mT2 (addB a b) (decide (X.R.length < 12))))) 0 0 44 [some (.ref 572), some (.long a), none, some (.long b), none, none] [.int (bI q)] (rm (wI μ 572 0 (nI 0))) := fun q eq => by
    rw [eq]
    cases q with
    | false =>
      simp only [Bool.false_and, Bool.false_eq_true, if_false]
      refine T_istore (pc := 44) (i := 5) (ls' := [some (.ref 572), some (.long (a)), none, some (.long (b)), none, some (.int (bI false))]) dX12_add_44 (by decide) rfl ?_
      refine T_aload_n (pc := 46) (i := 0) dX12_add_46 rfl rfl ?_
      refine T_iload (pc := 47) (i := 5) dX12_add_47 rfl ?_
      refine R_ifb_ne (pc := 49) (tgt := 56) dX12_add_49 (by decide) (fun h1 => ?_) (fun h1 => ?_)
      · exact absurd h1 (by decide)
      · skip
        refine T_iconst (pc := 52) (v := nI 1) dX12_add_52 (by decide) ?_
        refine T_goto (pc := 53) (tgt := 57) dX12_add_53 (by decide) ?_
        refine T_iconst (pc := 57) (v := nI 1) dX12_add_57 (by decide) ?_
        refine R_callV1 (pc := 58) (As := [.int (nI 1), .int (nI 1)]) (rest := []) (Or.inl lk_X12_302) mk_X12_throwsIf m_throws1n kc_572 ⟨by decide, rfl⟩ lc_572 dX12_add_58 rfl rfl (Nat.le_of_ble_eq_true rfl) (by decide) rfl (Nat.le_refl _) (Nat.le_refl _) ?_
        refine R_ifb_ne (pc := 61) (tgt := 86) dX12_add_61 (by decide) (fun h2 => ?_) (fun h2 => ?_)
        · skip
          refine T_iconst (pc := 86) (v := nI 0) dX12_add_86 (by decide) ?_
          exact T_iret (pc := 87) (ty := .int) dX12_add_87 rfl rfl (Nat.le_refl _) (Nat.le_refl _) ⟨_, rfl, rfl, Tn.two.n.s hX hA⟩
        · exact absurd h2 (by decide)
    | true =>
      obtain ⟨ha, hb, hn1, hn2⟩ := addB_iff.mp eq
      obtain ⟨la, hla, rfl⟩ := codeB_iff.mp ha
      obtain ⟨lb, hlb, rfl⟩ := codeB_iff.mp hb
      rw [ml_cd hla, ml_cd hlb] at *
      have oky : okR (la, lb) := ⟨hla.2, hn1.1, hn1.2, hlb.2, hn2⟩
      refine T_istore (pc := 44) (i := 5) (ls' := [some (.ref 572), some (.long (lN (cd la))), none, some (.long (lN (cd lb))), none, some (.int (bI true))]) dX12_add_44 (by decide) rfl ?_
      refine T_aload_n (pc := 46) (i := 0) dX12_add_46 rfl rfl ?_
      refine T_iload (pc := 47) (i := 5) dX12_add_47 rfl ?_
      refine R_ifb_ne (pc := 49) (tgt := 56) dX12_add_49 (by decide) (fun h1 => ?_) (fun h1 => ?_)
      · skip
        refine T_iconst (pc := 56) (v := nI 0) dX12_add_56 (by decide) ?_
        refine T_iconst (pc := 57) (v := nI 1) dX12_add_57 (by decide) ?_
        refine R_callV1 (pc := 58) (As := [.int (nI 0), .int (nI 1)]) (rest := []) (Or.inl lk_X12_302) mk_X12_throwsIf m_throws0n kc_572 ⟨by decide, rfl⟩ lc_572 dX12_add_58 rfl rfl (Nat.le_of_ble_eq_true rfl) (by decide) rfl (Nat.le_refl _) (Nat.le_refl _) ?_
        refine R_ifb_ne (pc := 61) (tgt := 86) dX12_add_61 (by decide) (fun h2 => ?_) (fun h2 => ?_)
        · exact absurd h2 (by decide)
        · skip
          refine T_aload_n (pc := 64) (i := 0) dX12_add_64 rfl rfl ?_
          refine T_aload_n (pc := 65) (i := 0) dX12_add_65 rfl rfl ?_
          refine R_callV1 (pc := 66) (As := []) (rest := [.ref 572]) (Or.inl lk_X12_121) mk_X12_rules (m_rules hX2.1) kc_572 ⟨by decide, rfl⟩ lc_572 dX12_add_66 rfl rfl (Nat.le_of_ble_eq_true rfl) (by decide) rfl (Nat.le_refl _) (Nat.le_refl _) ?_
          refine T_bipush (pc := 69) (v := nI 12) dX12_add_69 (by decide) ?_
          refine R_icmp_ne (pc := 71) (tgt := 78) (by omega) (by omega) dX12_add_71 (by decide) (fun h3 => ?_) (fun h3 => ?_)
          · skip
            rw [decide_eq_true (show X.R.length < 12 by omega)]
            simp only [Bool.and_true, if_true]
            refine T_iconst (pc := 78) (v := nI 0) dX12_add_78 (by decide) ?_
            refine T_iconst (pc := 79) (v := nI 2) dX12_add_79 (by decide) ?_
            refine R_callV1 (pc := 80) (As := [.int (nI 0), .int (nI 2)]) (rest := []) (Or.inl lk_X12_302) mk_X12_throwsIf m_throws0n kc_572 ⟨by decide, rfl⟩ lc_572 dX12_add_80 rfl rfl (Nat.le_of_ble_eq_true rfl) (by decide) rfl (Nat.le_refl _) (Nat.le_refl _) ?_
            refine R_ifb_eq (pc := 83) (tgt := 88) dX12_add_83 (by decide) (fun h4 => ?_) (fun h4 => ?_)
            · skip
              refine T_aload_n (pc := 88) (i := 0) dX12_add_88 rfl rfl ?_
              refine R_callVm0 (pc := 89) (As := []) (rest := []) (Or.inl lk_X12_408) mk_X12_remembers (m_remembers ((n_wI (by omega)).trans hA.1.1) hA.1.2) kc_572 ⟨by decide, rfl⟩ lc_572 dX12_add_89 rfl rfl (Nat.le_of_ble_eq_true rfl) (by decide) rfl (Nat.le_refl _) (Nat.le_refl _) (fun m1 h5 => ?_)
              have hR := m_remR MdN.one hX hA h5
              refine T_aload_n (pc := 92) (i := 0) dX12_add_92 rfl rfl ?_
              refine T_lload_n (pc := 93) (i := 1) dX12_add_93 rfl rfl ?_
              refine T_lload_n (pc := 94) (i := 3) dX12_add_94 rfl rfl ?_
              refine R_callVm0 (pc := 95) (As := [.long (lN (cd la)), .long (lN (cd lb))]) (rest := []) (Or.inl lk_X12_182) mk_X12_adds (m_adds (y := (la, lb)) hR.1.1 oky (by omega)) kc_572 ⟨by decide, rfl⟩ lc_572 dX12_add_95 rfl rfl (Nat.le_of_ble_eq_true rfl) (by decide) rfl (Nat.le_refl _) (Nat.le_refl _) (fun m2 h6 => ?_)
              have hRm : m2.1 573 0 = nI (X.R.length + 1) := h6.1.1.1.1.trans (congrArg nI (by rw [List.length_append]; rfl))
              refine T_aload_n (pc := 98) (i := 0) dX12_add_98 rfl rfl ?_
              refine R_callV1 (pc := 99) (As := []) (rest := []) (Or.inl lk_X12_121) mk_X12_rules (m_rulesN hRm) kc_572 ⟨by decide, rfl⟩ lc_572 dX12_add_99 rfl rfl (Nat.le_of_ble_eq_true rfl) (by decide) rfl (Nat.le_refl _) (Nat.le_refl _) ?_
              refine T_iconst (pc := 102) (v := nI 1) dX12_add_102 (by decide) ?_
              refine R_isub (pc := 103) (by omega) dX12_add_103 ?_
              have hu := hR.u (m2 := m2) (h6.2.1.mono (fun k hk => Or.inr (Or.inl hk))) (fun j _ => h6.2.1.i (by unfold S573; omega) j) h6.2.2
              exact T_iret (pc := 104) (ty := .int) dX12_add_104 rfl rfl (Nat.le_refl _) (Nat.le_refl _) ⟨_, rfl, rfl, ⟨h6.1, hu.1⟩, hu.2⟩
            · exact absurd h4 (by decide)
          · skip
            rw [decide_eq_false (show ¬ X.R.length < 12 by omega)]
            simp only [Bool.and_false, Bool.false_eq_true, if_false]
            refine T_iconst (pc := 74) (v := nI 1) dX12_add_74 (by decide) ?_
            refine T_goto (pc := 75) (tgt := 79) dX12_add_75 (by decide) ?_
            refine T_iconst (pc := 79) (v := nI 2) dX12_add_79 (by decide) ?_
            refine R_callV1 (pc := 80) (As := [.int (nI 1), .int (nI 2)]) (rest := []) (Or.inl lk_X12_302) mk_X12_throwsIf m_throws1n kc_572 ⟨by decide, rfl⟩ lc_572 dX12_add_80 rfl rfl (Nat.le_of_ble_eq_true rfl) (by decide) rfl (Nat.le_refl _) (Nat.le_refl _) ?_
            refine R_ifb_eq (pc := 83) (tgt := 88) dX12_add_83 (by decide) (fun h4 => ?_) (fun h4 => ?_)
            · exact absurd h4 (by decide)
            · skip
              refine T_iconst (pc := 86) (v := nI 0) dX12_add_86 (by decide) ?_
              exact T_iret (pc := 87) (ty := .int) dX12_add_87 rfl rfl (Nat.le_refl _) (Nat.le_refl _) ⟨_, rfl, rfl, Tn.two.n.s hX hA⟩
      · exact absurd h1 (by decide)
  refine Ex.of (by decide +kernel) rfl (Nat.le_of_ble_eq_true rfl) ?_
  show T _ _ _ _ _ _ _ _ _ [some (.ref 572), some (.long (a)), none, some (.long (b)), none, none] [] (rm μ)
  refine T_aload_n (pc := 0) (i := 0) dX12_add_0 rfl rfl ?_
  refine T_iconst (pc := 1) (v := nI 0) dX12_add_1 (by decide) ?_
  refine R_putI (pc := 2) fl_X12_3 ⟨rfl, rfl⟩ (Or.inl rfl) kc_572 lc_572 dX12_add_2 ?_
  refine T_lload_n (pc := 5) (i := 1) dX12_add_5 rfl rfl ?_
  cases ea : codeB a with
  | false =>
    have e9 : addB a b = false := by unfold addB; rw [ea]; rfl
    refine R_callS1 (pc := 6) (av := [.long (a)]) (rest := []) (Or.inl lk_X12_382) mk_X12_isCode (m_isCodeE ea) dX12_add_6 rfl rfl (Nat.le_of_ble_eq_true rfl) (by decide) rfl (Nat.le_refl _) (Nat.le_refl _) ?_
    refine R_ifb_eq (pc := 9) (tgt := 43) dX12_add_9 (by decide) (fun g1 => ?_) (fun g1 => ?_)
    · skip
      refine T_iconst (pc := 43) (v := nI 0) dX12_add_43 (by decide) ?_
      exact t44 false e9
    · exact absurd g1 (by decide)
  | true =>
    obtain ⟨la, hla, rfl⟩ := codeB_iff.mp ea
    refine R_callS1 (pc := 6) (av := [.long (lN (cd la))]) (rest := []) (Or.inl lk_X12_382) mk_X12_isCode (m_isCodeE ea) dX12_add_6 rfl rfl (Nat.le_of_ble_eq_true rfl) (by decide) rfl (Nat.le_refl _) (Nat.le_refl _) ?_
    refine R_ifb_eq (pc := 9) (tgt := 43) dX12_add_9 (by decide) (fun g1 => ?_) (fun g1 => ?_)
    · exact absurd g1 (by decide)
    · skip
      refine T_lload_n (pc := 12) (i := 3) dX12_add_12 rfl rfl ?_
      cases eb : codeB b with
      | false =>
        have e9 : addB (lN (cd la)) b = false := by unfold addB; rw [eb]; simp
        refine R_callS1 (pc := 13) (av := [.long (b)]) (rest := []) (Or.inl lk_X12_382) mk_X12_isCode (m_isCodeE eb) dX12_add_13 rfl rfl (Nat.le_of_ble_eq_true rfl) (by decide) rfl (Nat.le_refl _) (Nat.le_refl _) ?_
        refine R_ifb_eq (pc := 16) (tgt := 43) dX12_add_16 (by decide) (fun g2 => ?_) (fun g2 => ?_)
        · skip
          refine T_iconst (pc := 43) (v := nI 0) dX12_add_43 (by decide) ?_
          exact t44 false e9
        · exact absurd g2 (by decide)
      | true =>
        obtain ⟨lb, hlb, rfl⟩ := codeB_iff.mp eb
        have ead : addB (lN (cd la)) (lN (cd lb)) = (chkN (nI la.length) 1 4 && decide (lb.length ≤ 5)) := by
          unfold addB
          rw [ea, eb, ml_cd hla, ml_cd hlb, Bool.true_and, Bool.true_and]
          congr 1
          unfold chkN
          have h1 := hla.1
          have e1 : decide (nI la.length < nI 1) = decide (la.length < 1) := by
            by_cases g : la.length < 1
            · rw [decide_eq_true g, decide_eq_true]; rw [fa_lt, nI_toInt (by omega), nI_toInt (by omega)]; omega
            · rw [decide_eq_false g, decide_eq_false]; rw [fa_lt, nI_toInt (by omega), nI_toInt (by omega)]; omega
          have e2 : decide (nI 4 < nI la.length) = decide (4 < la.length) := by
            by_cases g : 4 < la.length
            · rw [decide_eq_true g, decide_eq_true]; rw [fa_lt, nI_toInt (by omega), nI_toInt (by omega)]; omega
            · rw [decide_eq_false g, decide_eq_false]; rw [fa_lt, nI_toInt (by omega), nI_toInt (by omega)]; omega
          rw [e1, e2]
          by_cases g1 : 1 ≤ la.length
          · rw [decide_eq_true g1, decide_eq_false (p := la.length < 1) (by omega)]
            by_cases g2 : la.length ≤ 4
            · rw [decide_eq_true g2, decide_eq_false (p := 4 < la.length) (by omega)]; rfl
            · rw [decide_eq_false g2, decide_eq_true (p := 4 < la.length) (by omega)]; rfl
          · rw [decide_eq_false g1, decide_eq_true (p := la.length < 1) (by omega)]; rfl
        have hlb1 := hlb.1
        refine R_callS1 (pc := 13) (av := [.long (lN (cd lb))]) (rest := []) (Or.inl lk_X12_382) mk_X12_isCode (m_isCodeE eb) dX12_add_13 rfl rfl (Nat.le_of_ble_eq_true rfl) (by decide) rfl (Nat.le_refl _) (Nat.le_refl _) ?_
        refine R_ifb_eq (pc := 16) (tgt := 43) dX12_add_16 (by decide) (fun g2 => ?_) (fun g2 => ?_)
        · exact absurd g2 (by decide)
        · skip
          refine T_lload_n (pc := 19) (i := 1) dX12_add_19 rfl rfl ?_
          refine R_callS1 (pc := 20) (av := [.long (lN (cd la))]) (rest := []) (Or.inl lk_X12_13) mk_X12_size (m_size hla) dX12_add_20 rfl rfl (Nat.le_of_ble_eq_true rfl) (by decide) rfl (Nat.le_refl _) (Nat.le_refl _) ?_
          refine T_iconst (pc := 23) (v := nI 1) dX12_add_23 (by decide) ?_
          refine T_iconst (pc := 24) (v := nI 4) dX12_add_24 (by decide) ?_
          refine R_callS1 (pc := 25) (av := [.int (nI la.length), .int (nI 1), .int (nI 4)]) (rest := []) (Or.inl lk_X12_125) mk_X12_in m_inK dX12_add_25 rfl rfl (Nat.le_of_ble_eq_true rfl) (by decide) rfl (Nat.le_refl _) (Nat.le_refl _) ?_
          refine R_ifb_eq (pc := 28) (tgt := 43) dX12_add_28 (by decide) (fun g3 => ?_) (fun g3 => ?_)
          · skip
            refine T_iconst (pc := 43) (v := nI 0) dX12_add_43 (by decide) ?_
            exact t44 false (by rw [ead, g3]; rfl)
          · skip
            refine T_lload_n (pc := 31) (i := 3) dX12_add_31 rfl rfl ?_
            refine R_callS1 (pc := 32) (av := [.long (lN (cd lb))]) (rest := []) (Or.inl lk_X12_13) mk_X12_size (m_size hlb) dX12_add_32 rfl rfl (Nat.le_of_ble_eq_true rfl) (by decide) rfl (Nat.le_refl _) (Nat.le_refl _) ?_
            refine T_iconst (pc := 35) (v := nI 5) dX12_add_35 (by decide) ?_
            refine R_icmp_gt (pc := 36) (tgt := 43) (by omega) (by omega) dX12_add_36 (by decide) (fun g4 => ?_) (fun g4 => ?_)
            · skip
              refine T_iconst (pc := 43) (v := nI 0) dX12_add_43 (by decide) ?_
              exact t44 false (by rw [ead, g3, decide_eq_false (by omega)]; rfl)
            · skip
              refine T_iconst (pc := 39) (v := nI 1) dX12_add_39 (by decide) ?_
              refine T_goto (pc := 40) (tgt := 44) dX12_add_40 (by decide) ?_
              exact t44 true (by rw [ead, g3, decide_eq_true (by omega)]; rfl)
def useT (X : Td) (LL : List (List Int32)) (x y z : Int32) : Nat := mT2 (inB x X.F.length && inB y X.R.length) (fitZ X.R (wOf X LL) (fAt X.F x.toNatClampNeg).1 y.toNatClampNeg z)
theorem m_use {x y z : Int32} {X : Td} {U : List Td} {LL : List (List Int32)} (hX : mdT (μ.1 573) X) (hL : LawM (μ.1 573) LL) (hA : mdA μ U) : Ex γ 9 0 0 M_X12_use [.ref 572, .int x, .int y, .int z] (rm μ) (Rm (some (.long (if useC X LL x y z = true then lN (cd (useF X x y z).1) else lN 0))) (fun m => (mdT (m.1 573) (useX X LL x y z) ∧ mdA m (useU X U LL x y z)) ∧ MdU μ m (useT X LL x y z))) := by
  have h12 := hX.1.1.2
  have h6 := hX.2.1.1.2
  have hX2 : mdT ((wI μ 572 0 (nI 0)).1 573) X := by rw [w573]; exact hX
  have hL2 : LawM ((wI μ 572 0 (nI 0)).1 573) LL := by rw [w573]; exact hL
  have hn := m_noField (γ := γ) (x := x) hX2.2.1
  have hn2 := m_noRule (γ := γ) (x := y) hX2.1
  unfold useX useU useT useC
  cases e : inB x X.F.length with
  | false =>
    rw [e, Bool.not_false] at hn
    simp only [Bool.false_and, Bool.false_eq_true, if_false]
    refine Ex.of (by decide +kernel) rfl (Nat.le_of_ble_eq_true rfl) ?_
    show T _ _ _ _ _ _ _ _ _ [some (.ref 572), some (.int (x)), some (.int (y)), some (.int (z))] [] (rm μ)
    refine T_aload_n (pc := 0) (i := 0) dX12_use_0 rfl rfl ?_
    refine T_iconst (pc := 1) (v := nI 0) dX12_use_1 (by decide) ?_
    refine R_putI (pc := 2) fl_X12_3 ⟨rfl, rfl⟩ (Or.inl rfl) kc_572 lc_572 dX12_use_2 ?_
    refine T_aload_n (pc := 5) (i := 0) dX12_use_5 rfl rfl ?_
    refine T_aload_n (pc := 6) (i := 0) dX12_use_6 rfl rfl ?_
    refine T_iload_n (pc := 7) (i := 1) dX12_use_7 rfl rfl ?_
    refine R_callV1 (pc := 8) (As := [.int (x)]) (rest := [.ref 572]) (Or.inl lk_X12_376) mk_X12_noField hn kc_572 ⟨by decide, rfl⟩ lc_572 dX12_use_8 rfl rfl (Nat.le_of_ble_eq_true rfl) (by decide) rfl (Nat.le_refl _) (Nat.le_refl _) ?_
    refine R_ifb_ne (pc := 11) (tgt := 22) dX12_use_11 (by decide) (fun h1 => ?_) (fun h1 => ?_)
    · skip
      refine T_iconst (pc := 22) (v := nI 1) dX12_use_22 (by decide) ?_
      refine T_goto (pc := 23) (tgt := 27) dX12_use_23 (by decide) ?_
      refine T_iconst (pc := 27) (v := nI 1) dX12_use_27 (by decide) ?_
      refine R_callV1 (pc := 28) (As := [.int (nI 1), .int (nI 1)]) (rest := []) (Or.inl lk_X12_302) mk_X12_throwsIf m_throws1n kc_572 ⟨by decide, rfl⟩ lc_572 dX12_use_28 rfl rfl (Nat.le_of_ble_eq_true rfl) (by decide) rfl (Nat.le_refl _) (Nat.le_refl _) ?_
      refine R_ifb_eq (pc := 31) (tgt := 36) dX12_use_31 (by decide) (fun h2 => ?_) (fun h2 => ?_)
      · exact absurd h2 (by decide)
      · skip
        refine T_lconst (pc := 34) (v := lN 0) dX12_use_34 rfl ?_
        exact T_lret dX12_use_35 rfl (Nat.le_refl _) (Nat.le_refl _) ⟨_, rfl, rfl, Tn.two.n.s hX hA⟩
    · exact absurd h1 (by decide)
  | true =>
    rw [e, Bool.not_true] at hn
    obtain ⟨k, hk, rfl⟩ := inB_of (by omega) e
    cases e2 : inB y X.R.length with
    | false =>
      rw [e2, Bool.not_false] at hn2
      simp only [Bool.and_false, Bool.false_and, Bool.false_eq_true, if_false]
      refine Ex.of (by decide +kernel) rfl (Nat.le_of_ble_eq_true rfl) ?_
      show T _ _ _ _ _ _ _ _ _ [some (.ref 572), some (.int (nI k)), some (.int (y)), some (.int (z))] [] (rm μ)
      refine T_aload_n (pc := 0) (i := 0) dX12_use_0 rfl rfl ?_
      refine T_iconst (pc := 1) (v := nI 0) dX12_use_1 (by decide) ?_
      refine R_putI (pc := 2) fl_X12_3 ⟨rfl, rfl⟩ (Or.inl rfl) kc_572 lc_572 dX12_use_2 ?_
      refine T_aload_n (pc := 5) (i := 0) dX12_use_5 rfl rfl ?_
      refine T_aload_n (pc := 6) (i := 0) dX12_use_6 rfl rfl ?_
      refine T_iload_n (pc := 7) (i := 1) dX12_use_7 rfl rfl ?_
      refine R_callV1 (pc := 8) (As := [.int (nI k)]) (rest := [.ref 572]) (Or.inl lk_X12_376) mk_X12_noField hn kc_572 ⟨by decide, rfl⟩ lc_572 dX12_use_8 rfl rfl (Nat.le_of_ble_eq_true rfl) (by decide) rfl (Nat.le_refl _) (Nat.le_refl _) ?_
      refine R_ifb_ne (pc := 11) (tgt := 22) dX12_use_11 (by decide) (fun h1 => ?_) (fun h1 => ?_)
      · exact absurd h1 (by decide)
      · skip
        refine T_aload_n (pc := 14) (i := 0) dX12_use_14 rfl rfl ?_
        refine T_iload_n (pc := 15) (i := 2) dX12_use_15 rfl rfl ?_
        refine R_callV1 (pc := 16) (As := [.int (y)]) (rest := [.ref 572]) (Or.inl lk_X12_373) mk_X12_noRule hn2 kc_572 ⟨by decide, rfl⟩ lc_572 dX12_use_16 rfl rfl (Nat.le_of_ble_eq_true rfl) (by decide) rfl (Nat.le_refl _) (Nat.le_refl _) ?_
        refine R_ifb_eq (pc := 19) (tgt := 26) dX12_use_19 (by decide) (fun h2 => ?_) (fun h2 => ?_)
        · exact absurd h2 (by decide)
        · skip
          refine T_iconst (pc := 22) (v := nI 1) dX12_use_22 (by decide) ?_
          refine T_goto (pc := 23) (tgt := 27) dX12_use_23 (by decide) ?_
          refine T_iconst (pc := 27) (v := nI 1) dX12_use_27 (by decide) ?_
          refine R_callV1 (pc := 28) (As := [.int (nI 1), .int (nI 1)]) (rest := []) (Or.inl lk_X12_302) mk_X12_throwsIf m_throws1n kc_572 ⟨by decide, rfl⟩ lc_572 dX12_use_28 rfl rfl (Nat.le_of_ble_eq_true rfl) (by decide) rfl (Nat.le_refl _) (Nat.le_refl _) ?_
          refine R_ifb_eq (pc := 31) (tgt := 36) dX12_use_31 (by decide) (fun h3 => ?_) (fun h3 => ?_)
          · exact absurd h3 (by decide)
          · skip
            refine T_lconst (pc := 34) (v := lN 0) dX12_use_34 rfl ?_
            exact T_lret dX12_use_35 rfl (Nat.le_refl _) (Nat.le_refl _) ⟨_, rfl, rfl, Tn.two.n.s hX hA⟩
    | true =>
      rw [e2, Bool.not_true] at hn2
      obtain ⟨r, hr, rfl⟩ := inB_of (by omega) e2
      have hf := hX.2.1.2 k hk
      simp only [Bool.and_true, Bool.true_and]
      rw [nI_clamp (n := k) (by omega), nI_clamp (n := r) (by omega)]
      refine Ex.of (by decide +kernel) rfl (Nat.le_of_ble_eq_true rfl) ?_
      show T _ _ _ _ _ _ _ _ _ [some (.ref 572), some (.int (nI k)), some (.int (nI r)), some (.int (z))] [] (rm μ)
      refine T_aload_n (pc := 0) (i := 0) dX12_use_0 rfl rfl ?_
      refine T_iconst (pc := 1) (v := nI 0) dX12_use_1 (by decide) ?_
      refine R_putI (pc := 2) fl_X12_3 ⟨rfl, rfl⟩ (Or.inl rfl) kc_572 lc_572 dX12_use_2 ?_
      refine T_aload_n (pc := 5) (i := 0) dX12_use_5 rfl rfl ?_
      refine T_aload_n (pc := 6) (i := 0) dX12_use_6 rfl rfl ?_
      refine T_iload_n (pc := 7) (i := 1) dX12_use_7 rfl rfl ?_
      refine R_callV1 (pc := 8) (As := [.int (nI k)]) (rest := [.ref 572]) (Or.inl lk_X12_376) mk_X12_noField hn kc_572 ⟨by decide, rfl⟩ lc_572 dX12_use_8 rfl rfl (Nat.le_of_ble_eq_true rfl) (by decide) rfl (Nat.le_refl _) (Nat.le_refl _) ?_
      refine R_ifb_ne (pc := 11) (tgt := 22) dX12_use_11 (by decide) (fun h1 => ?_) (fun h1 => ?_)
      · exact absurd h1 (by decide)
      · skip
        refine T_aload_n (pc := 14) (i := 0) dX12_use_14 rfl rfl ?_
        refine T_iload_n (pc := 15) (i := 2) dX12_use_15 rfl rfl ?_
        refine R_callV1 (pc := 16) (As := [.int (nI r)]) (rest := [.ref 572]) (Or.inl lk_X12_373) mk_X12_noRule hn2 kc_572 ⟨by decide, rfl⟩ lc_572 dX12_use_16 rfl rfl (Nat.le_of_ble_eq_true rfl) (by decide) rfl (Nat.le_refl _) (Nat.le_refl _) ?_
        refine R_ifb_eq (pc := 19) (tgt := 26) dX12_use_19 (by decide) (fun h2 => ?_) (fun h2 => ?_)
        · skip
          refine T_iconst (pc := 26) (v := nI 0) dX12_use_26 (by decide) ?_
          refine T_iconst (pc := 27) (v := nI 1) dX12_use_27 (by decide) ?_
          refine R_callV1 (pc := 28) (As := [.int (nI 0), .int (nI 1)]) (rest := []) (Or.inl lk_X12_302) mk_X12_throwsIf m_throws0n kc_572 ⟨by decide, rfl⟩ lc_572 dX12_use_28 rfl rfl (Nat.le_of_ble_eq_true rfl) (by decide) rfl (Nat.le_refl _) (Nat.le_refl _) ?_
          refine R_ifb_eq (pc := 31) (tgt := 36) dX12_use_31 (by decide) (fun h3 => ?_) (fun h3 => ?_)
          · skip
            refine T_aload_n (pc := 36) (i := 0) dX12_use_36 rfl rfl ?_
            refine R_callVm0 (pc := 37) (As := []) (rest := []) (Or.inl lk_X12_386) mk_X12_asTold (m_asTold hX2 hL2) kc_572 ⟨by decide, rfl⟩ lc_572 dX12_use_37 rfl rfl (Nat.le_of_ble_eq_true rfl) (by decide) rfl (Nat.le_refl _) (Nat.le_refl _) (fun m h => ?_)
            obtain ⟨hE, hO⟩ := h
            have hXm : mdT (m.1 573) X := by rw [(hO.c (by decide) id).1]; exact hX2
            refine T_aload_n (pc := 40) (i := 0) dX12_use_40 rfl rfl ?_
            refine T_aload_n (pc := 41) (i := 0) dX12_use_41 rfl rfl ?_
            refine T_aload_n (pc := 42) (i := 0) dX12_use_42 rfl rfl ?_
            refine T_iload_n (pc := 43) (i := 1) dX12_use_43 rfl rfl ?_
            refine R_callV1 (pc := 44) (As := [.int (nI k)]) (rest := [.ref 572, .ref 572]) (Or.inl lk_X12_379) mk_X12_meadow (m_meadow hXm.2.1 hk) kc_572 ⟨by decide, rfl⟩ lc_572 dX12_use_44 rfl rfl (Nat.le_of_ble_eq_true rfl) (by decide) rfl (Nat.le_refl _) (Nat.le_refl _) ?_
            refine T_iload_n (pc := 47) (i := 2) dX12_use_47 rfl rfl ?_
            refine T_iload_n (pc := 48) (i := 3) dX12_use_48 rfl rfl ?_
            refine R_callVm1 (pc := 49) (As := [.long (lN (cd (fAt X.F k).1)), .int (nI r), .int (z)]) (rest := [.ref 572]) (Or.inl lk_X12_339) mk_X12_isFit (m_isFitZ hE hf.1.1 hr) kc_572 ⟨by decide, rfl⟩ lc_572 dX12_use_49 rfl rfl (Nat.le_of_ble_eq_true rfl) (by decide) rfl (Nat.le_refl _) (Nat.le_refl _) (fun m2 hO2 => ?_)
            have ho2 : OfM Fa S9 (wI μ 572 0 (nI 0)) m2 := (hO.mono (fun j hj => hj.elim Or.inl (fun z => Or.inr (Or.inl z))) (fun k z => z.elim)).trans hO2.k
            have hN : MdN μ m2 0 := MdN.of ho2 (by unfold Fa Fs; omega) (fun j => Fa_Fz) (fun k => S9_Sz)
            cases e3 : fitZ X.R (wOf X LL) (fAt X.F k).1 r z with
            | false =>
              simp only [Bool.false_eq_true, if_false]
              refine R_ifb_ne (pc := 52) (tgt := 59) dX12_use_52 (by decide) (fun h4 => ?_) (fun h4 => ?_)
              · exact absurd h4 (by decide)
              · skip
                refine T_iconst (pc := 55) (v := nI 1) dX12_use_55 (by decide) ?_
                refine T_goto (pc := 56) (tgt := 60) dX12_use_56 (by decide) ?_
                refine T_iconst (pc := 60) (v := nI 2) dX12_use_60 (by decide) ?_
                refine R_callV1 (pc := 61) (As := [.int (nI 1), .int (nI 2)]) (rest := []) (Or.inl lk_X12_302) mk_X12_throwsIf m_throws1n kc_572 ⟨by decide, rfl⟩ lc_572 dX12_use_61 rfl rfl (Nat.le_of_ble_eq_true rfl) (by decide) rfl (Nat.le_refl _) (Nat.le_refl _) ?_
                refine R_ifb_eq (pc := 64) (tgt := 69) dX12_use_64 (by decide) (fun h5 => ?_) (fun h5 => ?_)
                · exact absurd h5 (by decide)
                · skip
                  refine T_lconst (pc := 67) (v := lN 0) dX12_use_67 rfl ?_
                  have hN2 : MdN μ (wI m2 572 0 (nI 2)) 2 := ⟨e_wI ⟨rfl, rfl⟩, OfS.sI hN.2.1 (Or.inl rfl), fun j hj => (n_wI (by unfold Fz at hj; omega)).trans (hN.2.2 j hj)⟩
                  exact T_lret dX12_use_68 rfl (Nat.le_refl _) (Nat.le_refl _) ⟨_, rfl, rfl, hN2.s hX hA⟩
            | true =>
              simp only [if_true]
              have hz : ¬ z < 0 := fun q => by unfold fitZ at e3; rw [decide_eq_true q] at e3; cases e3
              obtain ⟨p, hp, rfl⟩ := i_nn hz
              have hfit : fitB X.R (wOf X LL) (fAt X.F k).1 r p = true := by unfold fitZ at e3; rw [decide_eq_false hz, nI_clamp hp] at e3; exact e3
              have hg := fitB_get hfit
              rw [show useF X (nI k) (nI r) (nI p) = chF X.R (fAt X.F k) [(p, r)] by unfold useF; rw [nI_clamp (n := k) (by omega), nI_clamp (n := r) (by omega), nI_clamp hp]]
              refine R_ifb_ne (pc := 52) (tgt := 59) dX12_use_52 (by decide) (fun h4 => ?_) (fun h4 => ?_)
              · skip
                refine T_iconst (pc := 59) (v := nI 0) dX12_use_59 (by decide) ?_
                refine T_iconst (pc := 60) (v := nI 2) dX12_use_60 (by decide) ?_
                refine R_callV1 (pc := 61) (As := [.int (nI 0), .int (nI 2)]) (rest := []) (Or.inl lk_X12_302) mk_X12_throwsIf m_throws0n kc_572 ⟨by decide, rfl⟩ lc_572 dX12_use_61 rfl rfl (Nat.le_of_ble_eq_true rfl) (by decide) rfl (Nat.le_refl _) (Nat.le_refl _) ?_
                refine R_ifb_eq (pc := 64) (tgt := 69) dX12_use_64 (by decide) (fun h5 => ?_) (fun h5 => ?_)
                · skip
                  refine T_aload_n (pc := 69) (i := 0) dX12_use_69 rfl rfl ?_
                  refine R_callVm0 (pc := 70) (As := []) (rest := []) (Or.inl lk_X12_408) mk_X12_remembers (m_remembers ((hN.2.2 6 (by unfold Fz; omega)).trans hA.1.1) hA.1.2) kc_572 ⟨by decide, rfl⟩ lc_572 dX12_use_70 rfl rfl (Nat.le_of_ble_eq_true rfl) (by decide) rfl (Nat.le_refl _) (Nat.le_refl _) (fun m3 h6 => ?_)
                  have hR := m_remR hN hX hA h6
                  refine T_aload_n (pc := 73) (i := 0) dX12_use_73 rfl rfl ?_
                  refine T_iload_n (pc := 74) (i := 1) dX12_use_74 rfl rfl ?_
                  refine T_iload_n (pc := 75) (i := 2) dX12_use_75 rfl rfl ?_
                  refine T_iload_n (pc := 76) (i := 3) dX12_use_76 rfl rfl ?_
                  refine R_callVm0 (pc := 77) (As := [.int (nI k), .int (nI r), .int (nI p)]) (rest := []) (Or.inl lk_X12_405) mk_X12_goes (m_goes hR.1.1 hk hr hg.2.1 hg.2.2) kc_572 ⟨by decide, rfl⟩ lc_572 dX12_use_77 rfl rfl (Nat.le_of_ble_eq_true rfl) (by decide) rfl (Nat.le_refl _) (Nat.le_refl _) (fun m4 h7 => ?_)
                  have hX4 := hR.1.1.fld hk h7.1.1 (fun j _ hj => h7.1.2 j hj)
                  have hu := hR.u (m2 := m4) (h7.2.1.mono (fun k hk => by unfold Sgo at hk; unfold Sz; omega)) (fun j hj => h7.2.fi (by unfold Fgo; omega)) (fun j hj => h7.1.2 j (by omega))
                  have hco := m_meadow (γ := γ) hX4.2.1 (show k < (tdF X k (chF X.R (fAt X.F k) [(p, r)])).F.length by rw [tdF_len]; exact hk)
                  rw [fAt_at hk] at hco
                  refine T_aload_n (pc := 80) (i := 0) dX12_use_80 rfl rfl ?_
                  refine T_iload_n (pc := 81) (i := 1) dX12_use_81 rfl rfl ?_
                  refine R_callV1 (pc := 82) (As := [.int (nI k)]) (rest := []) (Or.inl lk_X12_379) mk_X12_meadow hco kc_572 ⟨by decide, rfl⟩ lc_572 dX12_use_82 rfl rfl (Nat.le_of_ble_eq_true rfl) (by decide) rfl (Nat.le_refl _) (Nat.le_refl _) ?_
                  exact T_lret dX12_use_85 rfl (Nat.le_refl _) (Nat.le_refl _) ⟨_, rfl, rfl, ⟨hX4, hu.1⟩, hu.2⟩
                · exact absurd h5 (by decide)
              · exact absurd h4 (by decide)
          · exact absurd h3 (by decide)
        · exact absurd h2 (by decide)
end MA2

