/-! THE MODEL: sorts, count -/
theorem shN_s {R : List Ru} {i : Nat} : shN R (i + 1) = shN R i ||| (if (rAt R i).2.length < (rAt R i).1.length then 2 ^ i else 0) := rfl
theorem gwN_s {R : List Ru} {i : Nat} : gwN R (i + 1) = gwN R i ||| (if (rAt R i).1.length < (rAt R i).2.length then 2 ^ i else 0) := rfl
section MC1
variable {γ : Ga} {μ : SM2}
theorem m_sorts {x : Int32} {X : Td} (hX : mdT (μ.1 573) X) : Ex γ 7 0 0 M_X12_sorts [.ref 572, .int x] (rm μ) (Rm (some (.int (if inB x 4 = true then srV X x.toNatClampNeg else nI 0))) (fun m => MdN μ m (mT1 (inB x 4)))) := by
  have h12 := hX.1.1.2
  have hX2 : mdT ((wI μ 572 0 (nI 0)).1 573) X := by rw [w573]; exact hX
  have hR2 := hX2.1
  refine Ex.of (by decide +kernel) rfl (Nat.le_of_ble_eq_true rfl) ?_
  show T _ _ _ _ _ _ _ _ _ [some (.ref 572), some (.int (x)), none, none] [] (rm μ)
  refine T_aload_n (pc := 0) (i := 0) dX12_sorts_0 rfl rfl ?_
  refine T_iconst (pc := 1) (v := nI 0) dX12_sorts_1 (by decide) ?_
  refine R_putI (pc := 2) fl_X12_3 ⟨rfl, rfl⟩ (Or.inl rfl) kc_572 lc_572 dX12_sorts_2 ?_
  refine T_aload_n (pc := 5) (i := 0) dX12_sorts_5 rfl rfl ?_
  refine T_iload_n (pc := 6) (i := 1) dX12_sorts_6 rfl rfl ?_
  refine T_iconst (pc := 7) (v := nI 0) dX12_sorts_7 (by decide) ?_
  refine T_iconst (pc := 8) (v := nI 3) dX12_sorts_8 (by decide) ?_
  refine R_callS1 (pc := 9) (av := [.int (x), .int (nI 0), .int (nI 3)]) (rest := [.ref 572]) (Or.inl lk_X12_125) mk_X12_in m_inK dX12_sorts_9 rfl rfl (Nat.le_of_ble_eq_true rfl) (by decide) rfl (Nat.le_refl _) (Nat.le_refl _) ?_
  rw [chk4]
  cases ex0 : inB x 4 with
  | false =>
    rw [if_neg Bool.false_ne_true]
    refine R_ifb_ne (pc := 12) (tgt := 19) dX12_sorts_12 (by decide) (fun h1 => ?_) (fun h1 => ?_)
    · exact absurd h1 (by decide)
    · skip
      refine T_iconst (pc := 15) (v := nI 1) dX12_sorts_15 (by decide) ?_
      refine T_goto (pc := 16) (tgt := 20) dX12_sorts_16 (by decide) ?_
      refine T_iconst (pc := 20) (v := nI 1) dX12_sorts_20 (by decide) ?_
      refine R_callV1 (pc := 21) (As := [.int (nI 1), .int (nI 1)]) (rest := []) (Or.inl lk_X12_302) mk_X12_throwsIf m_throws1n kc_572 ⟨by decide, rfl⟩ lc_572 dX12_sorts_21 rfl rfl (Nat.le_of_ble_eq_true rfl) (by decide) rfl (Nat.le_refl _) (Nat.le_refl _) ?_
      refine R_ifb_eq (pc := 24) (tgt := 29) dX12_sorts_24 (by decide) (fun h2 => ?_) (fun h2 => ?_)
      · exact absurd h2 (by decide)
      · skip
        refine T_iconst (pc := 27) (v := nI 0) dX12_sorts_27 (by decide) ?_
        exact T_iret (pc := 28) (ty := .int) dX12_sorts_28 rfl rfl (Nat.le_refl _) (Nat.le_refl _) ⟨_, rfl, rfl, Tn.two.n⟩
  | true =>
    obtain ⟨k, hk, rfl⟩ := inB_of (by omega) ex0
    rw [if_pos (c := true = true) rfl, nI_clamp (n := k) (by omega)]
    have hk4 : k = 0 ∨ k = 1 ∨ k = 2 ∨ k = 3 := by omega
    rcases hk4 with rfl | rfl | rfl | rfl
    · rw [show srV X 0 = nI 255 &&& (nI (kLN X.R X.R.length) ^^^ (-1)) from rfl]
      refine R_ifb_ne (pc := 12) (tgt := 19) dX12_sorts_12 (by decide) (fun h1 => ?_) (fun h1 => ?_)
      · skip
        refine T_iconst (pc := 19) (v := nI 0) dX12_sorts_19 (by decide) ?_
        refine T_iconst (pc := 20) (v := nI 1) dX12_sorts_20 (by decide) ?_
        refine R_callV1 (pc := 21) (As := [.int (nI 0), .int (nI 1)]) (rest := []) (Or.inl lk_X12_302) mk_X12_throwsIf m_throws0n kc_572 ⟨by decide, rfl⟩ lc_572 dX12_sorts_21 rfl rfl (Nat.le_of_ble_eq_true rfl) (by decide) rfl (Nat.le_refl _) (Nat.le_refl _) ?_
        refine R_ifb_eq (pc := 24) (tgt := 29) dX12_sorts_24 (by decide) (fun h2 => ?_) (fun h2 => ?_)
        · skip
          refine T_iload_n (pc := 29) (i := 1) dX12_sorts_29 rfl rfl ?_
          refine T_iconst (pc := 30) (v := nI 2) dX12_sorts_30 (by decide) ?_
          refine R_icmp_ge (pc := 31) (tgt := 64) (by omega) (by omega) dX12_sorts_31 (by decide) (fun h3 => ?_) (fun h3 => ?_)
          · exact absurd h3 (by decide)
          · skip
            refine T_sipush (pc := 34) (v := nI 255) dX12_sorts_34 (by decide) ?_
            refine T_aload_n (pc := 37) (i := 0) dX12_sorts_37 rfl rfl ?_
            refine T_iload_n (pc := 38) (i := 1) dX12_sorts_38 rfl rfl ?_
            refine R_if_ne (pc := 39) (tgt := 46) (by omega) dX12_sorts_39 (by decide) (fun h4 => ?_) (fun h4 => ?_)
            · exact absurd h4 (by decide)
            · skip
              refine T_iconst (pc := 42) (v := nI 1) dX12_sorts_42 (by decide) ?_
              refine T_goto (pc := 43) (tgt := 47) dX12_sorts_43 (by decide) ?_
              refine T_iload_n (pc := 47) (i := 1) dX12_sorts_47 rfl rfl ?_
              refine T_iconst (pc := 48) (v := nI 1) dX12_sorts_48 (by decide) ?_
              refine R_icmp_ne (pc := 49) (tgt := 56) (by omega) (by omega) dX12_sorts_49 (by decide) (fun h5 => ?_) (fun h5 => ?_)
              · skip
                refine T_iconst (pc := 56) (v := nI 0) dX12_sorts_56 (by decide) ?_
                refine R_callV1 (pc := 57) (As := [.int (nI 1), .int (nI 0)]) (rest := [.int (nI 255)]) (Or.inl lk_X12_528) mk_X12_inRules (m_inRules (a := true) (b := false) hR2) kc_572 ⟨by decide, rfl⟩ lc_572 dX12_sorts_57 rfl rfl (Nat.le_of_ble_eq_true rfl) (by decide) rfl (Nat.le_refl _) (Nat.le_refl _) ?_
                rw [irN_L]
                refine T_iconst (pc := 60) (v := (-1)) dX12_sorts_60 (by decide) ?_
                refine T_ixor (pc := 61) dX12_sorts_61 ?_
                refine T_iand (pc := 62) dX12_sorts_62 ?_
                exact T_iret (pc := 63) (ty := .int) dX12_sorts_63 rfl rfl (Nat.le_refl _) (Nat.le_refl _) ⟨_, rfl, rfl, Tn.one.n⟩
              · exact absurd h5 (by decide)
        · exact absurd h2 (by decide)
      · exact absurd h1 (by decide)
    · rw [show srV X 1 = nI 255 &&& (nI (kRN X.R X.R.length) ^^^ (-1)) from rfl]
      refine R_ifb_ne (pc := 12) (tgt := 19) dX12_sorts_12 (by decide) (fun h1 => ?_) (fun h1 => ?_)
      · skip
        refine T_iconst (pc := 19) (v := nI 0) dX12_sorts_19 (by decide) ?_
        refine T_iconst (pc := 20) (v := nI 1) dX12_sorts_20 (by decide) ?_
        refine R_callV1 (pc := 21) (As := [.int (nI 0), .int (nI 1)]) (rest := []) (Or.inl lk_X12_302) mk_X12_throwsIf m_throws0n kc_572 ⟨by decide, rfl⟩ lc_572 dX12_sorts_21 rfl rfl (Nat.le_of_ble_eq_true rfl) (by decide) rfl (Nat.le_refl _) (Nat.le_refl _) ?_
        refine R_ifb_eq (pc := 24) (tgt := 29) dX12_sorts_24 (by decide) (fun h2 => ?_) (fun h2 => ?_)
        · skip
          refine T_iload_n (pc := 29) (i := 1) dX12_sorts_29 rfl rfl ?_
          refine T_iconst (pc := 30) (v := nI 2) dX12_sorts_30 (by decide) ?_
          refine R_icmp_ge (pc := 31) (tgt := 64) (by omega) (by omega) dX12_sorts_31 (by decide) (fun h3 => ?_) (fun h3 => ?_)
          · exact absurd h3 (by decide)
          · skip
            refine T_sipush (pc := 34) (v := nI 255) dX12_sorts_34 (by decide) ?_
            refine T_aload_n (pc := 37) (i := 0) dX12_sorts_37 rfl rfl ?_
            refine T_iload_n (pc := 38) (i := 1) dX12_sorts_38 rfl rfl ?_
            refine R_if_ne (pc := 39) (tgt := 46) (by omega) dX12_sorts_39 (by decide) (fun h4 => ?_) (fun h4 => ?_)
            · skip
              refine T_iconst (pc := 46) (v := nI 0) dX12_sorts_46 (by decide) ?_
              refine T_iload_n (pc := 47) (i := 1) dX12_sorts_47 rfl rfl ?_
              refine T_iconst (pc := 48) (v := nI 1) dX12_sorts_48 (by decide) ?_
              refine R_icmp_ne (pc := 49) (tgt := 56) (by omega) (by omega) dX12_sorts_49 (by decide) (fun h5 => ?_) (fun h5 => ?_)
              · exact absurd rfl h5
              · skip
                refine T_iconst (pc := 52) (v := nI 1) dX12_sorts_52 (by decide) ?_
                refine T_goto (pc := 53) (tgt := 57) dX12_sorts_53 (by decide) ?_
                refine R_callV1 (pc := 57) (As := [.int (nI 0), .int (nI 1)]) (rest := [.int (nI 255)]) (Or.inl lk_X12_528) mk_X12_inRules (m_inRules (a := false) (b := true) hR2) kc_572 ⟨by decide, rfl⟩ lc_572 dX12_sorts_57 rfl rfl (Nat.le_of_ble_eq_true rfl) (by decide) rfl (Nat.le_refl _) (Nat.le_refl _) ?_
                rw [irN_R]
                refine T_iconst (pc := 60) (v := (-1)) dX12_sorts_60 (by decide) ?_
                refine T_ixor (pc := 61) dX12_sorts_61 ?_
                refine T_iand (pc := 62) dX12_sorts_62 ?_
                exact T_iret (pc := 63) (ty := .int) dX12_sorts_63 rfl rfl (Nat.le_refl _) (Nat.le_refl _) ⟨_, rfl, rfl, Tn.one.n⟩
            · exact absurd h4 (by decide)
        · exact absurd h2 (by decide)
      · exact absurd h1 (by decide)
    · rw [show srV X 2 = nI (shN X.R X.R.length) from rfl]
      refine R_ifb_ne (pc := 12) (tgt := 19) dX12_sorts_12 (by decide) (fun h1 => ?_) (fun h1 => ?_)
      · skip
        refine T_iconst (pc := 19) (v := nI 0) dX12_sorts_19 (by decide) ?_
        refine T_iconst (pc := 20) (v := nI 1) dX12_sorts_20 (by decide) ?_
        refine R_callV1 (pc := 21) (As := [.int (nI 0), .int (nI 1)]) (rest := []) (Or.inl lk_X12_302) mk_X12_throwsIf m_throws0n kc_572 ⟨by decide, rfl⟩ lc_572 dX12_sorts_21 rfl rfl (Nat.le_of_ble_eq_true rfl) (by decide) rfl (Nat.le_refl _) (Nat.le_refl _) ?_
        refine R_ifb_eq (pc := 24) (tgt := 29) dX12_sorts_24 (by decide) (fun h2 => ?_) (fun h2 => ?_)
        · skip
          refine T_iload_n (pc := 29) (i := 1) dX12_sorts_29 rfl rfl ?_
          refine T_iconst (pc := 30) (v := nI 2) dX12_sorts_30 (by decide) ?_
          refine R_icmp_ge (pc := 31) (tgt := 64) (by omega) (by omega) dX12_sorts_31 (by decide) (fun h3 => ?_) (fun h3 => ?_)
          · skip
            refine T_iconst (pc := 64) (v := nI 0) dX12_sorts_64 (by decide) ?_
            refine T_istore_n (pc := 65) (i := 2) (ls' := [some (.ref 572), some (.int (nI 2)), some (.int (nI 0)), none]) dX12_sorts_65 rfl (by decide) rfl ?_
            refine T_iconst (pc := 66) (v := nI 0) dX12_sorts_66 (by decide) ?_
            refine T_istore_n (pc := 67) (i := 3) (ls' := [some (.ref 572), some (.int (nI 2)), some (.int (nI 0)), some (.int (nI 0))]) dX12_sorts_67 rfl (by decide) rfl ?_
            suffices loop : ∀ (f i : Nat), i + f = X.R.length → T γ 7 0 0 M_X12_sorts (Rm (some (.int (nI (shN X.R X.R.length)))) (fun m => MdN μ m (mT1 true))) 0 0 68 [some (.ref 572), some (.int (nI 2)), some (.int (nI (shN X.R i))), some (.int (nI i))] [] (rm (wI μ 572 0 (nI 0))) by
              exact loop X.R.length 0 (Nat.zero_add _)
            intro f
            induction f with
            | zero =>
              intro i hi
              obtain rfl : i = X.R.length := by omega
              refine T_iload_n (pc := 68) (i := 3) dX12_sorts_68 rfl rfl ?_
              refine T_aload_n (pc := 69) (i := 0) dX12_sorts_69 rfl rfl ?_
              refine R_callV1 (pc := 70) (As := []) (rest := [.int (nI X.R.length)]) (Or.inl lk_X12_121) mk_X12_rules (m_rules hR2) kc_572 ⟨by decide, rfl⟩ lc_572 dX12_sorts_70 rfl rfl (Nat.le_of_ble_eq_true rfl) (by decide) rfl (Nat.le_refl _) (Nat.le_refl _) ?_
              refine R_icmp_ge (pc := 73) (tgt := 126) (by omega) (by omega) dX12_sorts_73 (by decide) (fun h4 => ?_) (fun h4 => ?_)
              · skip
                refine T_iload_n (pc := 126) (i := 2) dX12_sorts_126 rfl rfl ?_
                exact T_iret (pc := 127) (ty := .int) dX12_sorts_127 rfl rfl (Nat.le_refl _) (Nat.le_refl _) ⟨_, rfl, rfl, Tn.one.n⟩
              · exact absurd h4 (by omega)
            | succ f ih =>
              intro i hi
              have ok := hX.1.2.1 i (by omega)
              have ok4 := ok.2.2.1
              have ok5 := ok.2.2.2.2
              have hih := ih (i + 1) (by omega)
              rw [shN_s] at hih
              refine T_iload_n (pc := 68) (i := 3) dX12_sorts_68 rfl rfl ?_
              refine T_aload_n (pc := 69) (i := 0) dX12_sorts_69 rfl rfl ?_
              refine R_callV1 (pc := 70) (As := []) (rest := [.int (nI i)]) (Or.inl lk_X12_121) mk_X12_rules (m_rules hR2) kc_572 ⟨by decide, rfl⟩ lc_572 dX12_sorts_70 rfl rfl (Nat.le_of_ble_eq_true rfl) (by decide) rfl (Nat.le_refl _) (Nat.le_refl _) ?_
              refine R_icmp_ge (pc := 73) (tgt := 126) (by omega) (by omega) dX12_sorts_73 (by decide) (fun h4 => ?_) (fun h4 => ?_)
              · exact absurd h4 (by omega)
              · skip
                refine T_iload_n (pc := 76) (i := 2) dX12_sorts_76 rfl rfl ?_
                refine T_iload_n (pc := 77) (i := 1) dX12_sorts_77 rfl rfl ?_
                refine T_iconst (pc := 78) (v := nI 2) dX12_sorts_78 (by decide) ?_
                refine R_icmp_ne (pc := 79) (tgt := 98) (by omega) (by omega) dX12_sorts_79 (by decide) (fun h5 => ?_) (fun h5 => ?_)
                · exact absurd rfl h5
                · skip
                  refine T_aload_n (pc := 82) (i := 0) dX12_sorts_82 rfl rfl ?_
                  refine T_iload_n (pc := 83) (i := 3) dX12_sorts_83 rfl rfl ?_
                  refine R_callV1 (pc := 84) (As := [.int (nI i)]) (rest := [.int (nI (shN X.R i))]) (Or.inl lk_X12_322) mk_X12_rights (m_rights hR2 (by omega)) kc_572 ⟨by decide, rfl⟩ lc_572 dX12_sorts_84 rfl rfl (Nat.le_of_ble_eq_true rfl) (by decide) rfl (Nat.le_refl _) (Nat.le_refl _) ?_
                  refine T_aload_n (pc := 87) (i := 0) dX12_sorts_87 rfl rfl ?_
                  refine T_iload_n (pc := 88) (i := 3) dX12_sorts_88 rfl rfl ?_
                  refine R_callV1 (pc := 89) (As := [.int (nI i)]) (rest := [.int (nI ((rAt X.R i).2.length)), .int (nI (shN X.R i))]) (Or.inl lk_X12_311) mk_X12_lefts (m_lefts hR2 (by omega)) kc_572 ⟨by decide, rfl⟩ lc_572 dX12_sorts_89 rfl rfl (Nat.le_of_ble_eq_true rfl) (by decide) rfl (Nat.le_refl _) (Nat.le_refl _) ?_
                  refine R_icmp_ge (pc := 92) (tgt := 117) (by omega) (by omega) dX12_sorts_92 (by decide) (fun h6 => ?_) (fun h6 => ?_)
                  · skip
                    refine T_iconst (pc := 117) (v := nI 0) dX12_sorts_117 (by decide) ?_
                    refine R_ior (pc := 118) dX12_sorts_118 ?_
                    refine T_istore_n (pc := 119) (i := 2) (ls' := [some (.ref 572), some (.int (nI 2)), some (.int (nI ((shN X.R i) ||| 0))), some (.int (nI i))]) dX12_sorts_119 rfl (by decide) rfl ?_
                    refine R_iinc (pc := 120) (i := 3) (n := 1) (ls' := [some (.ref 572), some (.int (nI 2)), some (.int (nI ((shN X.R i) ||| 0))), some (.int (nI (i + 1)))]) dX12_sorts_120 rfl rfl ?_
                    refine T_goto (pc := 123) (tgt := 68) dX12_sorts_123 (by decide) ?_
                    rw [if_neg (by omega)] at hih
                    exact hih
                  · skip
                    refine T_goto (pc := 95) (tgt := 111) dX12_sorts_95 (by decide) ?_
                    refine T_iconst (pc := 111) (v := nI 1) dX12_sorts_111 (by decide) ?_
                    refine T_iload_n (pc := 112) (i := 3) dX12_sorts_112 rfl rfl ?_
                    refine R_ishl (pc := 113) (by omega) dX12_sorts_113 ?_
                    refine T_goto (pc := 114) (tgt := 118) dX12_sorts_114 (by decide) ?_
                    refine R_ior (pc := 118) dX12_sorts_118 ?_
                    refine T_istore_n (pc := 119) (i := 2) (ls' := [some (.ref 572), some (.int (nI 2)), some (.int (nI ((shN X.R i) ||| (1 * 2 ^ i)))), some (.int (nI i))]) dX12_sorts_119 rfl (by decide) rfl ?_
                    refine R_iinc (pc := 120) (i := 3) (n := 1) (ls' := [some (.ref 572), some (.int (nI 2)), some (.int (nI ((shN X.R i) ||| (1 * 2 ^ i)))), some (.int (nI (i + 1)))]) dX12_sorts_120 rfl rfl ?_
                    refine T_goto (pc := 123) (tgt := 68) dX12_sorts_123 (by decide) ?_
                    rw [if_pos (by omega)] at hih
                    rw [Nat.one_mul]
                    exact hih
          · exact absurd h3 (by decide)
        · exact absurd h2 (by decide)
      · exact absurd h1 (by decide)
    · rw [show srV X 3 = nI (gwN X.R X.R.length) from rfl]
      refine R_ifb_ne (pc := 12) (tgt := 19) dX12_sorts_12 (by decide) (fun h1 => ?_) (fun h1 => ?_)
      · skip
        refine T_iconst (pc := 19) (v := nI 0) dX12_sorts_19 (by decide) ?_
        refine T_iconst (pc := 20) (v := nI 1) dX12_sorts_20 (by decide) ?_
        refine R_callV1 (pc := 21) (As := [.int (nI 0), .int (nI 1)]) (rest := []) (Or.inl lk_X12_302) mk_X12_throwsIf m_throws0n kc_572 ⟨by decide, rfl⟩ lc_572 dX12_sorts_21 rfl rfl (Nat.le_of_ble_eq_true rfl) (by decide) rfl (Nat.le_refl _) (Nat.le_refl _) ?_
        refine R_ifb_eq (pc := 24) (tgt := 29) dX12_sorts_24 (by decide) (fun h2 => ?_) (fun h2 => ?_)
        · skip
          refine T_iload_n (pc := 29) (i := 1) dX12_sorts_29 rfl rfl ?_
          refine T_iconst (pc := 30) (v := nI 2) dX12_sorts_30 (by decide) ?_
          refine R_icmp_ge (pc := 31) (tgt := 64) (by omega) (by omega) dX12_sorts_31 (by decide) (fun h3 => ?_) (fun h3 => ?_)
          · skip
            refine T_iconst (pc := 64) (v := nI 0) dX12_sorts_64 (by decide) ?_
            refine T_istore_n (pc := 65) (i := 2) (ls' := [some (.ref 572), some (.int (nI 3)), some (.int (nI 0)), none]) dX12_sorts_65 rfl (by decide) rfl ?_
            refine T_iconst (pc := 66) (v := nI 0) dX12_sorts_66 (by decide) ?_
            refine T_istore_n (pc := 67) (i := 3) (ls' := [some (.ref 572), some (.int (nI 3)), some (.int (nI 0)), some (.int (nI 0))]) dX12_sorts_67 rfl (by decide) rfl ?_
            suffices loop : ∀ (f i : Nat), i + f = X.R.length → T γ 7 0 0 M_X12_sorts (Rm (some (.int (nI (gwN X.R X.R.length)))) (fun m => MdN μ m (mT1 true))) 0 0 68 [some (.ref 572), some (.int (nI 3)), some (.int (nI (gwN X.R i))), some (.int (nI i))] [] (rm (wI μ 572 0 (nI 0))) by
              exact loop X.R.length 0 (Nat.zero_add _)
            intro f
            induction f with
            | zero =>
              intro i hi
              obtain rfl : i = X.R.length := by omega
              refine T_iload_n (pc := 68) (i := 3) dX12_sorts_68 rfl rfl ?_
              refine T_aload_n (pc := 69) (i := 0) dX12_sorts_69 rfl rfl ?_
              refine R_callV1 (pc := 70) (As := []) (rest := [.int (nI X.R.length)]) (Or.inl lk_X12_121) mk_X12_rules (m_rules hR2) kc_572 ⟨by decide, rfl⟩ lc_572 dX12_sorts_70 rfl rfl (Nat.le_of_ble_eq_true rfl) (by decide) rfl (Nat.le_refl _) (Nat.le_refl _) ?_
              refine R_icmp_ge (pc := 73) (tgt := 126) (by omega) (by omega) dX12_sorts_73 (by decide) (fun h4 => ?_) (fun h4 => ?_)
              · skip
                refine T_iload_n (pc := 126) (i := 2) dX12_sorts_126 rfl rfl ?_
                exact T_iret (pc := 127) (ty := .int) dX12_sorts_127 rfl rfl (Nat.le_refl _) (Nat.le_refl _) ⟨_, rfl, rfl, Tn.one.n⟩
              · exact absurd h4 (by omega)
            | succ f ih =>
              intro i hi
              have ok := hX.1.2.1 i (by omega)
              have ok4 := ok.2.2.1
              have ok5 := ok.2.2.2.2
              have hih := ih (i + 1) (by omega)
              rw [gwN_s] at hih
              refine T_iload_n (pc := 68) (i := 3) dX12_sorts_68 rfl rfl ?_
              refine T_aload_n (pc := 69) (i := 0) dX12_sorts_69 rfl rfl ?_
              refine R_callV1 (pc := 70) (As := []) (rest := [.int (nI i)]) (Or.inl lk_X12_121) mk_X12_rules (m_rules hR2) kc_572 ⟨by decide, rfl⟩ lc_572 dX12_sorts_70 rfl rfl (Nat.le_of_ble_eq_true rfl) (by decide) rfl (Nat.le_refl _) (Nat.le_refl _) ?_
              refine R_icmp_ge (pc := 73) (tgt := 126) (by omega) (by omega) dX12_sorts_73 (by decide) (fun h4 => ?_) (fun h4 => ?_)
              · exact absurd h4 (by omega)
              · skip
                refine T_iload_n (pc := 76) (i := 2) dX12_sorts_76 rfl rfl ?_
                refine T_iload_n (pc := 77) (i := 1) dX12_sorts_77 rfl rfl ?_
                refine T_iconst (pc := 78) (v := nI 2) dX12_sorts_78 (by decide) ?_
                refine R_icmp_ne (pc := 79) (tgt := 98) (by omega) (by omega) dX12_sorts_79 (by decide) (fun h5 => ?_) (fun h5 => ?_)
                · skip
                  refine T_aload_n (pc := 98) (i := 0) dX12_sorts_98 rfl rfl ?_
                  refine T_iload_n (pc := 99) (i := 3) dX12_sorts_99 rfl rfl ?_
                  refine R_callV1 (pc := 100) (As := [.int (nI i)]) (rest := [.int (nI (gwN X.R i))]) (Or.inl lk_X12_322) mk_X12_rights (m_rights hR2 (by omega)) kc_572 ⟨by decide, rfl⟩ lc_572 dX12_sorts_100 rfl rfl (Nat.le_of_ble_eq_true rfl) (by decide) rfl (Nat.le_refl _) (Nat.le_refl _) ?_
                  refine T_aload_n (pc := 103) (i := 0) dX12_sorts_103 rfl rfl ?_
                  refine T_iload_n (pc := 104) (i := 3) dX12_sorts_104 rfl rfl ?_
                  refine R_callV1 (pc := 105) (As := [.int (nI i)]) (rest := [.int (nI ((rAt X.R i).2.length)), .int (nI (gwN X.R i))]) (Or.inl lk_X12_311) mk_X12_lefts (m_lefts hR2 (by omega)) kc_572 ⟨by decide, rfl⟩ lc_572 dX12_sorts_105 rfl rfl (Nat.le_of_ble_eq_true rfl) (by decide) rfl (Nat.le_refl _) (Nat.le_refl _) ?_
                  refine R_icmp_le (pc := 108) (tgt := 117) (by omega) (by omega) dX12_sorts_108 (by decide) (fun h6 => ?_) (fun h6 => ?_)
                  · skip
                    refine T_iconst (pc := 117) (v := nI 0) dX12_sorts_117 (by decide) ?_
                    refine R_ior (pc := 118) dX12_sorts_118 ?_
                    refine T_istore_n (pc := 119) (i := 2) (ls' := [some (.ref 572), some (.int (nI 3)), some (.int (nI ((gwN X.R i) ||| 0))), some (.int (nI i))]) dX12_sorts_119 rfl (by decide) rfl ?_
                    refine R_iinc (pc := 120) (i := 3) (n := 1) (ls' := [some (.ref 572), some (.int (nI 3)), some (.int (nI ((gwN X.R i) ||| 0))), some (.int (nI (i + 1)))]) dX12_sorts_120 rfl rfl ?_
                    refine T_goto (pc := 123) (tgt := 68) dX12_sorts_123 (by decide) ?_
                    rw [if_neg (by omega)] at hih
                    exact hih
                  · skip
                    refine T_iconst (pc := 111) (v := nI 1) dX12_sorts_111 (by decide) ?_
                    refine T_iload_n (pc := 112) (i := 3) dX12_sorts_112 rfl rfl ?_
                    refine R_ishl (pc := 113) (by omega) dX12_sorts_113 ?_
                    refine T_goto (pc := 114) (tgt := 118) dX12_sorts_114 (by decide) ?_
                    refine R_ior (pc := 118) dX12_sorts_118 ?_
                    refine T_istore_n (pc := 119) (i := 2) (ls' := [some (.ref 572), some (.int (nI 3)), some (.int (nI ((gwN X.R i) ||| (1 * 2 ^ i)))), some (.int (nI i))]) dX12_sorts_119 rfl (by decide) rfl ?_
                    refine R_iinc (pc := 120) (i := 3) (n := 1) (ls' := [some (.ref 572), some (.int (nI 3)), some (.int (nI ((gwN X.R i) ||| (1 * 2 ^ i)))), some (.int (nI (i + 1)))]) dX12_sorts_120 rfl rfl ?_
                    refine T_goto (pc := 123) (tgt := 68) dX12_sorts_123 (by decide) ?_
                    rw [if_pos (by omega)] at hih
                    rw [Nat.one_mul]
                    exact hih
                · exact absurd h5 (by decide)
          · exact absurd h3 (by decide)
        · exact absurd h2 (by decide)
      · exact absurd h1 (by decide)
theorem m_count {x : Int32} {X : Td} {c : Int32} {LL : List (List Int32)} {U : List Td} {L : Lw} (hX : mdT (μ.1 573) X) (hH : mdH (μ.1 573) c LL) (hA : mdA μ U) (hL : L.1 = c) : Ex γ 5 0 0 M_X12_count [.ref 572, .int x] (rm μ) (Rm (some (.int (cntV X L U x))) (fun m => MdN μ m 0)) := by
  have h6 := hX.2.1.1.2
  have hX2 : mdT ((wI μ 572 0 (nI 0)).1 573) X := by rw [w573]; exact hX
  have hF2 := hX2.2.1
  by_cases hin : inB x 11 = true
  · obtain ⟨k, hk, rfl⟩ := inB_of (by decide) hin
    have hc : k = 0 ∨ k = 1 ∨ k = 2 ∨ k = 3 ∨ k = 4 ∨ k = 5 ∨ k = 6 ∨ k = 7 ∨ k = 8 ∨ k = 9 ∨ k = 10 := by omega
    rcases hc with rfl | rfl | rfl | rfl | rfl | rfl | rfl | rfl | rfl | rfl | rfl
    · rw [show cntV X L U (nI 0) = nI X.R.length from rfl]
      refine Ex.of (by decide +kernel) rfl (Nat.le_of_ble_eq_true rfl) ?_
      show T _ _ _ _ _ _ _ _ _ [some (.ref 572), some (.int (nI 0)), none, none] [] (rm μ)
      refine T_aload_n (pc := 0) (i := 0) dX12_count_0 rfl rfl ?_
      refine T_iconst (pc := 1) (v := nI 0) dX12_count_1 (by decide) ?_
      refine R_putI (pc := 2) fl_X12_3 ⟨rfl, rfl⟩ (Or.inl rfl) kc_572 lc_572 dX12_count_2 ?_
      refine T_iconst (pc := 5) (v := nI 0) dX12_count_5 (by decide) ?_
      refine T_istore_n (pc := 6) (i := 2) (ls' := [some (.ref 572), some (.int (nI 0)), some (.int (nI 0)), none]) dX12_count_6 rfl (by decide) rfl ?_
      refine T_iload_n (pc := 7) (i := 1) dX12_count_7 rfl rfl ?_
      refine T_tableOut (pc := 8) (tgt := 141) dX12_count_8 (Or.inl (by decide)) (by decide) ?_
      refine T_iload_n (pc := 141) (i := 1) dX12_count_141 rfl rfl ?_
      refine T_iconst (pc := 142) (v := nI 0) dX12_count_142 (by decide) ?_
      refine T_bipush (pc := 143) (v := nI 7) dX12_count_143 (by decide) ?_
      refine R_callS1 (pc := 145) (av := [.int (nI 0), .int (nI 0), .int (nI 7)]) (rest := []) (Or.inl lk_X12_125) mk_X12_in m_inK dX12_count_145 rfl rfl (Nat.le_of_ble_eq_true rfl) (by decide) rfl (Nat.le_refl _) (Nat.le_refl _) ?_
      rw [show chkN (nI 0) 0 7 = true from rfl]
      refine R_ifb_eq (pc := 148) (tgt := 160) dX12_count_148 (by decide) (fun h1 => ?_) (fun h1 => ?_)
      · exact absurd h1 (by decide)
      · skip
        refine T_aload_n (pc := 151) (i := 0) dX12_count_151 rfl rfl ?_
        refine R_getR (pc := 152) (i := 573) fl_X12_29 rfl kc_572 lc_572 rc_572_1 dX12_count_152 ?_
        refine T_iload_n (pc := 155) (i := 1) dX12_count_155 rfl rfl ?_
        refine R_iald (pc := 156) (x := nI X.R.length) kc_573 lc_573 (by omega) (by first | decide | assumption) ((n_wI (by omega)).trans hX.1.1.1) dX12_count_156 ?_
        refine T_goto (pc := 157) (tgt := 161) dX12_count_157 (by decide) ?_
        exact T_iret (pc := 161) (ty := .int) dX12_count_161 rfl rfl (Nat.le_refl _) (Nat.le_refl _) ⟨_, rfl, rfl, Tn.one.n⟩
    · rw [show cntV X L U (nI 1) = nI X.F.length from rfl]
      refine Ex.of (by decide +kernel) rfl (Nat.le_of_ble_eq_true rfl) ?_
      show T _ _ _ _ _ _ _ _ _ [some (.ref 572), some (.int (nI 1)), none, none] [] (rm μ)
      refine T_aload_n (pc := 0) (i := 0) dX12_count_0 rfl rfl ?_
      refine T_iconst (pc := 1) (v := nI 0) dX12_count_1 (by decide) ?_
      refine R_putI (pc := 2) fl_X12_3 ⟨rfl, rfl⟩ (Or.inl rfl) kc_572 lc_572 dX12_count_2 ?_
      refine T_iconst (pc := 5) (v := nI 0) dX12_count_5 (by decide) ?_
      refine T_istore_n (pc := 6) (i := 2) (ls' := [some (.ref 572), some (.int (nI 1)), some (.int (nI 0)), none]) dX12_count_6 rfl (by decide) rfl ?_
      refine T_iload_n (pc := 7) (i := 1) dX12_count_7 rfl rfl ?_
      refine T_tableOut (pc := 8) (tgt := 141) dX12_count_8 (Or.inl (by decide)) (by decide) ?_
      refine T_iload_n (pc := 141) (i := 1) dX12_count_141 rfl rfl ?_
      refine T_iconst (pc := 142) (v := nI 0) dX12_count_142 (by decide) ?_
      refine T_bipush (pc := 143) (v := nI 7) dX12_count_143 (by decide) ?_
      refine R_callS1 (pc := 145) (av := [.int (nI 1), .int (nI 0), .int (nI 7)]) (rest := []) (Or.inl lk_X12_125) mk_X12_in m_inK dX12_count_145 rfl rfl (Nat.le_of_ble_eq_true rfl) (by decide) rfl (Nat.le_refl _) (Nat.le_refl _) ?_
      rw [show chkN (nI 1) 0 7 = true from rfl]
      refine R_ifb_eq (pc := 148) (tgt := 160) dX12_count_148 (by decide) (fun h1 => ?_) (fun h1 => ?_)
      · exact absurd h1 (by decide)
      · skip
        refine T_aload_n (pc := 151) (i := 0) dX12_count_151 rfl rfl ?_
        refine R_getR (pc := 152) (i := 573) fl_X12_29 rfl kc_572 lc_572 rc_572_1 dX12_count_152 ?_
        refine T_iload_n (pc := 155) (i := 1) dX12_count_155 rfl rfl ?_
        refine R_iald (pc := 156) (x := nI X.F.length) kc_573 lc_573 (by omega) (by first | decide | assumption) ((n_wI (by omega)).trans hX.2.1.1.1) dX12_count_156 ?_
        refine T_goto (pc := 157) (tgt := 161) dX12_count_157 (by decide) ?_
        exact T_iret (pc := 161) (ty := .int) dX12_count_161 rfl rfl (Nat.le_refl _) (Nat.le_refl _) ⟨_, rfl, rfl, Tn.one.n⟩
    · rw [show cntV X L U (nI 2) = nI X.S.length from rfl]
      refine Ex.of (by decide +kernel) rfl (Nat.le_of_ble_eq_true rfl) ?_
      show T _ _ _ _ _ _ _ _ _ [some (.ref 572), some (.int (nI 2)), none, none] [] (rm μ)
      refine T_aload_n (pc := 0) (i := 0) dX12_count_0 rfl rfl ?_
      refine T_iconst (pc := 1) (v := nI 0) dX12_count_1 (by decide) ?_
      refine R_putI (pc := 2) fl_X12_3 ⟨rfl, rfl⟩ (Or.inl rfl) kc_572 lc_572 dX12_count_2 ?_
      refine T_iconst (pc := 5) (v := nI 0) dX12_count_5 (by decide) ?_
      refine T_istore_n (pc := 6) (i := 2) (ls' := [some (.ref 572), some (.int (nI 2)), some (.int (nI 0)), none]) dX12_count_6 rfl (by decide) rfl ?_
      refine T_iload_n (pc := 7) (i := 1) dX12_count_7 rfl rfl ?_
      refine T_tableOut (pc := 8) (tgt := 141) dX12_count_8 (Or.inl (by decide)) (by decide) ?_
      refine T_iload_n (pc := 141) (i := 1) dX12_count_141 rfl rfl ?_
      refine T_iconst (pc := 142) (v := nI 0) dX12_count_142 (by decide) ?_
      refine T_bipush (pc := 143) (v := nI 7) dX12_count_143 (by decide) ?_
      refine R_callS1 (pc := 145) (av := [.int (nI 2), .int (nI 0), .int (nI 7)]) (rest := []) (Or.inl lk_X12_125) mk_X12_in m_inK dX12_count_145 rfl rfl (Nat.le_of_ble_eq_true rfl) (by decide) rfl (Nat.le_refl _) (Nat.le_refl _) ?_
      rw [show chkN (nI 2) 0 7 = true from rfl]
      refine R_ifb_eq (pc := 148) (tgt := 160) dX12_count_148 (by decide) (fun h1 => ?_) (fun h1 => ?_)
      · exact absurd h1 (by decide)
      · skip
        refine T_aload_n (pc := 151) (i := 0) dX12_count_151 rfl rfl ?_
        refine R_getR (pc := 152) (i := 573) fl_X12_29 rfl kc_572 lc_572 rc_572_1 dX12_count_152 ?_
        refine T_iload_n (pc := 155) (i := 1) dX12_count_155 rfl rfl ?_
        refine R_iald (pc := 156) (x := nI X.S.length) kc_573 lc_573 (by omega) (by first | decide | assumption) ((n_wI (by omega)).trans hX.2.2.1.1.1) dX12_count_156 ?_
        refine T_goto (pc := 157) (tgt := 161) dX12_count_157 (by decide) ?_
        exact T_iret (pc := 161) (ty := .int) dX12_count_161 rfl rfl (Nat.le_refl _) (Nat.le_refl _) ⟨_, rfl, rfl, Tn.one.n⟩
    · rw [show cntV X L U (nI 3) = nI X.texts from rfl]
      refine Ex.of (by decide +kernel) rfl (Nat.le_of_ble_eq_true rfl) ?_
      show T _ _ _ _ _ _ _ _ _ [some (.ref 572), some (.int (nI 3)), none, none] [] (rm μ)
      refine T_aload_n (pc := 0) (i := 0) dX12_count_0 rfl rfl ?_
      refine T_iconst (pc := 1) (v := nI 0) dX12_count_1 (by decide) ?_
      refine R_putI (pc := 2) fl_X12_3 ⟨rfl, rfl⟩ (Or.inl rfl) kc_572 lc_572 dX12_count_2 ?_
      refine T_iconst (pc := 5) (v := nI 0) dX12_count_5 (by decide) ?_
      refine T_istore_n (pc := 6) (i := 2) (ls' := [some (.ref 572), some (.int (nI 3)), some (.int (nI 0)), none]) dX12_count_6 rfl (by decide) rfl ?_
      refine T_iload_n (pc := 7) (i := 1) dX12_count_7 rfl rfl ?_
      refine T_tableOut (pc := 8) (tgt := 141) dX12_count_8 (Or.inl (by decide)) (by decide) ?_
      refine T_iload_n (pc := 141) (i := 1) dX12_count_141 rfl rfl ?_
      refine T_iconst (pc := 142) (v := nI 0) dX12_count_142 (by decide) ?_
      refine T_bipush (pc := 143) (v := nI 7) dX12_count_143 (by decide) ?_
      refine R_callS1 (pc := 145) (av := [.int (nI 3), .int (nI 0), .int (nI 7)]) (rest := []) (Or.inl lk_X12_125) mk_X12_in m_inK dX12_count_145 rfl rfl (Nat.le_of_ble_eq_true rfl) (by decide) rfl (Nat.le_refl _) (Nat.le_refl _) ?_
      rw [show chkN (nI 3) 0 7 = true from rfl]
      refine R_ifb_eq (pc := 148) (tgt := 160) dX12_count_148 (by decide) (fun h1 => ?_) (fun h1 => ?_)
      · exact absurd h1 (by decide)
      · skip
        refine T_aload_n (pc := 151) (i := 0) dX12_count_151 rfl rfl ?_
        refine R_getR (pc := 152) (i := 573) fl_X12_29 rfl kc_572 lc_572 rc_572_1 dX12_count_152 ?_
        refine T_iload_n (pc := 155) (i := 1) dX12_count_155 rfl rfl ?_
        refine R_iald (pc := 156) (x := nI X.texts) kc_573 lc_573 (by omega) (by first | decide | assumption) ((n_wI (by omega)).trans hX.2.2.2.2.2.1) dX12_count_156 ?_
        refine T_goto (pc := 157) (tgt := 161) dX12_count_157 (by decide) ?_
        exact T_iret (pc := 161) (ty := .int) dX12_count_161 rfl rfl (Nat.le_refl _) (Nat.le_refl _) ⟨_, rfl, rfl, Tn.one.n⟩
    · rw [show cntV X L U (nI 4) = L.1 from rfl, hL]
      rcases hH.1 with ⟨a1, a2, -⟩ | ⟨a1, a2, a3⟩
      · rw [a1]
        refine Ex.of (by decide +kernel) rfl (Nat.le_of_ble_eq_true rfl) ?_
        show T _ _ _ _ _ _ _ _ _ [some (.ref 572), some (.int (nI 4)), none, none] [] (rm μ)
        refine T_aload_n (pc := 0) (i := 0) dX12_count_0 rfl rfl ?_
        refine T_iconst (pc := 1) (v := nI 0) dX12_count_1 (by decide) ?_
        refine R_putI (pc := 2) fl_X12_3 ⟨rfl, rfl⟩ (Or.inl rfl) kc_572 lc_572 dX12_count_2 ?_
        refine T_iconst (pc := 5) (v := nI 0) dX12_count_5 (by decide) ?_
        refine T_istore_n (pc := 6) (i := 2) (ls' := [some (.ref 572), some (.int (nI 4)), some (.int (nI 0)), none]) dX12_count_6 rfl (by decide) rfl ?_
        refine T_iload_n (pc := 7) (i := 1) dX12_count_7 rfl rfl ?_
        refine T_tableIn (pc := 8) (tgt := 52) dX12_count_8 (by decide) (by decide) rfl (by decide) ?_
        refine T_aload_n (pc := 52) (i := 0) dX12_count_52 rfl rfl ?_
        refine R_getR (pc := 53) (i := 573) fl_X12_29 rfl kc_572 lc_572 rc_572_1 dX12_count_53 ?_
        refine T_iconst (pc := 56) (v := nI 4) dX12_count_56 (by decide) ?_
        refine R_iald (pc := 57) (x := nI 0) kc_573 lc_573 (by omega) (by first | decide | assumption) ((wI_ne (by decide)).trans a2) dX12_count_57 ?_
        refine T_iconst (pc := 58) (v := nI 1) dX12_count_58 (by decide) ?_
        refine R_icmp_ne (pc := 59) (tgt := 73) (by omega) (by omega) dX12_count_59 (by decide) (fun h1 => ?_) (fun h1 => ?_)
        · skip
          refine T_iconst (pc := 73) (v := (-1)) dX12_count_73 (by decide) ?_
          exact T_iret (pc := 74) (ty := .int) dX12_count_74 rfl rfl (Nat.le_refl _) (Nat.le_refl _) ⟨_, rfl, rfl, Tn.one.n⟩
        · exact absurd h1 (by decide)
      · rw [a2]
        refine Ex.of (by decide +kernel) rfl (Nat.le_of_ble_eq_true rfl) ?_
        show T _ _ _ _ _ _ _ _ _ [some (.ref 572), some (.int (nI 4)), none, none] [] (rm μ)
        refine T_aload_n (pc := 0) (i := 0) dX12_count_0 rfl rfl ?_
        refine T_iconst (pc := 1) (v := nI 0) dX12_count_1 (by decide) ?_
        refine R_putI (pc := 2) fl_X12_3 ⟨rfl, rfl⟩ (Or.inl rfl) kc_572 lc_572 dX12_count_2 ?_
        refine T_iconst (pc := 5) (v := nI 0) dX12_count_5 (by decide) ?_
        refine T_istore_n (pc := 6) (i := 2) (ls' := [some (.ref 572), some (.int (nI 4)), some (.int (nI 0)), none]) dX12_count_6 rfl (by decide) rfl ?_
        refine T_iload_n (pc := 7) (i := 1) dX12_count_7 rfl rfl ?_
        refine T_tableIn (pc := 8) (tgt := 52) dX12_count_8 (by decide) (by decide) rfl (by decide) ?_
        refine T_aload_n (pc := 52) (i := 0) dX12_count_52 rfl rfl ?_
        refine R_getR (pc := 53) (i := 573) fl_X12_29 rfl kc_572 lc_572 rc_572_1 dX12_count_53 ?_
        refine T_iconst (pc := 56) (v := nI 4) dX12_count_56 (by decide) ?_
        refine R_iald (pc := 57) (x := nI 1) kc_573 lc_573 (by omega) (by first | decide | assumption) ((wI_ne (by decide)).trans a1) dX12_count_57 ?_
        refine T_iconst (pc := 58) (v := nI 1) dX12_count_58 (by decide) ?_
        refine R_icmp_ne (pc := 59) (tgt := 73) (by omega) (by omega) dX12_count_59 (by decide) (fun h1 => ?_) (fun h1 => ?_)
        · exact absurd rfl h1
        · skip
          refine T_aload_n (pc := 62) (i := 0) dX12_count_62 rfl rfl ?_
          refine R_getR (pc := 63) (i := 573) fl_X12_29 rfl kc_572 lc_572 rc_572_1 dX12_count_63 ?_
          refine T_sipush (pc := 66) (v := nI 339) dX12_count_66 (by decide) ?_
          refine R_iald (pc := 69) (x := nI LL.length) kc_573 lc_573 (by omega) (by first | decide | assumption) ((wI_ne (by decide)).trans a3) dX12_count_69 ?_
          refine T_goto (pc := 70) (tgt := 74) dX12_count_70 (by decide) ?_
          exact T_iret (pc := 74) (ty := .int) dX12_count_74 rfl rfl (Nat.le_refl _) (Nat.le_refl _) ⟨_, rfl, rfl, Tn.one.n⟩
    · rw [show cntV X L U (nI 5) = nI X.way from rfl]
      refine Ex.of (by decide +kernel) rfl (Nat.le_of_ble_eq_true rfl) ?_
      show T _ _ _ _ _ _ _ _ _ [some (.ref 572), some (.int (nI 5)), none, none] [] (rm μ)
      refine T_aload_n (pc := 0) (i := 0) dX12_count_0 rfl rfl ?_
      refine T_iconst (pc := 1) (v := nI 0) dX12_count_1 (by decide) ?_
      refine R_putI (pc := 2) fl_X12_3 ⟨rfl, rfl⟩ (Or.inl rfl) kc_572 lc_572 dX12_count_2 ?_
      refine T_iconst (pc := 5) (v := nI 0) dX12_count_5 (by decide) ?_
      refine T_istore_n (pc := 6) (i := 2) (ls' := [some (.ref 572), some (.int (nI 5)), some (.int (nI 0)), none]) dX12_count_6 rfl (by decide) rfl ?_
      refine T_iload_n (pc := 7) (i := 1) dX12_count_7 rfl rfl ?_
      refine T_tableIn (pc := 8) (tgt := 141) dX12_count_8 (by decide) (by decide) rfl (by decide) ?_
      refine T_iload_n (pc := 141) (i := 1) dX12_count_141 rfl rfl ?_
      refine T_iconst (pc := 142) (v := nI 0) dX12_count_142 (by decide) ?_
      refine T_bipush (pc := 143) (v := nI 7) dX12_count_143 (by decide) ?_
      refine R_callS1 (pc := 145) (av := [.int (nI 5), .int (nI 0), .int (nI 7)]) (rest := []) (Or.inl lk_X12_125) mk_X12_in m_inK dX12_count_145 rfl rfl (Nat.le_of_ble_eq_true rfl) (by decide) rfl (Nat.le_refl _) (Nat.le_refl _) ?_
      rw [show chkN (nI 5) 0 7 = true from rfl]
      refine R_ifb_eq (pc := 148) (tgt := 160) dX12_count_148 (by decide) (fun h1 => ?_) (fun h1 => ?_)
      · exact absurd h1 (by decide)
      · skip
        refine T_aload_n (pc := 151) (i := 0) dX12_count_151 rfl rfl ?_
        refine R_getR (pc := 152) (i := 573) fl_X12_29 rfl kc_572 lc_572 rc_572_1 dX12_count_152 ?_
        refine T_iload_n (pc := 155) (i := 1) dX12_count_155 rfl rfl ?_
        refine R_iald (pc := 156) (x := nI X.way) kc_573 lc_573 (by omega) (by first | decide | assumption) ((n_wI (by omega)).trans hX.2.2.2.2.2.2.1) dX12_count_156 ?_
        refine T_goto (pc := 157) (tgt := 161) dX12_count_157 (by decide) ?_
        exact T_iret (pc := 161) (ty := .int) dX12_count_161 rfl rfl (Nat.le_refl _) (Nat.le_refl _) ⟨_, rfl, rfl, Tn.one.n⟩
    · rw [show cntV X L U (nI 6) = nI X.fog from rfl]
      refine Ex.of (by decide +kernel) rfl (Nat.le_of_ble_eq_true rfl) ?_
      show T _ _ _ _ _ _ _ _ _ [some (.ref 572), some (.int (nI 6)), none, none] [] (rm μ)
      refine T_aload_n (pc := 0) (i := 0) dX12_count_0 rfl rfl ?_
      refine T_iconst (pc := 1) (v := nI 0) dX12_count_1 (by decide) ?_
      refine R_putI (pc := 2) fl_X12_3 ⟨rfl, rfl⟩ (Or.inl rfl) kc_572 lc_572 dX12_count_2 ?_
      refine T_iconst (pc := 5) (v := nI 0) dX12_count_5 (by decide) ?_
      refine T_istore_n (pc := 6) (i := 2) (ls' := [some (.ref 572), some (.int (nI 6)), some (.int (nI 0)), none]) dX12_count_6 rfl (by decide) rfl ?_
      refine T_iload_n (pc := 7) (i := 1) dX12_count_7 rfl rfl ?_
      refine T_tableIn (pc := 8) (tgt := 141) dX12_count_8 (by decide) (by decide) rfl (by decide) ?_
      refine T_iload_n (pc := 141) (i := 1) dX12_count_141 rfl rfl ?_
      refine T_iconst (pc := 142) (v := nI 0) dX12_count_142 (by decide) ?_
      refine T_bipush (pc := 143) (v := nI 7) dX12_count_143 (by decide) ?_
      refine R_callS1 (pc := 145) (av := [.int (nI 6), .int (nI 0), .int (nI 7)]) (rest := []) (Or.inl lk_X12_125) mk_X12_in m_inK dX12_count_145 rfl rfl (Nat.le_of_ble_eq_true rfl) (by decide) rfl (Nat.le_refl _) (Nat.le_refl _) ?_
      rw [show chkN (nI 6) 0 7 = true from rfl]
      refine R_ifb_eq (pc := 148) (tgt := 160) dX12_count_148 (by decide) (fun h1 => ?_) (fun h1 => ?_)
      · exact absurd h1 (by decide)
      · skip
        refine T_aload_n (pc := 151) (i := 0) dX12_count_151 rfl rfl ?_
        refine R_getR (pc := 152) (i := 573) fl_X12_29 rfl kc_572 lc_572 rc_572_1 dX12_count_152 ?_
        refine T_iload_n (pc := 155) (i := 1) dX12_count_155 rfl rfl ?_
        refine R_iald (pc := 156) (x := nI X.fog) kc_573 lc_573 (by omega) (by first | decide | assumption) ((n_wI (by omega)).trans hX.2.2.2.2.2.2.2.1) dX12_count_156 ?_
        refine T_goto (pc := 157) (tgt := 161) dX12_count_157 (by decide) ?_
        exact T_iret (pc := 161) (ty := .int) dX12_count_161 rfl rfl (Nat.le_refl _) (Nat.le_refl _) ⟨_, rfl, rfl, Tn.one.n⟩
    · rw [show cntV X L U (nI 7) = X.year from rfl]
      refine Ex.of (by decide +kernel) rfl (Nat.le_of_ble_eq_true rfl) ?_
      show T _ _ _ _ _ _ _ _ _ [some (.ref 572), some (.int (nI 7)), none, none] [] (rm μ)
      refine T_aload_n (pc := 0) (i := 0) dX12_count_0 rfl rfl ?_
      refine T_iconst (pc := 1) (v := nI 0) dX12_count_1 (by decide) ?_
      refine R_putI (pc := 2) fl_X12_3 ⟨rfl, rfl⟩ (Or.inl rfl) kc_572 lc_572 dX12_count_2 ?_
      refine T_iconst (pc := 5) (v := nI 0) dX12_count_5 (by decide) ?_
      refine T_istore_n (pc := 6) (i := 2) (ls' := [some (.ref 572), some (.int (nI 7)), some (.int (nI 0)), none]) dX12_count_6 rfl (by decide) rfl ?_
      refine T_iload_n (pc := 7) (i := 1) dX12_count_7 rfl rfl ?_
      refine T_tableIn (pc := 8) (tgt := 141) dX12_count_8 (by decide) (by decide) rfl (by decide) ?_
      refine T_iload_n (pc := 141) (i := 1) dX12_count_141 rfl rfl ?_
      refine T_iconst (pc := 142) (v := nI 0) dX12_count_142 (by decide) ?_
      refine T_bipush (pc := 143) (v := nI 7) dX12_count_143 (by decide) ?_
      refine R_callS1 (pc := 145) (av := [.int (nI 7), .int (nI 0), .int (nI 7)]) (rest := []) (Or.inl lk_X12_125) mk_X12_in m_inK dX12_count_145 rfl rfl (Nat.le_of_ble_eq_true rfl) (by decide) rfl (Nat.le_refl _) (Nat.le_refl _) ?_
      rw [show chkN (nI 7) 0 7 = true from rfl]
      refine R_ifb_eq (pc := 148) (tgt := 160) dX12_count_148 (by decide) (fun h1 => ?_) (fun h1 => ?_)
      · exact absurd h1 (by decide)
      · skip
        refine T_aload_n (pc := 151) (i := 0) dX12_count_151 rfl rfl ?_
        refine R_getR (pc := 152) (i := 573) fl_X12_29 rfl kc_572 lc_572 rc_572_1 dX12_count_152 ?_
        refine T_iload_n (pc := 155) (i := 1) dX12_count_155 rfl rfl ?_
        refine R_iald (pc := 156) (x := X.year) kc_573 lc_573 (by omega) (by first | decide | assumption) ((n_wI (by omega)).trans hX.2.2.2.2.2.2.2.2.1) dX12_count_156 ?_
        refine T_goto (pc := 157) (tgt := 161) dX12_count_157 (by decide) ?_
        exact T_iret (pc := 161) (ty := .int) dX12_count_161 rfl rfl (Nat.le_refl _) (Nat.le_refl _) ⟨_, rfl, rfl, Tn.one.n⟩
    · rw [show cntV X L U (nI 8) = soN X.F X.F.length from rfl]
      refine Ex.of (by decide +kernel) rfl (Nat.le_of_ble_eq_true rfl) ?_
      show T _ _ _ _ _ _ _ _ _ [some (.ref 572), some (.int (nI 8)), none, none] [] (rm μ)
      refine T_aload_n (pc := 0) (i := 0) dX12_count_0 rfl rfl ?_
      refine T_iconst (pc := 1) (v := nI 0) dX12_count_1 (by decide) ?_
      refine R_putI (pc := 2) fl_X12_3 ⟨rfl, rfl⟩ (Or.inl rfl) kc_572 lc_572 dX12_count_2 ?_
      refine T_iconst (pc := 5) (v := nI 0) dX12_count_5 (by decide) ?_
      refine T_istore_n (pc := 6) (i := 2) (ls' := [some (.ref 572), some (.int (nI 8)), some (.int (nI 0)), none]) dX12_count_6 rfl (by decide) rfl ?_
      refine T_iload_n (pc := 7) (i := 1) dX12_count_7 rfl rfl ?_
      refine T_tableIn (pc := 8) (tgt := 75) dX12_count_8 (by decide) (by decide) rfl (by decide) ?_
      refine T_iconst (pc := 75) (v := nI 0) dX12_count_75 (by decide) ?_
      refine T_istore_n (pc := 76) (i := 3) (ls' := [some (.ref 572), some (.int (nI 8)), some (.int (nI 0)), some (.int (nI 0))]) dX12_count_76 rfl (by decide) rfl ?_
      suffices loop : ∀ (f i : Nat), i + f = X.F.length → T γ 5 0 0 M_X12_count (Rm (some (.int (soN X.F X.F.length))) (fun m => MdN μ m 0)) 0 0 77 [some (.ref 572), some (.int (nI 8)), some (.int (soN X.F i)), some (.int (nI i))] [] (rm (wI μ 572 0 (nI 0))) by
        exact loop X.F.length 0 (Nat.zero_add _)
      intro f
      induction f with
      | zero =>
        intro i hi
        obtain rfl : i = X.F.length := by omega
        refine T_iload_n (pc := 77) (i := 3) dX12_count_77 rfl rfl ?_
        refine T_aload_n (pc := 78) (i := 0) dX12_count_78 rfl rfl ?_
        refine R_callV1 (pc := 79) (As := []) (rest := [.int (nI X.F.length)]) (Or.inl lk_X12_129) mk_X12_fields (m_fields hF2) kc_572 ⟨by decide, rfl⟩ lc_572 dX12_count_79 rfl rfl (Nat.le_of_ble_eq_true rfl) (by decide) rfl (Nat.le_refl _) (Nat.le_refl _) ?_
        refine R_icmp_ge (pc := 82) (tgt := 105) (by omega) (by omega) dX12_count_82 (by decide) (fun h4 => ?_) (fun h4 => ?_)
        · skip
          refine T_iload_n (pc := 105) (i := 2) dX12_count_105 rfl rfl ?_
          exact T_iret (pc := 106) (ty := .int) dX12_count_106 rfl rfl (Nat.le_refl _) (Nat.le_refl _) ⟨_, rfl, rfl, Tn.one.n⟩
        · exact absurd h4 (by omega)
      | succ f ih =>
        intro i hi
        have hf := hF2.2 i (by omega)
        refine T_iload_n (pc := 77) (i := 3) dX12_count_77 rfl rfl ?_
        refine T_aload_n (pc := 78) (i := 0) dX12_count_78 rfl rfl ?_
        refine R_callV1 (pc := 79) (As := []) (rest := [.int (nI i)]) (Or.inl lk_X12_129) mk_X12_fields (m_fields hF2) kc_572 ⟨by decide, rfl⟩ lc_572 dX12_count_79 rfl rfl (Nat.le_of_ble_eq_true rfl) (by decide) rfl (Nat.le_refl _) (Nat.le_refl _) ?_
        refine R_icmp_ge (pc := 82) (tgt := 105) (by omega) (by omega) dX12_count_82 (by decide) (fun h4 => ?_) (fun h4 => ?_)
        · exact absurd h4 (by omega)
        · skip
          refine T_iload_n (pc := 85) (i := 2) dX12_count_85 rfl rfl ?_
          refine T_aload_n (pc := 86) (i := 0) dX12_count_86 rfl rfl ?_
          refine R_getR (pc := 87) (i := 573) fl_X12_29 rfl kc_572 lc_572 rc_572_1 dX12_count_87 ?_
          refine T_iload_n (pc := 90) (i := 3) dX12_count_90 rfl rfl ?_
          refine R_callS1 (pc := 91) (av := [.int (nI i)]) (rest := [.ref 573, .int ((soN X.F i))]) (Or.inl lk_X12_114) mk_X12_at m_at dX12_count_91 rfl rfl (Nat.le_of_ble_eq_true rfl) (by decide) rfl (Nat.le_refl _) (Nat.le_refl _) ?_
          refine T_iconst (pc := 94) (v := nI 2) dX12_count_94 (by decide) ?_
          refine R_iadd (pc := 95) dX12_count_95 ?_
          refine R_iald (pc := 96) (x := ((fAt X.F i).2.1)) kc_573 lc_573 (by omega) (by first | decide | assumption) hf.2.2.1 dX12_count_96 ?_
          refine T_iadd (pc := 97) dX12_count_97 ?_
          refine T_istore_n (pc := 98) (i := 2) (ls' := [some (.ref 572), some (.int (nI 8)), some (.int ((((soN X.F i)) + (((fAt X.F i).2.1))))), some (.int (nI i))]) dX12_count_98 rfl (by decide) rfl ?_
          refine R_iinc (pc := 99) (i := 3) (n := 1) (ls' := [some (.ref 572), some (.int (nI 8)), some (.int ((((soN X.F i)) + (((fAt X.F i).2.1))))), some (.int (nI (i + 1)))]) dX12_count_99 rfl rfl ?_
          refine T_goto (pc := 102) (tgt := 77) dX12_count_102 (by decide) ?_
          exact ih (i + 1) (by omega)
    · rw [show cntV X L U (nI 9) = nI (boN X.F X.F.length) from rfl]
      refine Ex.of (by decide +kernel) rfl (Nat.le_of_ble_eq_true rfl) ?_
      show T _ _ _ _ _ _ _ _ _ [some (.ref 572), some (.int (nI 9)), none, none] [] (rm μ)
      refine T_aload_n (pc := 0) (i := 0) dX12_count_0 rfl rfl ?_
      refine T_iconst (pc := 1) (v := nI 0) dX12_count_1 (by decide) ?_
      refine R_putI (pc := 2) fl_X12_3 ⟨rfl, rfl⟩ (Or.inl rfl) kc_572 lc_572 dX12_count_2 ?_
      refine T_iconst (pc := 5) (v := nI 0) dX12_count_5 (by decide) ?_
      refine T_istore_n (pc := 6) (i := 2) (ls' := [some (.ref 572), some (.int (nI 9)), some (.int (nI 0)), none]) dX12_count_6 rfl (by decide) rfl ?_
      refine T_iload_n (pc := 7) (i := 1) dX12_count_7 rfl rfl ?_
      refine T_tableIn (pc := 8) (tgt := 107) dX12_count_8 (by decide) (by decide) rfl (by decide) ?_
      refine T_iconst (pc := 107) (v := nI 0) dX12_count_107 (by decide) ?_
      refine T_istore_n (pc := 108) (i := 3) (ls' := [some (.ref 572), some (.int (nI 9)), some (.int (nI 0)), some (.int (nI 0))]) dX12_count_108 rfl (by decide) rfl ?_
      suffices loop : ∀ (f i : Nat), i + f = X.F.length → T γ 5 0 0 M_X12_count (Rm (some (.int (nI (boN X.F X.F.length)))) (fun m => MdN μ m 0)) 0 0 109 [some (.ref 572), some (.int (nI 9)), some (.int (nI (boN X.F i))), some (.int (nI i))] [] (rm (wI μ 572 0 (nI 0))) by
        exact loop X.F.length 0 (Nat.zero_add _)
      intro f
      induction f with
      | zero =>
        intro i hi
        obtain rfl : i = X.F.length := by omega
        refine T_iload_n (pc := 109) (i := 3) dX12_count_109 rfl rfl ?_
        refine T_aload_n (pc := 110) (i := 0) dX12_count_110 rfl rfl ?_
        refine R_callV1 (pc := 111) (As := []) (rest := [.int (nI X.F.length)]) (Or.inl lk_X12_129) mk_X12_fields (m_fields hF2) kc_572 ⟨by decide, rfl⟩ lc_572 dX12_count_111 rfl rfl (Nat.le_of_ble_eq_true rfl) (by decide) rfl (Nat.le_refl _) (Nat.le_refl _) ?_
        refine R_icmp_ge (pc := 114) (tgt := 134) (by omega) (by omega) dX12_count_114 (by decide) (fun h4 => ?_) (fun h4 => ?_)
        · skip
          refine T_iload_n (pc := 134) (i := 2) dX12_count_134 rfl rfl ?_
          exact T_iret (pc := 135) (ty := .int) dX12_count_135 rfl rfl (Nat.le_refl _) (Nat.le_refl _) ⟨_, rfl, rfl, Tn.one.n⟩
        · exact absurd h4 (by omega)
      | succ f ih =>
        intro i hi
        have hf := hF2.2 i (by omega)
        refine T_iload_n (pc := 109) (i := 3) dX12_count_109 rfl rfl ?_
        refine T_aload_n (pc := 110) (i := 0) dX12_count_110 rfl rfl ?_
        refine R_callV1 (pc := 111) (As := []) (rest := [.int (nI i)]) (Or.inl lk_X12_129) mk_X12_fields (m_fields hF2) kc_572 ⟨by decide, rfl⟩ lc_572 dX12_count_111 rfl rfl (Nat.le_of_ble_eq_true rfl) (by decide) rfl (Nat.le_refl _) (Nat.le_refl _) ?_
        refine R_icmp_ge (pc := 114) (tgt := 134) (by omega) (by omega) dX12_count_114 (by decide) (fun h4 => ?_) (fun h4 => ?_)
        · exact absurd h4 (by omega)
        · skip
          refine T_iload_n (pc := 117) (i := 2) dX12_count_117 rfl rfl ?_
          refine T_aload_n (pc := 118) (i := 0) dX12_count_118 rfl rfl ?_
          refine T_iload_n (pc := 119) (i := 3) dX12_count_119 rfl rfl ?_
          refine R_callV1 (pc := 120) (As := [.int (nI i)]) (rest := [.int (nI (boN X.F i))]) (Or.inl lk_X12_379) mk_X12_meadow (m_meadow hF2 (by omega)) kc_572 ⟨by decide, rfl⟩ lc_572 dX12_count_120 rfl rfl (Nat.le_of_ble_eq_true rfl) (by decide) rfl (Nat.le_refl _) (Nat.le_refl _) ?_
          refine R_callS1 (pc := 123) (av := [.long (lN (cd (fAt X.F i).1))]) (rest := [.int (nI (boN X.F i))]) (Or.inl lk_X12_13) mk_X12_size (m_size hf.1.1) dX12_count_123 rfl rfl (Nat.le_of_ble_eq_true rfl) (by decide) rfl (Nat.le_refl _) (Nat.le_refl _) ?_
          refine R_iadd (pc := 126) dX12_count_126 ?_
          refine T_istore_n (pc := 127) (i := 2) (ls' := [some (.ref 572), some (.int (nI 9)), some (.int (nI ((boN X.F i) + ((fAt X.F i).1.length)))), some (.int (nI i))]) dX12_count_127 rfl (by decide) rfl ?_
          refine R_iinc (pc := 128) (i := 3) (n := 1) (ls' := [some (.ref 572), some (.int (nI 9)), some (.int (nI ((boN X.F i) + ((fAt X.F i).1.length)))), some (.int (nI (i + 1)))]) dX12_count_128 rfl rfl ?_
          refine T_goto (pc := 131) (tgt := 109) dX12_count_131 (by decide) ?_
          exact ih (i + 1) (by omega)
    · rw [show cntV X L U (nI 10) = nI U.length from rfl]
      refine Ex.of (by decide +kernel) rfl (Nat.le_of_ble_eq_true rfl) ?_
      show T _ _ _ _ _ _ _ _ _ [some (.ref 572), some (.int (nI 10)), none, none] [] (rm μ)
      refine T_aload_n (pc := 0) (i := 0) dX12_count_0 rfl rfl ?_
      refine T_iconst (pc := 1) (v := nI 0) dX12_count_1 (by decide) ?_
      refine R_putI (pc := 2) fl_X12_3 ⟨rfl, rfl⟩ (Or.inl rfl) kc_572 lc_572 dX12_count_2 ?_
      refine T_iconst (pc := 5) (v := nI 0) dX12_count_5 (by decide) ?_
      refine T_istore_n (pc := 6) (i := 2) (ls' := [some (.ref 572), some (.int (nI 10)), some (.int (nI 0)), none]) dX12_count_6 rfl (by decide) rfl ?_
      refine T_iload_n (pc := 7) (i := 1) dX12_count_7 rfl rfl ?_
      refine T_tableIn (pc := 8) (tgt := 136) dX12_count_8 (by decide) (by decide) rfl (by decide) ?_
      refine T_aload_n (pc := 136) (i := 0) dX12_count_136 rfl rfl ?_
      refine R_getI (pc := 137) (x := nI U.length) fl_X12_102 rfl kc_572 lc_572 ((wI_ne (by decide)).trans hA.1.1) dX12_count_137 ?_
      exact T_iret (pc := 140) (ty := .int) dX12_count_140 rfl rfl (Nat.le_refl _) (Nat.le_refl _) ⟨_, rfl, rfl, Tn.one.n⟩
  · have e : cntV X L U x = -1 := by
      have g : ∀ k, k < 11 → ¬ x = nI k := fun k hk z => hin (by rw [z]; exact inB_n hk (by decide))
      unfold cntV
      rw [if_neg (g 0 (by decide)), if_neg (g 1 (by decide)), if_neg (g 2 (by decide)), if_neg (g 3 (by decide)), if_neg (g 4 (by decide)), if_neg (g 5 (by decide)), if_neg (g 6 (by decide)), if_neg (g 7 (by decide)), if_neg (g 8 (by decide)), if_neg (g 9 (by decide)), if_neg (g 10 (by decide))]
    have hx : x.toInt < 0 ∨ 10 < x.toInt := by
      apply Classical.byContradiction
      intro z
      refine hin ?_
      rw [show x = nI x.toInt.toNat by rw [fa_eq, nI_toInt (by omega)]; omega]
      exact inB_n (by omega) (by decide)
    have ck : chkN x 0 7 = false := by
      unfold chkN
      rcases hx with hx | hx
      · rw [decide_eq_true (p := x < nI 0) (by rw [fa_lt]; exact hx)]
        rfl
      · rw [decide_eq_true (p := nI 7 < x) (by rw [fa_lt, nI_toInt (by omega)]; omega), Bool.not_true, Bool.and_false]
    rw [e]
    refine Ex.of (by decide +kernel) rfl (Nat.le_of_ble_eq_true rfl) ?_
    show T _ _ _ _ _ _ _ _ _ [some (.ref 572), some (.int (x)), none, none] [] (rm μ)
    refine T_aload_n (pc := 0) (i := 0) dX12_count_0 rfl rfl ?_
    refine T_iconst (pc := 1) (v := nI 0) dX12_count_1 (by decide) ?_
    refine R_putI (pc := 2) fl_X12_3 ⟨rfl, rfl⟩ (Or.inl rfl) kc_572 lc_572 dX12_count_2 ?_
    refine T_iconst (pc := 5) (v := nI 0) dX12_count_5 (by decide) ?_
    refine T_istore_n (pc := 6) (i := 2) (ls' := [some (.ref 572), some (.int (x)), some (.int (nI 0)), none]) dX12_count_6 rfl (by decide) rfl ?_
    refine T_iload_n (pc := 7) (i := 1) dX12_count_7 rfl rfl ?_
    refine T_tableOut (pc := 8) (tgt := 141) dX12_count_8 (by omega) (by decide) ?_
    refine T_iload_n (pc := 141) (i := 1) dX12_count_141 rfl rfl ?_
    refine T_iconst (pc := 142) (v := nI 0) dX12_count_142 (by decide) ?_
    refine T_bipush (pc := 143) (v := nI 7) dX12_count_143 (by decide) ?_
    refine R_callS1 (pc := 145) (av := [.int (x), .int (nI 0), .int (nI 7)]) (rest := []) (Or.inl lk_X12_125) mk_X12_in m_inK dX12_count_145 rfl rfl (Nat.le_of_ble_eq_true rfl) (by decide) rfl (Nat.le_refl _) (Nat.le_refl _) ?_
    rw [ck]
    refine R_ifb_eq (pc := 148) (tgt := 160) dX12_count_148 (by decide) (fun h1 => ?_) (fun h1 => ?_)
    · skip
      refine T_iconst (pc := 160) (v := (-1)) dX12_count_160 (by decide) ?_
      exact T_iret (pc := 161) (ty := .int) dX12_count_161 rfl rfl (Nat.le_refl _) (Nat.le_refl _) ⟨_, rfl, rfl, Tn.one.n⟩
    · exact absurd h1 (by decide)
end MC1

