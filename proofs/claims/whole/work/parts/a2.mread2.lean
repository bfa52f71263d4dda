/-! THE MODEL: a line of a VALLEY read -/
theorem wd_u {B : List Nat} {p : Nat} {w w' : List Int32} (h : wdB B p w = true) (h' : wdB B p w' = true) : w = w' := by
  unfold wdB at h h'
  rw [Bool.and_eq_true, decide_eq_true_iff, decide_eq_true_iff] at h h'
  rw [← h.2, ← h'.2]
theorem mdT.q {g g' : Nat → Int32} {X : Td} {q : Nat × Nat × Nat} (h : mdT g X) (hq : q.1 ≤ 10 ∧ q.2.1 < 4 ∧ q.2.2 ≤ 100) (e3 : g' 3 = nI q.1) (e5 : g' 5 = nI q.2.1) (e6 : g' 6 = nI q.2.2) (e : ∀ j, j < 339 → j ≠ 3 → j ≠ 5 → j ≠ 6 → g' j = g j) : mdT g' (tdQ X q) := by
  obtain ⟨hR, hF, hS, hW, hZ⟩ := h
  exact ⟨hR.some (fun k h1 h2 => e k (by omega) (by omega) (by omega) (by omega)), hF.some (e 1 (by omega) (by omega) (by omega) (by omega)) (fun k h1 h2 => e k (by omega) (by omega) (by omega) (by omega)), hS.some (e 2 (by omega) (by omega) (by omega) (by omega)) (fun k h1 h2 => e k (by omega) (by omega) (by omega) (by omega)), hW.some (fun k h1 h2 => e k (by omega) (by omega) (by omega) (by omega)), hq, e3, e5, e6, (e 7 (by omega) (by omega) (by omega) (by omega)).trans hZ.2.2.2.2.1, (e 8 (by omega) (by omega) (by omega) (by omega)).trans hZ.2.2.2.2.2⟩
theorem mdT.wt {g g' : Nat → Int32} {X : Td} {d v : Nat} (h : mdT g X) (hd : d < 8) (hv : v ≤ 99) (e1 : g' (9 + d) = nI v) (e : ∀ j, j < 339 → j ≠ 9 + d → g' j = g j) : mdT g' (tdW X d v) := by
  obtain ⟨hR, hF, hS, hW, hZ⟩ := h
  refine ⟨hR.some (fun k h1 h2 => e k (by omega) (by omega)), hF.some (e 1 (by omega) (by omega)) (fun k h1 h2 => e k (by omega) (by omega)), hS.some (e 2 (by omega) (by omega)) (fun k h1 h2 => e k (by omega) (by omega)), ⟨?_, fun i hi => ?_⟩, hZ.some (fun k h1 h2 => e k (by omega) (by omega))⟩
  · show (X.2.2.2.1.set d v).length = 8
    rw [List.length_set]
    exact hW.1
  · show (X.2.2.2.1.set d v).getD i 0 ≤ 99 ∧ g' (9 + i) = nI ((X.2.2.2.1.set d v).getD i 0)
    have hl : X.2.2.2.1.length = 8 := hW.1
    by_cases ei : i = d
    · have e9 : (X.2.2.2.1.set d v).getD i 0 = v := by
        rw [List.getD_eq_getElem?_getD, ei, List.getElem?_set_self (by omega)]
        rfl
      rw [e9, ei]
      exact ⟨hv, e1⟩
    · have e9 : (X.2.2.2.1.set d v).getD i 0 = X.2.2.2.1.getD i 0 := by
        rw [List.getD_eq_getElem?_getD, List.getElem?_set_ne (fun z => ei z.symm), ← List.getD_eq_getElem?_getD]
      rw [e9, e (9 + i) (by omega) (by omega)]
      exact hW.2 i hi
theorem OfV.w573 {μ m : SM2} {j : Nat} {x : Int32} (h : OfV μ m) (hj : j < 339 ∧ j ≠ 4) : OfV μ (wI m 573 j x) := ⟨OfM.sI h.1 rfl (by decide), fun i hi => (n_wI (by omega)).trans (h.2 i hi)⟩
theorem MtQ.w573 {m : SM2} {B : List Nat} {p j : Nat} {x : Int32} (h : MtQ m B p) : MtQ (wI m 573 j x) B p := h.wo (OfS.sI (OfS.refl _ _) rfl)
section MRE
variable {γ : Ga} {μ : SM2}
theorem m_readFirst {B : List Nat} {X : Td} {p : Nat} (hT : MtQ μ B (tE B p)) (hX : mdT (μ.1 573) X) : Ex γ 7 0 0 M_X12_readFirst [.ref 572] (rm μ) (Vp B μ (vFirst B X (tE B p))) := by
  have hb := hT.1.b
  refine Ex.of (by decide +kernel) rfl (Nat.le_of_ble_eq_true rfl) ?_
  show T _ _ _ _ _ _ _ _ _ [some (.ref 572), none] [] (rm μ)
  refine T_aload_n (pc := 0) (i := 0) dX12_readFirst_0 rfl rfl ?_
  refine R_callVm0 (pc := 1) (As := []) (rest := []) (Or.inl lk_X12_164) mk_X12_letters (m_letters hT) kc_572 ⟨by decide, rfl⟩ lc_572 dX12_readFirst_1 rfl rfl (Nat.le_of_ble_eq_true rfl) (by decide) rfl (Nat.le_refl _) (Nat.le_refl _) (fun m1 h1 => ?_)
  obtain ⟨r1, o1⟩ := h1
  have hX1 := hX.f9 o1
  have hz := hX1.2.2.2.2
  have yes : ∀ w, w < 4 → vWay B (tE B p) = some w → MtQ m1 B (tE B (tE B p)) → T γ 7 0 0 M_X12_readFirst (Vp B μ (vFirst B X (tE B p))) 0 0 57 [some (.ref 572), none] [.int (nI w)] (rm m1) := fun w hw e hq => by
    have ev : vFirst B X (tE B p) = .inr (tE B (tE B p), tdQ X (X.texts, w, X.fog)) := by unfold vFirst; rw [e]
    rw [ev]
    have hX2 : mdT ((wI m1 573 5 (nI w)).1 573) (tdQ X (X.texts, w, X.fog)) := mdT.q hX1 ⟨hz.1.1, hw, hz.1.2.2⟩ ((n_wI (by omega)).trans hz.2.1) (e_wI ⟨rfl, rfl⟩) ((n_wI (by omega)).trans hz.2.2.2.1) (fun j h1 h2 h3 h4 => n_wI (by omega))
    refine T_istore_n (pc := 57) (i := 1) (ls' := [some (.ref 572), some (.int (nI w))]) dX12_readFirst_57 rfl (by decide) rfl ?_
    refine T_iload_n (pc := 58) (i := 1) dX12_readFirst_58 rfl rfl ?_
    refine R_if_lt (pc := 59) (tgt := 69) (by omega) dX12_readFirst_59 (by decide) (fun g1 => ?_) (fun g1 => ?_)
    · first | exact g1.elim | exact absurd g1 (by omega)
    · skip
      refine T_aload_n (pc := 62) (i := 0) dX12_readFirst_62 rfl rfl ?_
      refine R_getR (pc := 63) (i := 573) fl_X12_29 rfl kc_572 lc_572 rc_572_1 dX12_readFirst_63 ?_
      refine T_iconst (pc := 66) (v := nI 5) dX12_readFirst_66 (by decide) ?_
      refine T_iload_n (pc := 67) (i := 1) dX12_readFirst_67 rfl rfl ?_
      refine R_iast (pc := 68) kc_573 lc_573 (by omega) (by first | decide | assumption) dX12_readFirst_68 ?_
      refine T_iload_n (pc := 69) (i := 1) dX12_readFirst_69 rfl rfl ?_
      refine R_if_lt (pc := 70) (tgt := 77) (by omega) dX12_readFirst_70 (by decide) (fun g2 => ?_) (fun g2 => ?_)
      · first | exact g2.elim | exact absurd g2 (by omega)
      · skip
        refine T_iconst (pc := 73) (v := nI 1) dX12_readFirst_73 (by decide) ?_
        refine T_goto (pc := 74) (tgt := 78) dX12_readFirst_74 (by decide) ?_
        exact T_iret (pc := 78) (ty := .boolean) dX12_readFirst_78 rfl (by decide) (Nat.le_refl _) (Nat.le_refl _) (Vp.ok hq.w573 hX2 (o1.v.w573 (by omega)))
  refine T_aload_n (pc := 4) (i := 0) dX12_readFirst_4 rfl rfl ?_
  refine T_ldcS (pc := 5) (i := 27) rfl dX12_readFirst_5 ?_
  refine R_callV1 (pc := 7) (As := [.ref (XB + (27 + 1))]) (rest := []) (Or.inl lk_X12_167) mk_X12_isWord (m_isWordL r1 hT.2.1 sm27) kc_572 ⟨by decide, rfl⟩ lc_572 dX12_readFirst_7 rfl rfl (Nat.le_of_ble_eq_true rfl) (by decide) rfl (Nat.le_refl _) (Nat.le_refl _) ?_
  cases e1 : wdB B (tE B p) wLeft with
  | true =>
    refine R_ifb_eq (pc := 10) (tgt := 17) dX12_readFirst_10 (by decide) (fun g1 => ?_) (fun g1 => ?_)
    · exact absurd g1 (by decide)
    · skip
      refine T_iconst (pc := 13) (v := nI 0) dX12_readFirst_13 (by decide) ?_
      refine T_goto (pc := 14) (tgt := 57) dX12_readFirst_14 (by decide) ?_
      exact yes 0 (by decide) (by unfold vWay; rw [e1]; rfl) (r1.w e1)
  | false =>
    refine R_ifb_eq (pc := 10) (tgt := 17) dX12_readFirst_10 (by decide) (fun g1 => ?_) (fun g1 => ?_)
    · skip
      refine T_aload_n (pc := 17) (i := 0) dX12_readFirst_17 rfl rfl ?_
      refine T_ldcS (pc := 18) (i := 28) rfl dX12_readFirst_18 ?_
      refine R_callV1 (pc := 20) (As := [.ref (XB + (28 + 1))]) (rest := []) (Or.inl lk_X12_167) mk_X12_isWord (m_isWordL r1 hT.2.1 sm28) kc_572 ⟨by decide, rfl⟩ lc_572 dX12_readFirst_20 rfl rfl (Nat.le_of_ble_eq_true rfl) (by decide) rfl (Nat.le_refl _) (Nat.le_refl _) ?_
      cases e2 : wdB B (tE B p) wRight with
      | true =>
        refine R_ifb_eq (pc := 23) (tgt := 30) dX12_readFirst_23 (by decide) (fun g2 => ?_) (fun g2 => ?_)
        · exact absurd g2 (by decide)
        · skip
          refine T_iconst (pc := 26) (v := nI 1) dX12_readFirst_26 (by decide) ?_
          refine T_goto (pc := 27) (tgt := 57) dX12_readFirst_27 (by decide) ?_
          exact yes 1 (by decide) (by unfold vWay; rw [e1, e2]; rfl) (r1.w e2)
      | false =>
        refine R_ifb_eq (pc := 23) (tgt := 30) dX12_readFirst_23 (by decide) (fun g2 => ?_) (fun g2 => ?_)
        · skip
          refine T_aload_n (pc := 30) (i := 0) dX12_readFirst_30 rfl rfl ?_
          refine T_ldcS (pc := 31) (i := 22) rfl dX12_readFirst_31 ?_
          refine R_callV1 (pc := 33) (As := [.ref (XB + (22 + 1))]) (rest := []) (Or.inl lk_X12_167) mk_X12_isWord (m_isWordL r1 hT.2.1 sm22) kc_572 ⟨by decide, rfl⟩ lc_572 dX12_readFirst_33 rfl rfl (Nat.le_of_ble_eq_true rfl) (by decide) rfl (Nat.le_refl _) (Nat.le_refl _) ?_
          cases e3 : wdB B (tE B p) wRule with
          | true =>
            refine R_ifb_eq (pc := 36) (tgt := 43) dX12_readFirst_36 (by decide) (fun g3 => ?_) (fun g3 => ?_)
            · exact absurd g3 (by decide)
            · skip
              refine T_iconst (pc := 39) (v := nI 2) dX12_readFirst_39 (by decide) ?_
              refine T_goto (pc := 40) (tgt := 57) dX12_readFirst_40 (by decide) ?_
              exact yes 2 (by decide) (by unfold vWay; rw [e1, e2, e3]; rfl) (r1.w e3)
          | false =>
            refine R_ifb_eq (pc := 36) (tgt := 43) dX12_readFirst_36 (by decide) (fun g3 => ?_) (fun g3 => ?_)
            · skip
              refine T_aload_n (pc := 43) (i := 0) dX12_readFirst_43 rfl rfl ?_
              refine T_ldcS (pc := 44) (i := 29) rfl dX12_readFirst_44 ?_
              refine R_callV1 (pc := 46) (As := [.ref (XB + (29 + 1))]) (rest := []) (Or.inl lk_X12_167) mk_X12_isWord (m_isWordL r1 hT.2.1 sm29) kc_572 ⟨by decide, rfl⟩ lc_572 dX12_readFirst_46 rfl rfl (Nat.le_of_ble_eq_true rfl) (by decide) rfl (Nat.le_refl _) (Nat.le_refl _) ?_
              cases e4 : wdB B (tE B p) wAll with
              | true =>
                refine R_ifb_eq (pc := 49) (tgt := 56) dX12_readFirst_49 (by decide) (fun g4 => ?_) (fun g4 => ?_)
                · exact absurd g4 (by decide)
                · skip
                  refine T_iconst (pc := 52) (v := nI 3) dX12_readFirst_52 (by decide) ?_
                  refine T_goto (pc := 53) (tgt := 57) dX12_readFirst_53 (by decide) ?_
                  exact yes 3 (by decide) (by unfold vWay; rw [e1, e2, e3, e4]; rfl) (r1.w e4)
              | false =>
                have e : vWay B (tE B p) = none := by unfold vWay; rw [e1, e2, e3, e4]; rfl
                have ev : vFirst B X (tE B p) = .inl (tS B (tE B p)) := by unfold vFirst; rw [e]
                rw [ev]
                refine R_ifb_eq (pc := 49) (tgt := 56) dX12_readFirst_49 (by decide) (fun g4 => ?_) (fun g4 => ?_)
                · skip
                  refine T_iconst (pc := 56) (v := (-1)) dX12_readFirst_56 (by decide) ?_
                  refine T_istore_n (pc := 57) (i := 1) (ls' := [some (.ref 572), some (.int ((-1)))]) dX12_readFirst_57 rfl (by decide) rfl ?_
                  refine T_iload_n (pc := 58) (i := 1) dX12_readFirst_58 rfl rfl ?_
                  refine T_if_lt (pc := 59) (tgt := 69) dX12_readFirst_59 (by decide) (fun g5 => ?_) (fun g5 => ?_)
                  · skip
                    refine T_iload_n (pc := 69) (i := 1) dX12_readFirst_69 rfl rfl ?_
                    refine T_if_lt (pc := 70) (tgt := 77) dX12_readFirst_70 (by decide) (fun g6 => ?_) (fun g6 => ?_)
                    · skip
                      refine T_iconst (pc := 77) (v := nI 0) dX12_readFirst_77 (by decide) ?_
                      exact T_iret (pc := 78) (ty := .boolean) dX12_readFirst_78 rfl (by decide) (Nat.le_refl _) (Nat.le_refl _) (Vp.bad r1.2 o1.v)
                    · exact absurd (by decide) g6
                  · exact absurd (by decide) g5
                · exact absurd g4 (by decide)
            · exact absurd g3 (by decide)
        · exact absurd g2 (by decide)
    · exact absurd g1 (by decide)
theorem m_readWeight {B : List Nat} {X : Td} {p : Nat} (hT : MtQ μ B (tE B p)) (hX : mdT (μ.1 573) X) : Ex γ 7 0 0 M_X12_readWeight [.ref 572] (rm μ) (Vp B μ (vWeight B X (tE B p))) := by
  have hb := hT.1.b
  refine Ex.of (by decide +kernel) rfl (Nat.le_of_ble_eq_true rfl) ?_
  show T _ _ _ _ _ _ _ _ _ [some (.ref 572), none, none, none] [] (rm μ)
  refine T_aload_n (pc := 0) (i := 0) dX12_readWeight_0 rfl rfl ?_
  refine T_iconst (pc := 1) (v := nI 1) dX12_readWeight_1 (by decide) ?_
  refine T_iconst (pc := 2) (v := nI 1) dX12_readWeight_2 (by decide) ?_
  refine R_callVm1 (pc := 3) (As := [.int (nI 1), .int (nI 1)]) (rest := []) (Or.inl lk_X12_173) mk_X12_beastsTold (m_beastsTold hT (by decide) (by decide)) kc_572 ⟨by decide, rfl⟩ lc_572 dX12_readWeight_3 rfl rfl (Nat.le_of_ble_eq_true rfl) (by decide) rfl (Nat.le_refl _) (Nat.le_refl _) (fun m1 h1 => ?_)
  obtain ⟨r1, o1⟩ := h1
  cases e1 : rdB B (tE B p) 1 1 with
  | none =>
    have ev : vWeight B X (tE B p) = .inl (tS B (tE B p)) := by unfold vWeight; rw [e1]
    rw [ev]
    refine T_lstore_n (pc := 6) (i := 1) (ls' := [some (.ref 572), some (.long ((-1))), none, none]) dX12_readWeight_6 rfl (by decide) rfl ?_
    refine T_lload_n (pc := 7) (i := 1) dX12_readWeight_7 rfl rfl ?_
    refine T_lconst (pc := 8) (v := lN 0) dX12_readWeight_8 rfl ?_
    refine T_lcmp (pc := 9) dX12_readWeight_9 ?_
    refine R_lx_ge (pc := 10) (tgt := 17) dX12_readWeight_10 (by decide) (fun g1 => ?_) (fun g1 => ?_)
    · exact absurd g1 (by decide)
    · skip
      refine T_iconst (pc := 13) (v := (-1)) dX12_readWeight_13 (by decide) ?_
      refine T_goto (pc := 14) (tgt := 24) dX12_readWeight_14 (by decide) ?_
      refine T_istore_n (pc := 24) (i := 3) (ls' := [some (.ref 572), some (.long ((-1))), none, some (.int ((-1)))]) dX12_readWeight_24 rfl (by decide) rfl ?_
      refine T_iload_n (pc := 25) (i := 3) dX12_readWeight_25 rfl rfl ?_
      refine T_if_lt (pc := 26) (tgt := 43) dX12_readWeight_26 (by decide) (fun g2 => ?_) (fun g2 => ?_)
      · skip
        refine T_iload_n (pc := 43) (i := 3) dX12_readWeight_43 rfl rfl ?_
        refine T_if_lt (pc := 44) (tgt := 51) dX12_readWeight_44 (by decide) (fun g3 => ?_) (fun g3 => ?_)
        · skip
          refine T_iconst (pc := 51) (v := nI 0) dX12_readWeight_51 (by decide) ?_
          exact T_iret (pc := 52) (ty := .boolean) dX12_readWeight_52 rfl (by decide) (Nat.le_refl _) (Nat.le_refl _) (Vp.bad r1.1 o1.v)
        · exact absurd (by decide) g3
      · exact absurd (by decide) g2
  | some l =>
    rw [e1] at r1
    have ml := rdB_mw (by decide) e1
    have bl := cd_lt ml.1
    have l1 := rdB_one hb hT.2.1 e1
    have hd : l.getD 0 0 < 8 := okb_gd ml.1.2 (by omega)
    refine T_lstore_n (pc := 6) (i := 1) (ls' := [some (.ref 572), some (.long (lN (cd l))), none, none]) dX12_readWeight_6 rfl (by decide) rfl ?_
    refine T_lload_n (pc := 7) (i := 1) dX12_readWeight_7 rfl rfl ?_
    refine T_lconst (pc := 8) (v := lN 0) dX12_readWeight_8 rfl ?_
    refine T_lcmp (pc := 9) dX12_readWeight_9 ?_
    refine R_ln_ge (pc := 10) (tgt := 17) (by omega) (by omega) dX12_readWeight_10 (by decide) (fun g1 => ?_) (fun g1 => ?_)
    · skip
      refine T_aload_n (pc := 17) (i := 0) dX12_readWeight_17 rfl rfl ?_
      refine T_iconst (pc := 18) (v := nI 0) dX12_readWeight_18 (by decide) ?_
      refine T_bipush (pc := 19) (v := nI 99) dX12_readWeight_19 (by decide) ?_
      refine R_callVm1 (pc := 21) (As := [.int (nI 0), .int (nI 99)]) (rest := []) (Or.inl lk_X12_195) mk_X12_number (m_number (r1.2.2 rfl)) kc_572 ⟨by decide, rfl⟩ lc_572 dX12_readWeight_21 rfl rfl (Nat.le_of_ble_eq_true rfl) (by decide) rfl (Nat.le_refl _) (Nat.le_refl _) (fun m2 h2 => ?_)
      obtain ⟨r2, o2⟩ := h2
      cases e2 : rdN B (tE B (tE B p)) (nI 99) with
      | none =>
        have ev : vWeight B X (tE B p) = .inl (tS B (tE B (tE B p))) := by unfold vWeight; rw [e1]; dsimp only; rw [e2]
        rw [ev]
        refine T_istore_n (pc := 24) (i := 3) (ls' := [some (.ref 572), some (.long (lN (cd l))), none, some (.int ((-1)))]) dX12_readWeight_24 rfl (by decide) rfl ?_
        refine T_iload_n (pc := 25) (i := 3) dX12_readWeight_25 rfl rfl ?_
        refine T_if_lt (pc := 26) (tgt := 43) dX12_readWeight_26 (by decide) (fun g2 => ?_) (fun g2 => ?_)
        · skip
          refine T_iload_n (pc := 43) (i := 3) dX12_readWeight_43 rfl rfl ?_
          refine T_if_lt (pc := 44) (tgt := 51) dX12_readWeight_44 (by decide) (fun g3 => ?_) (fun g3 => ?_)
          · skip
            refine T_iconst (pc := 51) (v := nI 0) dX12_readWeight_51 (by decide) ?_
            exact T_iret (pc := 52) (ty := .boolean) dX12_readWeight_52 rfl (by decide) (Nat.le_refl _) (Nat.le_refl _) (Vp.bad r2.1 (o1.trans o2).v)
          · exact absurd (by decide) g3
        · exact absurd (by decide) g2
      | some v =>
        rw [e2] at r2
        obtain ⟨n, hn, rfl, hn2⟩ := rdN_get hb e2
        have hn3 : n ≤ 99 := by
          rw [fa_le, nI_toInt (by omega), nI_toInt (by omega)] at hn2
          omega
        have ev : vWeight B X (tE B p) = .inr (tE B (tE B (tE B p)), tdW X (l.getD 0 0) n) := by unfold vWeight; rw [e1]; dsimp only; rw [e2]; dsimp only; rw [nI_clamp (by omega)]
        rw [ev]
        have hX2 := hX.f9 (o1.trans o2)
        have hX3 : mdT ((wI m2 573 (9 + l.getD 0 0) (nI n)).1 573) (tdW X (l.getD 0 0) n) := mdT.wt hX2 hd hn3 (e_wI ⟨rfl, rfl⟩) (fun j h1 h2 => n_wI (by omega))
        refine T_istore_n (pc := 24) (i := 3) (ls' := [some (.ref 572), some (.long (lN (cd l))), none, some (.int (nI n))]) dX12_readWeight_24 rfl (by decide) rfl ?_
        refine T_iload_n (pc := 25) (i := 3) dX12_readWeight_25 rfl rfl ?_
        refine R_if_lt (pc := 26) (tgt := 43) (by omega) dX12_readWeight_26 (by decide) (fun g2 => ?_) (fun g2 => ?_)
        · first | exact g2.elim | exact absurd g2 (by omega)
        · skip
          refine T_aload_n (pc := 29) (i := 0) dX12_readWeight_29 rfl rfl ?_
          refine R_getR (pc := 30) (i := 573) fl_X12_29 rfl kc_572 lc_572 rc_572_1 dX12_readWeight_30 ?_
          refine T_bipush (pc := 33) (v := nI 9) dX12_readWeight_33 (by decide) ?_
          refine T_lload_n (pc := 35) (i := 1) dX12_readWeight_35 rfl rfl ?_
          refine T_iconst (pc := 36) (v := nI 0) dX12_readWeight_36 (by decide) ?_
          refine R_callS1 (pc := 37) (av := [.long (lN (cd l)), .int (nI 0)]) (rest := [.int (nI 9), .ref 573]) (Or.inl lk_X12_199) mk_X12_beastOf (m_beastOf ml.1 (by omega)) dX12_readWeight_37 rfl rfl (Nat.le_of_ble_eq_true rfl) (by decide) rfl (Nat.le_refl _) (Nat.le_refl _) ?_
          refine R_iadd (pc := 40) dX12_readWeight_40 ?_
          refine T_iload_n (pc := 41) (i := 3) dX12_readWeight_41 rfl rfl ?_
          refine R_iast (pc := 42) kc_573 lc_573 (by omega) (by first | decide | assumption) dX12_readWeight_42 ?_
          refine T_iload_n (pc := 43) (i := 3) dX12_readWeight_43 rfl rfl ?_
          refine R_if_lt (pc := 44) (tgt := 51) (by omega) dX12_readWeight_44 (by decide) (fun g3 => ?_) (fun g3 => ?_)
          · first | exact g3.elim | exact absurd g3 (by omega)
          · skip
            refine T_iconst (pc := 47) (v := nI 1) dX12_readWeight_47 (by decide) ?_
            refine T_goto (pc := 48) (tgt := 52) dX12_readWeight_48 (by decide) ?_
            exact T_iret (pc := 52) (ty := .boolean) dX12_readWeight_52 rfl (by decide) (Nat.le_refl _) (Nat.le_refl _) (Vp.ok (r2.2.2 rfl).w573 hX3 ((o1.trans o2).v.w573 (by omega)))
    · first | exact g1.elim | exact absurd g1 (by omega)
theorem m_readVLine {B : List Nat} {X : Td} {p : Nat} (hT : MtP μ B (tS B p) (lE B p)) (hp : p ≤ B.length) (hX : mdT (μ.1 573) X) : Ex γ 8 0 0 M_X12_readValleyLine [.ref 572] (rm μ) (Vp B μ (vLine B X p)) := by
  have hb := hT.1.1.b
  have h12 := hX.1.1.2
  have hz := hX.2.2.2.2
  unfold vLine
  refine Ex.of (by decide +kernel) rfl (Nat.le_of_ble_eq_true rfl) ?_
  show T _ _ _ _ _ _ _ _ _ [some (.ref 572), none] [] (rm μ)
  refine T_aload_n (pc := 0) (i := 0) dX12_readValleyLine_0 rfl rfl ?_
  refine T_ldcS (pc := 1) (i := 22) rfl dX12_readValleyLine_1 ?_
  refine R_callV1 (pc := 3) (As := [.ref (XB + (22 + 1))]) (rest := []) (Or.inl lk_X12_167) mk_X12_isWord (m_isWordL hT hp sm22) kc_572 ⟨by decide, rfl⟩ lc_572 dX12_readValleyLine_3 rfl rfl (Nat.le_of_ble_eq_true rfl) (by decide) rfl (Nat.le_refl _) (Nat.le_refl _) ?_
  cases e1 : wdB B p wRule with
  | true =>
    rw [if_pos rfl]
    refine R_ifb_eq (pc := 6) (tgt := 14) dX12_readValleyLine_6 (by decide) (fun g1 => ?_) (fun g1 => ?_)
    · exact absurd g1 (by decide)
    · skip
      refine T_aload_n (pc := 9) (i := 0) dX12_readValleyLine_9 rfl rfl ?_
      refine R_callVm1 (pc := 10) (As := []) (rest := []) (Or.inl lk_X12_203) mk_X12_readRule (m_readRule (hT.w e1) hT.2 hX) kc_572 ⟨by decide, rfl⟩ lc_572 dX12_readValleyLine_10 rfl rfl (Nat.le_of_ble_eq_true rfl) (by decide) rfl (Nat.le_refl _) (Nat.le_refl _) (fun m9 h9 => ?_)
      exact T_iret (pc := 13) (ty := .boolean) dX12_readValleyLine_13 rfl (nar_b _) (Nat.le_refl _) (Nat.le_refl _) ⟨_, rfl, rfl, h9⟩
  | false =>
    rw [if_neg Bool.false_ne_true]
    refine R_ifb_eq (pc := 6) (tgt := 14) dX12_readValleyLine_6 (by decide) (fun g1 => ?_) (fun g1 => ?_)
    · skip
      refine T_aload_n (pc := 14) (i := 0) dX12_readValleyLine_14 rfl rfl ?_
      refine T_ldcS (pc := 15) (i := 24) rfl dX12_readValleyLine_15 ?_
      refine R_callV1 (pc := 17) (As := [.ref (XB + (24 + 1))]) (rest := []) (Or.inl lk_X12_167) mk_X12_isWord (m_isWordL hT hp sm24) kc_572 ⟨by decide, rfl⟩ lc_572 dX12_readValleyLine_17 rfl rfl (Nat.le_of_ble_eq_true rfl) (by decide) rfl (Nat.le_refl _) (Nat.le_refl _) ?_
      cases e2 : wdB B p wField with
      | true =>
        rw [if_pos rfl]
        refine R_ifb_eq (pc := 20) (tgt := 28) dX12_readValleyLine_20 (by decide) (fun g2 => ?_) (fun g2 => ?_)
        · exact absurd g2 (by decide)
        · skip
          refine T_aload_n (pc := 23) (i := 0) dX12_readValleyLine_23 rfl rfl ?_
          refine R_callVm1 (pc := 24) (As := []) (rest := []) (Or.inl lk_X12_209) mk_X12_readField (m_readField (hT.w e2) hT.2 hX) kc_572 ⟨by decide, rfl⟩ lc_572 dX12_readValleyLine_24 rfl rfl (Nat.le_of_ble_eq_true rfl) (by decide) rfl (Nat.le_refl _) (Nat.le_refl _) (fun m9 h9 => ?_)
          exact T_iret (pc := 27) (ty := .boolean) dX12_readValleyLine_27 rfl (nar_b _) (Nat.le_refl _) (Nat.le_refl _) ⟨_, rfl, rfl, h9⟩
      | false =>
        rw [if_neg Bool.false_ne_true]
        refine R_ifb_eq (pc := 20) (tgt := 28) dX12_readValleyLine_20 (by decide) (fun g2 => ?_) (fun g2 => ?_)
        · skip
          refine T_aload_n (pc := 28) (i := 0) dX12_readValleyLine_28 rfl rfl ?_
          refine T_ldcS (pc := 29) (i := 25) rfl dX12_readValleyLine_29 ?_
          refine R_callV1 (pc := 31) (As := [.ref (XB + (25 + 1))]) (rest := []) (Or.inl lk_X12_167) mk_X12_isWord (m_isWordL hT hp sm25) kc_572 ⟨by decide, rfl⟩ lc_572 dX12_readValleyLine_31 rfl rfl (Nat.le_of_ble_eq_true rfl) (by decide) rfl (Nat.le_refl _) (Nat.le_refl _) ?_
          cases e3 : wdB B p wSeen with
          | true =>
            rw [if_pos rfl]
            refine R_ifb_eq (pc := 34) (tgt := 42) dX12_readValleyLine_34 (by decide) (fun g3 => ?_) (fun g3 => ?_)
            · exact absurd g3 (by decide)
            · skip
              refine T_aload_n (pc := 37) (i := 0) dX12_readValleyLine_37 rfl rfl ?_
              refine R_callVm1 (pc := 38) (As := []) (rest := []) (Or.inl lk_X12_214) mk_X12_readSeen (m_readSeen (hT.w e3) hT.2 hX) kc_572 ⟨by decide, rfl⟩ lc_572 dX12_readValleyLine_38 rfl rfl (Nat.le_of_ble_eq_true rfl) (by decide) rfl (Nat.le_refl _) (Nat.le_refl _) (fun m9 h9 => ?_)
              exact T_iret (pc := 41) (ty := .boolean) dX12_readValleyLine_41 rfl (nar_b _) (Nat.le_refl _) (Nat.le_refl _) ⟨_, rfl, rfl, h9⟩
          | false =>
            rw [if_neg Bool.false_ne_true]
            refine R_ifb_eq (pc := 34) (tgt := 42) dX12_readValleyLine_34 (by decide) (fun g3 => ?_) (fun g3 => ?_)
            · skip
              refine T_aload_n (pc := 42) (i := 0) dX12_readValleyLine_42 rfl rfl ?_
              refine T_ldcS (pc := 43) (i := 26) rfl dX12_readValleyLine_43 ?_
              refine R_callV1 (pc := 45) (As := [.ref (XB + (26 + 1))]) (rest := []) (Or.inl lk_X12_167) mk_X12_isWord (m_isWordL hT hp sm26) kc_572 ⟨by decide, rfl⟩ lc_572 dX12_readValleyLine_45 rfl rfl (Nat.le_of_ble_eq_true rfl) (by decide) rfl (Nat.le_refl _) (Nat.le_refl _) ?_
              cases e4 : wdB B p wFirst with
              | true =>
                rw [if_pos rfl]
                refine R_ifb_eq (pc := 48) (tgt := 56) dX12_readValleyLine_48 (by decide) (fun g4 => ?_) (fun g4 => ?_)
                · exact absurd g4 (by decide)
                · skip
                  refine T_aload_n (pc := 51) (i := 0) dX12_readValleyLine_51 rfl rfl ?_
                  refine R_callVm1 (pc := 52) (As := []) (rest := []) (Or.inl lk_X12_219) mk_X12_readFirst (m_readFirst (hT.w e4) hX) kc_572 ⟨by decide, rfl⟩ lc_572 dX12_readValleyLine_52 rfl rfl (Nat.le_of_ble_eq_true rfl) (by decide) rfl (Nat.le_refl _) (Nat.le_refl _) (fun m9 h9 => ?_)
                  exact T_iret (pc := 55) (ty := .boolean) dX12_readValleyLine_55 rfl (nar_b _) (Nat.le_refl _) (Nat.le_refl _) ⟨_, rfl, rfl, h9⟩
              | false =>
                rw [if_neg Bool.false_ne_true]
                refine R_ifb_eq (pc := 48) (tgt := 56) dX12_readValleyLine_48 (by decide) (fun g4 => ?_) (fun g4 => ?_)
                · skip
                  refine T_aload_n (pc := 56) (i := 0) dX12_readValleyLine_56 rfl rfl ?_
                  refine T_ldcS (pc := 57) (i := 30) rfl dX12_readValleyLine_57 ?_
                  refine R_callV1 (pc := 59) (As := [.ref (XB + (30 + 1))]) (rest := []) (Or.inl lk_X12_167) mk_X12_isWord (m_isWordL hT hp sm30) kc_572 ⟨by decide, rfl⟩ lc_572 dX12_readValleyLine_59 rfl rfl (Nat.le_of_ble_eq_true rfl) (by decide) rfl (Nat.le_refl _) (Nat.le_refl _) ?_
                  cases e5 : wdB B p wWeight with
                  | true =>
                    have e6 : wdB B p wFog = false := by
                      cases e6 : wdB B p wFog with
                      | false => rfl
                      | true => exact absurd (wd_u e5 e6) (by decide)
                    rw [e6, if_neg Bool.false_ne_true, if_pos rfl]
                    refine R_ifb_eq (pc := 62) (tgt := 70) dX12_readValleyLine_62 (by decide) (fun g5 => ?_) (fun g5 => ?_)
                    · exact absurd g5 (by decide)
                    · skip
                      refine T_aload_n (pc := 65) (i := 0) dX12_readValleyLine_65 rfl rfl ?_
                      refine R_callVm1 (pc := 66) (As := []) (rest := []) (Or.inl lk_X12_224) mk_X12_readWeight (m_readWeight (hT.w e5) hX) kc_572 ⟨by decide, rfl⟩ lc_572 dX12_readValleyLine_66 rfl rfl (Nat.le_of_ble_eq_true rfl) (by decide) rfl (Nat.le_refl _) (Nat.le_refl _) (fun m9 h9 => ?_)
                      exact T_iret (pc := 69) (ty := .boolean) dX12_readValleyLine_69 rfl (nar_b _) (Nat.le_refl _) (Nat.le_refl _) ⟨_, rfl, rfl, h9⟩
                  | false =>
                    refine R_ifb_eq (pc := 62) (tgt := 70) dX12_readValleyLine_62 (by decide) (fun g5 => ?_) (fun g5 => ?_)
                    · skip
                      refine T_aload_n (pc := 70) (i := 0) dX12_readValleyLine_70 rfl rfl ?_
                      refine T_ldcS (pc := 71) (i := 31) rfl dX12_readValleyLine_71 ?_
                      refine R_callV1 (pc := 73) (As := [.ref (XB + (31 + 1))]) (rest := []) (Or.inl lk_X12_167) mk_X12_isWord (m_isWordL hT hp sm31) kc_572 ⟨by decide, rfl⟩ lc_572 dX12_readValleyLine_73 rfl rfl (Nat.le_of_ble_eq_true rfl) (by decide) rfl (Nat.le_refl _) (Nat.le_refl _) ?_
                      cases e6 : wdB B p wFog with
                      | true =>
                        rw [if_pos rfl]
                        refine R_ifb_eq (pc := 76) (tgt := 109) dX12_readValleyLine_76 (by decide) (fun g6 => ?_) (fun g6 => ?_)
                        · exact absurd g6 (by decide)
                        · skip
                          refine T_aload_n (pc := 79) (i := 0) dX12_readValleyLine_79 rfl rfl ?_
                          refine R_getR (pc := 80) (i := 573) fl_X12_29 rfl kc_572 lc_572 rc_572_1 dX12_readValleyLine_80 ?_
                          refine T_bipush (pc := 83) (v := nI 6) dX12_readValleyLine_83 (by decide) ?_
                          refine T_aload_n (pc := 85) (i := 0) dX12_readValleyLine_85 rfl rfl ?_
                          refine T_iconst (pc := 86) (v := nI 0) dX12_readValleyLine_86 (by decide) ?_
                          refine T_bipush (pc := 87) (v := nI 100) dX12_readValleyLine_87 (by decide) ?_
                          refine R_callVm1 (pc := 89) (As := [.int (nI 0), .int (nI 100)]) (rest := [.int (nI 6), .ref 573]) (Or.inl lk_X12_195) mk_X12_number (m_number (hT.w e6)) kc_572 ⟨by decide, rfl⟩ lc_572 dX12_readValleyLine_89 rfl rfl (Nat.le_of_ble_eq_true rfl) (by decide) rfl (Nat.le_refl _) (Nat.le_refl _) (fun m1 h1 => ?_)
                          obtain ⟨r1, o1⟩ := h1
                          cases e7 : rdN B (tE B p) (nI 100) with
                          | none =>
                            have ev : vFog B X (tE B p) = .inl (tS B (tE B p)) := by unfold vFog; rw [e7]
                            rw [ev]
                            refine R_iast (pc := 92) kc_573 lc_573 (by omega) (by first | decide | assumption) dX12_readValleyLine_92 ?_
                            refine T_aload_n (pc := 93) (i := 0) dX12_readValleyLine_93 rfl rfl ?_
                            refine R_getR (pc := 94) (i := 573) fl_X12_29 rfl kc_572 lc_572 rc_572_1 dX12_readValleyLine_94 ?_
                            refine T_bipush (pc := 97) (v := nI 6) dX12_readValleyLine_97 (by decide) ?_
                            refine R_iald (pc := 99) (x := (-1)) kc_573 lc_573 (by omega) (by first | decide | assumption) wI_eq dX12_readValleyLine_99 ?_
                            refine T_if_lt (pc := 100) (tgt := 107) dX12_readValleyLine_100 (by decide) (fun g7 => ?_) (fun g7 => ?_)
                            · skip
                              refine T_iconst (pc := 107) (v := nI 0) dX12_readValleyLine_107 (by decide) ?_
                              exact T_iret (pc := 108) (ty := .boolean) dX12_readValleyLine_108 rfl (by decide) (Nat.le_refl _) (Nat.le_refl _) (Vp.bad r1.1 (o1.v.w573 (by omega)))
                            · exact absurd (by decide) g7
                          | some v =>
                            rw [e7] at r1
                            obtain ⟨n, hn, rfl, hn2⟩ := rdN_get hb e7
                            have hn3 : n ≤ 100 := by
                              rw [fa_le, nI_toInt (by omega), nI_toInt (by omega)] at hn2
                              omega
                            have ev : vFog B X (tE B p) = .inr (tE B (tE B p), tdQ X (X.texts, X.way, n)) := by unfold vFog; rw [e7]; dsimp only; rw [nI_clamp (by omega)]
                            rw [ev]
                            have hX1 := hX.f9 o1
                            have hz1 := hX1.2.2.2.2
                            have hX2 : mdT ((wI m1 573 6 (nI n)).1 573) (tdQ X (X.texts, X.way, n)) := mdT.q hX1 ⟨hz.1.1, hz.1.2.1, hn3⟩ ((n_wI (by omega)).trans hz1.2.1) ((n_wI (by omega)).trans hz1.2.2.1) (e_wI ⟨rfl, rfl⟩) (fun j h1 h2 h3 h4 => n_wI (by omega))
                            refine R_iast (pc := 92) kc_573 lc_573 (by omega) (by first | decide | assumption) dX12_readValleyLine_92 ?_
                            refine T_aload_n (pc := 93) (i := 0) dX12_readValleyLine_93 rfl rfl ?_
                            refine R_getR (pc := 94) (i := 573) fl_X12_29 rfl kc_572 lc_572 rc_572_1 dX12_readValleyLine_94 ?_
                            refine T_bipush (pc := 97) (v := nI 6) dX12_readValleyLine_97 (by decide) ?_
                            refine R_iald (pc := 99) (x := nI n) kc_573 lc_573 (by omega) (by first | decide | assumption) wI_eq dX12_readValleyLine_99 ?_
                            refine R_if_lt (pc := 100) (tgt := 107) (by omega) dX12_readValleyLine_100 (by decide) (fun g7 => ?_) (fun g7 => ?_)
                            · first | exact g7.elim | exact absurd g7 (by omega)
                            · skip
                              refine T_iconst (pc := 103) (v := nI 1) dX12_readValleyLine_103 (by decide) ?_
                              refine T_goto (pc := 104) (tgt := 108) dX12_readValleyLine_104 (by decide) ?_
                              exact T_iret (pc := 108) (ty := .boolean) dX12_readValleyLine_108 rfl (by decide) (Nat.le_refl _) (Nat.le_refl _) (Vp.ok (r1.2.2 rfl).w573 hX2 (o1.v.w573 (by omega)))
                      | false =>
                        rw [if_neg Bool.false_ne_true, if_neg Bool.false_ne_true]
                        refine R_ifb_eq (pc := 76) (tgt := 109) dX12_readValleyLine_76 (by decide) (fun g6 => ?_) (fun g6 => ?_)
                        · skip
                          refine T_aload_n (pc := 109) (i := 0) dX12_readValleyLine_109 rfl rfl ?_
                          refine T_ldcS (pc := 110) (i := 32) rfl dX12_readValleyLine_110 ?_
                          refine R_callV1 (pc := 112) (As := [.ref (XB + (32 + 1))]) (rest := []) (Or.inl lk_X12_167) mk_X12_isWord (m_isWordL hT hp sm32) kc_572 ⟨by decide, rfl⟩ lc_572 dX12_readValleyLine_112 rfl rfl (Nat.le_of_ble_eq_true rfl) (by decide) rfl (Nat.le_refl _) (Nat.le_refl _) ?_
                          cases e8 : wdB B p wDrop with
                          | false =>
                            rw [if_neg Bool.false_ne_true]
                            refine R_ifb_ne (pc := 115) (tgt := 120) dX12_readValleyLine_115 (by decide) (fun g8 => ?_) (fun g8 => ?_)
                            · exact absurd g8 (by decide)
                            · skip
                              refine T_iconst (pc := 118) (v := nI 0) dX12_readValleyLine_118 (by decide) ?_
                              exact T_iret (pc := 119) (ty := .boolean) dX12_readValleyLine_119 rfl (by decide) (Nat.le_refl _) (Nat.le_refl _) (Vp.bad hT.2 (OfV.refl _))
                          | true =>
                            rw [if_pos rfl]
                            refine R_ifb_ne (pc := 115) (tgt := 120) dX12_readValleyLine_115 (by decide) (fun g8 => ?_) (fun g8 => ?_)
                            · skip
                              refine T_aload_n (pc := 120) (i := 0) dX12_readValleyLine_120 rfl rfl ?_
                              refine T_iconst (pc := 121) (v := nI 0) dX12_readValleyLine_121 (by decide) ?_
                              refine T_aload_n (pc := 122) (i := 0) dX12_readValleyLine_122 rfl rfl ?_
                              refine R_callV1 (pc := 123) (As := []) (rest := [.int (nI 0), .ref 572]) (Or.inl lk_X12_121) mk_X12_rules (m_rules hX.1) kc_572 ⟨by decide, rfl⟩ lc_572 dX12_readValleyLine_123 rfl rfl (Nat.le_of_ble_eq_true rfl) (by decide) rfl (Nat.le_refl _) (Nat.le_refl _) ?_
                              refine T_iconst (pc := 126) (v := nI 1) dX12_readValleyLine_126 (by decide) ?_
                              refine T_isub (pc := 127) dX12_readValleyLine_127 ?_
                              refine R_callVm1 (pc := 128) (As := [.int (nI 0), .int (((nI X.R.length) - (nI 1)))]) (rest := []) (Or.inl lk_X12_195) mk_X12_number (m_number (hT.w e8)) kc_572 ⟨by decide, rfl⟩ lc_572 dX12_readValleyLine_128 rfl rfl (Nat.le_of_ble_eq_true rfl) (by decide) rfl (Nat.le_refl _) (Nat.le_refl _) (fun m1 h1 => ?_)
                              obtain ⟨r1, o1⟩ := h1
                              cases e7 : rdN B (tE B p) (nI X.R.length - nI 1) with
                              | none =>
                                have ev : vDrop B X (tE B p) = .inl (tS B (tE B p)) := by unfold vDrop; rw [e7]
                                rw [ev]
                                refine T_istore_n (pc := 131) (i := 1) (ls' := [some (.ref 572), some (.int ((-1)))]) dX12_readValleyLine_131 rfl (by decide) rfl ?_
                                refine T_iload_n (pc := 132) (i := 1) dX12_readValleyLine_132 rfl rfl ?_
                                refine T_if_lt (pc := 133) (tgt := 141) dX12_readValleyLine_133 (by decide) (fun g7 => ?_) (fun g7 => ?_)
                                · skip
                                  refine T_iload_n (pc := 141) (i := 1) dX12_readValleyLine_141 rfl rfl ?_
                                  refine T_if_lt (pc := 142) (tgt := 149) dX12_readValleyLine_142 (by decide) (fun g9 => ?_) (fun g9 => ?_)
                                  · skip
                                    refine T_iconst (pc := 149) (v := nI 0) dX12_readValleyLine_149 (by decide) ?_
                                    exact T_iret (pc := 150) (ty := .boolean) dX12_readValleyLine_150 rfl (by decide) (Nat.le_refl _) (Nat.le_refl _) (Vp.bad r1.1 o1.v)
                                  · exact absurd (by decide) g9
                                · exact absurd (by decide) g7
                              | some v =>
                                rw [e7] at r1
                                obtain ⟨n, hn, rfl, hn2⟩ := rdN_get hb e7
                                have hn3 : n < X.R.length := by
                                  have i1 := nI_toInt (n := X.R.length) (by omega)
                                  have i2 := nI_toInt (n := 1) (by omega)
                                  rw [fa_le, nI_toInt (by omega), fb_subI (by omega) (by omega)] at hn2
                                  omega
                                have ev : vDrop B X (tE B p) = .inr (tE B (tE B p), tdD X n) := by unfold vDrop; rw [e7]; dsimp only; rw [nI_clamp (by omega)]
                                rw [ev]
                                refine T_istore_n (pc := 131) (i := 1) (ls' := [some (.ref 572), some (.int (nI n))]) dX12_readValleyLine_131 rfl (by decide) rfl ?_
                                refine T_iload_n (pc := 132) (i := 1) dX12_readValleyLine_132 rfl rfl ?_
                                refine R_if_lt (pc := 133) (tgt := 141) (by omega) dX12_readValleyLine_133 (by decide) (fun g7 => ?_) (fun g7 => ?_)
                                · first | exact g7.elim | exact absurd g7 (by omega)
                                · skip
                                  refine T_aload_n (pc := 136) (i := 0) dX12_readValleyLine_136 rfl rfl ?_
                                  refine T_iload_n (pc := 137) (i := 1) dX12_readValleyLine_137 rfl rfl ?_
                                  refine R_callVm0 (pc := 138) (As := [.int (nI n)]) (rest := []) (Or.inl lk_X12_231) mk_X12_drops (m_drops (hX.f9 o1) hn3) kc_572 ⟨by decide, rfl⟩ lc_572 dX12_readValleyLine_138 rfl rfl (Nat.le_of_ble_eq_true rfl) (by decide) rfl (Nat.le_refl _) (Nat.le_refl _) (fun m2 h2 => ?_)
                                  obtain ⟨a1, a2⟩ := h2
                                  refine T_iload_n (pc := 141) (i := 1) dX12_readValleyLine_141 rfl rfl ?_
                                  refine R_if_lt (pc := 142) (tgt := 149) (by omega) dX12_readValleyLine_142 (by decide) (fun g9 => ?_) (fun g9 => ?_)
                                  · first | exact g9.elim | exact absurd g9 (by omega)
                                  · skip
                                    refine T_iconst (pc := 145) (v := nI 1) dX12_readValleyLine_145 (by decide) ?_
                                    refine T_goto (pc := 146) (tgt := 150) dX12_readValleyLine_146 (by decide) ?_
                                    exact T_iret (pc := 150) (ty := .boolean) dX12_readValleyLine_150 rfl (by decide) (Nat.le_refl _) (Nat.le_refl _) (Vp.ok ((r1.2.2 rfl).wo a2.1) a1 (o1.v.trans a2.v))
                            · exact absurd g8 (by decide)
                        · exact absurd g6 (by decide)
                    · exact absurd g5 (by decide)
                · exact absurd g4 (by decide)
            · exact absurd g3 (by decide)
        · exact absurd g2 (by decide)
    · exact absurd g1 (by decide)
end MRE

