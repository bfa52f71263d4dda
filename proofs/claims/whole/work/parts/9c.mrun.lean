/-! THE MODEL: run, years -/
theorem Ex.mono {γ : Ga} {d mc ms : Nat} {M : MI} {av : List Value} {μ : SMem} {Q Q' : Out → SMem → Prop} (h : Ex γ d mc ms M av μ Q) (g : ∀ o m, Q o m → Q' o m) : Ex γ d mc ms M av μ Q' := fun p e hadm hf1 hf2 s m args below hfr happ hP hK => by
  obtain ⟨n, o, h1, h2, h3, h4⟩ := h p e hadm hf1 hf2 s m args below hfr happ hP hK
  refine ⟨n, o, h1, h2, h3, ?_⟩
  rcases h4 with ⟨⟨⟨v, μ', e1, e2, e3⟩, e4⟩, e5⟩ | ⟨q, e1, E, ce, L, ⟨⟨μ', x1, x2⟩, x3⟩, x4⟩
  · exact Or.inl ⟨⟨⟨v, μ', e1, g _ _ e2, e3⟩, e4⟩, e5⟩
  · exact Or.inr ⟨q, e1, E, ce, L, ⟨⟨μ', g _ _ x1, x2⟩, x3⟩, x4⟩
theorem runF_0 {R : List Ru} {w : Wk} {f : Fld} : runF R w 0 f = (0, f) := rfl
theorem runF_s {R : List Ru} {w : Wk} {n : Nat} {f : Fld} : runF R w (n + 1) f = if (gaR R w f.1).length = 0 then (0, f) else ((runF R w n (chF R f (gaR R w f.1))).1 + 1, (runF R w n (chF R f (gaR R w f.1))).2) := rfl
theorem yrsN_s {LL : List (List Int32)} {k n : Nat} {X : Td} : yrsN LL k (n + 1) X = ((if yrB X LL k = true then 1 else 0) + (yrsN LL k n (yrX X LL k)).1, (yrsN LL k n (yrX X LL k)).2) := rfl
theorem OfM.zz {F : Nat → Prop} {μ m : SM2} (h : OfM F Swd μ m) : OfS (fun k => k = 572 ∨ k = 573 ∨ Sz k) μ m := h.1.mono (fun k hk => by unfold Swd at hk; unfold Sz; omega)
section MRu
variable {γ : Ga} {μ : SM2}
theorem m_run {x y : Int32} {X : Td} {U : List Td} {LL : List (List Int32)} (hX : mdT (μ.1 573) X) (hL : LawM (μ.1 573) LL) (hA : mdA μ U) : Ex γ 13 0 0 M_X12_run [.ref 572, .int x, .int y] (rm μ) (Rm (some (.int (if (inB x X.F.length && chkN y 1 200) = true then nI (runN X LL x y).1 else nI 0))) (fun m => (mdT (m.1 573) (if (inB x X.F.length && chkN y 1 200) = true then tdF X x.toNatClampNeg (runN X LL x y).2 else X) ∧ mdA m (if (inB x X.F.length && chkN y 1 200) = true then (X :: U).take 16 else U)) ∧ MdU μ m (mT2 (inB x X.F.length) (chkN y 1 200)))) := by
  have h6 := hX.2.1.1.2
  have hX2 : mdT ((wI μ 572 0 (nI 0)).1 573) X := by rw [w573]; exact hX
  have hn := m_noField (γ := γ) (x := x) hX2.2.1
  cases ei : inB x X.F.length with
  | false =>
    rw [ei, Bool.not_false] at hn
    simp only [Bool.false_and, Bool.false_eq_true, if_false]
    refine Ex.of (by decide +kernel) rfl (Nat.le_of_ble_eq_true rfl) ?_
    show T _ _ _ _ _ _ _ _ _ [some (.ref 572), some (.int (x)), some (.int (y)), none] [] (rm μ)
    refine T_aload_n (pc := 0) (i := 0) dX12_run_0 rfl rfl ?_
    refine T_iconst (pc := 1) (v := nI 0) dX12_run_1 (by decide) ?_
    refine R_putI (pc := 2) fl_X12_3 ⟨rfl, rfl⟩ (Or.inl rfl) kc_572 lc_572 dX12_run_2 ?_
    refine T_aload_n (pc := 5) (i := 0) dX12_run_5 rfl rfl ?_
    refine T_aload_n (pc := 6) (i := 0) dX12_run_6 rfl rfl ?_
    refine T_iload_n (pc := 7) (i := 1) dX12_run_7 rfl rfl ?_
    refine R_callV1 (pc := 8) (As := [.int (x)]) (rest := [.ref 572]) (Or.inl lk_X12_376) mk_X12_noField hn kc_572 ⟨by decide, rfl⟩ lc_572 dX12_run_8 rfl rfl (Nat.le_of_ble_eq_true rfl) (by decide) rfl (Nat.le_refl _) (Nat.le_refl _) ?_
    refine T_iconst (pc := 11) (v := nI 1) dX12_run_11 (by decide) ?_
    refine R_callV1 (pc := 12) (As := [.int (bI true), .int (nI 1)]) (rest := []) (Or.inl lk_X12_302) mk_X12_throwsIf m_throws1 kc_572 ⟨by decide, rfl⟩ lc_572 dX12_run_12 rfl rfl (Nat.le_of_ble_eq_true rfl) (by decide) rfl (Nat.le_refl _) (Nat.le_refl _) ?_
    refine R_ifb_ne (pc := 15) (tgt := 42) dX12_run_15 (by decide) (fun h1 => ?_) (fun h1 => ?_)
    · skip
      refine T_iconst (pc := 42) (v := nI 0) dX12_run_42 (by decide) ?_
      exact T_iret (pc := 43) (ty := .int) dX12_run_43 rfl rfl (Nat.le_refl _) (Nat.le_refl _) ⟨_, rfl, rfl, Tn.two.n.s hX hA⟩
    · exact absurd h1 (by decide)
  | true =>
    rw [ei, Bool.not_true] at hn
    obtain ⟨k, hk, rfl⟩ := inB_of (by omega) ei
    refine Ex.of (by decide +kernel) rfl (Nat.le_of_ble_eq_true rfl) ?_
    show T _ _ _ _ _ _ _ _ _ [some (.ref 572), some (.int (nI k)), some (.int (y)), none] [] (rm μ)
    refine T_aload_n (pc := 0) (i := 0) dX12_run_0 rfl rfl ?_
    refine T_iconst (pc := 1) (v := nI 0) dX12_run_1 (by decide) ?_
    refine R_putI (pc := 2) fl_X12_3 ⟨rfl, rfl⟩ (Or.inl rfl) kc_572 lc_572 dX12_run_2 ?_
    refine T_aload_n (pc := 5) (i := 0) dX12_run_5 rfl rfl ?_
    refine T_aload_n (pc := 6) (i := 0) dX12_run_6 rfl rfl ?_
    refine T_iload_n (pc := 7) (i := 1) dX12_run_7 rfl rfl ?_
    refine R_callV1 (pc := 8) (As := [.int (nI k)]) (rest := [.ref 572]) (Or.inl lk_X12_376) mk_X12_noField hn kc_572 ⟨by decide, rfl⟩ lc_572 dX12_run_8 rfl rfl (Nat.le_of_ble_eq_true rfl) (by decide) rfl (Nat.le_refl _) (Nat.le_refl _) ?_
    refine T_iconst (pc := 11) (v := nI 1) dX12_run_11 (by decide) ?_
    refine R_callV1 (pc := 12) (As := [.int (bI false), .int (nI 1)]) (rest := []) (Or.inl lk_X12_302) mk_X12_throwsIf m_throws0 kc_572 ⟨by decide, rfl⟩ lc_572 dX12_run_12 rfl rfl (Nat.le_of_ble_eq_true rfl) (by decide) rfl (Nat.le_refl _) (Nat.le_refl _) ?_
    refine R_ifb_ne (pc := 15) (tgt := 42) dX12_run_15 (by decide) (fun h1 => ?_) (fun h1 => ?_)
    · exact absurd h1 (by decide)
    · skip
      refine T_aload_n (pc := 18) (i := 0) dX12_run_18 rfl rfl ?_
      refine T_iload_n (pc := 19) (i := 2) dX12_run_19 rfl rfl ?_
      refine T_iconst (pc := 20) (v := nI 1) dX12_run_20 (by decide) ?_
      refine T_sipush (pc := 21) (v := nI 200) dX12_run_21 (by decide) ?_
      refine R_callS1 (pc := 24) (av := [.int (y), .int (nI 1), .int (nI 200)]) (rest := [.ref 572]) (Or.inl lk_X12_125) mk_X12_in m_inK dX12_run_24 rfl rfl (Nat.le_of_ble_eq_true rfl) (by decide) rfl (Nat.le_refl _) (Nat.le_refl _) ?_
      cases en : chkN y 1 200 with
      | false =>
        simp only [Bool.and_false, Bool.false_eq_true, if_false]
        show T _ _ _ _ _ _ _ _ 27 [some (.ref 572), some (.int (nI k)), some (.int (y)), none] [.int (bI false), .ref 572] (rm (wI μ 572 0 (nI 0)))
        refine R_ifb_ne (pc := 27) (tgt := 34) dX12_run_27 (by decide) (fun h2 => ?_) (fun h2 => ?_)
        · exact absurd h2 (by decide)
        · skip
          refine T_iconst (pc := 30) (v := nI 1) dX12_run_30 (by decide) ?_
          refine T_goto (pc := 31) (tgt := 35) dX12_run_31 (by decide) ?_
          refine T_iconst (pc := 35) (v := nI 2) dX12_run_35 (by decide) ?_
          refine R_callV1 (pc := 36) (As := [.int (nI 1), .int (nI 2)]) (rest := []) (Or.inl lk_X12_302) mk_X12_throwsIf m_throws1n kc_572 ⟨by decide, rfl⟩ lc_572 dX12_run_36 rfl rfl (Nat.le_of_ble_eq_true rfl) (by decide) rfl (Nat.le_refl _) (Nat.le_refl _) ?_
          refine R_ifb_eq (pc := 39) (tgt := 44) dX12_run_39 (by decide) (fun h3 => ?_) (fun h3 => ?_)
          · exact absurd h3 (by decide)
          · skip
            refine T_iconst (pc := 42) (v := nI 0) dX12_run_42 (by decide) ?_
            exact T_iret (pc := 43) (ty := .int) dX12_run_43 rfl rfl (Nat.le_refl _) (Nat.le_refl _) ⟨_, rfl, rfl, Tn.two.n.s hX hA⟩
      | true =>
        obtain ⟨N, hN0, hN, rfl⟩ := chk_of (by decide) (by decide) en
        simp only [Bool.and_true, if_true]
        rw [show runN X LL (nI k) (nI N) = runF X.R (wOf X LL) N (fAt X.F k) by unfold runN; rw [nI_clamp (n := k) (by omega), nI_clamp (n := N) (by omega)], nI_clamp (n := k) (by omega)]
        show T _ _ _ _ _ _ _ _ 27 [some (.ref 572), some (.int (nI k)), some (.int (nI N)), none] [.int (bI true), .ref 572] (rm (wI μ 572 0 (nI 0)))
        refine R_ifb_ne (pc := 27) (tgt := 34) dX12_run_27 (by decide) (fun h2 => ?_) (fun h2 => ?_)
        · skip
          refine T_iconst (pc := 34) (v := nI 0) dX12_run_34 (by decide) ?_
          refine T_iconst (pc := 35) (v := nI 2) dX12_run_35 (by decide) ?_
          refine R_callV1 (pc := 36) (As := [.int (nI 0), .int (nI 2)]) (rest := []) (Or.inl lk_X12_302) mk_X12_throwsIf m_throws0n kc_572 ⟨by decide, rfl⟩ lc_572 dX12_run_36 rfl rfl (Nat.le_of_ble_eq_true rfl) (by decide) rfl (Nat.le_refl _) (Nat.le_refl _) ?_
          refine R_ifb_eq (pc := 39) (tgt := 44) dX12_run_39 (by decide) (fun h3 => ?_) (fun h3 => ?_)
          · skip
            refine T_aload_n (pc := 44) (i := 0) dX12_run_44 rfl rfl ?_
            refine R_callVm0 (pc := 45) (As := []) (rest := []) (Or.inl lk_X12_408) mk_X12_remembers (m_remembers ((n_wI (by omega)).trans hA.1.1) hA.1.2) kc_572 ⟨by decide, rfl⟩ lc_572 dX12_run_45 rfl rfl (Nat.le_of_ble_eq_true rfl) (by decide) rfl (Nat.le_refl _) (Nat.le_refl _) (fun m1 h4 => ?_)
            have hR := m_remR MdN.one hX hA h4
            have hL1 : LawM (m1.1 573) LL := by rw [hR.2.1.2.1]; exact hL
            refine T_aload_n (pc := 48) (i := 0) dX12_run_48 rfl rfl ?_
            refine R_callVm0 (pc := 49) (As := []) (rest := []) (Or.inl lk_X12_386) mk_X12_asTold (m_asTold hR.1.1 hL1) kc_572 ⟨by decide, rfl⟩ lc_572 dX12_run_49 rfl rfl (Nat.le_of_ble_eq_true rfl) (by decide) rfl (Nat.le_refl _) (Nat.le_refl _) (fun m2 h5 => ?_)
            obtain ⟨hE, hO⟩ := h5
            have hX3 : mdT (m2.1 573) X := by rw [(hO.c (by decide) id).1]; exact hR.1.1
            have hEw : mEw m2 X.R LL (wOf X LL) := ⟨hE, hX3.2.2.2.2.2.2.1⟩
            have fin : ∀ (cur : Fld) (m : SM2), mdT (m.1 573) (tdF X k cur) → OfM Fst Swd m2 m → Wk1 k m2 m → (mdT (m.1 573) (tdF X k cur) ∧ mdA m ((X :: U).take 16)) ∧ MdU μ m 0 := fun cur m a1 a2 a3 => by
              have hu := hR.u (m2 := m) ((hO.1.mono (fun k hk => hk.elim Or.inl (fun z => z.elim))).trans a2.zz) (fun j hj => (a2.fi (by unfold Fst; omega)).trans (hO.fi (by omega))) (fun j hj => (a3 j (by omega)).trans (congrFun (hO.c (by decide) id).1 j))
              exact ⟨⟨a1, hu.1⟩, hu.2⟩
            refine T_iconst (pc := 52) (v := nI 0) dX12_run_52 (by decide) ?_
            refine T_istore_n (pc := 53) (i := 3) (ls' := [some (.ref 572), some (.int (nI k)), some (.int (nI N)), some (.int (nI 0))]) dX12_run_53 rfl (by decide) rfl ?_
            suffices loop : ∀ (fu g : Nat) (cur : Fld) (m : SM2), g + fu = N → runF X.R (wOf X LL) N (fAt X.F k) = ((runF X.R (wOf X LL) fu cur).1 + g, (runF X.R (wOf X LL) fu cur).2) → mdT (m.1 573) (tdF X k cur) → mEw m X.R LL (wOf X LL) → OfM Fst Swd m2 m → Wk1 k m2 m → T γ 13 0 0 M_X12_run (Rm (some (.int (nI (runF X.R (wOf X LL) N (fAt X.F k)).1))) (fun m => (mdT (m.1 573) (tdF X k (runF X.R (wOf X LL) N (fAt X.F k)).2) ∧ mdA m ((X :: U).take 16)) ∧ MdU μ m 0)) 0 0 54 [some (.ref 572), some (.int (nI k)), some (.int (nI N)), some (.int (nI g))] [] (rm m) by
              exact loop N 0 (fAt X.F k) m2 (Nat.zero_add _) rfl (by rw [tdF_id hk]; exact hX3) hEw (OfM.refl _ _ _) (fun _ _ => rfl)
            intro fu
            induction fu with
            | zero =>
              intro g cur m hg hrun hXm hEm hOm hWm
              obtain rfl : g = N := by omega
              rw [runF_0] at hrun
              rw [hrun]
              refine T_iload_n (pc := 54) (i := 3) dX12_run_54 rfl rfl ?_
              refine T_iload_n (pc := 55) (i := 2) dX12_run_55 rfl rfl ?_
              refine R_icmp_ge (pc := 56) (tgt := 73) (by omega) (by omega) dX12_run_56 (by decide) (fun h6 => ?_) (fun h6 => ?_)
              · skip
                refine T_iload_n (pc := 73) (i := 3) dX12_run_73 rfl rfl ?_
                rw [Nat.zero_add]
                exact T_iret (pc := 74) (ty := .int) dX12_run_74 rfl rfl (Nat.le_refl _) (Nat.le_refl _) ⟨_, rfl, rfl, fin cur m hXm hOm hWm⟩
              · exact absurd h6 (by omega)
            | succ fu ih =>
              intro g cur m hg hrun hXm hEm hOm hWm
              have hkl : k < (tdF X k cur).F.length := by rw [tdF_len]; exact hk
              have hst := m_stepsOn (γ := γ) (X := tdF X k cur) (LL := LL) (w := wOf X LL) hXm hEm hkl
              rw [show stF (tdF X k cur) (wOf X LL) k = if (gaR X.R (wOf X LL) cur.1).length = 0 then cur else chF X.R cur (gaR X.R (wOf X LL) cur.1) by unfold stF; rw [fAt_at hk]; rfl, fAt_at hk, tdF_2] at hst
              refine T_iload_n (pc := 54) (i := 3) dX12_run_54 rfl rfl ?_
              refine T_iload_n (pc := 55) (i := 2) dX12_run_55 rfl rfl ?_
              refine R_icmp_ge (pc := 56) (tgt := 73) (by omega) (by omega) dX12_run_56 (by decide) (fun h6 => ?_) (fun h6 => ?_)
              · exact absurd h6 (by omega)
              · skip
                refine T_aload_n (pc := 59) (i := 0) dX12_run_59 rfl rfl ?_
                refine T_iload_n (pc := 60) (i := 1) dX12_run_60 rfl rfl ?_
                refine R_callVm1 (pc := 61) (As := [.int (nI k)]) (rest := []) (Or.inl lk_X12_411) mk_X12_stepsOn hst kc_572 ⟨by decide, rfl⟩ lc_572 dX12_run_61 rfl rfl (Nat.le_of_ble_eq_true rfl) (by decide) rfl (Nat.le_refl _) (Nat.le_refl _) (fun m3 h7 => ?_)
                obtain ⟨⟨hX4, hE4, hW4⟩, hO4⟩ := h7
                rw [runF_s] at hrun
                by_cases hg0 : (gaR X.R (wOf X LL) cur.1).length = 0
                · rw [if_pos hg0] at hrun hX4
                  rw [hrun, decide_eq_false (fun z => z hg0)]
                  refine R_ifb_eq (pc := 64) (tgt := 73) dX12_run_64 (by decide) (fun h8 => ?_) (fun h8 => ?_)
                  · skip
                    refine T_iload_n (pc := 73) (i := 3) dX12_run_73 rfl rfl ?_
                    rw [Nat.zero_add]
                    exact T_iret (pc := 74) (ty := .int) dX12_run_74 rfl rfl (Nat.le_refl _) (Nat.le_refl _) ⟨_, rfl, rfl, fin cur m3 hX4 (hOm.trans hO4) (fun j hj => (hW4 j hj).trans (hWm j hj))⟩
                  · exact absurd h8 (by decide)
                · rw [if_neg hg0] at hrun hX4
                  rw [decide_eq_true (p := (gaR (tdF X k cur).R (wOf X LL) cur.1).length ≠ 0) hg0]
                  refine R_ifb_eq (pc := 64) (tgt := 73) dX12_run_64 (by decide) (fun h8 => ?_) (fun h8 => ?_)
                  · exact absurd h8 (by decide)
                  · skip
                    refine R_iinc (pc := 67) (i := 3) (n := 1) (ls' := [some (.ref 572), some (.int (nI k)), some (.int (nI N)), some (.int (nI (g + 1)))]) dX12_run_67 rfl rfl ?_
                    refine T_goto (pc := 70) (tgt := 54) dX12_run_70 (by decide) ?_
                    exact ih (g + 1) _ m3 (by omega) (hrun.trans (by rw [Nat.add_assoc, Nat.add_comm 1 g])) hX4 hE4 (hOm.trans hO4) (fun j hj => (hW4 j hj).trans (hWm j hj))
          · exact absurd h3 (by decide)
        · exact absurd h2 (by decide)
theorem m_years {x y : Int32} {X : Td} {U : List Td} {LL : List (List Int32)} (hX : mdT (μ.1 573) X) (hL : LawM (μ.1 573) LL) (hA : mdA μ U) : Ex γ 13 0 0 M_X12_years [.ref 572, .int x, .int y] (rm μ) (Rm (some (.int (if (inB x X.F.length && chkN y 1 200) = true then nI (yrsN LL x.toNatClampNeg y.toNatClampNeg X).1 else nI 0))) (fun m => (mdT (m.1 573) (if (inB x X.F.length && chkN y 1 200) = true then (yrsN LL x.toNatClampNeg y.toNatClampNeg X).2 else X) ∧ mdA m (if (inB x X.F.length && chkN y 1 200) = true then (X :: U).take 16 else U)) ∧ MdU μ m (mT2 (inB x X.F.length) (chkN y 1 200)))) := by
  have h6 := hX.2.1.1.2
  have hX2 : mdT ((wI μ 572 0 (nI 0)).1 573) X := by rw [w573]; exact hX
  have hn := m_noField (γ := γ) (x := x) hX2.2.1
  cases ei : inB x X.F.length with
  | false =>
    rw [ei, Bool.not_false] at hn
    simp only [Bool.false_and, Bool.false_eq_true, if_false]
    refine Ex.of (by decide +kernel) rfl (Nat.le_of_ble_eq_true rfl) ?_
    show T _ _ _ _ _ _ _ _ _ [some (.ref 572), some (.int (x)), some (.int (y)), none, none] [] (rm μ)
    refine T_aload_n (pc := 0) (i := 0) dX12_years_0 rfl rfl ?_
    refine T_iconst (pc := 1) (v := nI 0) dX12_years_1 (by decide) ?_
    refine R_putI (pc := 2) fl_X12_3 ⟨rfl, rfl⟩ (Or.inl rfl) kc_572 lc_572 dX12_years_2 ?_
    refine T_aload_n (pc := 5) (i := 0) dX12_years_5 rfl rfl ?_
    refine T_aload_n (pc := 6) (i := 0) dX12_years_6 rfl rfl ?_
    refine T_iload_n (pc := 7) (i := 1) dX12_years_7 rfl rfl ?_
    refine R_callV1 (pc := 8) (As := [.int (x)]) (rest := [.ref 572]) (Or.inl lk_X12_376) mk_X12_noField hn kc_572 ⟨by decide, rfl⟩ lc_572 dX12_years_8 rfl rfl (Nat.le_of_ble_eq_true rfl) (by decide) rfl (Nat.le_refl _) (Nat.le_refl _) ?_
    refine T_iconst (pc := 11) (v := nI 1) dX12_years_11 (by decide) ?_
    refine R_callV1 (pc := 12) (As := [.int (bI true), .int (nI 1)]) (rest := []) (Or.inl lk_X12_302) mk_X12_throwsIf m_throws1 kc_572 ⟨by decide, rfl⟩ lc_572 dX12_years_12 rfl rfl (Nat.le_of_ble_eq_true rfl) (by decide) rfl (Nat.le_refl _) (Nat.le_refl _) ?_
    refine R_ifb_ne (pc := 15) (tgt := 42) dX12_years_15 (by decide) (fun h1 => ?_) (fun h1 => ?_)
    · skip
      refine T_iconst (pc := 42) (v := nI 0) dX12_years_42 (by decide) ?_
      exact T_iret (pc := 43) (ty := .int) dX12_years_43 rfl rfl (Nat.le_refl _) (Nat.le_refl _) ⟨_, rfl, rfl, Tn.two.n.s hX hA⟩
    · exact absurd h1 (by decide)
  | true =>
    rw [ei, Bool.not_true] at hn
    obtain ⟨k, hk, rfl⟩ := inB_of (by omega) ei
    refine Ex.of (by decide +kernel) rfl (Nat.le_of_ble_eq_true rfl) ?_
    show T _ _ _ _ _ _ _ _ _ [some (.ref 572), some (.int (nI k)), some (.int (y)), none, none] [] (rm μ)
    refine T_aload_n (pc := 0) (i := 0) dX12_years_0 rfl rfl ?_
    refine T_iconst (pc := 1) (v := nI 0) dX12_years_1 (by decide) ?_
    refine R_putI (pc := 2) fl_X12_3 ⟨rfl, rfl⟩ (Or.inl rfl) kc_572 lc_572 dX12_years_2 ?_
    refine T_aload_n (pc := 5) (i := 0) dX12_years_5 rfl rfl ?_
    refine T_aload_n (pc := 6) (i := 0) dX12_years_6 rfl rfl ?_
    refine T_iload_n (pc := 7) (i := 1) dX12_years_7 rfl rfl ?_
    refine R_callV1 (pc := 8) (As := [.int (nI k)]) (rest := [.ref 572]) (Or.inl lk_X12_376) mk_X12_noField hn kc_572 ⟨by decide, rfl⟩ lc_572 dX12_years_8 rfl rfl (Nat.le_of_ble_eq_true rfl) (by decide) rfl (Nat.le_refl _) (Nat.le_refl _) ?_
    refine T_iconst (pc := 11) (v := nI 1) dX12_years_11 (by decide) ?_
    refine R_callV1 (pc := 12) (As := [.int (bI false), .int (nI 1)]) (rest := []) (Or.inl lk_X12_302) mk_X12_throwsIf m_throws0 kc_572 ⟨by decide, rfl⟩ lc_572 dX12_years_12 rfl rfl (Nat.le_of_ble_eq_true rfl) (by decide) rfl (Nat.le_refl _) (Nat.le_refl _) ?_
    refine R_ifb_ne (pc := 15) (tgt := 42) dX12_years_15 (by decide) (fun h1 => ?_) (fun h1 => ?_)
    · exact absurd h1 (by decide)
    · skip
      refine T_aload_n (pc := 18) (i := 0) dX12_years_18 rfl rfl ?_
      refine T_iload_n (pc := 19) (i := 2) dX12_years_19 rfl rfl ?_
      refine T_iconst (pc := 20) (v := nI 1) dX12_years_20 (by decide) ?_
      refine T_sipush (pc := 21) (v := nI 200) dX12_years_21 (by decide) ?_
      refine R_callS1 (pc := 24) (av := [.int (y), .int (nI 1), .int (nI 200)]) (rest := [.ref 572]) (Or.inl lk_X12_125) mk_X12_in m_inK dX12_years_24 rfl rfl (Nat.le_of_ble_eq_true rfl) (by decide) rfl (Nat.le_refl _) (Nat.le_refl _) ?_
      cases en : chkN y 1 200 with
      | false =>
        simp only [Bool.and_false, Bool.false_eq_true, if_false]
        show T _ _ _ _ _ _ _ _ 27 [some (.ref 572), some (.int (nI k)), some (.int (y)), none, none] [.int (bI false), .ref 572] (rm (wI μ 572 0 (nI 0)))
        refine R_ifb_ne (pc := 27) (tgt := 34) dX12_years_27 (by decide) (fun h2 => ?_) (fun h2 => ?_)
        · exact absurd h2 (by decide)
        · skip
          refine T_iconst (pc := 30) (v := nI 1) dX12_years_30 (by decide) ?_
          refine T_goto (pc := 31) (tgt := 35) dX12_years_31 (by decide) ?_
          refine T_iconst (pc := 35) (v := nI 2) dX12_years_35 (by decide) ?_
          refine R_callV1 (pc := 36) (As := [.int (nI 1), .int (nI 2)]) (rest := []) (Or.inl lk_X12_302) mk_X12_throwsIf m_throws1n kc_572 ⟨by decide, rfl⟩ lc_572 dX12_years_36 rfl rfl (Nat.le_of_ble_eq_true rfl) (by decide) rfl (Nat.le_refl _) (Nat.le_refl _) ?_
          refine R_ifb_eq (pc := 39) (tgt := 44) dX12_years_39 (by decide) (fun h3 => ?_) (fun h3 => ?_)
          · exact absurd h3 (by decide)
          · skip
            refine T_iconst (pc := 42) (v := nI 0) dX12_years_42 (by decide) ?_
            exact T_iret (pc := 43) (ty := .int) dX12_years_43 rfl rfl (Nat.le_refl _) (Nat.le_refl _) ⟨_, rfl, rfl, Tn.two.n.s hX hA⟩
      | true =>
        obtain ⟨N, hN0, hN, rfl⟩ := chk_of (by decide) (by decide) en
        simp only [Bool.and_true, if_true]
        rw [nI_clamp (n := k) (by omega), nI_clamp (n := N) (by omega)]
        show T _ _ _ _ _ _ _ _ 27 [some (.ref 572), some (.int (nI k)), some (.int (nI N)), none, none] [.int (bI true), .ref 572] (rm (wI μ 572 0 (nI 0)))
        refine R_ifb_ne (pc := 27) (tgt := 34) dX12_years_27 (by decide) (fun h2 => ?_) (fun h2 => ?_)
        · skip
          refine T_iconst (pc := 34) (v := nI 0) dX12_years_34 (by decide) ?_
          refine T_iconst (pc := 35) (v := nI 2) dX12_years_35 (by decide) ?_
          refine R_callV1 (pc := 36) (As := [.int (nI 0), .int (nI 2)]) (rest := []) (Or.inl lk_X12_302) mk_X12_throwsIf m_throws0n kc_572 ⟨by decide, rfl⟩ lc_572 dX12_years_36 rfl rfl (Nat.le_of_ble_eq_true rfl) (by decide) rfl (Nat.le_refl _) (Nat.le_refl _) ?_
          refine R_ifb_eq (pc := 39) (tgt := 44) dX12_years_39 (by decide) (fun h3 => ?_) (fun h3 => ?_)
          · skip
            refine T_aload_n (pc := 44) (i := 0) dX12_years_44 rfl rfl ?_
            refine R_callVm0 (pc := 45) (As := []) (rest := []) (Or.inl lk_X12_408) mk_X12_remembers (m_remembers ((n_wI (by omega)).trans hA.1.1) hA.1.2) kc_572 ⟨by decide, rfl⟩ lc_572 dX12_years_45 rfl rfl (Nat.le_of_ble_eq_true rfl) (by decide) rfl (Nat.le_refl _) (Nat.le_refl _) (fun m1 h4 => ?_)
            have hR := m_remR MdN.one hX hA h4
            have hL1 : LawM (m1.1 573) LL := by rw [hR.2.1.2.1]; exact hL
            refine T_aload_n (pc := 48) (i := 0) dX12_years_48 rfl rfl ?_
            refine R_callVm0 (pc := 49) (As := []) (rest := []) (Or.inl lk_X12_386) mk_X12_asTold (m_asToldY hR.1.1.1) kc_572 ⟨by decide, rfl⟩ lc_572 dX12_years_49 rfl rfl (Nat.le_of_ble_eq_true rfl) (by decide) rfl (Nat.le_refl _) (Nat.le_refl _) (fun m2 h5 => ?_)
            obtain ⟨hE, hF5, hO⟩ := h5
            have e573 : m2.1 573 = m1.1 573 := (hO 573 (by omega)).1
            have hS2 : MYs m2 X LL := ⟨⟨by rw [e573]; exact hR.1.1, by rw [e573]; exact hL1⟩, hE⟩
            have fin : ∀ (X3 : Td) (m : SM2), MYs m X3 LL → Wys m2 m → (mdT (m.1 573) X3 ∧ mdA m ((X :: U).take 16)) ∧ MdU μ m 0 := fun X3 m a1 a2 => by
              have hu := hR.u (m2 := m) ((hO.mono (fun k hk => Or.inl hk)).trans a2.1.zz) (fun j hj => (a2.1.fi (by unfold Fst; omega)).trans (hF5 j (by omega) (by omega))) (fun j hj => (a2.2 j hj).trans (congrFun e573 j))
              exact ⟨⟨a1.1.1, hu.1⟩, hu.2⟩
            refine T_iconst (pc := 52) (v := nI 0) dX12_years_52 (by decide) ?_
            refine T_istore_n (pc := 53) (i := 3) (ls' := [some (.ref 572), some (.int (nI k)), some (.int (nI N)), some (.int (nI 0)), none]) dX12_years_53 rfl (by decide) rfl ?_
            refine T_iconst (pc := 54) (v := nI 0) dX12_years_54 (by decide) ?_
            refine T_istore (pc := 55) (i := 4) (ls' := [some (.ref 572), some (.int (nI k)), some (.int (nI N)), some (.int (nI 0)), some (.int (nI 0))]) dX12_years_55 (by decide) rfl ?_
            suffices loop : ∀ (fu i used : Nat) (X3 : Td) (m : SM2), i + fu = N → used ≤ i → X3.F.length = X.F.length → yrsN LL k N X = (used + (yrsN LL k fu X3).1, (yrsN LL k fu X3).2) → MYs m X3 LL → Wys m2 m → T γ 13 0 0 M_X12_years (Rm (some (.int (nI (yrsN LL k N X).1))) (fun m => (mdT (m.1 573) (yrsN LL k N X).2 ∧ mdA m ((X :: U).take 16)) ∧ MdU μ m 0)) 0 0 57 [some (.ref 572), some (.int (nI k)), some (.int (nI N)), some (.int (nI used)), some (.int (nI i))] [] (rm m) by
              exact loop N 0 0 X m2 (Nat.zero_add _) (Nat.le_refl _) rfl (by rw [Nat.zero_add]) hS2 ⟨OfM.refl _ _ _, fun _ _ => rfl⟩
            intro fu
            induction fu with
            | zero =>
              intro i used X3 m hi hu hl3 hrun hS hW
              obtain rfl : i = N := by omega
              rw [show yrsN LL k 0 X3 = (0, X3) from rfl] at hrun
              rw [hrun]
              refine T_iload (pc := 57) (i := 4) dX12_years_57 rfl ?_
              refine T_iload_n (pc := 59) (i := 2) dX12_years_59 rfl rfl ?_
              refine R_icmp_ge (pc := 60) (tgt := 85) (by omega) (by omega) dX12_years_60 (by decide) (fun h7 => ?_) (fun h7 => ?_)
              · skip
                refine T_iload_n (pc := 85) (i := 3) dX12_years_85 rfl rfl ?_
                rw [Nat.add_zero]
                exact T_iret (pc := 86) (ty := .int) dX12_years_86 rfl rfl (Nat.le_refl _) (Nat.le_refl _) ⟨_, rfl, rfl, fin X3 m hS hW⟩
              · exact absurd h7 (by omega)
            | succ fu ih =>
              intro i used X3 m hi hu hl3 hrun hS hW
              rw [yrsN_s] at hrun
              refine T_iload (pc := 57) (i := 4) dX12_years_57 rfl ?_
              refine T_iload_n (pc := 59) (i := 2) dX12_years_59 rfl rfl ?_
              refine R_icmp_ge (pc := 60) (tgt := 85) (by omega) (by omega) dX12_years_60 (by decide) (fun h7 => ?_) (fun h7 => ?_)
              · exact absurd h7 (by omega)
              · skip
                refine T_iload_n (pc := 63) (i := 3) dX12_years_63 rfl rfl ?_
                refine T_aload_n (pc := 64) (i := 0) dX12_years_64 rfl rfl ?_
                refine T_iload_n (pc := 65) (i := 1) dX12_years_65 rfl rfl ?_
                refine R_callVm1 (pc := 66) (As := [.int (nI k)]) (rest := [.int (nI used)]) (Or.inl lk_X12_421) mk_X12_year (m_year hS (by rw [hl3]; exact hk)) kc_572 ⟨by decide, rfl⟩ lc_572 dX12_years_66 rfl rfl (Nat.le_of_ble_eq_true rfl) (by decide) rfl (Nat.le_refl _) (Nat.le_refl _) (fun m3 h8 => ?_)
                have hl4 : (yrX X3 LL k).F.length = X.F.length := yrX_len.1.trans hl3
                cases ey : yrB X3 LL k with
                | false =>
                  rw [ey, if_neg Bool.false_ne_true, Nat.zero_add] at hrun
                  refine R_ifb_eq (pc := 69) (tgt := 76) dX12_years_69 (by decide) (fun h9 => ?_) (fun h9 => ?_)
                  · skip
                    refine T_iconst (pc := 76) (v := nI 0) dX12_years_76 (by decide) ?_
                    refine R_iadd (pc := 77) dX12_years_77 ?_
                    refine T_istore_n (pc := 78) (i := 3) (ls' := [some (.ref 572), some (.int (nI k)), some (.int (nI N)), some (.int (nI (used + 0))), some (.int (nI i))]) dX12_years_78 rfl (by decide) rfl ?_
                    refine R_iinc (pc := 79) (i := 4) (n := 1) (ls' := [some (.ref 572), some (.int (nI k)), some (.int (nI N)), some (.int (nI (used + 0))), some (.int (nI (i + 1)))]) dX12_years_79 rfl rfl ?_
                    refine T_goto (pc := 82) (tgt := 57) dX12_years_82 (by decide) ?_
                    exact ih (i + 1) used (yrX X3 LL k) m3 (by omega) (by omega) hl4 hrun h8.1 (hW.trans h8.2)
                  · exact absurd h9 (by decide)
                | true =>
                  rw [ey, if_pos rfl] at hrun
                  refine R_ifb_eq (pc := 69) (tgt := 76) dX12_years_69 (by decide) (fun h9 => ?_) (fun h9 => ?_)
                  · exact absurd h9 (by decide)
                  · skip
                    refine T_iconst (pc := 72) (v := nI 1) dX12_years_72 (by decide) ?_
                    refine T_goto (pc := 73) (tgt := 77) dX12_years_73 (by decide) ?_
                    refine R_iadd (pc := 77) dX12_years_77 ?_
                    refine T_istore_n (pc := 78) (i := 3) (ls' := [some (.ref 572), some (.int (nI k)), some (.int (nI N)), some (.int (nI (used + 1))), some (.int (nI i))]) dX12_years_78 rfl (by decide) rfl ?_
                    refine R_iinc (pc := 79) (i := 4) (n := 1) (ls' := [some (.ref 572), some (.int (nI k)), some (.int (nI N)), some (.int (nI (used + 1))), some (.int (nI (i + 1)))]) dX12_years_79 rfl rfl ?_
                    refine T_goto (pc := 82) (tgt := 57) dX12_years_82 (by decide) ?_
                    exact ih (i + 1) (used + 1) (yrX X3 LL k) m3 (by omega) (by omega) hl4 (hrun.trans (by rw [Nat.add_assoc])) h8.1 (hW.trans h8.2)
          · exact absurd h3 (by decide)
        · exact absurd h2 (by decide)
end MRu

