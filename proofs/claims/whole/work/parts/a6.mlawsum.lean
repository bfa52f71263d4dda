/-! THE MODEL: THE LAW's text, sums and conditions -/
section MLS
variable {γ : Ga}
theorem m_plus {μ : SM2} {B : List Nat} {p : Nat} (hT : MtS μ B p) : Ex γ 3 0 0 M_X12_sign [.ref 572, .int (nI 43)] (rm μ) (Rm (some (.int (bI (cPl B p)))) (fun m => MtP m B (tS B p) (gpE B p (cPl B p)) ∧ OfM F9 S0 μ m)) := m_signS hT (c := 43) (by decide) (by decide)
theorem m_word {μ : SM2} {B : List Nat} {p i : Nat} {a : String × Nat × String} {w : List Int32} (hT : MtS μ B p) (hs : strs[i]? = some (a.1, a.2.1, a.2.2, w)) : Ex γ 6 0 0 M_X12_passes [.ref 572, .ref (XB + (i + 1))] (rm μ) (Rm (some (.int (bI (wdB B p w)))) (fun m => MtP m B (tS B p) (gpE B p (wdB B p w)) ∧ OfM F9 S0 μ m)) := m_passesS hT hs
theorem m_readSum {B : List Nat} {dp : Nat} : LqMC γ M_X12_readSum B (lvS B (lvP B) (cPl B) (-10)) dp (8) := by
  have gA : Gr B (lvP B) := gr_lvP
  have hA : LqMC γ M_X12_readPart B (lvP B) dp 7 := fun μ p l h1 h2 h3 h4 h5 => m_readPart h1 h2 h3 h4 h5
  intro μ p l hT hp hE hn hd
  have hb := hT.b.b
  have h400 := hT.b.1.2
  have hgt : ∀ p, p ≤ B.length → (cPl B) p = true → p < tE B p := cPl_gt
  have no : ∀ p, B.length ≤ p → (cPl B) p = false := fun p h => by
    cases e : (cPl B) p with
    | false => rfl
    | true =>
      have h1 : tK B p ≠ -1 := fun z => by
        have e3 : tK B p = nI 43 := of_decide_eq_true e
        rw [e3] at z
        exact absurd z (by decide)
      have h2 : tS B p < B.length := by
        by_cases h3 : tS B p < B.length
        · exact h3
        · exact absurd ((tK_end hb).mpr h3) h1
      have h3 : tS B p = p := spn_end (fun z => by omega)
      omega
  have loop : ∀ (f p : Nat) (lq : List Int32) (m : SM2) (Q : Out → SMem → Prop), (∀ o m9, LqM B μ l dp (lvL B (lvP B) (cPl B) (-10) f p lq) o m9 → Q o m9) → B.length ≤ p + f → p ≤ B.length → MtS m B p → Emt m (l ++ lq) → (l ++ lq).length < p → m.1 572 12 = nI dp → OfD μ m → T γ (8) 0 0 M_X12_readSum Q 0 0 9 [some (.ref 572)] [] (rm m) := by
    intro f
    induction f with
    | zero =>
      intro p lq m Q hQ hf hp hT hE hn hd hO
      have e0 := no p (by omega)
      refine T_aload_n (pc := 9) (i := 0) dX12_readSum_9 rfl rfl ?_
      refine T_bipush (pc := 10) (v := nI 43) dX12_readSum_10 (by decide) ?_
      refine R_callVm1 (pc := 12) (As := [.int (nI 43)]) (rest := []) (Or.inl lk_X12_252) mk_X12_sign (m_plus hT) kc_572 ⟨by decide, rfl⟩ lc_572 dX12_readSum_12 rfl rfl (Nat.le_of_ble_eq_true rfl) (by decide) rfl (Nat.le_refl _) (Nat.le_refl _) (fun m1 h1 => ?_)
      obtain ⟨r1, o1⟩ := h1
      have r1' : MtP m1 B (tS B p) (gpE B p ((cPl B) p)) := r1
      rw [e0] at r1' ⊢
      refine R_ifb_eq (pc := 15) (tgt := 37) dX12_readSum_15 (by decide) (fun g1 => ?_) (fun g1 => ?_)
      · skip
        refine T_iconst (pc := 37) (v := nI 1) dX12_readSum_37 (by decide) ?_
        exact T_iret (pc := 38) (ty := .boolean) dX12_readSum_38 rfl (by decide) (Nat.le_refl _) (Nat.le_refl _) (hQ _ _ (LqM.ok (q := (p, lq)) (MtP.s r1') (hE.f9 o1) ((o1.fi (by unfold F9; omega)).trans hd) (hO.trans o1.d)))
      · first | exact absurd g1 (by decide) | exact absurd g1 (fun z => by cases z)
    | succ f ih =>
      intro p lq m Q hQ hf hp hT hE hn hd hO
      have ev : lvL B (lvP B) (cPl B) (-10) (f + 1) p lq = if (cPl B) p = true then (match (lvP B) (tE B p) with | .inl e => .inl e | .inr q => lvL B (lvP B) (cPl B) (-10) f q.1 (lq ++ q.2 ++ [-10])) else .inr (p, lq) := rfl
      rw [ev] at hQ
      have hte := tE_le hp
      have hg := hgt p hp
      refine T_aload_n (pc := 9) (i := 0) dX12_readSum_9 rfl rfl ?_
      refine T_bipush (pc := 10) (v := nI 43) dX12_readSum_10 (by decide) ?_
      refine R_callVm1 (pc := 12) (As := [.int (nI 43)]) (rest := []) (Or.inl lk_X12_252) mk_X12_sign (m_plus hT) kc_572 ⟨by decide, rfl⟩ lc_572 dX12_readSum_12 rfl rfl (Nat.le_of_ble_eq_true rfl) (by decide) rfl (Nat.le_refl _) (Nat.le_refl _) (fun m1 h1 => ?_)
      obtain ⟨r1, o1⟩ := h1
      have r1' : MtP m1 B (tS B p) (gpE B p ((cPl B) p)) := r1
      have hE1 := hE.f9 o1
      have hd1 : m1.1 572 12 = nI dp := (o1.fi (by unfold F9; omega)).trans hd
      cases e0 : (cPl B) p with
      | false =>
        rw [e0] at r1'
        rw [if_neg (by rw [e0]; exact Bool.false_ne_true)] at hQ
        refine R_ifb_eq (pc := 15) (tgt := 37) dX12_readSum_15 (by decide) (fun g1 => ?_) (fun g1 => ?_)
        · skip
          refine T_iconst (pc := 37) (v := nI 1) dX12_readSum_37 (by decide) ?_
          exact T_iret (pc := 38) (ty := .boolean) dX12_readSum_38 rfl (by decide) (Nat.le_refl _) (Nat.le_refl _) (hQ _ _ (LqM.ok (q := (p, lq)) (MtP.s r1') hE1 hd1 (hO.trans o1.d)))
        · first | exact absurd g1 (by decide) | exact absurd g1 (fun z => by cases z)
      | true =>
        rw [e0] at r1'
        rw [if_pos e0] at hQ
        have hg2 := hg e0
        have hA9 := hA m1 (tE B p) (l ++ lq) (MtQ.s r1'.1) hte.2 hE1 (by omega) hd1
        refine R_ifb_eq (pc := 15) (tgt := 37) dX12_readSum_15 (by decide) (fun g1 => ?_) (fun g1 => ?_)
        · first | exact absurd g1 (by decide) | exact absurd g1 (fun z => by cases z)
        · skip
          refine T_aload_n (pc := 18) (i := 0) dX12_readSum_18 rfl rfl ?_
          refine R_callVm1 (pc := 19) (As := []) (rest := []) (Or.inl lk_X12_249) mk_X12_readPart hA9 kc_572 ⟨by decide, rfl⟩ lc_572 dX12_readSum_19 rfl rfl (Nat.le_of_ble_eq_true rfl) (by omega) rfl (Nat.le_refl _) (Nat.le_refl _) (fun m2 h2 => ?_)
          obtain ⟨r2, o2⟩ := h2
          cases e2 : (lvP B) (tE B p) with
          | inl z =>
            rw [e2] at r2 hQ
            refine R_ifb_ne (pc := 22) (tgt := 27) dX12_readSum_22 (by decide) (fun g2 => ?_) (fun g2 => ?_)
            · first | exact absurd g2 (by decide) | exact absurd g2 (fun z => by cases z)
            · skip
              refine T_iconst (pc := 25) (v := nI 0) dX12_readSum_25 (by decide) ?_
              exact T_iret (pc := 26) (ty := .boolean) dX12_readSum_26 rfl (by decide) (Nat.le_refl _) (Nat.le_refl _) (hQ _ _ (LqM.bad r2 ((hO.trans o1.d).trans o2)))
          | inr q =>
            rw [e2] at r2 hQ
            dsimp only at hQ
            have hgr := gA (tE B p) q hte.2 e2
            obtain ⟨a1, a2, a3⟩ := r2
            have hlen : (l ++ lq ++ q.2).length = (l ++ lq).length + q.2.length := List.length_append
            have hw := a2.w (s := -10)
            have ew : l ++ lq ++ q.2 ++ [-10] = l ++ (lq ++ q.2 ++ [-10]) := by simp only [List.append_assoc]
            rw [ew] at hw
            have hl2 : (l ++ (lq ++ q.2 ++ [-10])).length < q.1 := by
              rw [← ew, List.length_append, List.length_singleton]
              omega
            refine R_ifb_ne (pc := 22) (tgt := 27) dX12_readSum_22 (by decide) (fun g2 => ?_) (fun g2 => ?_)
            · skip
              refine T_aload_n (pc := 27) (i := 0) dX12_readSum_27 rfl rfl ?_
              refine T_bipush (pc := 28) (v := nI 7) dX12_readSum_28 (by decide) ?_
              refine T_iconst (pc := 30) (v := nI 0) dX12_readSum_30 (by decide) ?_
              refine R_callV0 (pc := 31) (As := [.int (nI 7), .int (nI 0)]) (rest := []) (Or.inl lk_X12_238) mk_X12_emits (m_emits a2.1 (by omega)) kc_572 ⟨by decide, rfl⟩ lc_572 dX12_readSum_31 rfl rfl (Nat.le_of_ble_eq_true rfl) (by decide) rfl (Nat.le_refl _) (Nat.le_refl _) ?_
              refine T_goto (pc := 34) (tgt := 9) dX12_readSum_34 (by decide) ?_
              exact ih q.1 (lq ++ q.2 ++ [-10]) _ Q hQ (by omega) hgr.2 (a1.e) hw hl2 ((eW_f (by decide)).trans a3) (((hO.trans o1.d).trans o2).trans OfD.e)
            · first | exact absurd g2 (by decide) | exact absurd g2 (fun z => by cases z)
  have hA0 := hA μ p l hT hp hE hn hd
  refine Ex.of (by decide +kernel) rfl (Nat.le_of_ble_eq_true rfl) ?_
  show T _ _ _ _ _ _ _ _ _ [some (.ref 572)] [] (rm μ)
  refine T_aload_n (pc := 0) (i := 0) dX12_readSum_0 rfl rfl ?_
  refine R_callVm1 (pc := 1) (As := []) (rest := []) (Or.inl lk_X12_249) mk_X12_readPart hA0 kc_572 ⟨by decide, rfl⟩ lc_572 dX12_readSum_1 rfl rfl (Nat.le_of_ble_eq_true rfl) (by omega) rfl (Nat.le_refl _) (Nat.le_refl _) (fun m1 h1 => ?_)
  obtain ⟨r1, o1⟩ := h1
  cases e1 : (lvP B) p with
  | inl z =>
    rw [e1] at r1
    have ev : lvS B (lvP B) (cPl B) (-10) p = .inl z := by unfold lvS; rw [e1]
    rw [ev]
    refine R_ifb_ne (pc := 4) (tgt := 9) dX12_readSum_4 (by decide) (fun g1 => ?_) (fun g1 => ?_)
    · first | exact absurd g1 (by decide) | exact absurd g1 (fun z => by cases z)
    · skip
      refine T_iconst (pc := 7) (v := nI 0) dX12_readSum_7 (by decide) ?_
      exact T_iret (pc := 8) (ty := .boolean) dX12_readSum_8 rfl (by decide) (Nat.le_refl _) (Nat.le_refl _) (LqM.bad r1 o1)
  | inr q =>
    rw [e1] at r1
    have ev : lvS B (lvP B) (cPl B) (-10) p = lvL B (lvP B) (cPl B) (-10) 400 q.1 q.2 := by unfold lvS; rw [e1]
    rw [ev]
    have hgr := gA p q hp e1
    have hlen : (l ++ q.2).length = l.length + q.2.length := List.length_append
    obtain ⟨a1, a2, a3⟩ := r1
    refine R_ifb_ne (pc := 4) (tgt := 9) dX12_readSum_4 (by decide) (fun g1 => ?_) (fun g1 => ?_)
    · skip
      exact loop 400 q.1 q.2 m1 _ (fun o m9 h => h) (by omega) hgr.2 a1 a2 (by omega) a3 o1
    · first | exact absurd g1 (by decide) | exact absurd g1 (fun z => by cases z)
theorem m_readAllOf {B : List Nat} {A : Nat → Lv} {dp D : Nat} (hD : 6 ≤ D) (gA : Gr B A) (hA : LqMC γ M_X12_readAtom B A dp D) : LqMC γ M_X12_readAllOf B (lvS B (A) (fun p => wdB B p wAnd) (-13)) dp (D + 1) := by
  intro μ p l hT hp hE hn hd
  have hb := hT.b.b
  have h400 := hT.b.1.2
  have hgt : ∀ p, p ≤ B.length → wdB B p wAnd = true → p < tE B p := fun p hp h => wd_gt hp h
  have no : ∀ p, B.length ≤ p → wdB B p wAnd = false := fun p h => by
    cases e : wdB B p wAnd with
    | false => rfl
    | true =>
      have h1 : tK B p ≠ -1 := fun z => by
        have e3 : tK B p = -2 := wd_k e
        rw [e3] at z
        exact absurd z (by decide)
      have h2 : tS B p < B.length := by
        by_cases h3 : tS B p < B.length
        · exact h3
        · exact absurd ((tK_end hb).mpr h3) h1
      have h3 : tS B p = p := spn_end (fun z => by omega)
      omega
  have loop : ∀ (f p : Nat) (lq : List Int32) (m : SM2) (Q : Out → SMem → Prop), (∀ o m9, LqM B μ l dp (lvL B (A) (fun p => wdB B p wAnd) (-13) f p lq) o m9 → Q o m9) → B.length ≤ p + f → p ≤ B.length → MtS m B p → Emt m (l ++ lq) → (l ++ lq).length < p → m.1 572 12 = nI dp → OfD μ m → T γ (D + 1) 0 0 M_X12_readAllOf Q 0 0 9 [some (.ref 572)] [] (rm m) := by
    intro f
    induction f with
    | zero =>
      intro p lq m Q hQ hf hp hT hE hn hd hO
      have e0 := no p (by omega)
      refine T_aload_n (pc := 9) (i := 0) dX12_readAllOf_9 rfl rfl ?_
      refine T_ldcSw (pc := 10) (i := 41) rfl dX12_readAllOf_10 ?_
      refine R_callVm1 (pc := 13) (As := [.ref (XB + (41 + 1))]) (rest := []) (Or.inl lk_X12_264) mk_X12_passes (m_word (a := ("BeastRulesModel", 274, "and")) hT sm41) kc_572 ⟨by decide, rfl⟩ lc_572 dX12_readAllOf_13 rfl rfl (Nat.le_of_ble_eq_true rfl) (by omega) rfl (Nat.le_refl _) (Nat.le_refl _) (fun m1 h1 => ?_)
      obtain ⟨r1, o1⟩ := h1
      have r1' : MtP m1 B (tS B p) (gpE B p (wdB B p wAnd)) := r1
      rw [e0] at r1' ⊢
      refine R_ifb_eq (pc := 16) (tgt := 38) dX12_readAllOf_16 (by decide) (fun g1 => ?_) (fun g1 => ?_)
      · skip
        refine T_iconst (pc := 38) (v := nI 1) dX12_readAllOf_38 (by decide) ?_
        exact T_iret (pc := 39) (ty := .boolean) dX12_readAllOf_39 rfl (by decide) (Nat.le_refl _) (Nat.le_refl _) (hQ _ _ (LqM.ok (q := (p, lq)) (MtP.s r1') (hE.f9 o1) ((o1.fi (by unfold F9; omega)).trans hd) (hO.trans o1.d)))
      · first | exact absurd g1 (by decide) | exact absurd g1 (fun z => by cases z)
    | succ f ih =>
      intro p lq m Q hQ hf hp hT hE hn hd hO
      have ev : lvL B (A) (fun p => wdB B p wAnd) (-13) (f + 1) p lq = if wdB B p wAnd = true then (match (A) (tE B p) with | .inl e => .inl e | .inr q => lvL B (A) (fun p => wdB B p wAnd) (-13) f q.1 (lq ++ q.2 ++ [-13])) else .inr (p, lq) := rfl
      rw [ev] at hQ
      have hte := tE_le hp
      have hg := hgt p hp
      refine T_aload_n (pc := 9) (i := 0) dX12_readAllOf_9 rfl rfl ?_
      refine T_ldcSw (pc := 10) (i := 41) rfl dX12_readAllOf_10 ?_
      refine R_callVm1 (pc := 13) (As := [.ref (XB + (41 + 1))]) (rest := []) (Or.inl lk_X12_264) mk_X12_passes (m_word (a := ("BeastRulesModel", 274, "and")) hT sm41) kc_572 ⟨by decide, rfl⟩ lc_572 dX12_readAllOf_13 rfl rfl (Nat.le_of_ble_eq_true rfl) (by omega) rfl (Nat.le_refl _) (Nat.le_refl _) (fun m1 h1 => ?_)
      obtain ⟨r1, o1⟩ := h1
      have r1' : MtP m1 B (tS B p) (gpE B p (wdB B p wAnd)) := r1
      have hE1 := hE.f9 o1
      have hd1 : m1.1 572 12 = nI dp := (o1.fi (by unfold F9; omega)).trans hd
      cases e0 : wdB B p wAnd with
      | false =>
        rw [e0] at r1'
        rw [if_neg (by rw [e0]; exact Bool.false_ne_true)] at hQ
        refine R_ifb_eq (pc := 16) (tgt := 38) dX12_readAllOf_16 (by decide) (fun g1 => ?_) (fun g1 => ?_)
        · skip
          refine T_iconst (pc := 38) (v := nI 1) dX12_readAllOf_38 (by decide) ?_
          exact T_iret (pc := 39) (ty := .boolean) dX12_readAllOf_39 rfl (by decide) (Nat.le_refl _) (Nat.le_refl _) (hQ _ _ (LqM.ok (q := (p, lq)) (MtP.s r1') hE1 hd1 (hO.trans o1.d)))
        · first | exact absurd g1 (by decide) | exact absurd g1 (fun z => by cases z)
      | true =>
        rw [e0] at r1'
        rw [if_pos e0] at hQ
        have hg2 := hg e0
        have hA9 := hA m1 (tE B p) (l ++ lq) (MtQ.s r1'.1) hte.2 hE1 (by omega) hd1
        refine R_ifb_eq (pc := 16) (tgt := 38) dX12_readAllOf_16 (by decide) (fun g1 => ?_) (fun g1 => ?_)
        · first | exact absurd g1 (by decide) | exact absurd g1 (fun z => by cases z)
        · skip
          refine T_aload_n (pc := 19) (i := 0) dX12_readAllOf_19 rfl rfl ?_
          refine R_callVm1 (pc := 20) (As := []) (rest := []) (Or.inl lk_X12_267) mk_X12_readAtom hA9 kc_572 ⟨by decide, rfl⟩ lc_572 dX12_readAllOf_20 rfl rfl (Nat.le_of_ble_eq_true rfl) (by omega) rfl (Nat.le_refl _) (Nat.le_refl _) (fun m2 h2 => ?_)
          obtain ⟨r2, o2⟩ := h2
          cases e2 : (A) (tE B p) with
          | inl z =>
            rw [e2] at r2 hQ
            refine R_ifb_ne (pc := 23) (tgt := 28) dX12_readAllOf_23 (by decide) (fun g2 => ?_) (fun g2 => ?_)
            · first | exact absurd g2 (by decide) | exact absurd g2 (fun z => by cases z)
            · skip
              refine T_iconst (pc := 26) (v := nI 0) dX12_readAllOf_26 (by decide) ?_
              exact T_iret (pc := 27) (ty := .boolean) dX12_readAllOf_27 rfl (by decide) (Nat.le_refl _) (Nat.le_refl _) (hQ _ _ (LqM.bad r2 ((hO.trans o1.d).trans o2)))
          | inr q =>
            rw [e2] at r2 hQ
            dsimp only at hQ
            have hgr := gA (tE B p) q hte.2 e2
            obtain ⟨a1, a2, a3⟩ := r2
            have hlen : (l ++ lq ++ q.2).length = (l ++ lq).length + q.2.length := List.length_append
            have hw := a2.w (s := -13)
            have ew : l ++ lq ++ q.2 ++ [-13] = l ++ (lq ++ q.2 ++ [-13]) := by simp only [List.append_assoc]
            rw [ew] at hw
            have hl2 : (l ++ (lq ++ q.2 ++ [-13])).length < q.1 := by
              rw [← ew, List.length_append, List.length_singleton]
              omega
            refine R_ifb_ne (pc := 23) (tgt := 28) dX12_readAllOf_23 (by decide) (fun g2 => ?_) (fun g2 => ?_)
            · skip
              refine T_aload_n (pc := 28) (i := 0) dX12_readAllOf_28 rfl rfl ?_
              refine T_bipush (pc := 29) (v := nI 11) dX12_readAllOf_29 (by decide) ?_
              refine T_iconst (pc := 31) (v := nI 0) dX12_readAllOf_31 (by decide) ?_
              refine R_callV0 (pc := 32) (As := [.int (nI 11), .int (nI 0)]) (rest := []) (Or.inl lk_X12_238) mk_X12_emits (m_emits a2.1 (by omega)) kc_572 ⟨by decide, rfl⟩ lc_572 dX12_readAllOf_32 rfl rfl (Nat.le_of_ble_eq_true rfl) (by omega) rfl (Nat.le_refl _) (Nat.le_refl _) ?_
              refine T_goto (pc := 35) (tgt := 9) dX12_readAllOf_35 (by decide) ?_
              exact ih q.1 (lq ++ q.2 ++ [-13]) _ Q hQ (by omega) hgr.2 (a1.e) hw hl2 ((eW_f (by decide)).trans a3) (((hO.trans o1.d).trans o2).trans OfD.e)
            · first | exact absurd g2 (by decide) | exact absurd g2 (fun z => by cases z)
  have hA0 := hA μ p l hT hp hE hn hd
  refine Ex.of (by decide +kernel) rfl (Nat.le_of_ble_eq_true rfl) ?_
  show T _ _ _ _ _ _ _ _ _ [some (.ref 572)] [] (rm μ)
  refine T_aload_n (pc := 0) (i := 0) dX12_readAllOf_0 rfl rfl ?_
  refine R_callVm1 (pc := 1) (As := []) (rest := []) (Or.inl lk_X12_267) mk_X12_readAtom hA0 kc_572 ⟨by decide, rfl⟩ lc_572 dX12_readAllOf_1 rfl rfl (Nat.le_of_ble_eq_true rfl) (by omega) rfl (Nat.le_refl _) (Nat.le_refl _) (fun m1 h1 => ?_)
  obtain ⟨r1, o1⟩ := h1
  cases e1 : (A) p with
  | inl z =>
    rw [e1] at r1
    have ev : lvS B (A) (fun p => wdB B p wAnd) (-13) p = .inl z := by unfold lvS; rw [e1]
    rw [ev]
    refine R_ifb_ne (pc := 4) (tgt := 9) dX12_readAllOf_4 (by decide) (fun g1 => ?_) (fun g1 => ?_)
    · first | exact absurd g1 (by decide) | exact absurd g1 (fun z => by cases z)
    · skip
      refine T_iconst (pc := 7) (v := nI 0) dX12_readAllOf_7 (by decide) ?_
      exact T_iret (pc := 8) (ty := .boolean) dX12_readAllOf_8 rfl (by decide) (Nat.le_refl _) (Nat.le_refl _) (LqM.bad r1 o1)
  | inr q =>
    rw [e1] at r1
    have ev : lvS B (A) (fun p => wdB B p wAnd) (-13) p = lvL B (A) (fun p => wdB B p wAnd) (-13) 400 q.1 q.2 := by unfold lvS; rw [e1]
    rw [ev]
    have hgr := gA p q hp e1
    have hlen : (l ++ q.2).length = l.length + q.2.length := List.length_append
    obtain ⟨a1, a2, a3⟩ := r1
    refine R_ifb_ne (pc := 4) (tgt := 9) dX12_readAllOf_4 (by decide) (fun g1 => ?_) (fun g1 => ?_)
    · skip
      exact loop 400 q.1 q.2 m1 _ (fun o m9 h => h) (by omega) hgr.2 a1 a2 (by omega) a3 o1
    · first | exact absurd g1 (by decide) | exact absurd g1 (fun z => by cases z)
theorem m_readCond {B : List Nat} {A : Nat → Lv} {dp D : Nat} (hD : 6 ≤ D) (gA : Gr B A) (hA : LqMC γ M_X12_readAllOf B A dp D) : LqMC γ M_X12_readCond B (lvS B (A) (fun p => wdB B p wOr) (-14)) dp (D + 1) := by
  intro μ p l hT hp hE hn hd
  have hb := hT.b.b
  have h400 := hT.b.1.2
  have hgt : ∀ p, p ≤ B.length → wdB B p wOr = true → p < tE B p := fun p hp h => wd_gt hp h
  have no : ∀ p, B.length ≤ p → wdB B p wOr = false := fun p h => by
    cases e : wdB B p wOr with
    | false => rfl
    | true =>
      have h1 : tK B p ≠ -1 := fun z => by
        have e3 : tK B p = -2 := wd_k e
        rw [e3] at z
        exact absurd z (by decide)
      have h2 : tS B p < B.length := by
        by_cases h3 : tS B p < B.length
        · exact h3
        · exact absurd ((tK_end hb).mpr h3) h1
      have h3 : tS B p = p := spn_end (fun z => by omega)
      omega
  have loop : ∀ (f p : Nat) (lq : List Int32) (m : SM2) (Q : Out → SMem → Prop), (∀ o m9, LqM B μ l dp (lvL B (A) (fun p => wdB B p wOr) (-14) f p lq) o m9 → Q o m9) → B.length ≤ p + f → p ≤ B.length → MtS m B p → Emt m (l ++ lq) → (l ++ lq).length < p → m.1 572 12 = nI dp → OfD μ m → T γ (D + 1) 0 0 M_X12_readCond Q 0 0 9 [some (.ref 572)] [] (rm m) := by
    intro f
    induction f with
    | zero =>
      intro p lq m Q hQ hf hp hT hE hn hd hO
      have e0 := no p (by omega)
      refine T_aload_n (pc := 9) (i := 0) dX12_readCond_9 rfl rfl ?_
      refine T_ldcSw (pc := 10) (i := 42) rfl dX12_readCond_10 ?_
      refine R_callVm1 (pc := 13) (As := [.ref (XB + (42 + 1))]) (rest := []) (Or.inl lk_X12_264) mk_X12_passes (m_word (a := ("BeastRulesModel", 279, "or")) hT sm42) kc_572 ⟨by decide, rfl⟩ lc_572 dX12_readCond_13 rfl rfl (Nat.le_of_ble_eq_true rfl) (by omega) rfl (Nat.le_refl _) (Nat.le_refl _) (fun m1 h1 => ?_)
      obtain ⟨r1, o1⟩ := h1
      have r1' : MtP m1 B (tS B p) (gpE B p (wdB B p wOr)) := r1
      rw [e0] at r1' ⊢
      refine R_ifb_eq (pc := 16) (tgt := 38) dX12_readCond_16 (by decide) (fun g1 => ?_) (fun g1 => ?_)
      · skip
        refine T_iconst (pc := 38) (v := nI 1) dX12_readCond_38 (by decide) ?_
        exact T_iret (pc := 39) (ty := .boolean) dX12_readCond_39 rfl (by decide) (Nat.le_refl _) (Nat.le_refl _) (hQ _ _ (LqM.ok (q := (p, lq)) (MtP.s r1') (hE.f9 o1) ((o1.fi (by unfold F9; omega)).trans hd) (hO.trans o1.d)))
      · first | exact absurd g1 (by decide) | exact absurd g1 (fun z => by cases z)
    | succ f ih =>
      intro p lq m Q hQ hf hp hT hE hn hd hO
      have ev : lvL B (A) (fun p => wdB B p wOr) (-14) (f + 1) p lq = if wdB B p wOr = true then (match (A) (tE B p) with | .inl e => .inl e | .inr q => lvL B (A) (fun p => wdB B p wOr) (-14) f q.1 (lq ++ q.2 ++ [-14])) else .inr (p, lq) := rfl
      rw [ev] at hQ
      have hte := tE_le hp
      have hg := hgt p hp
      refine T_aload_n (pc := 9) (i := 0) dX12_readCond_9 rfl rfl ?_
      refine T_ldcSw (pc := 10) (i := 42) rfl dX12_readCond_10 ?_
      refine R_callVm1 (pc := 13) (As := [.ref (XB + (42 + 1))]) (rest := []) (Or.inl lk_X12_264) mk_X12_passes (m_word (a := ("BeastRulesModel", 279, "or")) hT sm42) kc_572 ⟨by decide, rfl⟩ lc_572 dX12_readCond_13 rfl rfl (Nat.le_of_ble_eq_true rfl) (by omega) rfl (Nat.le_refl _) (Nat.le_refl _) (fun m1 h1 => ?_)
      obtain ⟨r1, o1⟩ := h1
      have r1' : MtP m1 B (tS B p) (gpE B p (wdB B p wOr)) := r1
      have hE1 := hE.f9 o1
      have hd1 : m1.1 572 12 = nI dp := (o1.fi (by unfold F9; omega)).trans hd
      cases e0 : wdB B p wOr with
      | false =>
        rw [e0] at r1'
        rw [if_neg (by rw [e0]; exact Bool.false_ne_true)] at hQ
        refine R_ifb_eq (pc := 16) (tgt := 38) dX12_readCond_16 (by decide) (fun g1 => ?_) (fun g1 => ?_)
        · skip
          refine T_iconst (pc := 38) (v := nI 1) dX12_readCond_38 (by decide) ?_
          exact T_iret (pc := 39) (ty := .boolean) dX12_readCond_39 rfl (by decide) (Nat.le_refl _) (Nat.le_refl _) (hQ _ _ (LqM.ok (q := (p, lq)) (MtP.s r1') hE1 hd1 (hO.trans o1.d)))
        · first | exact absurd g1 (by decide) | exact absurd g1 (fun z => by cases z)
      | true =>
        rw [e0] at r1'
        rw [if_pos e0] at hQ
        have hg2 := hg e0
        have hA9 := hA m1 (tE B p) (l ++ lq) (MtQ.s r1'.1) hte.2 hE1 (by omega) hd1
        refine R_ifb_eq (pc := 16) (tgt := 38) dX12_readCond_16 (by decide) (fun g1 => ?_) (fun g1 => ?_)
        · first | exact absurd g1 (by decide) | exact absurd g1 (fun z => by cases z)
        · skip
          refine T_aload_n (pc := 19) (i := 0) dX12_readCond_19 rfl rfl ?_
          refine R_callVm1 (pc := 20) (As := []) (rest := []) (Or.inl lk_X12_276) mk_X12_readAllOf hA9 kc_572 ⟨by decide, rfl⟩ lc_572 dX12_readCond_20 rfl rfl (Nat.le_of_ble_eq_true rfl) (by omega) rfl (Nat.le_refl _) (Nat.le_refl _) (fun m2 h2 => ?_)
          obtain ⟨r2, o2⟩ := h2
          cases e2 : (A) (tE B p) with
          | inl z =>
            rw [e2] at r2 hQ
            refine R_ifb_ne (pc := 23) (tgt := 28) dX12_readCond_23 (by decide) (fun g2 => ?_) (fun g2 => ?_)
            · first | exact absurd g2 (by decide) | exact absurd g2 (fun z => by cases z)
            · skip
              refine T_iconst (pc := 26) (v := nI 0) dX12_readCond_26 (by decide) ?_
              exact T_iret (pc := 27) (ty := .boolean) dX12_readCond_27 rfl (by decide) (Nat.le_refl _) (Nat.le_refl _) (hQ _ _ (LqM.bad r2 ((hO.trans o1.d).trans o2)))
          | inr q =>
            rw [e2] at r2 hQ
            dsimp only at hQ
            have hgr := gA (tE B p) q hte.2 e2
            obtain ⟨a1, a2, a3⟩ := r2
            have hlen : (l ++ lq ++ q.2).length = (l ++ lq).length + q.2.length := List.length_append
            have hw := a2.w (s := -14)
            have ew : l ++ lq ++ q.2 ++ [-14] = l ++ (lq ++ q.2 ++ [-14]) := by simp only [List.append_assoc]
            rw [ew] at hw
            have hl2 : (l ++ (lq ++ q.2 ++ [-14])).length < q.1 := by
              rw [← ew, List.length_append, List.length_singleton]
              omega
            refine R_ifb_ne (pc := 23) (tgt := 28) dX12_readCond_23 (by decide) (fun g2 => ?_) (fun g2 => ?_)
            · skip
              refine T_aload_n (pc := 28) (i := 0) dX12_readCond_28 rfl rfl ?_
              refine T_bipush (pc := 29) (v := nI 12) dX12_readCond_29 (by decide) ?_
              refine T_iconst (pc := 31) (v := nI 0) dX12_readCond_31 (by decide) ?_
              refine R_callV0 (pc := 32) (As := [.int (nI 12), .int (nI 0)]) (rest := []) (Or.inl lk_X12_238) mk_X12_emits (m_emits a2.1 (by omega)) kc_572 ⟨by decide, rfl⟩ lc_572 dX12_readCond_32 rfl rfl (Nat.le_of_ble_eq_true rfl) (by omega) rfl (Nat.le_refl _) (Nat.le_refl _) ?_
              refine T_goto (pc := 35) (tgt := 9) dX12_readCond_35 (by decide) ?_
              exact ih q.1 (lq ++ q.2 ++ [-14]) _ Q hQ (by omega) hgr.2 (a1.e) hw hl2 ((eW_f (by decide)).trans a3) (((hO.trans o1.d).trans o2).trans OfD.e)
            · first | exact absurd g2 (by decide) | exact absurd g2 (fun z => by cases z)
  have hA0 := hA μ p l hT hp hE hn hd
  refine Ex.of (by decide +kernel) rfl (Nat.le_of_ble_eq_true rfl) ?_
  show T _ _ _ _ _ _ _ _ _ [some (.ref 572)] [] (rm μ)
  refine T_aload_n (pc := 0) (i := 0) dX12_readCond_0 rfl rfl ?_
  refine R_callVm1 (pc := 1) (As := []) (rest := []) (Or.inl lk_X12_276) mk_X12_readAllOf hA0 kc_572 ⟨by decide, rfl⟩ lc_572 dX12_readCond_1 rfl rfl (Nat.le_of_ble_eq_true rfl) (by omega) rfl (Nat.le_refl _) (Nat.le_refl _) (fun m1 h1 => ?_)
  obtain ⟨r1, o1⟩ := h1
  cases e1 : (A) p with
  | inl z =>
    rw [e1] at r1
    have ev : lvS B (A) (fun p => wdB B p wOr) (-14) p = .inl z := by unfold lvS; rw [e1]
    rw [ev]
    refine R_ifb_ne (pc := 4) (tgt := 9) dX12_readCond_4 (by decide) (fun g1 => ?_) (fun g1 => ?_)
    · first | exact absurd g1 (by decide) | exact absurd g1 (fun z => by cases z)
    · skip
      refine T_iconst (pc := 7) (v := nI 0) dX12_readCond_7 (by decide) ?_
      exact T_iret (pc := 8) (ty := .boolean) dX12_readCond_8 rfl (by decide) (Nat.le_refl _) (Nat.le_refl _) (LqM.bad r1 o1)
  | inr q =>
    rw [e1] at r1
    have ev : lvS B (A) (fun p => wdB B p wOr) (-14) p = lvL B (A) (fun p => wdB B p wOr) (-14) 400 q.1 q.2 := by unfold lvS; rw [e1]
    rw [ev]
    have hgr := gA p q hp e1
    have hlen : (l ++ q.2).length = l.length + q.2.length := List.length_append
    obtain ⟨a1, a2, a3⟩ := r1
    refine R_ifb_ne (pc := 4) (tgt := 9) dX12_readCond_4 (by decide) (fun g1 => ?_) (fun g1 => ?_)
    · skip
      exact loop 400 q.1 q.2 m1 _ (fun o m9 h => h) (by omega) hgr.2 a1 a2 (by omega) a3 o1
    · first | exact absurd g1 (by decide) | exact absurd g1 (fun z => by cases z)
end MLS

