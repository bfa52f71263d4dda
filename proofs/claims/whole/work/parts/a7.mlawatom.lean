/-! THE MODEL: THE LAW's text, a thing that holds or not -/
section MLA
variable {γ : Ga} {μ : SM2}
theorem m_readSumL {B : List Nat} {dp : Nat} : LqMC γ M_X12_readSum B (lvSum B) dp 8 := m_readSum
theorem lvN_s {B : List Nat} {r p : Nat} : lvN B (r + 1) p = if wdB B p wNot = true then (match lvA B r (tE B p) with | .inl e => .inl e | .inr q => .inr (q.1, q.2 ++ [-8])) else (match lvOr B (lvA B r) (tE B p) with | .inl e => .inl e | .inr q => if tK B q.1 = nI 41 then .inr (tE B q.1, q.2) else .inl (tS B q.1)) := rfl
theorem m_atomT {B : List Nat} {dp : Nat} {l : List Int32} {q : Nat × List Int32} {less : Bool} {s : Int32} {D : Nat} {m0 m : SM2} (hD : 9 ≤ D) (hq : q.1 ≤ B.length) (hl : (l ++ q.2).length < q.1) (hT : MtQ m B (tE B q.1)) (hg : q.1 < tE B q.1) (hE : Emt m (l ++ q.2)) (hd : m.1 572 12 = nI dp) (hO : OfD m0 m) (hs : s = if less = true then -11 else -12) : T γ D 0 0 M_X12_readAtom (LqM B m0 l dp (match lvSum B (tE B q.1) with | .inl e => .inl e | .inr r => .inr (r.1, q.2 ++ r.2 ++ [s]))) 0 0 162 [some (.ref 572), some (.int (bI less))] [] (rm m) := by
  have h400 := hT.1.1.2
  have hte := tE_le hq
  have hS := m_readSumL (γ := γ) (B := B) (dp := dp) m (tE B q.1) (l ++ q.2) hT.s hte.2 hE (by omega) hd
  refine T_aload_n (pc := 162) (i := 0) dX12_readAtom_162 rfl rfl ?_
  refine R_callVm1 (pc := 163) (As := []) (rest := []) (Or.inl lk_X12_271) mk_X12_readSum hS kc_572 ⟨by decide, rfl⟩ lc_572 dX12_readAtom_163 rfl rfl (Nat.le_of_ble_eq_true rfl) (by omega) rfl (Nat.le_refl _) (Nat.le_refl _) (fun m1 h1 => ?_)
  obtain ⟨r1, o1⟩ := h1
  have r1' : LqMP B m1 (l ++ q.2) dp (lvSum B (tE B q.1)) := r1
  cases e : lvSum B (tE B q.1) with
  | inl z =>
    rw [e] at r1'
    refine R_ifb_ne (pc := 166) (tgt := 171) dX12_readAtom_166 (by decide) (fun g1 => ?_) (fun g1 => ?_)
    · exact absurd g1 (fun z => by cases z)
    · skip
      refine T_iconst (pc := 169) (v := nI 0) dX12_readAtom_169 (by decide) ?_
      exact T_iret (pc := 170) (ty := .boolean) dX12_readAtom_170 rfl (by decide) (Nat.le_refl _) (Nat.le_refl _) (LqM.bad r1' (hO.trans o1))
  | inr r =>
    rw [e] at r1'
    obtain ⟨a1, a2, a3⟩ := r1'
    have hgr := gr_lvSum (B := B) (tE B q.1) r hte.2 e
    have hlen : (l ++ q.2 ++ r.2).length = (l ++ q.2).length + r.2.length := List.length_append
    have hw := a2.w (s := s)
    have ew : l ++ q.2 ++ r.2 ++ [s] = l ++ (q.2 ++ r.2 ++ [s]) := by simp only [List.append_assoc]
    rw [ew] at hw
    refine R_ifb_ne (pc := 166) (tgt := 171) dX12_readAtom_166 (by decide) (fun g1 => ?_) (fun g1 => ?_)
    · skip
      refine T_aload_n (pc := 171) (i := 0) dX12_readAtom_171 rfl rfl ?_
      refine T_iload_n (pc := 172) (i := 1) dX12_readAtom_172 rfl rfl ?_
      cases less with
      | true =>
        have es : s = -11 := hs
        rw [es] at hw ⊢
        refine R_ifb_eq (pc := 173) (tgt := 181) dX12_readAtom_173 (by decide) (fun g2 => ?_) (fun g2 => ?_)
        · exact absurd g2 (fun z => by cases z)
        · skip
          refine T_bipush (pc := 176) (v := nI 8) dX12_readAtom_176 (by decide) ?_
          refine T_goto (pc := 178) (tgt := 183) dX12_readAtom_178 (by decide) ?_
          refine T_iconst (pc := 183) (v := nI 0) dX12_readAtom_183 (by decide) ?_
          refine R_callV0 (pc := 184) (As := [.int (nI 8), .int (nI 0)]) (rest := []) (Or.inl lk_X12_238) mk_X12_emits (m_emits a2.1 (by omega)) kc_572 ⟨by decide, rfl⟩ lc_572 dX12_readAtom_184 rfl rfl (Nat.le_of_ble_eq_true rfl) (by omega) rfl (Nat.le_refl _) (Nat.le_refl _) ?_
          refine T_iconst (pc := 187) (v := nI 1) dX12_readAtom_187 (by decide) ?_
          exact T_iret (pc := 188) (ty := .boolean) dX12_readAtom_188 rfl (by decide) (Nat.le_refl _) (Nat.le_refl _) (LqM.ok (q := (r.1, q.2 ++ r.2 ++ [-11])) a1.e hw ((eW_f (by decide)).trans a3) ((hO.trans o1).trans OfD.e))
      | false =>
        have es : s = -12 := hs
        rw [es] at hw ⊢
        refine R_ifb_eq (pc := 173) (tgt := 181) dX12_readAtom_173 (by decide) (fun g2 => ?_) (fun g2 => ?_)
        · skip
          refine T_bipush (pc := 181) (v := nI 9) dX12_readAtom_181 (by decide) ?_
          refine T_iconst (pc := 183) (v := nI 0) dX12_readAtom_183 (by decide) ?_
          refine R_callV0 (pc := 184) (As := [.int (nI 9), .int (nI 0)]) (rest := []) (Or.inl lk_X12_238) mk_X12_emits (m_emits a2.1 (by omega)) kc_572 ⟨by decide, rfl⟩ lc_572 dX12_readAtom_184 rfl rfl (Nat.le_of_ble_eq_true rfl) (by omega) rfl (Nat.le_refl _) (Nat.le_refl _) ?_
          refine T_iconst (pc := 187) (v := nI 1) dX12_readAtom_187 (by decide) ?_
          exact T_iret (pc := 188) (ty := .boolean) dX12_readAtom_188 rfl (by decide) (Nat.le_refl _) (Nat.le_refl _) (LqM.ok (q := (r.1, q.2 ++ r.2 ++ [-12])) a1.e hw ((eW_f (by decide)).trans a3) ((hO.trans o1).trans OfD.e))
        · exact absurd g2 (fun z => by cases z)
    · exact absurd g1 (fun z => by cases z)
theorem m_atomX {B : List Nat} {r deep D : Nat} (hD : 9 ≤ D) (hdp : deep ≤ 6) (h0 : r = 0 → deep = 6) (hN : ∀ r', r = r' + 1 → deep < 6 ∧ ∃ D1 D2, D1 < D ∧ D2 < D ∧ LqMC γ M_X12_readAtom B (lvA B r') (deep + 1) D1 ∧ LqMC γ M_X12_readCond B (lvOr B (lvA B r')) (deep + 1) D2) : LqMC γ M_X12_readAtom B (lvA B r) deep D := by
  intro μ p l hT hp hE hn hd
  have hb := hT.b.b
  have h400 := hT.b.1.2
  have hse := tS_le hp
  have hte := tE_le hp
  refine Ex.of (by decide +kernel) rfl (Nat.le_of_ble_eq_true rfl) ?_
  show T _ _ _ _ _ _ _ _ _ [some (.ref 572), none] [] (rm μ)
  refine T_aload_n (pc := 0) (i := 0) dX12_readAtom_0 rfl rfl ?_
  refine T_bipush (pc := 1) (v := nI 40) dX12_readAtom_1 (by decide) ?_
  refine R_callVm1 (pc := 3) (As := [.int (nI 40)]) (rest := []) (Or.inl lk_X12_252) mk_X12_sign (m_signS hT (c := 40) (by decide) (by decide)) kc_572 ⟨by decide, rfl⟩ lc_572 dX12_readAtom_3 rfl rfl (Nat.le_of_ble_eq_true rfl) (by omega) rfl (Nat.le_refl _) (Nat.le_refl _) (fun m1 h1 => ?_)
  obtain ⟨r1, o1⟩ := h1
  have hE1 := hE.f9 o1
  have hd1 : m1.1 572 12 = nI deep := (o1.fi (by unfold F9; omega)).trans hd
  by_cases h40 : tK B p = nI 40
  · have hgt : p < tE B p := tE_gt hp (by rw [h40]; decide)
    have nw : wdB B p wNot = false := by
      cases e : wdB B p wNot with
      | false => rfl
      | true => exact absurd (h40.symm.trans (wd_k e)) (by decide)
    rw [decide_eq_true h40] at r1
    rw [lvA_n r (Or.inr h40)]
    rw [decide_eq_true h40]
    have q1 : MtQ m1 B (tE B p) := r1.1
    refine R_ifb_eq (pc := 6) (tgt := 56) dX12_readAtom_6 (by decide) (fun g1 => ?_) (fun g1 => ?_)
    · exact absurd g1 (fun z => by cases z)
    · skip
      refine T_aload_n (pc := 9) (i := 0) dX12_readAtom_9 rfl rfl ?_
      refine R_getI (pc := 10) (x := nI deep) fl_X12_256 rfl kc_572 lc_572 hd1 dX12_readAtom_10 ?_
      refine T_bipush (pc := 13) (v := nI 6) dX12_readAtom_13 (by decide) ?_
      refine R_icmp_ne (pc := 15) (tgt := 20) (by omega) (by omega) dX12_readAtom_15 (by decide) (fun g2 => ?_) (fun g2 => ?_)
      · skip
        cases r with
        | zero => exact absurd (h0 rfl) g2
        | succ r =>
          obtain ⟨hd6, D1, D2, hD1, hD2, hA, hO⟩ := hN r rfl
          have ev : lvN B (r + 1) p = match lvOr B (lvA B r) (tE B p) with | .inl e => .inl e | .inr q => if tK B q.1 = nI 41 then .inr (tE B q.1, q.2) else .inl (tS B q.1) := by
            rw [lvN_s, nw]
            rfl
          rw [ev]
          have hO9 := hO (wI m1 572 12 (nI (deep + 1))) (tE B p) l (q1.s.f (by decide)) hte.2 (hE1.f (by decide)) (by omega) (e_wI ⟨rfl, rfl⟩)
          refine T_aload_n (pc := 20) (i := 0) dX12_readAtom_20 rfl rfl ?_
          refine T_dup (pc := 21) dX12_readAtom_21 rfl ?_
          refine R_getI (pc := 22) (x := nI deep) fl_X12_256 rfl kc_572 lc_572 hd1 dX12_readAtom_22 ?_
          refine T_iconst (pc := 25) (v := nI 1) dX12_readAtom_25 (by decide) ?_
          refine R_iadd (pc := 26) dX12_readAtom_26 ?_
          refine R_putI (pc := 27) fl_X12_256 ⟨rfl, rfl⟩ (Or.inl rfl) kc_572 lc_572 dX12_readAtom_27 ?_
          refine T_aload_n (pc := 30) (i := 0) dX12_readAtom_30 rfl rfl ?_
          refine R_callVm1 (pc := 31) (As := []) (rest := []) (Or.inl lk_X12_259) mk_X12_readCond hO9 kc_572 ⟨by decide, rfl⟩ lc_572 dX12_readAtom_31 rfl rfl (Nat.le_of_ble_eq_true rfl) (by omega) rfl (Nat.le_refl _) (Nat.le_refl _) (fun m2 h2 => ?_)
          obtain ⟨r2, o2⟩ := h2
          have r2' : LqMP B m2 l (deep + 1) (lvOr B (lvA B r) (tE B p)) := r2
          have O2 : OfD μ m2 := (OfD.f o1.d (Or.inr (Or.inr (Or.inl rfl)))).trans o2
          cases e : lvOr B (lvA B r) (tE B p) with
          | inl z =>
            rw [e] at r2'
            refine R_ifb_ne (pc := 34) (tgt := 39) dX12_readAtom_34 (by decide) (fun g3 => ?_) (fun g3 => ?_)
            · exact absurd g3 (fun z => by cases z)
            · skip
              refine T_iconst (pc := 37) (v := nI 0) dX12_readAtom_37 (by decide) ?_
              exact T_iret (pc := 38) (ty := .boolean) dX12_readAtom_38 rfl (by decide) (Nat.le_refl _) (Nat.le_refl _) (LqM.bad r2' O2)
          | inr q =>
            rw [e] at r2'
            obtain ⟨a1, a2, a3⟩ := r2'
            dsimp only
            refine R_ifb_ne (pc := 34) (tgt := 39) dX12_readAtom_34 (by decide) (fun g3 => ?_) (fun g3 => ?_)
            · skip
              refine T_aload_n (pc := 39) (i := 0) dX12_readAtom_39 rfl rfl ?_
              refine T_dup (pc := 40) dX12_readAtom_40 rfl ?_
              refine R_getI (pc := 41) (x := nI (deep + 1)) fl_X12_256 rfl kc_572 lc_572 a3 dX12_readAtom_41 ?_
              refine T_iconst (pc := 44) (v := nI 1) dX12_readAtom_44 (by decide) ?_
              refine R_isub (pc := 45) (by omega) dX12_readAtom_45 ?_
              refine R_putI (pc := 46) fl_X12_256 ⟨rfl, rfl⟩ (Or.inl rfl) kc_572 lc_572 dX12_readAtom_46 ?_
              refine T_aload_n (pc := 49) (i := 0) dX12_readAtom_49 rfl rfl ?_
              refine T_bipush (pc := 50) (v := nI 41) dX12_readAtom_50 (by decide) ?_
              refine R_callVm1 (pc := 52) (As := [.int (nI 41)]) (rest := []) (Or.inl lk_X12_252) mk_X12_sign (m_signS (a1.f (by decide)) (c := 41) (by decide) (by decide)) kc_572 ⟨by decide, rfl⟩ lc_572 dX12_readAtom_52 rfl rfl (Nat.le_of_ble_eq_true rfl) (by omega) rfl (Nat.le_refl _) (Nat.le_refl _) (fun m3 h3 => ?_)
              obtain ⟨r3, o3⟩ := h3
              have d3 : m3.1 572 12 = nI deep := (o3.fi (by unfold F9; omega)).trans (e_wI ⟨rfl, rfl⟩)
              have E3 : Emt m3 (l ++ q.2) := (a2.f (by decide)).f9 o3
              have O3 : OfD μ m3 := (OfD.f O2 (Or.inr (Or.inr (Or.inl rfl)))).trans o3.d
              by_cases h41 : tK B q.1 = nI 41
              · rw [decide_eq_true h41] at r3
                rw [decide_eq_true h41, if_pos h41]
                have q3 : MtQ m3 B (tE B q.1) := r3.1
                exact T_iret (pc := 55) (ty := .boolean) dX12_readAtom_55 rfl (nar_b _) (Nat.le_refl _) (Nat.le_refl _) (LqM.ok (q := (tE B q.1, q.2)) q3.s E3 d3 O3)
              · rw [decide_eq_false h41, if_neg h41]
                exact T_iret (pc := 55) (ty := .boolean) dX12_readAtom_55 rfl (nar_b _) (Nat.le_refl _) (Nat.le_refl _) (LqM.bad r3.2 O3)
            · exact absurd g3 (fun z => by cases z)
      · skip
        have hr : r = 0 := by
          cases r with
          | zero => rfl
          | succ r => exact absurd g2 (by have := (hN r rfl).1; omega)
        rw [hr, show lvN B 0 p = .inl (tS B p) from rfl]
        refine T_iconst (pc := 18) (v := nI 0) dX12_readAtom_18 (by decide) ?_
        exact T_iret (pc := 19) (ty := .boolean) dX12_readAtom_19 rfl (by decide) (Nat.le_refl _) (Nat.le_refl _) (LqM.bad r1.2 o1.d)
  · rw [decide_eq_false h40] at r1
    rw [decide_eq_false h40]
    have s1 : MtS m1 B p := MtP.s r1
    refine R_ifb_eq (pc := 6) (tgt := 56) dX12_readAtom_6 (by decide) (fun g1 => ?_) (fun g1 => ?_)
    · skip
      refine T_aload_n (pc := 56) (i := 0) dX12_readAtom_56 rfl rfl ?_
      refine T_ldcSw (pc := 57) (i := 35) rfl dX12_readAtom_57 ?_
      refine R_callVm1 (pc := 60) (As := [.ref (XB + (35 + 1))]) (rest := []) (Or.inl lk_X12_264) mk_X12_passes (m_word (a := ("BeastRulesModel", 262, "not")) s1 sm35) kc_572 ⟨by decide, rfl⟩ lc_572 dX12_readAtom_60 rfl rfl (Nat.le_of_ble_eq_true rfl) (by omega) rfl (Nat.le_refl _) (Nat.le_refl _) (fun m2 h2 => ?_)
      obtain ⟨r2, o2⟩ := h2
      have r2' : MtP m2 B (tS B p) (gpE B p (wdB B p wNot)) := r2
      have hE2 := hE1.f9 o2
      have hd2 : m2.1 572 12 = nI deep := (o2.fi (by unfold F9; omega)).trans hd1
      have O2 : OfD μ m2 := (o1.trans o2).d
      cases nw : wdB B p wNot with
      | true =>
        rw [nw] at r2'
        have q2 : MtQ m2 B (tE B p) := r2'.1
        have hgt : p < tE B p := wd_gt hp nw
        rw [lvA_n r (Or.inl nw)]
        refine R_ifb_eq (pc := 63) (tgt := 115) dX12_readAtom_63 (by decide) (fun g2 => ?_) (fun g2 => ?_)
        · exact absurd g2 (fun z => by cases z)
        · skip
          refine T_aload_n (pc := 66) (i := 0) dX12_readAtom_66 rfl rfl ?_
          refine R_getI (pc := 67) (x := nI deep) fl_X12_256 rfl kc_572 lc_572 hd2 dX12_readAtom_67 ?_
          refine T_bipush (pc := 70) (v := nI 6) dX12_readAtom_70 (by decide) ?_
          refine R_icmp_ne (pc := 72) (tgt := 77) (by omega) (by omega) dX12_readAtom_72 (by decide) (fun g3 => ?_) (fun g3 => ?_)
          · skip
            cases r with
            | zero => exact absurd (h0 rfl) g3
            | succ r =>
              obtain ⟨hd6, D1, D2, hD1, hD2, hA, hO⟩ := hN r rfl
              have ev : lvN B (r + 1) p = match lvA B r (tE B p) with | .inl e => .inl e | .inr q => .inr (q.1, q.2 ++ [-8]) := by
                rw [lvN_s, nw]
                rfl
              rw [ev]
              have hA9 := hA (wI m2 572 12 (nI (deep + 1))) (tE B p) l (q2.s.f (by decide)) hte.2 (hE2.f (by decide)) (by omega) (e_wI ⟨rfl, rfl⟩)
              refine T_aload_n (pc := 77) (i := 0) dX12_readAtom_77 rfl rfl ?_
              refine T_dup (pc := 78) dX12_readAtom_78 rfl ?_
              refine R_getI (pc := 79) (x := nI deep) fl_X12_256 rfl kc_572 lc_572 hd2 dX12_readAtom_79 ?_
              refine T_iconst (pc := 82) (v := nI 1) dX12_readAtom_82 (by decide) ?_
              refine R_iadd (pc := 83) dX12_readAtom_83 ?_
              refine R_putI (pc := 84) fl_X12_256 ⟨rfl, rfl⟩ (Or.inl rfl) kc_572 lc_572 dX12_readAtom_84 ?_
              refine T_aload_n (pc := 87) (i := 0) dX12_readAtom_87 rfl rfl ?_
              refine R_callVm1 (pc := 88) (As := []) (rest := []) (Or.inl lk_X12_267) mk_X12_readAtom hA9 kc_572 ⟨by decide, rfl⟩ lc_572 dX12_readAtom_88 rfl rfl (Nat.le_of_ble_eq_true rfl) (by omega) rfl (Nat.le_refl _) (Nat.le_refl _) (fun m3 h3 => ?_)
              obtain ⟨r3, o3⟩ := h3
              have r3' : LqMP B m3 l (deep + 1) (lvA B r (tE B p)) := r3
              have O3 : OfD μ m3 := (OfD.f O2 (Or.inr (Or.inr (Or.inl rfl)))).trans o3
              cases e : lvA B r (tE B p) with
              | inl z =>
                rw [e] at r3'
                refine R_ifb_ne (pc := 91) (tgt := 96) dX12_readAtom_91 (by decide) (fun g4 => ?_) (fun g4 => ?_)
                · exact absurd g4 (fun z => by cases z)
                · skip
                  refine T_iconst (pc := 94) (v := nI 0) dX12_readAtom_94 (by decide) ?_
                  exact T_iret (pc := 95) (ty := .boolean) dX12_readAtom_95 rfl (by decide) (Nat.le_refl _) (Nat.le_refl _) (LqM.bad r3' O3)
              | inr q =>
                rw [e] at r3'
                obtain ⟨a1, a2, a3⟩ := r3'
                have hgr := gr_lvA (B := B) r (tE B p) q hte.2 e
                have hlen : (l ++ q.2).length = l.length + q.2.length := List.length_append
                have a4 : Emt (wI m3 572 12 (nI (deep + 1 - 1))) (l ++ q.2) := a2.f (by decide)
                have hw := a4.w (s := -8)
                rw [List.append_assoc] at hw
                dsimp only
                refine R_ifb_ne (pc := 91) (tgt := 96) dX12_readAtom_91 (by decide) (fun g4 => ?_) (fun g4 => ?_)
                · skip
                  refine T_aload_n (pc := 96) (i := 0) dX12_readAtom_96 rfl rfl ?_
                  refine T_dup (pc := 97) dX12_readAtom_97 rfl ?_
                  refine R_getI (pc := 98) (x := nI (deep + 1)) fl_X12_256 rfl kc_572 lc_572 a3 dX12_readAtom_98 ?_
                  refine T_iconst (pc := 101) (v := nI 1) dX12_readAtom_101 (by decide) ?_
                  refine R_isub (pc := 102) (by omega) dX12_readAtom_102 ?_
                  refine R_putI (pc := 103) fl_X12_256 ⟨rfl, rfl⟩ (Or.inl rfl) kc_572 lc_572 dX12_readAtom_103 ?_
                  refine T_aload_n (pc := 106) (i := 0) dX12_readAtom_106 rfl rfl ?_
                  refine T_bipush (pc := 107) (v := nI 10) dX12_readAtom_107 (by decide) ?_
                  refine T_iconst (pc := 109) (v := nI 0) dX12_readAtom_109 (by decide) ?_
                  refine R_callV0 (pc := 110) (As := [.int (nI 10), .int (nI 0)]) (rest := []) (Or.inl lk_X12_238) mk_X12_emits (m_emits a4.1 (by omega)) kc_572 ⟨by decide, rfl⟩ lc_572 dX12_readAtom_110 rfl rfl (Nat.le_of_ble_eq_true rfl) (by omega) rfl (Nat.le_refl _) (Nat.le_refl _) ?_
                  refine T_iconst (pc := 113) (v := nI 1) dX12_readAtom_113 (by decide) ?_
                  exact T_iret (pc := 114) (ty := .boolean) dX12_readAtom_114 rfl (by decide) (Nat.le_refl _) (Nat.le_refl _) (LqM.ok (q := (q.1, q.2 ++ [-8])) ((a1.f (by decide)).e) hw ((eW_f (by decide)).trans (e_wI ⟨rfl, rfl⟩)) ((OfD.f O3 (Or.inr (Or.inr (Or.inl rfl)))).trans OfD.e))
                · exact absurd g4 (fun z => by cases z)
          · skip
            have hr : r = 0 := by
              cases r with
              | zero => rfl
              | succ r => exact absurd g3 (by have := (hN r rfl).1; omega)
            rw [hr, show lvN B 0 p = .inl (tS B p) from rfl]
            refine T_iconst (pc := 75) (v := nI 0) dX12_readAtom_75 (by decide) ?_
            exact T_iret (pc := 76) (ty := .boolean) dX12_readAtom_76 rfl (by decide) (Nat.le_refl _) (Nat.le_refl _) (LqM.bad r2.2 O2)
      | false =>
        rw [nw] at r2'
        have s2 : MtS m2 B p := MtP.s r2'
        rw [lvA_t r (by rw [nw]; exact Bool.false_ne_true) h40]
        refine R_ifb_eq (pc := 63) (tgt := 115) dX12_readAtom_63 (by decide) (fun g2 => ?_) (fun g2 => ?_)
        · skip
          refine T_aload_n (pc := 115) (i := 0) dX12_readAtom_115 rfl rfl ?_
          refine T_ldcSw (pc := 116) (i := 36) rfl dX12_readAtom_116 ?_
          refine R_callVm1 (pc := 119) (As := [.ref (XB + (36 + 1))]) (rest := []) (Or.inl lk_X12_264) mk_X12_passes (m_word (a := ("BeastRulesModel", 270, "end")) s2 sm36) kc_572 ⟨by decide, rfl⟩ lc_572 dX12_readAtom_119 rfl rfl (Nat.le_of_ble_eq_true rfl) (by omega) rfl (Nat.le_refl _) (Nat.le_refl _) (fun m3 h3 => ?_)
          obtain ⟨r3, o3⟩ := h3
          have r3' : MtP m3 B (tS B p) (gpE B p (wdB B p wEnd)) := r3
          have hE3 := hE2.f9 o3
          have hd3 : m3.1 572 12 = nI deep := (o3.fi (by unfold F9; omega)).trans hd2
          have O3 : OfD μ m3 := O2.trans o3.d
          cases nx : wdB B p wEnd with
          | true =>
            rw [nx] at r3'
            have q3 : MtQ m3 B (tE B p) := r3'.1
            have ev : lvT B p = .inr (tE B p, [-7]) := by
              unfold lvT
              rw [nx]
              rfl
            have hw := hE3.w (s := -7)
            rw [ev]
            refine R_ifb_eq (pc := 122) (tgt := 133) dX12_readAtom_122 (by decide) (fun g3 => ?_) (fun g3 => ?_)
            · exact absurd g3 (fun z => by cases z)
            · skip
              refine T_aload_n (pc := 125) (i := 0) dX12_readAtom_125 rfl rfl ?_
              refine T_iconst (pc := 126) (v := nI 5) dX12_readAtom_126 (by decide) ?_
              refine T_iconst (pc := 127) (v := nI 0) dX12_readAtom_127 (by decide) ?_
              refine R_callV0 (pc := 128) (As := [.int (nI 5), .int (nI 0)]) (rest := []) (Or.inl lk_X12_238) mk_X12_emits (m_emits hE3.1 (by omega)) kc_572 ⟨by decide, rfl⟩ lc_572 dX12_readAtom_128 rfl rfl (Nat.le_of_ble_eq_true rfl) (by omega) rfl (Nat.le_refl _) (Nat.le_refl _) ?_
              refine T_iconst (pc := 131) (v := nI 1) dX12_readAtom_131 (by decide) ?_
              exact T_iret (pc := 132) (ty := .boolean) dX12_readAtom_132 rfl (by decide) (Nat.le_refl _) (Nat.le_refl _) (LqM.ok (q := (tE B p, [-7])) q3.e.s hw ((eW_f (by decide)).trans hd3) (O3.trans OfD.e))
          | false =>
            rw [nx] at r3'
            have s3 : MtS m3 B p := MtP.s r3'
            have ev : lvT B p = lvC B p := by
              unfold lvT
              rw [nx]
              rfl
            rw [ev]
            have hS9 := m_readSumL (γ := γ) (B := B) (dp := deep) m3 p l s3 hp hE3 hn hd3
            refine R_ifb_eq (pc := 122) (tgt := 133) dX12_readAtom_122 (by decide) (fun g3 => ?_) (fun g3 => ?_)
            · skip
              refine T_aload_n (pc := 133) (i := 0) dX12_readAtom_133 rfl rfl ?_
              refine R_callVm1 (pc := 134) (As := []) (rest := []) (Or.inl lk_X12_271) mk_X12_readSum hS9 kc_572 ⟨by decide, rfl⟩ lc_572 dX12_readAtom_134 rfl rfl (Nat.le_of_ble_eq_true rfl) (by omega) rfl (Nat.le_refl _) (Nat.le_refl _) (fun m4 h4 => ?_)
              obtain ⟨r4, o4⟩ := h4
              have r4' : LqMP B m4 l deep (lvSum B p) := r4
              have O4 : OfD μ m4 := O3.trans o4
              cases e : lvSum B p with
              | inl z =>
                rw [e] at r4'
                rw [lvC_no e]
                refine R_ifb_ne (pc := 137) (tgt := 142) dX12_readAtom_137 (by decide) (fun g4 => ?_) (fun g4 => ?_)
                · exact absurd g4 (fun z => by cases z)
                · skip
                  refine T_iconst (pc := 140) (v := nI 0) dX12_readAtom_140 (by decide) ?_
                  exact T_iret (pc := 141) (ty := .boolean) dX12_readAtom_141 rfl (by decide) (Nat.le_refl _) (Nat.le_refl _) (LqM.bad r4' O4)
              | inr q =>
                rw [e] at r4'
                obtain ⟨a1, a2, a3⟩ := r4'
                have hgr := gr_lvSum (B := B) p q hp e
                have hlen : (l ++ q.2).length = l.length + q.2.length := List.length_append
                refine R_ifb_ne (pc := 137) (tgt := 142) dX12_readAtom_137 (by decide) (fun g4 => ?_) (fun g4 => ?_)
                · skip
                  refine T_aload_n (pc := 142) (i := 0) dX12_readAtom_142 rfl rfl ?_
                  refine T_bipush (pc := 143) (v := nI 60) dX12_readAtom_143 (by decide) ?_
                  refine R_callVm1 (pc := 145) (As := [.int (nI 60)]) (rest := []) (Or.inl lk_X12_252) mk_X12_sign (m_signS a1 (c := 60) (by decide) (by decide)) kc_572 ⟨by decide, rfl⟩ lc_572 dX12_readAtom_145 rfl rfl (Nat.le_of_ble_eq_true rfl) (by omega) rfl (Nat.le_refl _) (Nat.le_refl _) (fun m5 h5 => ?_)
                  obtain ⟨r5, o5⟩ := h5
                  have O5 : OfD μ m5 := O4.trans o5.d
                  have E5 := a2.f9 o5
                  have d5 : m5.1 572 12 = nI deep := (o5.fi (by unfold F9; omega)).trans a3
                  by_cases h60 : tK B q.1 = nI 60
                  · rw [decide_eq_true h60] at r5
                    rw [decide_eq_true h60, lvC_60 e h60]
                    have q5 : MtQ m5 B (tE B q.1) := r5.1
                    have h9 := m_atomT (γ := γ) (l := l) (less := true) hD hgr.2 (by omega) q5 (tE_gt hgr.2 (by rw [h60]; decide)) E5 d5 O5 rfl
                    have ed : lvD B (-11) 60 q = match lvSum B (tE B q.1) with | .inl e => .inl e | .inr r => .inr (r.1, q.2 ++ r.2 ++ [if true = true then -11 else -12]) := by
                      unfold lvD
                      rw [if_pos h60]
                      rfl
                    rw [ed]
                    refine T_istore_n (pc := 148) (i := 1) (ls' := [some (.ref 572), some (.int (bI true))]) dX12_readAtom_148 rfl (by decide) rfl ?_
                    refine T_iload_n (pc := 149) (i := 1) dX12_readAtom_149 rfl rfl ?_
                    refine R_ifb_ne (pc := 150) (tgt := 162) dX12_readAtom_150 (by decide) (fun g5 => ?_) (fun g5 => ?_)
                    · exact h9
                    · exact absurd g5 (fun z => by cases z)
                  · rw [decide_eq_false h60] at r5
                    rw [decide_eq_false h60, lvC_62 e h60]
                    have s5 : MtS m5 B q.1 := MtP.s r5
                    refine T_istore_n (pc := 148) (i := 1) (ls' := [some (.ref 572), some (.int (bI false))]) dX12_readAtom_148 rfl (by decide) rfl ?_
                    refine T_iload_n (pc := 149) (i := 1) dX12_readAtom_149 rfl rfl ?_
                    refine R_ifb_ne (pc := 150) (tgt := 162) dX12_readAtom_150 (by decide) (fun g5 => ?_) (fun g5 => ?_)
                    · exact absurd g5 (fun z => by cases z)
                    · skip
                      refine T_aload_n (pc := 153) (i := 0) dX12_readAtom_153 rfl rfl ?_
                      refine T_bipush (pc := 154) (v := nI 62) dX12_readAtom_154 (by decide) ?_
                      refine R_callVm1 (pc := 156) (As := [.int (nI 62)]) (rest := []) (Or.inl lk_X12_252) mk_X12_sign (m_signS s5 (c := 62) (by decide) (by decide)) kc_572 ⟨by decide, rfl⟩ lc_572 dX12_readAtom_156 rfl rfl (Nat.le_of_ble_eq_true rfl) (by omega) rfl (Nat.le_refl _) (Nat.le_refl _) (fun m6 h6 => ?_)
                      obtain ⟨r6, o6⟩ := h6
                      have O6 : OfD μ m6 := O5.trans o6.d
                      have E6 := E5.f9 o6
                      have d6 : m6.1 572 12 = nI deep := (o6.fi (by unfold F9; omega)).trans d5
                      by_cases h62 : tK B q.1 = nI 62
                      · rw [decide_eq_true h62] at r6
                        rw [decide_eq_true h62]
                        have q6 : MtQ m6 B (tE B q.1) := r6.1
                        have h9 := m_atomT (γ := γ) (l := l) (less := false) hD hgr.2 (by omega) q6 (tE_gt hgr.2 (by rw [h62]; decide)) E6 d6 O6 rfl
                        have ed : lvD B (-12) 62 q = match lvSum B (tE B q.1) with | .inl e => .inl e | .inr r => .inr (r.1, q.2 ++ r.2 ++ [if false = true then -11 else -12]) := by
                          unfold lvD
                          rw [if_pos h62]
                          rfl
                        rw [ed]
                        refine R_ifb_eq (pc := 159) (tgt := 169) dX12_readAtom_159 (by decide) (fun g6 => ?_) (fun g6 => ?_)
                        · exact absurd g6 (fun z => by cases z)
                        · exact h9
                      · rw [decide_eq_false h62]
                        have ed : lvD B (-12) 62 q = .inl (tS B q.1) := by
                          unfold lvD
                          rw [if_neg h62]
                        rw [ed]
                        refine R_ifb_eq (pc := 159) (tgt := 169) dX12_readAtom_159 (by decide) (fun g6 => ?_) (fun g6 => ?_)
                        · skip
                          refine T_iconst (pc := 169) (v := nI 0) dX12_readAtom_169 (by decide) ?_
                          exact T_iret (pc := 170) (ty := .boolean) dX12_readAtom_170 rfl (by decide) (Nat.le_refl _) (Nat.le_refl _) (LqM.bad r6.2 O6)
                        · exact absurd g6 (fun z => by cases z)
                · exact absurd g4 (fun z => by cases z)
            · exact absurd g3 (fun z => by cases z)
        · exact absurd g2 (fun z => by cases z)
    · exact absurd g1 (fun z => by cases z)
theorem m_readAtom {B : List Nat} : ∀ r deep, r + deep = 6 → LqMC γ M_X12_readAtom B (lvA B r) deep (9 + 3 * r)
  | 0, deep, h => m_atomX (by omega) (by omega) (fun _ => by omega) (fun r' hr => absurd hr (by omega))
  | r + 1, deep, h => m_atomX (by omega) (by omega) (fun z => absurd z (by omega)) (fun r' hr => by
    obtain rfl : r' = r := by omega
    have hA := m_readAtom (B := B) r' (deep + 1) (by omega)
    exact ⟨by omega, 9 + 3 * r', 9 + 3 * r' + 2, by omega, by omega, hA, m_readCond (D := 9 + 3 * r' + 1) (by omega) (gr_lvS (gr_lvA r') (fun p hp h => wd_gt hp h)) (m_readAllOf (by omega) (gr_lvA r') hA)⟩)
theorem m_readCond0 {B : List Nat} : LqMC γ M_X12_readCond B (lvOr B (lvA B 6)) 0 29 := m_readCond (D := 28) (by omega) (gr_lvS (gr_lvA 6) (fun p hp h => wd_gt hp h)) (m_readAllOf (D := 27) (by omega) (gr_lvA 6) (m_readAtom 6 0 rfl))
end MLA

