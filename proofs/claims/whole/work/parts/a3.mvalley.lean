/-! THE MODEL: a VALLEY read whole -/
theorem vLine_tS {B : List Nat} {X : Td} {p : Nat} : vLine B X (tS B p) = vLine B X p := by
  unfold vLine
  simp only [wdB_tS, tE_tS, tS_tS]
theorem vLines_tS {B : List Nat} {X : Td} {p n : Nat} : vLines B (n + 1) X (tS B p) = vLines B (n + 1) X p := by
  show (match vLine B X (tS B p) with | .inl f => Sum.inl f | .inr q => _) = _
  rw [vLine_tS]
  rfl
theorem tK_end {B : List Nat} {p : Nat} (hb : ∀ i, i < B.length → B.getD i 0 < 256) : tK B p = -1 ↔ ¬ tS B p < B.length := by
  constructor
  · intro h z
    unfold tK at h
    rw [if_pos z] at h
    split at h
    · exact absurd h (by decide)
    · split at h
      · exact absurd h (by decide)
      · exact (nI_ne2 (hb _ z)).2.2 h
  · intro h
    unfold tK
    rw [if_neg h]
def Fus (j : Nat) : Prop := j = 0 ∨ j = 8 ∨ j = 9 ∨ j = 10
/-- how many lines, i ahead of them -/
def vCn (B : List Nat) : Nat → Nat → Td → Nat → Nat
  | 0, i, _, _ => i
  | k + 1, i, X, p => match vLine B X p with
    | .inl _ => i
    | .inr q => if tK B q.1 = -1 then i + 1 else if tK B q.1 = nI 59 then vCn B k (i + 1) q.2 (tE B q.1) else i
def vRs (r : Pv) (c : Nat) : Int32 := match r with
  | .inl _ => -1
  | .inr _ => nI c
def VrM (m : SM2) : Pv → Prop
  | .inl f => m.1 572 11 = nI f
  | .inr q => mdT (m.1 573) q.2
def Va (μ : SM2) (r : Pv) (c : Nat) : Out → SMem → Prop := Rm (some (.int (vRs r c))) (fun m => VrM m r ∧ OfV μ m)
theorem vCn_le {B : List Nat} : ∀ (k i : Nat) (X : Td) (p : Nat), vCn B k i X p ≤ i + k
  | 0, i, _, _ => Nat.le_refl _
  | k + 1, i, X, p => by
    unfold vCn
    cases vLine B X p with
    | inl f => exact Nat.le_add_right _ _
    | inr q =>
      dsimp only
      split
      · omega
      · split
        · have := vCn_le (B := B) k (i + 1) q.2 (tE B q.1)
          omega
        · omega
def FvA (j : Nat) : Prop := Fus j ∨ j = 11 ∨ j = 15
def OfW (μ m : SM2) : Prop := OfM FvA S573 μ m ∧ ∀ j, (j = 4 ∨ 339 ≤ j) → m.1 573 j = μ.1 573 j
section MVA
variable {γ : Ga} {μ : SM2}
theorem m_uses {B : List Nat} (hB : TapeAt μ B) : Ex γ 1 0 0 M_X12_uses [.ref 572] (rm μ) (Rm none (fun m => (MtQ m B 0 ∧ TapeAt m [] ∧ m.1 572 0 = nI 0) ∧ OfM Fus S0 μ m)) := by
  have o1 : OfM Fus S0 μ (wI (wI (wI (wI μ 572 0 (nI 0)) 572 10 (nI B.length)) 572 8 (nI 0)) 572 9 (nI 0)) := OfM.sF (OfM.sF (OfM.sF (OfM.sF (OfM.refl _ _ _) (Or.inl rfl)) (Or.inr (Or.inr (Or.inr rfl)))) (Or.inr (Or.inl rfl))) (Or.inr (Or.inr (Or.inl rfl)))
  have q1 : MtQ (wI (wI (wI (wI μ 572 0 (nI 0)) 572 10 (nI B.length)) 572 8 (nI 0)) 572 9 (nI 0)) B 0 := by
    refine ⟨⟨⟨?_, hB.1.2⟩, fun i hi => ⟨(hB.2 i hi).1, ?_⟩⟩, Nat.zero_le _, e_wI ⟨rfl, rfl⟩⟩
    · simp (disch := omega) only [n_wI, e_wI]
    · simp (disch := omega) only [n_wI, e_wI]
      exact (hB.2 i hi).2
  have q2 : TapeAt (wI (wI (wI (wI μ 572 0 (nI 0)) 572 10 (nI B.length)) 572 8 (nI 0)) 572 9 (nI 0)) [] := by
    refine ⟨⟨?_, Nat.zero_le _⟩, fun i hi => absurd hi (Nat.not_lt_zero _)⟩
    simp (disch := omega) only [n_wI, e_wI, List.length_nil]
  have q3 : (wI (wI (wI (wI μ 572 0 (nI 0)) 572 10 (nI B.length)) 572 8 (nI 0)) 572 9 (nI 0)).1 572 0 = nI 0 := by
    simp (disch := omega) only [n_wI, e_wI]
  refine Ex.of (by decide +kernel) rfl (Nat.le_of_ble_eq_true rfl) ?_
  show T _ _ _ _ _ _ _ _ _ [some (.ref 572)] [] (rm μ)
  refine T_aload_n (pc := 0) (i := 0) dX12_uses_0 rfl rfl ?_
  refine T_iconst (pc := 1) (v := nI 0) dX12_uses_1 (by decide) ?_
  refine R_putI (pc := 2) fl_X12_3 ⟨rfl, rfl⟩ (Or.inl rfl) kc_572 lc_572 dX12_uses_2 ?_
  refine T_aload_n (pc := 5) (i := 0) dX12_uses_5 rfl rfl ?_
  refine T_aload_n (pc := 6) (i := 0) dX12_uses_6 rfl rfl ?_
  refine R_getI (pc := 7) (x := nI B.length) fl_X12_136 rfl kc_572 lc_572 ((wI_ne (by decide)).trans hB.1.1) dX12_uses_7 ?_
  refine R_putI (pc := 10) fl_X12_142 ⟨rfl, rfl⟩ (Or.inl rfl) kc_572 lc_572 dX12_uses_10 ?_
  refine T_aload_n (pc := 13) (i := 0) dX12_uses_13 rfl rfl ?_
  refine T_iconst (pc := 14) (v := nI 0) dX12_uses_14 (by decide) ?_
  refine R_putI (pc := 15) fl_X12_136 ⟨rfl, rfl⟩ (Or.inl rfl) kc_572 lc_572 dX12_uses_15 ?_
  refine T_aload_n (pc := 18) (i := 0) dX12_uses_18 rfl rfl ?_
  refine T_iconst (pc := 19) (v := nI 0) dX12_uses_19 (by decide) ?_
  refine R_putI (pc := 20) fl_X12_139 ⟨rfl, rfl⟩ (Or.inl rfl) kc_572 lc_572 dX12_uses_20 ?_
  exact T_vret dX12_uses_23 rfl (Nat.le_refl _) (Nat.le_refl _) ⟨_, rfl, rfl, ⟨q1, q2, q3⟩, o1⟩
theorem m_readLineV {B : List Nat} {X : Td} {p n : Nat} (hT : MtQ μ B p) (hX : mdT (μ.1 573) X) (hn : n ≤ 14) : Ex γ 9 0 0 M_X12_readLine [.ref 572, .int (nI 1), .int (nI n)] (rm μ) (Vp B μ (if n < 14 then vLine B X p else .inl (tS B p))) := by
  refine Ex.of (by decide +kernel) rfl (Nat.le_of_ble_eq_true rfl) ?_
  show T _ _ _ _ _ _ _ _ _ [some (.ref 572), some (.int (nI 1)), some (.int (nI n))] [] (rm μ)
  refine T_aload_n (pc := 0) (i := 0) dX12_readLine_0 rfl rfl ?_
  refine R_callVm0 (pc := 1) (As := []) (rest := []) (Or.inl lk_X12_164) mk_X12_letters (m_letters hT) kc_572 ⟨by decide, rfl⟩ lc_572 dX12_readLine_1 rfl rfl (Nat.le_of_ble_eq_true rfl) (by decide) rfl (Nat.le_refl _) (Nat.le_refl _) (fun m1 h1 => ?_)
  obtain ⟨r1, o1⟩ := h1
  refine T_iload_n (pc := 4) (i := 2) dX12_readLine_4 rfl rfl ?_
  refine T_iload_n (pc := 5) (i := 1) dX12_readLine_5 rfl rfl ?_
  refine R_if_eq (pc := 6) (tgt := 14) (by omega) dX12_readLine_6 (by decide) (fun g1 => ?_) (fun g1 => ?_)
  · first | exact absurd g1 (by decide) | exact absurd g1 (fun z => by cases z)
  · skip
    refine T_bipush (pc := 9) (v := nI 14) dX12_readLine_9 (by decide) ?_
    refine T_goto (pc := 11) (tgt := 16) dX12_readLine_11 (by decide) ?_
    refine R_icmp_ge (pc := 16) (tgt := 45) (by omega) (by omega) dX12_readLine_16 (by decide) (fun g2 => ?_) (fun g2 => ?_)
    · skip
      rw [if_neg (by omega)]
      refine T_iconst (pc := 45) (v := nI 0) dX12_readLine_45 (by decide) ?_
      exact T_iret (pc := 46) (ty := .boolean) dX12_readLine_46 rfl (by decide) (Nat.le_refl _) (Nat.le_refl _) (Vp.bad r1.2 o1.v)
    · skip
      rw [if_pos g2]
      refine T_iload_n (pc := 19) (i := 1) dX12_readLine_19 rfl rfl ?_
      refine R_if_eq (pc := 20) (tgt := 33) (by omega) dX12_readLine_20 (by decide) (fun g3 => ?_) (fun g3 => ?_)
      · first | exact absurd g3 (by decide) | exact absurd g3 (fun z => by cases z)
      · skip
        refine T_aload_n (pc := 23) (i := 0) dX12_readLine_23 rfl rfl ?_
        refine R_callVm1 (pc := 24) (As := []) (rest := []) (Or.inl lk_X12_285) mk_X12_readValleyLine (m_readVLine r1 hT.2.1 (hX.f9 o1)) kc_572 ⟨by decide, rfl⟩ lc_572 dX12_readLine_24 rfl rfl (Nat.le_of_ble_eq_true rfl) (by decide) rfl (Nat.le_refl _) (Nat.le_refl _) (fun m2 h2 => ?_)
        obtain ⟨r2, o2⟩ := h2
        cases e : vLine B X p with
        | inl f =>
          rw [e] at r2
          refine R_ifb_eq (pc := 27) (tgt := 45) dX12_readLine_27 (by decide) (fun g4 => ?_) (fun g4 => ?_)
          · skip
            refine T_iconst (pc := 45) (v := nI 0) dX12_readLine_45 (by decide) ?_
            exact T_iret (pc := 46) (ty := .boolean) dX12_readLine_46 rfl (by decide) (Nat.le_refl _) (Nat.le_refl _) (Vp.bad r2 (o1.v.trans o2))
          · first | exact absurd g4 (by decide) | exact absurd g4 (fun z => by cases z)
        | inr q =>
          rw [e] at r2
          refine R_ifb_eq (pc := 27) (tgt := 45) dX12_readLine_27 (by decide) (fun g4 => ?_) (fun g4 => ?_)
          · first | exact absurd g4 (by decide) | exact absurd g4 (fun z => by cases z)
          · skip
            refine T_goto (pc := 30) (tgt := 41) dX12_readLine_30 (by decide) ?_
            refine T_iconst (pc := 41) (v := nI 1) dX12_readLine_41 (by decide) ?_
            refine T_goto (pc := 42) (tgt := 46) dX12_readLine_42 (by decide) ?_
            exact T_iret (pc := 46) (ty := .boolean) dX12_readLine_46 rfl (by decide) (Nat.le_refl _) (Nat.le_refl _) ⟨_, rfl, rfl, r2, o1.v.trans o2⟩
theorem m_readAllV {B : List Nat} {X : Td} (hB : TapeAt μ B) (hX : mdT (μ.1 573) X) : Ex γ 10 0 0 M_X12_readAll [.ref 572, .int (nI 1)] (rm μ) (Rm (some (.int (vRs (vText B X) (if tK B 0 = -1 then 0 else vCn B 14 0 X (tS B 0))))) (fun m => (VrM m (vText B X) ∧ TapeAt m [] ∧ m.1 572 0 = nI 0) ∧ OfW μ m)) := by
  have loop : ∀ (k i p : Nat) (X : Td) (m0 m : SM2) (Q : Out → SMem → Prop), (∀ o m9, Va m0 (vLines B k X p) (vCn B k i X p) o m9 → Q o m9) → i + k = 14 → MtQ m B p → mdT (m.1 573) X → OfV m0 m → T γ 10 0 0 M_X12_readAll Q 0 0 28 [some (.ref 572), some (.int (nI 1)), some (.int (nI i))] [] (rm m) := by
    intro k
    induction k with
    | zero =>
      intro i p X m0 m Q hQ hi hT hX hO
      have h9 := m_readLineV (γ := γ) hT hX (n := i) (by omega)
      rw [if_neg (by omega)] at h9
      refine T_aload_n (pc := 28) (i := 0) dX12_readAll_28 rfl rfl ?_
      refine T_iload_n (pc := 29) (i := 1) dX12_readAll_29 rfl rfl ?_
      refine T_iload_n (pc := 30) (i := 2) dX12_readAll_30 rfl rfl ?_
      refine R_callVm1 (pc := 31) (As := [.int (nI 1), .int (nI i)]) (rest := []) (Or.inl lk_X12_294) mk_X12_readLine h9 kc_572 ⟨by decide, rfl⟩ lc_572 dX12_readAll_31 rfl rfl (Nat.le_of_ble_eq_true rfl) (by decide) rfl (Nat.le_refl _) (Nat.le_refl _) (fun m1 h1 => ?_)
      obtain ⟨r1, o1⟩ := h1
      refine R_ifb_ne (pc := 34) (tgt := 39) dX12_readAll_34 (by decide) (fun g1 => ?_) (fun g1 => ?_)
      · first | exact absurd g1 (by decide) | exact absurd g1 (fun z => by cases z)
      · skip
        refine T_iconst (pc := 37) (v := (-1)) dX12_readAll_37 (by decide) ?_
        exact T_iret (pc := 38) (ty := .int) dX12_readAll_38 rfl rfl (Nat.le_refl _) (Nat.le_refl _) (hQ _ _ ⟨_, rfl, rfl, r1, hO.trans o1⟩)
    | succ k ih =>
      intro i p X m0 m Q hQ hi hT hX hO
      have h9 := m_readLineV (γ := γ) hT hX (n := i) (by omega)
      rw [if_pos (by omega)] at h9
      have ev : vLines B (k + 1) X p = match vLine B X p with | .inl f => .inl f | .inr q => if tK B q.1 = -1 then .inr q else if tK B q.1 = nI 59 then vLines B k q.2 (tE B q.1) else .inl (tS B q.1) := rfl
      have ec : vCn B (k + 1) i X p = match vLine B X p with | .inl _ => i | .inr q => if tK B q.1 = -1 then i + 1 else if tK B q.1 = nI 59 then vCn B k (i + 1) q.2 (tE B q.1) else i := rfl
      rw [ev, ec] at hQ
      cases e : vLine B X p with
      | inl f =>
        rw [e] at h9 hQ
        refine T_aload_n (pc := 28) (i := 0) dX12_readAll_28 rfl rfl ?_
        refine T_iload_n (pc := 29) (i := 1) dX12_readAll_29 rfl rfl ?_
        refine T_iload_n (pc := 30) (i := 2) dX12_readAll_30 rfl rfl ?_
        refine R_callVm1 (pc := 31) (As := [.int (nI 1), .int (nI i)]) (rest := []) (Or.inl lk_X12_294) mk_X12_readLine h9 kc_572 ⟨by decide, rfl⟩ lc_572 dX12_readAll_31 rfl rfl (Nat.le_of_ble_eq_true rfl) (by decide) rfl (Nat.le_refl _) (Nat.le_refl _) (fun m1 h1 => ?_)
        obtain ⟨r1, o1⟩ := h1
        refine R_ifb_ne (pc := 34) (tgt := 39) dX12_readAll_34 (by decide) (fun g1 => ?_) (fun g1 => ?_)
        · first | exact absurd g1 (by decide) | exact absurd g1 (fun z => by cases z)
        · skip
          refine T_iconst (pc := 37) (v := (-1)) dX12_readAll_37 (by decide) ?_
          exact T_iret (pc := 38) (ty := .int) dX12_readAll_38 rfl rfl (Nat.le_refl _) (Nat.le_refl _) (hQ _ _ ⟨_, rfl, rfl, r1, hO.trans o1⟩)
      | inr q =>
        rw [e] at h9 hQ
        dsimp only at hQ
        refine T_aload_n (pc := 28) (i := 0) dX12_readAll_28 rfl rfl ?_
        refine T_iload_n (pc := 29) (i := 1) dX12_readAll_29 rfl rfl ?_
        refine T_iload_n (pc := 30) (i := 2) dX12_readAll_30 rfl rfl ?_
        refine R_callVm1 (pc := 31) (As := [.int (nI 1), .int (nI i)]) (rest := []) (Or.inl lk_X12_294) mk_X12_readLine h9 kc_572 ⟨by decide, rfl⟩ lc_572 dX12_readAll_31 rfl rfl (Nat.le_of_ble_eq_true rfl) (by decide) rfl (Nat.le_refl _) (Nat.le_refl _) (fun m1 h1 => ?_)
        obtain ⟨⟨r1, x1⟩, o1⟩ := h1
        have hb := r1.1.b
        have hte := tS_le r1.2.1
        have h400 := r1.1.1.2
        refine R_ifb_ne (pc := 34) (tgt := 39) dX12_readAll_34 (by decide) (fun g1 => ?_) (fun g1 => ?_)
        · skip
          refine T_aload_n (pc := 39) (i := 0) dX12_readAll_39 rfl rfl ?_
          refine R_callVm0 (pc := 40) (As := []) (rest := []) (Or.inl lk_X12_152) mk_X12_blanks (m_blanks r1) kc_572 ⟨by decide, rfl⟩ lc_572 dX12_readAll_40 rfl rfl (Nat.le_of_ble_eq_true rfl) (by decide) rfl (Nat.le_refl _) (Nat.le_refl _) (fun m2 h2 => ?_)
          obtain ⟨r2, o2⟩ := h2
          refine T_aload_n (pc := 43) (i := 0) dX12_readAll_43 rfl rfl ?_
          refine R_getI (pc := 44) (x := nI (tS B q.1)) fl_X12_139 rfl kc_572 lc_572 r2.1.2.2 dX12_readAll_44 ?_
          refine T_aload_n (pc := 47) (i := 0) dX12_readAll_47 rfl rfl ?_
          refine R_getI (pc := 48) (x := nI B.length) fl_X12_142 rfl kc_572 lc_572 r2.1.1.1.1 dX12_readAll_48 ?_
          refine R_icmp_ne (pc := 51) (tgt := 58) (by omega) (by omega) dX12_readAll_51 (by decide) (fun g2 => ?_) (fun g2 => ?_)
          · skip
            rw [if_neg (fun z => (tK_end hb).mp z (by omega)), if_neg (fun z => (tK_end hb).mp z (by omega))] at hQ
            refine T_aload_n (pc := 58) (i := 0) dX12_readAll_58 rfl rfl ?_
            refine T_bipush (pc := 59) (v := nI 59) dX12_readAll_59 (by decide) ?_
            refine T_bipush (pc := 61) (v := nI 59) dX12_readAll_61 (by decide) ?_
            refine R_callV1 (pc := 63) (As := [.int (nI 59), .int (nI 59)]) (rest := []) (Or.inl lk_X12_145) mk_X12_isAt (m_isAt r2.1 (by decide) (by decide)) kc_572 ⟨by decide, rfl⟩ lc_572 dX12_readAll_63 rfl rfl (Nat.le_of_ble_eq_true rfl) (by decide) rfl (Nat.le_refl _) (Nat.le_refl _) ?_
            rw [sg_k hb (by decide) (by decide)]
            by_cases h59 : tK B q.1 = nI 59
            · rw [if_pos h59, if_pos h59] at hQ
              rw [decide_eq_true h59]
              have e9 := sg_e (p := q.1) hb (c := 59) (by decide) (by decide) h59
              have ho9 : OfM F9 S0 m1 (wI m2 572 9 (nI (tS B q.1 + 1))) := OfM.sF o2 (Or.inl rfl)
              have h8 := ih (i + 1) (tE B q.1) q.2 m0 (wI m2 572 9 (nI (tS B q.1 + 1))) Q hQ (by omega) (by rw [e9]; exact r2.1.p (by omega)) (x1.f9 ho9) ((hO.trans o1).trans ho9.v)
              refine R_ifb_ne (pc := 66) (tgt := 71) dX12_readAll_66 (by decide) (fun g3 => ?_) (fun g3 => ?_)
              · skip
                refine T_aload_n (pc := 71) (i := 0) dX12_readAll_71 rfl rfl ?_
                refine T_dup (pc := 72) dX12_readAll_72 rfl ?_
                refine R_getI (pc := 73) (x := nI (tS B q.1)) fl_X12_139 rfl kc_572 lc_572 r2.1.2.2 dX12_readAll_73 ?_
                refine T_iconst (pc := 76) (v := nI 1) dX12_readAll_76 (by decide) ?_
                refine R_iadd (pc := 77) dX12_readAll_77 ?_
                refine R_putI (pc := 78) fl_X12_139 ⟨rfl, rfl⟩ (Or.inl rfl) kc_572 lc_572 dX12_readAll_78 ?_
                refine R_iinc (pc := 81) (i := 2) (n := 1) (ls' := [some (.ref 572), some (.int (nI 1)), some (.int (nI (i + 1)))]) dX12_readAll_81 rfl rfl ?_
                refine T_goto (pc := 84) (tgt := 28) dX12_readAll_84 (by decide) ?_
                exact h8
              · first | exact absurd g3 (by decide) | exact absurd g3 (fun z => by cases z)
            · rw [if_neg h59, if_neg h59] at hQ
              rw [decide_eq_false h59]
              refine R_ifb_ne (pc := 66) (tgt := 71) dX12_readAll_66 (by decide) (fun g3 => ?_) (fun g3 => ?_)
              · first | exact absurd g3 (by decide) | exact absurd g3 (fun z => by cases z)
              · skip
                refine T_iconst (pc := 69) (v := (-1)) dX12_readAll_69 (by decide) ?_
                exact T_iret (pc := 70) (ty := .int) dX12_readAll_70 rfl rfl (Nat.le_refl _) (Nat.le_refl _) (hQ _ _ ⟨_, rfl, rfl, r2.2, (hO.trans o1).trans o2.v⟩)
          · skip
            have ee : tK B q.1 = -1 := (tK_end hb).mpr (by omega)
            rw [if_pos ee, if_pos ee] at hQ
            refine T_iload_n (pc := 54) (i := 2) dX12_readAll_54 rfl rfl ?_
            refine T_iconst (pc := 55) (v := nI 1) dX12_readAll_55 (by decide) ?_
            refine R_iadd (pc := 56) dX12_readAll_56 ?_
            exact T_iret (pc := 57) (ty := .int) dX12_readAll_57 rfl rfl (Nat.le_refl _) (Nat.le_refl _) (hQ _ _ ⟨_, rfl, rfl, x1.f9 o2, (hO.trans o1).trans o2.v⟩)
        · first | exact absurd g1 (by decide) | exact absurd g1 (fun z => by cases z)
  refine Ex.of (by decide +kernel) rfl (Nat.le_of_ble_eq_true rfl) ?_
  show T _ _ _ _ _ _ _ _ _ [some (.ref 572), some (.int (nI 1)), none] [] (rm μ)
  refine T_aload_n (pc := 0) (i := 0) dX12_readAll_0 rfl rfl ?_
  refine R_callVm0 (pc := 1) (As := []) (rest := []) (Or.inl lk_X12_291) mk_X12_uses (m_uses hB) kc_572 ⟨by decide, rfl⟩ lc_572 dX12_readAll_1 rfl rfl (Nat.le_of_ble_eq_true rfl) (by decide) rfl (Nat.le_refl _) (Nat.le_refl _) (fun m1 h1 => ?_)
  obtain ⟨⟨r1, t1, z1⟩, o1⟩ := h1
  refine T_aload_n (pc := 4) (i := 0) dX12_readAll_4 rfl rfl ?_
  refine T_iconst (pc := 5) (v := nI 0) dX12_readAll_5 (by decide) ?_
  refine R_putI (pc := 6) fl_X12_235 ⟨rfl, rfl⟩ (Or.inl rfl) kc_572 lc_572 dX12_readAll_6 ?_
  refine T_aload_n (pc := 9) (i := 0) dX12_readAll_9 rfl rfl ?_
  have r2 : MtQ (wI m1 572 15 (nI 0)) B 0 := by
    have g : OfM (fun j => j = 15) S0 m1 (wI m1 572 15 (nI 0)) := OfM.sF (OfM.refl _ _ _) rfl
    exact ⟨r1.1.of g (by decide) (fun z => z), r1.2.1, (n_wI (by omega)).trans r1.2.2⟩
  refine R_callVm0 (pc := 10) (As := []) (rest := []) (Or.inl lk_X12_152) mk_X12_blanks (m_blanks r2) kc_572 ⟨by decide, rfl⟩ lc_572 dX12_readAll_10 rfl rfl (Nat.le_of_ble_eq_true rfl) (by decide) rfl (Nat.le_refl _) (Nat.le_refl _) (fun m2 h2 => ?_)
  obtain ⟨r3, o3⟩ := h2
  have hb := r1.1.b
  have hte := tS_le r1.2.1
  have h400 := r1.1.1.2
  have oA : OfM FvA S0 μ m2 := ((OfM.sF (o1.mono (F' := FvA) (fun j hj => Or.inl hj) (fun _ z => z)) (Or.inr (Or.inr rfl))).trans (o3.mono (fun j hj => by unfold F9 at hj; unfold FvA Fus; omega) (fun _ z => z)))
  have t2 : TapeAt m2 [] := t1.of ((o3.fi (by unfold F9; omega)).trans (n_wI (by omega))) ((o3.c (by decide) (fun z => z)).1.trans (funext (fun j => n_wI (by omega))))
  have z2 : m2.1 572 0 = nI 0 := ((o3.fi (by unfold F9; omega)).trans (n_wI (by omega))).trans z1
  have x2 : mdT (m2.1 573) X := by
    rw [(oA.c (by decide) (fun z => z)).1]
    exact hX
  have w2 : OfW μ m2 := ⟨oA.mono (fun _ z => z) (fun _ z => z.elim), fun j _ => oA.i (by decide) (fun z => z) j⟩
  refine T_aload_n (pc := 13) (i := 0) dX12_readAll_13 rfl rfl ?_
  refine R_getI (pc := 14) (x := nI (tS B 0)) fl_X12_139 rfl kc_572 lc_572 r3.1.2.2 dX12_readAll_14 ?_
  refine T_aload_n (pc := 17) (i := 0) dX12_readAll_17 rfl rfl ?_
  refine R_getI (pc := 18) (x := nI B.length) fl_X12_142 rfl kc_572 lc_572 r3.1.1.1.1 dX12_readAll_18 ?_
  unfold vText
  refine R_icmp_ne (pc := 21) (tgt := 26) (by omega) (by omega) dX12_readAll_21 (by decide) (fun g1 => ?_) (fun g1 => ?_)
  · skip
    have ee : ¬ tK B 0 = -1 := fun z => (tK_end hb).mp z (by omega)
    rw [if_neg ee, if_neg ee]
    refine T_iconst (pc := 26) (v := nI 0) dX12_readAll_26 (by decide) ?_
    refine T_istore_n (pc := 27) (i := 2) (ls' := [some (.ref 572), some (.int (nI 1)), some (.int (nI 0))]) dX12_readAll_27 rfl (by decide) rfl ?_
    refine loop 14 0 (tS B 0) X m2 m2 _ (fun o m9 h => ?_) (by omega) r3.1 x2 (OfV.refl _)
    rw [vLines_tS] at h
    obtain ⟨m, q1, q2, q3, q4⟩ := h
    exact ⟨m, q1, q2, ⟨q3, t2.of (q4.1.fi (by unfold F9; omega)) (q4.1.c (by decide) (by unfold S573; omega)).1, (q4.1.fi (by unfold F9; omega)).trans z2⟩, ⟨w2.1.trans (q4.1.mono (fun j hj => by unfold F9 at hj; unfold FvA Fus; omega) (fun _ z => z)), fun j hj => (q4.2 j hj).trans (w2.2 j hj)⟩⟩
  · skip
    have ee : tK B 0 = -1 := (tK_end hb).mpr (by omega)
    rw [if_pos ee, if_pos ee]
    refine T_iconst (pc := 24) (v := nI 0) dX12_readAll_24 (by decide) ?_
    exact T_iret (pc := 25) (ty := .int) dX12_readAll_25 rfl rfl (Nat.le_refl _) (Nat.le_refl _) ⟨_, rfl, rfl, ⟨x2, t2, z2⟩, w2⟩
end MVA

