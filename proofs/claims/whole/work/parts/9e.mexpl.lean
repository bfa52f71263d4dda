/-! THE MODEL: explains, telling, sorts -/
theorem cbF_no {a t L R : List Nat} : ∀ {f p : Nat}, (∀ q, p ≤ q → (stB a q L && decide (usd a q L R = t)) = false) → cbF a t L R f p = false
  | 0, _, _ => rfl
  | f + 1, p, h => by
    show ((stB a p L && decide (usd a p L R = t)) || cbF a t L R f (p + 1)) = false
    rw [h p (Nat.le_refl _), cbF_no (f := f) (p := p + 1) (fun q hq => h q (by omega))]
    rfl
theorem cbF_yes {a t L R : List Nat} : ∀ {f p : Nat}, cbF a t L R f p = true → ∃ q, stB a q L = true ∧ usd a q L R = t
  | 0, _, h => by cases h
  | f + 1, p, h => by
    have h2 : ((stB a p L && decide (usd a p L R = t)) || cbF a t L R f (p + 1)) = true := h
    rcases (Bool.or_eq_true _ _).mp h2 with h3 | h3
    · rw [Bool.and_eq_true] at h3
      exact ⟨p, h3.1, of_decide_eq_true h3.2⟩
    · exact cbF_yes h3
theorem cbB_eq {a t L R : List Nat} : cbB a t L R = cbF a t L R a.length 0 := by
  unfold cbB
  cases e : cbF a t L R a.length 0 with
  | false => rw [Bool.and_false]
  | true =>
    obtain ⟨q, h1, h2⟩ := cbF_yes e
    have h3 := stB_fit h1
    have h4 := usd_len (R := R) h3.2
    rw [h2] at h4
    rw [decide_eq_true (by omega)]
    rfl
section ME1
variable {γ : Ga} {μ : SM2}
theorem m_explains {a t L R : List Nat} (ha : Mw a) (ht : Mw t) (hL : Mw L) (hR : Mw R) (h1L : 1 ≤ L.length) : Ex γ 6 0 0 M_X12_explains [.long (lN (cd L)), .long (lN (cd R)), .long (lN (cd a)), .long (lN (cd t))] (rm μ) (Fn (some (.int (bI (cbB a t L R)))) μ) := by
  have ha20 := ha.1
  have ht20 := ht.1
  have hL20 := hL.1
  have hR20 := hR.1
  have bL := cd_lt hL
  have bt := cd_lt ht
  rw [cbB_eq]
  refine Ex.of (by decide +kernel) rfl (Nat.le_of_ble_eq_true rfl) ?_
  show T _ _ _ _ _ _ _ _ _ [some (.long (lN (cd L))), none, some (.long (lN (cd R))), none, some (.long (lN (cd a))), none, some (.long (lN (cd t))), none, none, none, none] [] (rm μ)
  refine T_lload_n (pc := 0) (i := 0) dX12_explains_0 rfl rfl ?_
  refine R_callS1 (pc := 1) (av := [.long (lN (cd L))]) (rest := []) (Or.inl lk_X12_13) mk_X12_size (m_size hL) dX12_explains_1 rfl rfl (Nat.le_of_ble_eq_true rfl) (by decide) rfl (Nat.le_refl _) (Nat.le_refl _) ?_
  refine T_istore (pc := 4) (i := 8) (ls' := [some (.long (lN (cd L))), none, some (.long (lN (cd R))), none, some (.long (lN (cd a))), none, some (.long (lN (cd t))), none, some (.int (nI L.length)), none, none]) dX12_explains_4 (by decide) rfl ?_
  refine T_iconst (pc := 6) (v := nI 0) dX12_explains_6 (by decide) ?_
  refine T_istore (pc := 7) (i := 9) (ls' := [some (.long (lN (cd L))), none, some (.long (lN (cd R))), none, some (.long (lN (cd a))), none, some (.long (lN (cd t))), none, some (.int (nI L.length)), some (.int (nI 0)), none]) dX12_explains_7 (by decide) rfl ?_
  refine T_iconst (pc := 9) (v := nI 0) dX12_explains_9 (by decide) ?_
  refine T_istore (pc := 10) (i := 10) (ls' := [some (.long (lN (cd L))), none, some (.long (lN (cd R))), none, some (.long (lN (cd a))), none, some (.long (lN (cd t))), none, some (.int (nI L.length)), some (.int (nI 0)), some (.int (nI 0))]) dX12_explains_10 (by decide) rfl ?_
  have end9 : ∀ (p : Nat) (is : Bool), (is = true → L.length ≤ a.length) → T γ 6 0 0 M_X12_explains (Fn (some (.int (bI (is && decide (a.length - L.length + R.length ≤ 20))))) μ) 0 0 87 [some (.long (lN (cd L))), none, some (.long (lN (cd R))), none, some (.long (lN (cd a))), none, some (.long (lN (cd t))), none, some (.int (nI L.length)), some (.int (bI is)), some (.int (nI p))] [] (rm μ) := fun p is hi => by
    refine T_iload (pc := 87) (i := 9) dX12_explains_87 rfl ?_
    refine R_ifb_eq (pc := 89) (tgt := 114) dX12_explains_89 (by decide) (fun g1 => ?_) (fun g1 => ?_)
    · skip
      refine T_iconst (pc := 114) (v := nI 0) dX12_explains_114 (by decide) ?_
      rw [g1, Bool.false_and]
      exact T_iret (pc := 115) (ty := .boolean) dX12_explains_115 rfl (by decide) (Nat.le_refl _) (Nat.le_refl _) ⟨rfl, rfl⟩
    · skip
      have hle := hi g1
      rw [g1, Bool.true_and]
      refine T_lload (pc := 92) (i := 4) dX12_explains_92 rfl ?_
      refine R_callS1 (pc := 94) (av := [.long (lN (cd a))]) (rest := []) (Or.inl lk_X12_13) mk_X12_size (m_size ha) dX12_explains_94 rfl rfl (Nat.le_of_ble_eq_true rfl) (by decide) rfl (Nat.le_refl _) (Nat.le_refl _) ?_
      refine T_iload (pc := 97) (i := 8) dX12_explains_97 rfl ?_
      refine R_isub (pc := 99) hle dX12_explains_99 ?_
      refine T_lload_n (pc := 100) (i := 2) dX12_explains_100 rfl rfl ?_
      refine R_callS1 (pc := 101) (av := [.long (lN (cd R))]) (rest := [.int (nI (a.length - L.length))]) (Or.inl lk_X12_13) mk_X12_size (m_size hR) dX12_explains_101 rfl rfl (Nat.le_of_ble_eq_true rfl) (by decide) rfl (Nat.le_refl _) (Nat.le_refl _) ?_
      refine R_iadd (pc := 104) dX12_explains_104 ?_
      refine T_bipush (pc := 105) (v := nI 20) dX12_explains_105 (by decide) ?_
      refine R_icmp_gt (pc := 107) (tgt := 114) (by omega) (by omega) dX12_explains_107 (by decide) (fun g2 => ?_) (fun g2 => ?_)
      · skip
        refine T_iconst (pc := 114) (v := nI 0) dX12_explains_114 (by decide) ?_
        rw [decide_eq_false (by omega)]
        exact T_iret (pc := 115) (ty := .boolean) dX12_explains_115 rfl (by decide) (Nat.le_refl _) (Nat.le_refl _) ⟨rfl, rfl⟩
      · skip
        refine T_iconst (pc := 110) (v := nI 1) dX12_explains_110 (by decide) ?_
        refine T_goto (pc := 111) (tgt := 115) dX12_explains_111 (by decide) ?_
        rw [decide_eq_true (by omega)]
        exact T_iret (pc := 115) (ty := .boolean) dX12_explains_115 rfl (by decide) (Nat.le_refl _) (Nat.le_refl _) ⟨rfl, rfl⟩
  by_cases hA : a.length + R.length ≤ 20 + L.length
  · suffices loop : ∀ (f p : Nat), a.length + 1 ≤ p + f → p ≤ a.length + 1 → T γ 6 0 0 M_X12_explains (Fn (some (.int (bI (cbF a t L R (a.length - p) p)))) μ) 0 0 12 [some (.long (lN (cd L))), none, some (.long (lN (cd R))), none, some (.long (lN (cd a))), none, some (.long (lN (cd t))), none, some (.int (nI L.length)), some (.int (bI false)), some (.int (nI p))] [] (rm μ) by
      exact loop (a.length + 1) 0 (by omega) (Nat.zero_le _)
    have stop : ∀ p, a.length < p + L.length → cbF a t L R (a.length - p) p = false := fun p hp => cbF_no (fun q hq => by
      have e9 : stB a q L = false := by
        cases e8 : stB a q L with
        | false => rfl
        | true => exact absurd (stB_fit e8).2 (by omega)
      rw [e9]
      rfl)
    intro f
    induction f with
    | zero =>
      intro p hp hp2
      refine T_iload (pc := 12) (i := 10) dX12_explains_12 rfl ?_
      refine T_iload (pc := 14) (i := 8) dX12_explains_14 rfl ?_
      refine R_iadd (pc := 16) dX12_explains_16 ?_
      refine T_lload (pc := 17) (i := 4) dX12_explains_17 rfl ?_
      refine R_callS1 (pc := 19) (av := [.long (lN (cd a))]) (rest := [.int (nI (p + L.length))]) (Or.inl lk_X12_13) mk_X12_size (m_size ha) dX12_explains_19 rfl rfl (Nat.le_of_ble_eq_true rfl) (by decide) rfl (Nat.le_refl _) (Nat.le_refl _) ?_
      refine R_icmp_gt (pc := 22) (tgt := 87) (by omega) (by omega) dX12_explains_22 (by decide) (fun g1 => ?_) (fun g1 => ?_)
      · rw [stop p (by omega)]
        have h9 := end9 p false (fun z => Bool.noConfusion z)
        rw [Bool.false_and] at h9
        exact h9
      · exact absurd g1 (by omega)
    | succ f ih =>
      intro p hp hp2
      refine T_iload (pc := 12) (i := 10) dX12_explains_12 rfl ?_
      refine T_iload (pc := 14) (i := 8) dX12_explains_14 rfl ?_
      refine R_iadd (pc := 16) dX12_explains_16 ?_
      refine T_lload (pc := 17) (i := 4) dX12_explains_17 rfl ?_
      refine R_callS1 (pc := 19) (av := [.long (lN (cd a))]) (rest := [.int (nI (p + L.length))]) (Or.inl lk_X12_13) mk_X12_size (m_size ha) dX12_explains_19 rfl rfl (Nat.le_of_ble_eq_true rfl) (by decide) rfl (Nat.le_refl _) (Nat.le_refl _) ?_
      refine R_icmp_gt (pc := 22) (tgt := 87) (by omega) (by omega) dX12_explains_22 (by decide) (fun g1 => ?_) (fun g1 => ?_)
      · rw [stop p (by omega)]
        have h9 := end9 p false (fun z => Bool.noConfusion z)
        rw [Bool.false_and] at h9
        exact h9
      · skip
        have hpl : p < a.length := by omega
        have ef : cbF a t L R (a.length - p) p = ((stB a p L && decide (usd a p L R = t)) || cbF a t L R (a.length - (p + 1)) (p + 1)) := by
          rw [show a.length - p = (a.length - (p + 1)) + 1 by omega]
          rfl
        have es : stB a p L = decide ((a.drop p).take L.length = L) := by unfold stB; rw [decide_eq_true hpl, decide_eq_true (p := L.length ≤ a.length - p) (by omega), Bool.true_and, Bool.true_and]
        have mw2 : Mw ((a.drop p).take L.length) := ⟨by rw [List.length_take]; omega, okb_take (okb_drop ha.2)⟩
        have b2 := cd_lt mw2
        have mwu : Mw (usd a p L R) := usd_Mw ha.2 hR.2 (by omega) (by omega)
        have b3 := cd_lt mwu
        have mwd : Mw (a.drop (p + L.length)) := ⟨by rw [List.length_drop]; omega, okb_drop ha.2⟩
        have nof : (stB a p L && decide (usd a p L R = t)) = false → T γ 6 0 0 M_X12_explains (Fn (some (.int (bI (cbF a t L R (a.length - p) p)))) μ) 0 0 79 [some (.long (lN (cd L))), none, some (.long (lN (cd R))), none, some (.long (lN (cd a))), none, some (.long (lN (cd t))), none, some (.int (nI L.length)), some (.int (bI false)), some (.int (nI p))] [.int (nI 0)] (rm μ) := fun e => by
          rw [ef, e, Bool.false_or]
          refine T_istore (pc := 79) (i := 9) (ls' := [some (.long (lN (cd L))), none, some (.long (lN (cd R))), none, some (.long (lN (cd a))), none, some (.long (lN (cd t))), none, some (.int (nI L.length)), some (.int (nI 0)), some (.int (nI p))]) dX12_explains_79 (by decide) rfl ?_
          refine R_iinc (pc := 81) (i := 10) (n := 1) (ls' := [some (.long (lN (cd L))), none, some (.long (lN (cd R))), none, some (.long (lN (cd a))), none, some (.long (lN (cd t))), none, some (.int (nI L.length)), some (.int (nI 0)), some (.int (nI (p + 1)))]) dX12_explains_81 rfl rfl ?_
          refine T_goto (pc := 84) (tgt := 12) dX12_explains_84 (by decide) ?_
          exact ih (p + 1) (by omega) (by omega)
        refine T_iload (pc := 25) (i := 9) dX12_explains_25 rfl ?_
        refine R_ifb_ne (pc := 27) (tgt := 87) dX12_explains_27 (by decide) (fun g2 => ?_) (fun g2 => ?_)
        · exact absurd g2 (by decide)
        · skip
          refine T_lload (pc := 30) (i := 4) dX12_explains_30 rfl ?_
          refine T_iload (pc := 32) (i := 10) dX12_explains_32 rfl ?_
          refine T_iload (pc := 34) (i := 8) dX12_explains_34 rfl ?_
          refine R_callS1 (pc := 36) (av := [.long (lN (cd a)), .int (nI p), .int (nI L.length)]) (rest := []) (Or.inl lk_X12_328) mk_X12_part (m_part ha (by omega)) dX12_explains_36 rfl rfl (Nat.le_of_ble_eq_true rfl) (by decide) rfl (Nat.le_refl _) (Nat.le_refl _) ?_
          refine T_lload_n (pc := 39) (i := 0) dX12_explains_39 rfl rfl ?_
          refine T_lcmp (pc := 40) dX12_explains_40 ?_
          refine R_ln_ne (pc := 41) (tgt := 78) (by omega) (by omega) dX12_explains_41 (by decide) (fun g3 => ?_) (fun g3 => ?_)
          · skip
            refine T_iconst (pc := 78) (v := nI 0) dX12_explains_78 (by decide) ?_
            exact nof (by rw [es, decide_eq_false (fun z => g3 (congrArg cd z)), Bool.false_and])
          · skip
            have g3' : stB a p L = true := by rw [es, decide_eq_true (cd_inj mw2.2 hL.2 g3)]
            refine T_lload (pc := 44) (i := 4) dX12_explains_44 rfl ?_
            refine T_iload (pc := 46) (i := 10) dX12_explains_46 rfl ?_
            refine R_callS1 (pc := 48) (av := [.long (lN (cd a)), .int (nI p)]) (rest := []) (Or.inl lk_X12_20) mk_X12_ahead (m_ahead ha (by omega)) dX12_explains_48 rfl rfl (Nat.le_of_ble_eq_true rfl) (by decide) rfl (Nat.le_refl _) (Nat.le_refl _) ?_
            refine T_lload_n (pc := 51) (i := 2) dX12_explains_51 rfl rfl ?_
            refine R_callS1 (pc := 52) (av := [.long (lN (cd (a.take p))), .long (lN (cd R))]) (rest := []) (Or.inl lk_X12_335) mk_X12_join (m_join hR) dX12_explains_52 rfl rfl (Nat.le_of_ble_eq_true rfl) (by decide) rfl (Nat.le_refl _) (Nat.le_refl _) ?_
            refine T_lload (pc := 55) (i := 4) dX12_explains_55 rfl ?_
            refine T_iload (pc := 57) (i := 10) dX12_explains_57 rfl ?_
            refine T_iload (pc := 59) (i := 8) dX12_explains_59 rfl ?_
            refine R_iadd (pc := 61) dX12_explains_61 ?_
            refine R_callS1 (pc := 62) (av := [.long (lN (cd a)), .int (nI (p + L.length))]) (rest := [.long (lN (cd (a.take p ++ R)))]) (Or.inl lk_X12_16) mk_X12_behind (m_behind ha (by omega)) dX12_explains_62 rfl rfl (Nat.le_of_ble_eq_true rfl) (by decide) rfl (Nat.le_refl _) (Nat.le_refl _) ?_
            refine R_callS1 (pc := 65) (av := [.long (lN (cd (a.take p ++ R))), .long (lN (cd (a.drop (p + L.length))))]) (rest := []) (Or.inl lk_X12_335) mk_X12_join (m_join mwd) dX12_explains_65 rfl rfl (Nat.le_of_ble_eq_true rfl) (by decide) rfl (Nat.le_refl _) (Nat.le_refl _) ?_
            refine T_topl (v := lN (cd (usd a p L R))) (rfl) ?_
            refine T_lload (pc := 68) (i := 6) dX12_explains_68 rfl ?_
            refine T_lcmp (pc := 70) dX12_explains_70 ?_
            refine R_ln_ne (pc := 71) (tgt := 78) (by omega) (by omega) dX12_explains_71 (by decide) (fun g4 => ?_) (fun g4 => ?_)
            · skip
              refine T_iconst (pc := 78) (v := nI 0) dX12_explains_78 (by decide) ?_
              exact nof (by rw [g3', decide_eq_false (fun z => g4 (congrArg cd z)), Bool.and_false])
            · skip
              have g4' := cd_inj mwu.2 ht.2 g4
              refine T_iconst (pc := 74) (v := nI 1) dX12_explains_74 (by decide) ?_
              refine T_goto (pc := 75) (tgt := 79) dX12_explains_75 (by decide) ?_
              rw [ef, g3', decide_eq_true g4']
              refine T_istore (pc := 79) (i := 9) (ls' := [some (.long (lN (cd L))), none, some (.long (lN (cd R))), none, some (.long (lN (cd a))), none, some (.long (lN (cd t))), none, some (.int (nI L.length)), some (.int (nI 1)), some (.int (nI p))]) dX12_explains_79 (by decide) rfl ?_
              refine R_iinc (pc := 81) (i := 10) (n := 1) (ls' := [some (.long (lN (cd L))), none, some (.long (lN (cd R))), none, some (.long (lN (cd a))), none, some (.long (lN (cd t))), none, some (.int (nI L.length)), some (.int (nI 1)), some (.int (nI (p + 1)))]) dX12_explains_81 rfl rfl ?_
              refine T_goto (pc := 84) (tgt := 12) dX12_explains_84 (by decide) ?_
              refine T_iload (pc := 12) (i := 10) dX12_explains_12 rfl ?_
              refine T_iload (pc := 14) (i := 8) dX12_explains_14 rfl ?_
              refine R_iadd (pc := 16) dX12_explains_16 ?_
              refine T_lload (pc := 17) (i := 4) dX12_explains_17 rfl ?_
              refine R_callS1 (pc := 19) (av := [.long (lN (cd a))]) (rest := [.int (nI ((p + 1) + L.length))]) (Or.inl lk_X12_13) mk_X12_size (m_size ha) dX12_explains_19 rfl rfl (Nat.le_of_ble_eq_true rfl) (by decide) rfl (Nat.le_refl _) (Nat.le_refl _) ?_
              have h9 := end9 (p + 1) true (fun _ => by omega)
              rw [Bool.true_and, decide_eq_true (by omega)] at h9
              refine R_icmp_gt (pc := 22) (tgt := 87) (by omega) (by omega) dX12_explains_22 (by decide) (fun g5 => ?_) (fun g5 => ?_)
              · exact h9
              · skip
                refine T_iload (pc := 25) (i := 9) dX12_explains_25 rfl ?_
                refine R_if_ne (pc := 27) (tgt := 87) (by omega) dX12_explains_27 (by decide) (fun g6 => ?_) (fun g6 => ?_)
                · exact h9
                · exact absurd g6 (by decide)
  · have ef : cbF a t L R a.length 0 = false := cbF_no (fun q hq => by
      cases e8 : stB a q L with
      | false => rfl
      | true =>
        have h3 := stB_fit e8
        have h4 := usd_len (R := R) h3.2
        rw [decide_eq_false (fun z => by rw [z] at h4; omega)]
        rfl)
    rw [ef]
    suffices loop : ∀ (f p : Nat) (is : Bool), a.length + 1 ≤ p + f → p ≤ a.length + 1 → (is = true → L.length ≤ a.length) → T γ 6 0 0 M_X12_explains (Fn (some (.int (bI false))) μ) 0 0 12 [some (.long (lN (cd L))), none, some (.long (lN (cd R))), none, some (.long (lN (cd a))), none, some (.long (lN (cd t))), none, some (.int (nI L.length)), some (.int (bI is)), some (.int (nI p))] [] (rm μ) by
      exact loop (a.length + 1) 0 false (by omega) (Nat.zero_le _) (fun z => Bool.noConfusion z)
    have fin9 : ∀ (p : Nat) (is : Bool), (is = true → L.length ≤ a.length) → T γ 6 0 0 M_X12_explains (Fn (some (.int (bI false))) μ) 0 0 87 [some (.long (lN (cd L))), none, some (.long (lN (cd R))), none, some (.long (lN (cd a))), none, some (.long (lN (cd t))), none, some (.int (nI L.length)), some (.int (bI is)), some (.int (nI p))] [] (rm μ) := fun p is hi => by
      have h9 := end9 p is hi
      cases is with
      | false =>
        rw [Bool.false_and] at h9
        exact h9
      | true =>
        have := hi rfl
        rw [Bool.true_and, decide_eq_false (by omega)] at h9
        exact h9
    intro f
    induction f with
    | zero =>
      intro p is hp hp2 hi
      refine T_iload (pc := 12) (i := 10) dX12_explains_12 rfl ?_
      refine T_iload (pc := 14) (i := 8) dX12_explains_14 rfl ?_
      refine R_iadd (pc := 16) dX12_explains_16 ?_
      refine T_lload (pc := 17) (i := 4) dX12_explains_17 rfl ?_
      refine R_callS1 (pc := 19) (av := [.long (lN (cd a))]) (rest := [.int (nI (p + L.length))]) (Or.inl lk_X12_13) mk_X12_size (m_size ha) dX12_explains_19 rfl rfl (Nat.le_of_ble_eq_true rfl) (by decide) rfl (Nat.le_refl _) (Nat.le_refl _) ?_
      refine R_icmp_gt (pc := 22) (tgt := 87) (by omega) (by omega) dX12_explains_22 (by decide) (fun g1 => ?_) (fun g1 => ?_)
      · exact fin9 p is hi
      · exact absurd g1 (by omega)
    | succ f ih =>
      intro p is hp hp2 hi
      refine T_iload (pc := 12) (i := 10) dX12_explains_12 rfl ?_
      refine T_iload (pc := 14) (i := 8) dX12_explains_14 rfl ?_
      refine R_iadd (pc := 16) dX12_explains_16 ?_
      refine T_lload (pc := 17) (i := 4) dX12_explains_17 rfl ?_
      refine R_callS1 (pc := 19) (av := [.long (lN (cd a))]) (rest := [.int (nI (p + L.length))]) (Or.inl lk_X12_13) mk_X12_size (m_size ha) dX12_explains_19 rfl rfl (Nat.le_of_ble_eq_true rfl) (by decide) rfl (Nat.le_refl _) (Nat.le_refl _) ?_
      refine R_icmp_gt (pc := 22) (tgt := 87) (by omega) (by omega) dX12_explains_22 (by decide) (fun g1 => ?_) (fun g1 => ?_)
      · exact fin9 p is hi
      · skip
        have mw2 : Mw ((a.drop p).take L.length) := ⟨by rw [List.length_take]; omega, okb_take (okb_drop ha.2)⟩
        have b2 := cd_lt mw2
        have mwd : Mw (a.drop (p + L.length)) := ⟨by rw [List.length_drop]; omega, okb_drop ha.2⟩
        refine T_iload (pc := 25) (i := 9) dX12_explains_25 rfl ?_
        refine R_ifb_ne (pc := 27) (tgt := 87) dX12_explains_27 (by decide) (fun g2 => ?_) (fun g2 => ?_)
        · exact fin9 p is hi
        · skip
          refine T_lload (pc := 30) (i := 4) dX12_explains_30 rfl ?_
          refine T_iload (pc := 32) (i := 10) dX12_explains_32 rfl ?_
          refine T_iload (pc := 34) (i := 8) dX12_explains_34 rfl ?_
          refine R_callS1 (pc := 36) (av := [.long (lN (cd a)), .int (nI p), .int (nI L.length)]) (rest := []) (Or.inl lk_X12_328) mk_X12_part (m_part ha (by omega)) dX12_explains_36 rfl rfl (Nat.le_of_ble_eq_true rfl) (by decide) rfl (Nat.le_refl _) (Nat.le_refl _) ?_
          refine T_lload_n (pc := 39) (i := 0) dX12_explains_39 rfl rfl ?_
          refine T_lcmp (pc := 40) dX12_explains_40 ?_
          refine R_ln_ne (pc := 41) (tgt := 78) (by omega) (by omega) dX12_explains_41 (by decide) (fun g3 => ?_) (fun g3 => ?_)
          · skip
            refine T_iconst (pc := 78) (v := nI 0) dX12_explains_78 (by decide) ?_
            refine T_istore (pc := 79) (i := 9) (ls' := [some (.long (lN (cd L))), none, some (.long (lN (cd R))), none, some (.long (lN (cd a))), none, some (.long (lN (cd t))), none, some (.int (nI L.length)), some (.int (nI 0)), some (.int (nI p))]) dX12_explains_79 (by decide) rfl ?_
            refine R_iinc (pc := 81) (i := 10) (n := 1) (ls' := [some (.long (lN (cd L))), none, some (.long (lN (cd R))), none, some (.long (lN (cd a))), none, some (.long (lN (cd t))), none, some (.int (nI L.length)), some (.int (nI 0)), some (.int (nI (p + 1)))]) dX12_explains_81 rfl rfl ?_
            refine T_goto (pc := 84) (tgt := 12) dX12_explains_84 (by decide) ?_
            exact ih (p + 1) false (by omega) (by omega) (fun z => Bool.noConfusion z)
          · skip
            refine T_lload (pc := 44) (i := 4) dX12_explains_44 rfl ?_
            refine T_iload (pc := 46) (i := 10) dX12_explains_46 rfl ?_
            refine R_callS1 (pc := 48) (av := [.long (lN (cd a)), .int (nI p)]) (rest := []) (Or.inl lk_X12_20) mk_X12_ahead (m_ahead ha (by omega)) dX12_explains_48 rfl rfl (Nat.le_of_ble_eq_true rfl) (by decide) rfl (Nat.le_refl _) (Nat.le_refl _) ?_
            refine T_lload_n (pc := 51) (i := 2) dX12_explains_51 rfl rfl ?_
            refine R_callS1 (pc := 52) (av := [.long (lN (cd (a.take p))), .long (lN (cd R))]) (rest := []) (Or.inl lk_X12_335) mk_X12_join (m_join hR) dX12_explains_52 rfl rfl (Nat.le_of_ble_eq_true rfl) (by decide) rfl (Nat.le_refl _) (Nat.le_refl _) ?_
            refine T_lload (pc := 55) (i := 4) dX12_explains_55 rfl ?_
            refine T_iload (pc := 57) (i := 10) dX12_explains_57 rfl ?_
            refine T_iload (pc := 59) (i := 8) dX12_explains_59 rfl ?_
            refine R_iadd (pc := 61) dX12_explains_61 ?_
            refine R_callS1 (pc := 62) (av := [.long (lN (cd a)), .int (nI (p + L.length))]) (rest := [.long (lN (cd (a.take p ++ R)))]) (Or.inl lk_X12_16) mk_X12_behind (m_behind ha (by omega)) dX12_explains_62 rfl rfl (Nat.le_of_ble_eq_true rfl) (by decide) rfl (Nat.le_refl _) (Nat.le_refl _) ?_
            refine R_callS1 (pc := 65) (av := [.long (lN (cd (a.take p ++ R))), .long (lN (cd (a.drop (p + L.length))))]) (rest := []) (Or.inl lk_X12_335) mk_X12_join (m_join mwd) dX12_explains_65 rfl rfl (Nat.le_of_ble_eq_true rfl) (by decide) rfl (Nat.le_refl _) (Nat.le_refl _) ?_
            refine T_topl (v := (lN (cd (a.take p ++ R ++ a.drop (p + L.length))))) (rfl) ?_
            refine T_lload (pc := 68) (i := 6) dX12_explains_68 rfl ?_
            refine T_lcmp (pc := 70) dX12_explains_70 ?_
            refine R_lx_ne (pc := 71) (tgt := 78) dX12_explains_71 (by decide) (fun g4 => ?_) (fun g4 => ?_)
            · skip
              refine T_iconst (pc := 78) (v := nI 0) dX12_explains_78 (by decide) ?_
              refine T_istore (pc := 79) (i := 9) (ls' := [some (.long (lN (cd L))), none, some (.long (lN (cd R))), none, some (.long (lN (cd a))), none, some (.long (lN (cd t))), none, some (.int (nI L.length)), some (.int (nI 0)), some (.int (nI p))]) dX12_explains_79 (by decide) rfl ?_
              refine R_iinc (pc := 81) (i := 10) (n := 1) (ls' := [some (.long (lN (cd L))), none, some (.long (lN (cd R))), none, some (.long (lN (cd a))), none, some (.long (lN (cd t))), none, some (.int (nI L.length)), some (.int (nI 0)), some (.int (nI (p + 1)))]) dX12_explains_81 rfl rfl ?_
              refine T_goto (pc := 84) (tgt := 12) dX12_explains_84 (by decide) ?_
              exact ih (p + 1) false (by omega) (by omega) (fun z => Bool.noConfusion z)
            · skip
              refine T_iconst (pc := 74) (v := nI 1) dX12_explains_74 (by decide) ?_
              refine T_goto (pc := 75) (tgt := 79) dX12_explains_75 (by decide) ?_
              refine T_istore (pc := 79) (i := 9) (ls' := [some (.long (lN (cd L))), none, some (.long (lN (cd R))), none, some (.long (lN (cd a))), none, some (.long (lN (cd t))), none, some (.int (nI L.length)), some (.int (nI 1)), some (.int (nI p))]) dX12_explains_79 (by decide) rfl ?_
              refine R_iinc (pc := 81) (i := 10) (n := 1) (ls' := [some (.long (lN (cd L))), none, some (.long (lN (cd R))), none, some (.long (lN (cd a))), none, some (.long (lN (cd t))), none, some (.int (nI L.length)), some (.int (nI 1)), some (.int (nI (p + 1)))]) dX12_explains_81 rfl rfl ?_
              refine T_goto (pc := 84) (tgt := 12) dX12_explains_84 (by decide) ?_
              exact ih (p + 1) true (by omega) (by omega) (fun _ => by omega)
end ME1

