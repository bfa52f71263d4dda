/-! THE MODEL: never -/
theorem chk8 {z : Int32} : (!decide (z < -1) && !decide (nI 7 < z)) = chkB z := by
  unfold chkB
  have e : (!decide (nI 7 < z)) = decide (z < 8) := by
    rw [Bool.eq_iff_iff, Bool.not_eq_true', decide_eq_false_iff_not, decide_eq_true_iff, fa_lt, fa_lt]
    have e7 : (nI 7).toInt = 7 := rfl
    have e8 : (8 : Int32).toInt = 8 := rfl
    omega
  rw [e]
theorem mdR_mw {g : Nat → Int32} {R : List Ru} (h : mdR g R) : kLN R R.length < 2 ^ 8 ∧ kRN R R.length < 2 ^ 8 := by
  have h1 : ∀ i, i ≤ R.length → kLN R i < 2 ^ 8 := fun i => by
    induction i with
    | zero =>
      intro _
      show (0 : Nat) < 2 ^ 8
      decide
    | succ i ih => exact fun hi => Nat.or_lt_two_pow (ih (by omega)) (kd_lt (h.2.1 i (by omega)).1)
  have h2 : ∀ i, i ≤ R.length → kRN R i < 2 ^ 8 := fun i => by
    induction i with
    | zero =>
      intro _
      show (0 : Nat) < 2 ^ 8
      decide
    | succ i ih => exact fun hi => Nat.or_lt_two_pow (ih (by omega)) (kd_lt (h.2.1 i (by omega)).2.2.2.1)
  exact ⟨h1 _ (Nat.le_refl _), h2 _ (Nat.le_refl _)⟩
theorem pcn_j (K : Nat) : ∀ j, pcn K j ≤ j
  | 0 => Nat.le_refl _
  | j + 1 => by
    have ih := pcn_j K j
    show pcn K j + K / 2 ^ j % 2 ≤ j + 1
    omega
section MNN
variable {γ : Ga} {μ : SM2}
theorem m_never {x y : Int64} {z : Int32} {R : List Ru} (hR : mdR (μ.1 573) R) : Ex γ 8 0 0 M_X12_never [.ref 572, .long x, .long y, .int z] (rm μ) (Rm (some (.int (if ((codeB x && codeB y) && chkB z) = true then nvV R (ml x, ml y) z else nI 0))) (fun m => MdN μ m (mT2 (codeB x && codeB y) (chkB z)))) := by
  have h12 := hR.1.2
  have hR2 : mdR ((wI μ 572 0 (nI 0)).1 573) R := by rw [w573]; exact hR
  obtain ⟨Q, hQ⟩ : ∃ Q, Q = Rm (some (.int (if ((codeB x && codeB y) && chkB z) = true then nvV R (ml x, ml y) z else nI 0))) (fun m => MdN μ m (mT2 (codeB x && codeB y) (chkB z))) := ⟨_, rfl⟩
  rw [← hQ]
  have bad1 : (codeB x && codeB y) = false → T γ 8 0 0 M_X12_never Q 0 0 20 [some (.ref 572), some (.long x), none, some (.long y), none, some (.int z), none, none] [.ref 572] (rm (wI μ 572 0 (nI 0))) := fun eb => by
    rw [hQ, eb]
    simp only [Bool.false_and, Bool.false_eq_true, if_false]
    refine T_iconst (pc := 20) (v := nI 1) dX12_never_20 (by decide) ?_
    refine T_goto (pc := 21) (tgt := 25) dX12_never_21 (by decide) ?_
    refine T_iconst (pc := 25) (v := nI 1) dX12_never_25 (by decide) ?_
    refine R_callV1 (pc := 26) (As := [.int (nI 1), .int (nI 1)]) (rest := []) (Or.inl lk_X12_302) mk_X12_throwsIf m_throws1n kc_572 ⟨by decide, rfl⟩ lc_572 dX12_never_26 rfl rfl (Nat.le_of_ble_eq_true rfl) (by decide) rfl (Nat.le_refl _) (Nat.le_refl _) ?_
    refine R_ifb_ne (pc := 29) (tgt := 56) dX12_never_29 (by decide) (fun h3 => ?_) (fun h3 => ?_)
    · skip
      refine T_iconst (pc := 56) (v := nI 0) dX12_never_56 (by decide) ?_
      exact T_iret (pc := 57) (ty := .int) dX12_never_57 rfl rfl (Nat.le_refl _) (Nat.le_refl _) ⟨_, rfl, rfl, Tn.two.n⟩
    · exact absurd h3 (by decide)
  refine Ex.of (by decide +kernel) rfl (Nat.le_of_ble_eq_true rfl) ?_
  show T _ _ _ _ _ _ _ _ _ [some (.ref 572), some (.long (x)), none, some (.long (y)), none, some (.int (z)), none, none] [] (rm μ)
  refine T_aload_n (pc := 0) (i := 0) dX12_never_0 rfl rfl ?_
  refine T_iconst (pc := 1) (v := nI 0) dX12_never_1 (by decide) ?_
  refine R_putI (pc := 2) fl_X12_3 ⟨rfl, rfl⟩ (Or.inl rfl) kc_572 lc_572 dX12_never_2 ?_
  refine T_aload_n (pc := 5) (i := 0) dX12_never_5 rfl rfl ?_
  refine T_lload_n (pc := 6) (i := 1) dX12_never_6 rfl rfl ?_
  cases e1 : codeB x with
  | false =>
    rw [e1] at bad1
    refine R_callS1 (pc := 7) (av := [.long (x)]) (rest := [.ref 572]) (Or.inl lk_X12_382) mk_X12_isCode (m_isCodeE e1) dX12_never_7 rfl rfl (Nat.le_of_ble_eq_true rfl) (by decide) rfl (Nat.le_refl _) (Nat.le_refl _) ?_
    refine R_ifb_eq (pc := 10) (tgt := 20) dX12_never_10 (by decide) (fun h1 => ?_) (fun h1 => ?_)
    · skip
      exact bad1 rfl
    · exact absurd h1 (by decide)
  | true =>
    rw [e1] at bad1 hQ
    rw [Bool.true_and] at bad1
    rw [Bool.true_and] at hQ
    refine R_callS1 (pc := 7) (av := [.long (x)]) (rest := [.ref 572]) (Or.inl lk_X12_382) mk_X12_isCode (m_isCodeE e1) dX12_never_7 rfl rfl (Nat.le_of_ble_eq_true rfl) (by decide) rfl (Nat.le_refl _) (Nat.le_refl _) ?_
    refine R_ifb_eq (pc := 10) (tgt := 20) dX12_never_10 (by decide) (fun h1 => ?_) (fun h1 => ?_)
    · exact absurd h1 (by decide)
    · skip
      refine T_lload_n (pc := 13) (i := 3) dX12_never_13 rfl rfl ?_
      cases e2 : codeB y with
      | false =>
        rw [e2] at bad1
        refine R_callS1 (pc := 14) (av := [.long (y)]) (rest := [.ref 572]) (Or.inl lk_X12_382) mk_X12_isCode (m_isCodeE e2) dX12_never_14 rfl rfl (Nat.le_of_ble_eq_true rfl) (by decide) rfl (Nat.le_refl _) (Nat.le_refl _) ?_
        refine R_ifb_ne (pc := 17) (tgt := 24) dX12_never_17 (by decide) (fun h2 => ?_) (fun h2 => ?_)
        · exact absurd h2 (by decide)
        · skip
          exact bad1 rfl
      | true =>
        rw [e2, Bool.true_and] at hQ
        refine R_callS1 (pc := 14) (av := [.long (y)]) (rest := [.ref 572]) (Or.inl lk_X12_382) mk_X12_isCode (m_isCodeE e2) dX12_never_14 rfl rfl (Nat.le_of_ble_eq_true rfl) (by decide) rfl (Nat.le_refl _) (Nat.le_refl _) ?_
        refine R_ifb_ne (pc := 17) (tgt := 24) dX12_never_17 (by decide) (fun h2 => ?_) (fun h2 => ?_)
        · skip
          refine T_iconst (pc := 24) (v := nI 0) dX12_never_24 (by decide) ?_
          refine T_iconst (pc := 25) (v := nI 1) dX12_never_25 (by decide) ?_
          refine R_callV1 (pc := 26) (As := [.int (nI 0), .int (nI 1)]) (rest := []) (Or.inl lk_X12_302) mk_X12_throwsIf m_throws0n kc_572 ⟨by decide, rfl⟩ lc_572 dX12_never_26 rfl rfl (Nat.le_of_ble_eq_true rfl) (by decide) rfl (Nat.le_refl _) (Nat.le_refl _) ?_
          refine R_ifb_ne (pc := 29) (tgt := 56) dX12_never_29 (by decide) (fun h3 => ?_) (fun h3 => ?_)
          · exact absurd h3 (by decide)
          · skip
            refine T_aload_n (pc := 32) (i := 0) dX12_never_32 rfl rfl ?_
            refine T_iload (pc := 33) (i := 5) dX12_never_33 rfl ?_
            refine T_iconst (pc := 35) (v := (-1)) dX12_never_35 (by decide) ?_
            refine T_bipush (pc := 36) (v := nI 7) dX12_never_36 (by decide) ?_
            refine R_callS1 (pc := 38) (av := [.int (z), .int ((-1)), .int (nI 7)]) (rest := [.ref 572]) (Or.inl lk_X12_125) mk_X12_in m_in dX12_never_38 rfl rfl (Nat.le_of_ble_eq_true rfl) (by decide) rfl (Nat.le_refl _) (Nat.le_refl _) ?_
            rw [chk8]
            cases e3 : chkB z with
            | false =>
              rw [e3] at hQ
              simp only [Bool.false_eq_true, if_false] at hQ
              rw [hQ]
              show T _ _ _ _ _ _ _ _ 41 [some (.ref 572), some (.long (x)), none, some (.long (y)), none, some (.int (z)), none, none] [.int (bI false), .ref 572] (rm (wI μ 572 0 (nI 0)))
              refine R_ifb_ne (pc := 41) (tgt := 48) dX12_never_41 (by decide) (fun h4 => ?_) (fun h4 => ?_)
              · exact absurd h4 (by decide)
              · skip
                refine T_iconst (pc := 44) (v := nI 1) dX12_never_44 (by decide) ?_
                refine T_goto (pc := 45) (tgt := 49) dX12_never_45 (by decide) ?_
                refine T_iconst (pc := 49) (v := nI 2) dX12_never_49 (by decide) ?_
                refine R_callV1 (pc := 50) (As := [.int (nI 1), .int (nI 2)]) (rest := []) (Or.inl lk_X12_302) mk_X12_throwsIf m_throws1n kc_572 ⟨by decide, rfl⟩ lc_572 dX12_never_50 rfl rfl (Nat.le_of_ble_eq_true rfl) (by decide) rfl (Nat.le_refl _) (Nat.le_refl _) ?_
                refine R_ifb_eq (pc := 53) (tgt := 58) dX12_never_53 (by decide) (fun h5 => ?_) (fun h5 => ?_)
                · exact absurd h5 (by decide)
                · skip
                  refine T_iconst (pc := 56) (v := nI 0) dX12_never_56 (by decide) ?_
                  exact T_iret (pc := 57) (ty := .int) dX12_never_57 rfl rfl (Nat.le_refl _) (Nat.le_refl _) ⟨_, rfl, rfl, Tn.two.n⟩
            | true =>
              rw [e3] at hQ
              simp only [if_true] at hQ
              obtain ⟨a, ha, rfl⟩ := codeB_iff.mp e1
              obtain ⟨d, hd, rfl⟩ := codeB_iff.mp e2
              rw [ml_cd ha, ml_cd hd] at hQ
              have hQ2 : Q = Rm (some (.int (nvV R (a, d) z))) (fun m => MdN μ m 0) := hQ
              clear bad1 hQ
              obtain ⟨kl, kr⟩ := mdR_mw hR
              have hK : kK R a d < 2 ^ 8 := Nat.or_lt_two_pow (Nat.or_lt_two_pow (Nat.or_lt_two_pow kl kr) (kd_lt ha.2)) (kd_lt hd.2)
              show T _ _ _ _ _ _ _ _ 41 [some (.ref 572), some (.long (lN (cd a))), none, some (.long (lN (cd d))), none, some (.int (z)), none, none] [.int (bI true), .ref 572] (rm (wI μ 572 0 (nI 0)))
              refine R_ifb_ne (pc := 41) (tgt := 48) dX12_never_41 (by decide) (fun h4 => ?_) (fun h4 => ?_)
              · skip
                refine T_iconst (pc := 48) (v := nI 0) dX12_never_48 (by decide) ?_
                refine T_iconst (pc := 49) (v := nI 2) dX12_never_49 (by decide) ?_
                refine R_callV1 (pc := 50) (As := [.int (nI 0), .int (nI 2)]) (rest := []) (Or.inl lk_X12_302) mk_X12_throwsIf m_throws0n kc_572 ⟨by decide, rfl⟩ lc_572 dX12_never_50 rfl rfl (Nat.le_of_ble_eq_true rfl) (by decide) rfl (Nat.le_refl _) (Nat.le_refl _) ?_
                refine R_ifb_eq (pc := 53) (tgt := 58) dX12_never_53 (by decide) (fun h5 => ?_) (fun h5 => ?_)
                · skip
                  have t76 : T γ 8 0 0 M_X12_never Q 0 0 76 [some (.ref 572), some (.long (lN (cd a))), none, some (.long (lN (cd d))), none, some (.int z), some (.int (nI (kK R a d))), none] [] (rm (wI μ 572 0 (nI 0))) := by
                    have hp12 := pcn_j (kK R a d) 12
                    have fin : ∀ m : SM2, OfM F43 Swt (wI μ 572 0 (nI 0)) m → MdN μ m 0 := fun m g => MdN.of g (by unfold F43; omega) (fun j hj => by unfold F43 at hj; unfold Fz; omega) (fun k hk => by unfold Swt at hk; unfold Sz; omega)
                    refine T_iload (pc := 76) (i := 6) dX12_never_76 rfl ?_
                    refine R_callS1 (pc := 78) (av := [.int (nI (kK R a d))]) (rest := []) (Or.inl lk_X12_532) mk_J6_bitCount_0f7a4 (c_bitCount (by omega)) dX12_never_78 rfl rfl (Nat.le_of_ble_eq_true rfl) (by decide) rfl (Nat.le_refl _) (Nat.le_refl _) ?_
                    refine T_bipush (pc := 81) (v := nI 6) dX12_never_81 (by decide) ?_
                    refine R_icmp_le (pc := 83) (tgt := 89) (by omega) (by omega) dX12_never_83 (by decide) (fun g1 => ?_) (fun g1 => ?_)
                    · skip
                      have ev : nvV R (a, d) z = nvR z (nvQ R (a, d) (lsB (kK R a d) 8) 4 2) := if_pos g1
                      rw [hQ2, ev]
                      refine T_aload_n (pc := 89) (i := 0) dX12_never_89 rfl rfl ?_
                      refine T_lload_n (pc := 90) (i := 1) dX12_never_90 rfl rfl ?_
                      refine T_lload_n (pc := 91) (i := 3) dX12_never_91 rfl rfl ?_
                      refine T_iload (pc := 92) (i := 6) dX12_never_92 rfl ?_
                      refine R_callVm1 (pc := 94) (As := [.long (lN (cd a)), .long (lN (cd d)), .int (nI (kK R a d))]) (rest := []) (Or.inl lk_X12_537) mk_X12_neverBy (m_neverBy hR2 ha hd hK) kc_572 ⟨by decide, rfl⟩ lc_572 dX12_never_94 rfl rfl (Nat.le_of_ble_eq_true rfl) (by decide) rfl (Nat.le_refl _) (Nat.le_refl _) (fun m1 g2 => ?_)
                      obtain ⟨g3, g4⟩ := g2
                      cases eo : nvQ R (a, d) (lsB (kK R a d) 8) 4 2 with
                      | none =>
                        show T _ _ _ _ _ _ _ _ 97 [some (.ref 572), some (.long (lN (cd a))), none, some (.long (lN (cd d))), none, some (.int (z)), some (.int (nI (kK R a d))), none] [.int ((-1))] (rm m1)
                        refine T_istore (pc := 97) (i := 7) (ls' := [some (.ref 572), some (.long (lN (cd a))), none, some (.long (lN (cd d))), none, some (.int (z)), some (.int (nI (kK R a d))), some (.int ((-1)))]) dX12_never_97 (by decide) rfl ?_
                        refine T_iload (pc := 99) (i := 7) dX12_never_99 rfl ?_
                        refine T_if_lt (pc := 101) (tgt := 110) dX12_never_101 (by decide) (fun g5 => ?_) (fun g5 => ?_)
                        · skip
                          refine T_iload (pc := 110) (i := 7) dX12_never_110 rfl ?_
                          refine T_goto (pc := 112) (tgt := 122) dX12_never_112 (by decide) ?_
                          exact T_iret (pc := 122) (ty := .int) dX12_never_122 rfl rfl (Nat.le_refl _) (Nat.le_refl _) ⟨_, rfl, rfl, fin _ g4⟩
                        · exact absurd (by decide) g5
                      | some q =>
                        obtain ⟨g6, g7⟩ := g3 q eo
                        rcases chkB_of e3 with rfl | ⟨b, hb, rfl⟩
                        · skip
                          show T _ _ _ _ _ _ _ _ 97 [some (.ref 572), some (.long (lN (cd a))), none, some (.long (lN (cd d))), none, some (.int ((-1))), some (.int (nI (kK R a d))), none] [.int (nI q.1)] (rm m1)
                          refine T_istore (pc := 97) (i := 7) (ls' := [some (.ref 572), some (.long (lN (cd a))), none, some (.long (lN (cd d))), none, some (.int ((-1))), some (.int (nI (kK R a d))), some (.int (nI q.1))]) dX12_never_97 (by decide) rfl ?_
                          refine T_iload (pc := 99) (i := 7) dX12_never_99 rfl ?_
                          refine R_if_lt (pc := 101) (tgt := 110) (by omega) dX12_never_101 (by decide) (fun g5 => ?_) (fun g5 => ?_)
                          · exact g5.elim
                          · skip
                            refine T_iload (pc := 104) (i := 5) dX12_never_104 rfl ?_
                            refine T_iconst (pc := 106) (v := (-1)) dX12_never_106 (by decide) ?_
                            refine T_icmp_ne (pc := 107) (tgt := 115) dX12_never_107 (by decide) (fun g8 => ?_) (fun g8 => ?_)
                            · exact absurd rfl g8
                            · skip
                              refine T_iload (pc := 110) (i := 7) dX12_never_110 rfl ?_
                              refine T_goto (pc := 112) (tgt := 122) dX12_never_112 (by decide) ?_
                              exact T_iret (pc := 122) (ty := .int) dX12_never_122 rfl rfl (Nat.le_refl _) (Nat.le_refl _) ⟨_, rfl, rfl, fin _ g4⟩
                        · have ez : nvR (nI b) (some q) = nI (q.2.getD b 0) := by
                            show (if nI b = -1 then nI q.1 else nI (q.2.getD (nI b).toNatClampNeg 0)) = _
                            rw [if_neg (nI_ne (by omega)), nI_clamp (by omega)]
                          rw [ez]
                          show T _ _ _ _ _ _ _ _ 97 [some (.ref 572), some (.long (lN (cd a))), none, some (.long (lN (cd d))), none, some (.int (nI b)), some (.int (nI (kK R a d))), none] [.int (nI q.1)] (rm m1)
                          refine T_istore (pc := 97) (i := 7) (ls' := [some (.ref 572), some (.long (lN (cd a))), none, some (.long (lN (cd d))), none, some (.int (nI b)), some (.int (nI (kK R a d))), some (.int (nI q.1))]) dX12_never_97 (by decide) rfl ?_
                          refine T_iload (pc := 99) (i := 7) dX12_never_99 rfl ?_
                          refine R_if_lt (pc := 101) (tgt := 110) (by omega) dX12_never_101 (by decide) (fun g5 => ?_) (fun g5 => ?_)
                          · exact g5.elim
                          · skip
                            refine T_iload (pc := 104) (i := 5) dX12_never_104 rfl ?_
                            refine T_iconst (pc := 106) (v := (-1)) dX12_never_106 (by decide) ?_
                            refine T_icmp_ne (pc := 107) (tgt := 115) dX12_never_107 (by decide) (fun g8 => ?_) (fun g8 => ?_)
                            · skip
                              refine T_aload_n (pc := 115) (i := 0) dX12_never_115 rfl rfl ?_
                              refine R_getR (pc := 116) (i := 588) fl_X12_80 rfl kc_572 lc_572 rc_572_42 dX12_never_116 ?_
                              refine T_iload (pc := 119) (i := 5) dX12_never_119 rfl ?_
                              refine R_iald (pc := 121) (x := nI (q.2.getD b 0)) kc_588 lc_588 (by omega) (by first | decide | assumption) (g6.2 b hb) dX12_never_121 ?_
                              exact T_iret (pc := 122) (ty := .int) dX12_never_122 rfl rfl (Nat.le_refl _) (Nat.le_refl _) ⟨_, rfl, rfl, fin _ g4⟩
                            · exact absurd g8 (nI_ne (by omega))
                    · skip
                      have ev : nvV R (a, d) z = -3 := if_neg (by show ¬ pcn (kK R a d) 12 ≤ 6; omega)
                      rw [hQ2, ev]
                      refine T_bipush (pc := 86) (v := (-3)) dX12_never_86 (by decide) ?_
                      exact T_iret (pc := 88) (ty := .int) dX12_never_88 rfl rfl (Nat.le_refl _) (Nat.le_refl _) ⟨_, rfl, rfl, Tn.one.n⟩
                  refine T_aload_n (pc := 58) (i := 0) dX12_never_58 rfl rfl ?_
                  refine T_iconst (pc := 59) (v := nI 1) dX12_never_59 (by decide) ?_
                  refine T_iconst (pc := 60) (v := nI 1) dX12_never_60 (by decide) ?_
                  refine R_callV1 (pc := 61) (As := [.int (nI 1), .int (nI 1)]) (rest := []) (Or.inl lk_X12_528) mk_X12_inRules (m_inRules (a := true) (b := true) hR2) kc_572 ⟨by decide, rfl⟩ lc_572 dX12_never_61 rfl rfl (Nat.le_of_ble_eq_true rfl) (by decide) rfl (Nat.le_refl _) (Nat.le_refl _) ?_
                  obtain ⟨k9, ek⟩ : ∃ k9, kLN R R.length ||| kRN R R.length = k9 := ⟨_, rfl⟩
                  rw [irN_B, ek]
                  refine T_lload_n (pc := 64) (i := 1) dX12_never_64 rfl rfl ?_
                  refine R_callS1 (pc := 65) (av := [.long (lN (cd a))]) (rest := [.int (nI k9)]) (Or.inl lk_X12_509) mk_X12_beastsOf (m_beastsOf ha) dX12_never_65 rfl rfl (Nat.le_of_ble_eq_true rfl) (by decide) rfl (Nat.le_refl _) (Nat.le_refl _) ?_
                  refine R_ior (pc := 68) dX12_never_68 ?_
                  refine T_lload_n (pc := 69) (i := 3) dX12_never_69 rfl rfl ?_
                  refine R_callS1 (pc := 70) (av := [.long (lN (cd d))]) (rest := [.int (nI (k9 ||| (kd a)))]) (Or.inl lk_X12_509) mk_X12_beastsOf (m_beastsOf hd) dX12_never_70 rfl rfl (Nat.le_of_ble_eq_true rfl) (by decide) rfl (Nat.le_refl _) (Nat.le_refl _) ?_
                  refine R_ior (pc := 73) dX12_never_73 ?_
                  refine T_istore (pc := 74) (i := 6) (ls' := [some (.ref 572), some (.long (lN (cd a))), none, some (.long (lN (cd d))), none, some (.int (z)), some (.int (nI ((k9 ||| (kd a)) ||| (kd d)))), none]) dX12_never_74 (by decide) rfl ?_
                  rw [show k9 ||| kd a ||| kd d = kK R a d by rw [← ek]; rfl]
                  exact t76
                · exact absurd h5 (by decide)
              · exact absurd h4 (by decide)
        · exact absurd h2 (by decide)
end MNN

