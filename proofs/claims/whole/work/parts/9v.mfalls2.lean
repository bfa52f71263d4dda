/-! THE MODEL: falls -/
section MNF
variable {γ : Ga} {μ : SM2}
theorem m_falls {x z : Int32} {R : List Ru} (hR : mdR (μ.1 573) R) : Ex γ 8 0 0 M_X12_falls [.ref 572, .int x, .int z] (rm μ) (Rm (some (.int (if (chkN x 1 5 && chkB z) = true then flV R x.toNatClampNeg z else nI 0))) (fun m => MdN μ m (mT2 (chkN x 1 5) (chkB z)))) := by
  have h12 := hR.1.2
  have hR2 : mdR ((wI μ 572 0 (nI 0)).1 573) R := by rw [w573]; exact hR
  obtain ⟨Q, hQ⟩ : ∃ Q, Q = Rm (some (.int (if (chkN x 1 5 && chkB z) = true then flV R x.toNatClampNeg z else nI 0))) (fun m => MdN μ m (mT2 (chkN x 1 5) (chkB z))) := ⟨_, rfl⟩
  rw [← hQ]
  refine Ex.of (by decide +kernel) rfl (Nat.le_of_ble_eq_true rfl) ?_
  show T _ _ _ _ _ _ _ _ _ [some (.ref 572), some (.int (x)), some (.int (z)), none, none] [] (rm μ)
  refine T_aload_n (pc := 0) (i := 0) dX12_falls_0 rfl rfl ?_
  refine T_iconst (pc := 1) (v := nI 0) dX12_falls_1 (by decide) ?_
  refine R_putI (pc := 2) fl_X12_3 ⟨rfl, rfl⟩ (Or.inl rfl) kc_572 lc_572 dX12_falls_2 ?_
  refine T_aload_n (pc := 5) (i := 0) dX12_falls_5 rfl rfl ?_
  refine T_iload_n (pc := 6) (i := 1) dX12_falls_6 rfl rfl ?_
  refine T_iconst (pc := 7) (v := nI 1) dX12_falls_7 (by decide) ?_
  refine T_iconst (pc := 8) (v := nI 5) dX12_falls_8 (by decide) ?_
  refine R_callS1 (pc := 9) (av := [.int (x), .int (nI 1), .int (nI 5)]) (rest := [.ref 572]) (Or.inl lk_X12_125) mk_X12_in m_inK dX12_falls_9 rfl rfl (Nat.le_of_ble_eq_true rfl) (by decide) rfl (Nat.le_refl _) (Nat.le_refl _) ?_
  cases e1 : chkN x 1 5 with
  | false =>
    rw [e1] at hQ
    simp only [Bool.false_and, Bool.false_eq_true, if_false] at hQ
    rw [hQ]
    show T _ _ _ _ _ _ _ _ 12 [some (.ref 572), some (.int (x)), some (.int (z)), none, none] [.int (bI false), .ref 572] (rm (wI μ 572 0 (nI 0)))
    refine R_ifb_ne (pc := 12) (tgt := 19) dX12_falls_12 (by decide) (fun h1 => ?_) (fun h1 => ?_)
    · exact absurd h1 (by decide)
    · skip
      refine T_iconst (pc := 15) (v := nI 1) dX12_falls_15 (by decide) ?_
      refine T_goto (pc := 16) (tgt := 20) dX12_falls_16 (by decide) ?_
      refine T_iconst (pc := 20) (v := nI 1) dX12_falls_20 (by decide) ?_
      refine R_callV1 (pc := 21) (As := [.int (nI 1), .int (nI 1)]) (rest := []) (Or.inl lk_X12_302) mk_X12_throwsIf m_throws1n kc_572 ⟨by decide, rfl⟩ lc_572 dX12_falls_21 rfl rfl (Nat.le_of_ble_eq_true rfl) (by decide) rfl (Nat.le_refl _) (Nat.le_refl _) ?_
      refine R_ifb_ne (pc := 24) (tgt := 50) dX12_falls_24 (by decide) (fun h3 => ?_) (fun h3 => ?_)
      · skip
        refine T_iconst (pc := 50) (v := nI 0) dX12_falls_50 (by decide) ?_
        exact T_iret (pc := 51) (ty := .int) dX12_falls_51 rfl rfl (Nat.le_refl _) (Nat.le_refl _) ⟨_, rfl, rfl, Tn.two.n⟩
      · exact absurd h3 (by decide)
  | true =>
    rw [e1, Bool.true_and] at hQ
    show T _ _ _ _ _ _ _ _ 12 [some (.ref 572), some (.int (x)), some (.int (z)), none, none] [.int (bI true), .ref 572] (rm (wI μ 572 0 (nI 0)))
    refine R_ifb_ne (pc := 12) (tgt := 19) dX12_falls_12 (by decide) (fun h1 => ?_) (fun h1 => ?_)
    · skip
      refine T_iconst (pc := 19) (v := nI 0) dX12_falls_19 (by decide) ?_
      refine T_iconst (pc := 20) (v := nI 1) dX12_falls_20 (by decide) ?_
      refine R_callV1 (pc := 21) (As := [.int (nI 0), .int (nI 1)]) (rest := []) (Or.inl lk_X12_302) mk_X12_throwsIf m_throws0n kc_572 ⟨by decide, rfl⟩ lc_572 dX12_falls_21 rfl rfl (Nat.le_of_ble_eq_true rfl) (by decide) rfl (Nat.le_refl _) (Nat.le_refl _) ?_
      refine R_ifb_ne (pc := 24) (tgt := 50) dX12_falls_24 (by decide) (fun h3 => ?_) (fun h3 => ?_)
      · exact absurd h3 (by decide)
      · skip
        refine T_aload_n (pc := 27) (i := 0) dX12_falls_27 rfl rfl ?_
        refine T_iload_n (pc := 28) (i := 2) dX12_falls_28 rfl rfl ?_
        refine T_iconst (pc := 29) (v := (-1)) dX12_falls_29 (by decide) ?_
        refine T_bipush (pc := 30) (v := nI 7) dX12_falls_30 (by decide) ?_
        refine R_callS1 (pc := 32) (av := [.int (z), .int ((-1)), .int (nI 7)]) (rest := [.ref 572]) (Or.inl lk_X12_125) mk_X12_in m_in dX12_falls_32 rfl rfl (Nat.le_of_ble_eq_true rfl) (by decide) rfl (Nat.le_refl _) (Nat.le_refl _) ?_
        rw [chk8]
        cases e3 : chkB z with
        | false =>
          rw [e3] at hQ
          simp only [Bool.false_eq_true, if_false] at hQ
          rw [hQ]
          show T _ _ _ _ _ _ _ _ 35 [some (.ref 572), some (.int (x)), some (.int (z)), none, none] [.int (bI false), .ref 572] (rm (wI μ 572 0 (nI 0)))
          refine R_ifb_ne (pc := 35) (tgt := 42) dX12_falls_35 (by decide) (fun h4 => ?_) (fun h4 => ?_)
          · exact absurd h4 (by decide)
          · skip
            refine T_iconst (pc := 38) (v := nI 1) dX12_falls_38 (by decide) ?_
            refine T_goto (pc := 39) (tgt := 43) dX12_falls_39 (by decide) ?_
            refine T_iconst (pc := 43) (v := nI 2) dX12_falls_43 (by decide) ?_
            refine R_callV1 (pc := 44) (As := [.int (nI 1), .int (nI 2)]) (rest := []) (Or.inl lk_X12_302) mk_X12_throwsIf m_throws1n kc_572 ⟨by decide, rfl⟩ lc_572 dX12_falls_44 rfl rfl (Nat.le_of_ble_eq_true rfl) (by decide) rfl (Nat.le_refl _) (Nat.le_refl _) ?_
            refine R_ifb_eq (pc := 47) (tgt := 52) dX12_falls_47 (by decide) (fun h5 => ?_) (fun h5 => ?_)
            · exact absurd h5 (by decide)
            · skip
              refine T_iconst (pc := 50) (v := nI 0) dX12_falls_50 (by decide) ?_
              exact T_iret (pc := 51) (ty := .int) dX12_falls_51 rfl rfl (Nat.le_refl _) (Nat.le_refl _) ⟨_, rfl, rfl, Tn.two.n⟩
        | true =>
          rw [e3] at hQ
          simp only [if_true] at hQ
          obtain ⟨N, hN1, hN, rfl⟩ := chk_of (by decide) (by decide) e1
          rw [nI_clamp (n := N) (by omega)] at hQ
          have hQ2 : Q = Rm (some (.int (flV R N z))) (fun m => MdN μ m 0) := hQ
          obtain ⟨kl, kr⟩ := mdR_mw hR
          obtain ⟨K, eK⟩ : ∃ K, K = kJ R := ⟨_, rfl⟩
          have hK : K < 2 ^ 8 := by rw [eK]; exact Nat.or_lt_two_pow kl kr
          have hp12 := pcn_j K 12
          have fin : ∀ m : SM2, OfM F43 Swt (wI μ 572 0 (nI 0)) m → MdN μ m 0 := fun m g => MdN.of g (by unfold F43; omega) (fun j hj => by unfold F43 at hj; unfold Fz; omega) (fun k hk => by unfold Swt at hk; unfold Sz; omega)
          have t59 : T γ 8 0 0 M_X12_falls Q 0 0 59 [some (.ref 572), some (.int (nI N)), some (.int z), some (.int (nI K)), none] [] (rm (wI μ 572 0 (nI 0))) := by
            refine T_iload_n (pc := 59) (i := 3) dX12_falls_59 rfl rfl ?_
            refine R_callS1 (pc := 60) (av := [.int (nI K)]) (rest := []) (Or.inl lk_X12_532) mk_J6_bitCount_0f7a4 (c_bitCount (by omega)) dX12_falls_60 rfl rfl (Nat.le_of_ble_eq_true rfl) (by decide) rfl (Nat.le_refl _) (Nat.le_refl _) ?_
            refine T_bipush (pc := 63) (v := nI 6) dX12_falls_63 (by decide) ?_
            refine R_icmp_le (pc := 65) (tgt := 71) (by omega) (by omega) dX12_falls_65 (by decide) (fun g1 => ?_) (fun g1 => ?_)
            · skip
              have ev : flV R N z = flR z (srch (okC 0 R.length R) 1 N (lsB K 8) w0) := by rw [eK] at g1 ⊢; exact if_pos g1
              obtain ⟨o, eo⟩ : ∃ o, o = srch (okC 0 R.length R) 1 N (lsB K 8) w0 := ⟨_, rfl⟩
              obtain ⟨lst, el⟩ : ∃ lst, lst = lsB K 8 := ⟨_, rfl⟩
              rw [← eo] at ev
              rw [← el] at eo
              have nd : ndL lst := by rw [el]; exact ndL_lsB K 8
              have hb8 : ∀ b ∈ lst, b < 8 := fun b hb => by
                rw [el] at hb
                exact ((lsB_mem 8).mp hb).1
              have h08 : w0.length = 8 := rfl
              have e01 : 1 + N - 1 = N := by omega
              have last : ∀ m : SM2, (∀ v, o = some v → MWg m v) → OfM F43 Swt (wI μ 572 0 (nI 0)) m → T γ 8 0 0 M_X12_falls Q 0 0 106 [some (.ref 572), some (.int (nI N)), some (.int z), some (.int (nI K)), some (.int (bI o.isSome))] [] (rm m) := fun m hv hO => by
                rw [hQ2, ev]
                rcases chkB_of e3 with rfl | ⟨b, hb, rfl⟩
                · rw [show flR (-1) o = bI o.isSome from rfl]
                  cases o with
                  | none =>
                    show T _ _ _ _ _ _ _ _ 106 [some (.ref 572), some (.int (nI N)), some (.int ((-1))), some (.int (nI K)), some (.int (bI false))] [] (rm m)
                    refine T_iload_n (pc := 106) (i := 2) dX12_falls_106 rfl rfl ?_
                    refine T_iconst (pc := 107) (v := (-1)) dX12_falls_107 (by decide) ?_
                    refine T_icmp_ne (pc := 108) (tgt := 124) dX12_falls_108 (by decide) (fun g2 => ?_) (fun g2 => ?_)
                    · exact absurd rfl g2
                    · skip
                      refine T_iload (pc := 111) (i := 4) dX12_falls_111 rfl ?_
                      refine R_ifb_eq (pc := 113) (tgt := 120) dX12_falls_113 (by decide) (fun g3 => ?_) (fun g3 => ?_)
                      · skip
                        refine T_iconst (pc := 120) (v := nI 0) dX12_falls_120 (by decide) ?_
                        refine T_goto (pc := 121) (tgt := 139) dX12_falls_121 (by decide) ?_
                        exact T_iret (pc := 139) (ty := .int) dX12_falls_139 rfl rfl (Nat.le_refl _) (Nat.le_refl _) ⟨_, rfl, rfl, fin _ hO⟩
                      · exact absurd g3 (by decide)
                  | some v =>
                    show T _ _ _ _ _ _ _ _ 106 [some (.ref 572), some (.int (nI N)), some (.int ((-1))), some (.int (nI K)), some (.int (bI true))] [] (rm m)
                    refine T_iload_n (pc := 106) (i := 2) dX12_falls_106 rfl rfl ?_
                    refine T_iconst (pc := 107) (v := (-1)) dX12_falls_107 (by decide) ?_
                    refine T_icmp_ne (pc := 108) (tgt := 124) dX12_falls_108 (by decide) (fun g2 => ?_) (fun g2 => ?_)
                    · exact absurd rfl g2
                    · skip
                      refine T_iload (pc := 111) (i := 4) dX12_falls_111 rfl ?_
                      refine R_ifb_eq (pc := 113) (tgt := 120) dX12_falls_113 (by decide) (fun g3 => ?_) (fun g3 => ?_)
                      · exact absurd g3 (by decide)
                      · skip
                        refine T_iconst (pc := 116) (v := nI 1) dX12_falls_116 (by decide) ?_
                        refine T_goto (pc := 117) (tgt := 139) dX12_falls_117 (by decide) ?_
                        exact T_iret (pc := 139) (ty := .int) dX12_falls_139 rfl rfl (Nat.le_refl _) (Nat.le_refl _) ⟨_, rfl, rfl, fin _ hO⟩
                · cases o with
                  | none =>
                    rw [show flR (nI b) none = -1 from if_neg (nI_ne (by omega))]
                    show T _ _ _ _ _ _ _ _ 106 [some (.ref 572), some (.int (nI N)), some (.int (nI b)), some (.int (nI K)), some (.int (bI false))] [] (rm m)
                    refine T_iload_n (pc := 106) (i := 2) dX12_falls_106 rfl rfl ?_
                    refine T_iconst (pc := 107) (v := (-1)) dX12_falls_107 (by decide) ?_
                    refine T_icmp_ne (pc := 108) (tgt := 124) dX12_falls_108 (by decide) (fun g2 => ?_) (fun g2 => ?_)
                    · skip
                      refine T_iload (pc := 124) (i := 4) dX12_falls_124 rfl ?_
                      refine R_ifb_eq (pc := 126) (tgt := 138) dX12_falls_126 (by decide) (fun g3 => ?_) (fun g3 => ?_)
                      · skip
                        refine T_iconst (pc := 138) (v := (-1)) dX12_falls_138 (by decide) ?_
                        exact T_iret (pc := 139) (ty := .int) dX12_falls_139 rfl rfl (Nat.le_refl _) (Nat.le_refl _) ⟨_, rfl, rfl, fin _ hO⟩
                      · exact absurd g3 (by decide)
                    · exact absurd g2 (nI_ne (by omega))
                  | some v =>
                    have ez : flR (nI b) (some v) = nI (v.getD b 0) := by
                      show (if nI b = -1 then bI true else nI (v.getD (nI b).toNatClampNeg 0)) = _
                      rw [if_neg (nI_ne (by omega)), nI_clamp (by omega)]
                    rw [ez]
                    show T _ _ _ _ _ _ _ _ 106 [some (.ref 572), some (.int (nI N)), some (.int (nI b)), some (.int (nI K)), some (.int (bI true))] [] (rm m)
                    refine T_iload_n (pc := 106) (i := 2) dX12_falls_106 rfl rfl ?_
                    refine T_iconst (pc := 107) (v := (-1)) dX12_falls_107 (by decide) ?_
                    refine T_icmp_ne (pc := 108) (tgt := 124) dX12_falls_108 (by decide) (fun g2 => ?_) (fun g2 => ?_)
                    · skip
                      refine T_iload (pc := 124) (i := 4) dX12_falls_124 rfl ?_
                      refine R_ifb_eq (pc := 126) (tgt := 138) dX12_falls_126 (by decide) (fun g3 => ?_) (fun g3 => ?_)
                      · exact absurd g3 (by decide)
                      · skip
                        refine T_aload_n (pc := 129) (i := 0) dX12_falls_129 rfl rfl ?_
                        refine R_getR (pc := 130) (i := 588) fl_X12_80 rfl kc_572 lc_572 rc_572_42 dX12_falls_130 ?_
                        refine T_iload_n (pc := 133) (i := 2) dX12_falls_133 rfl rfl ?_
                        refine R_iald (pc := 134) (x := nI (v.getD b 0)) kc_588 lc_588 (by omega) (by first | decide | assumption) ((hv v rfl).2 b hb) dX12_falls_134 ?_
                        refine T_goto (pc := 135) (tgt := 139) dX12_falls_135 (by decide) ?_
                        exact T_iret (pc := 139) (ty := .int) dX12_falls_139 rfl rfl (Nat.le_refl _) (Nat.le_refl _) ⟨_, rfl, rfl, fin _ hO⟩
                    · exact absurd g2 (nI_ne (by omega))
              have head : ∀ (f : Nat) (w : List Nat) (m : SM2), mea 1 N lst w < f → MLs m lst → MWg m w → Dg N lst w → srF (okC 0 R.length R) 1 N lst w = o → OfM F43 Swt (wI μ 572 0 (nI 0)) m → T γ 8 0 0 M_X12_falls Q 0 0 83 [some (.ref 572), some (.int (nI N)), some (.int z), some (.int (nI K)), some (.int (bI (okC 0 R.length R w)))] [] (rm m) := by
                intro f
                induction f with
                | zero =>
                  intro w m hf
                  exact absurd hf (Nat.not_lt_zero _)
                | succ f ih =>
                  intro w m hf hL hW hdg hsr hO
                  have hdg2 : Dg (1 + N - 1) lst w := by rw [e01]; exact hdg
                  cases ec : okC 0 R.length R w with
                  | true =>
                    rw [srF_hit ec] at hsr
                    have l9 := last m (fun v hv => by rw [← hsr] at hv; cases hv; exact hW) hO
                    rw [← hsr] at l9
                    show T _ _ _ _ _ _ _ _ 83 [some (.ref 572), some (.int (nI N)), some (.int (z)), some (.int (nI K)), some (.int (bI true))] [] (rm m)
                    refine T_iload (pc := 83) (i := 4) dX12_falls_83 rfl ?_
                    refine R_ifb_ne (pc := 85) (tgt := 106) dX12_falls_85 (by decide) (fun k1 => ?_) (fun k1 => ?_)
                    · skip
                      exact l9
                    · exact absurd k1 (by decide)
                  | false =>
                    have hnx := srF_next (lo := 1) (n := N) (by omega) ec nd hdg2
                    rw [e01, hsr] at hnx
                    have hme := fun v h => mea_next (lo := 1) (n := N) (w := w) (t := lst) (w' := v) (by omega) nd hdg2 h
                    rw [e01] at hme
                    show T _ _ _ _ _ _ _ _ 83 [some (.ref 572), some (.int (nI N)), some (.int (z)), some (.int (nI K)), some (.int (bI false))] [] (rm m)
                    refine T_iload (pc := 83) (i := 4) dX12_falls_83 rfl ?_
                    refine R_ifb_ne (pc := 85) (tgt := 106) dX12_falls_85 (by decide) (fun k1 => ?_) (fun k1 => ?_)
                    · exact absurd k1 (by decide)
                    · skip
                      refine T_aload_n (pc := 88) (i := 0) dX12_falls_88 rfl rfl ?_
                      refine T_iconst (pc := 89) (v := nI 1) dX12_falls_89 (by decide) ?_
                      refine T_iload_n (pc := 90) (i := 1) dX12_falls_90 rfl rfl ?_
                      refine R_callVm1 (pc := 91) (As := [.int (nI 1), .int (nI N)]) (rest := []) (Or.inl lk_X12_525) mk_X12_nextWeights (m_nextWeights (lo := 1) hL hW nd hdg hN1 hN) kc_572 ⟨by decide, rfl⟩ lc_572 dX12_falls_91 rfl rfl (Nat.le_of_ble_eq_true rfl) (by decide) rfl (Nat.le_refl _) (Nat.le_refl _) (fun m3 h9 => ?_)
                      obtain ⟨⟨v, hv, hz⟩, hO3⟩ := h9
                      have hO4 := hO.trans (hO3.mono (F' := F43) (S' := Swt) (fun j hj => hj.elim) (fun k hk => Or.inr hk))
                      cases en : nxO 1 N lst w with
                      | none =>
                        rw [en] at hnx
                        have ho : o = none := hnx
                        have l9 := last m3 (fun v hv => by rw [ho] at hv; cases hv) hO4
                        rw [ho] at l9
                        show T _ _ _ _ _ _ _ _ 94 [some (.ref 572), some (.int (nI N)), some (.int (z)), some (.int (nI K)), some (.int (bI false))] [.int (bI false)] (rm m3)
                        refine R_ifb_eq (pc := 94) (tgt := 106) dX12_falls_94 (by decide) (fun k2 => ?_) (fun k2 => ?_)
                        · skip
                          exact l9
                        · exact absurd k2 (by decide)
                      | some u =>
                        rw [en] at hnx
                        have huv := hz u en
                        rw [← huv] at hv
                        have hdu := nxO_dg hN1 nd hdg en
                        have hlt := hme u en
                        have hRm : mdR (m3.1 573) R := by rw [(hO4.c (k := 573) (by decide) (by unfold Swt; omega)).1]; exact hR2
                        show T _ _ _ _ _ _ _ _ 94 [some (.ref 572), some (.int (nI N)), some (.int (z)), some (.int (nI K)), some (.int (bI false))] [.int (bI true)] (rm m3)
                        refine R_ifb_eq (pc := 94) (tgt := 106) dX12_falls_94 (by decide) (fun k2 => ?_) (fun k2 => ?_)
                        · exact absurd k2 (by decide)
                        · skip
                          refine T_aload_n (pc := 97) (i := 0) dX12_falls_97 rfl rfl ?_
                          refine R_callV1 (pc := 98) (As := []) (rest := []) (Or.inl lk_X12_541) mk_X12_allFall (m_allFall hRm hv) kc_572 ⟨by decide, rfl⟩ lc_572 dX12_falls_98 rfl rfl (Nat.le_of_ble_eq_true rfl) (by decide) rfl (Nat.le_refl _) (Nat.le_refl _) ?_
                          refine T_istore (pc := 101) (i := 4) (ls' := [some (.ref 572), some (.int (nI N)), some (.int (z)), some (.int (nI K)), some (.int (bI (okC 0 R.length R u)))]) dX12_falls_101 (by decide) rfl ?_
                          refine T_goto (pc := 103) (tgt := 83) dX12_falls_103 (by decide) ?_
                          exact ih u m3 (by omega) (hL.of hO3 (fun z => z) (by unfold S588; omega)) hv hdu hnx.symm hO4
              refine T_aload_n (pc := 71) (i := 0) dX12_falls_71 rfl rfl ?_
              refine T_iload_n (pc := 72) (i := 3) dX12_falls_72 rfl rfl ?_
              refine T_iconst (pc := 73) (v := nI 1) dX12_falls_73 (by decide) ?_
              refine R_callVm0 (pc := 74) (As := [.int (nI K), .int (nI 1)]) (rest := []) (Or.inl lk_X12_518) mk_X12_weighs (m_weighs hK (by omega)) kc_572 ⟨by decide, rfl⟩ lc_572 dX12_falls_74 rfl rfl (Nat.le_of_ble_eq_true rfl) (by decide) rfl (Nat.le_refl _) (Nat.le_refl _) (fun m1 h6 => ?_)
              rw [← el] at h6
              obtain ⟨⟨hL1, hW1⟩, hO1⟩ := h6
              have hR1 : mdR (m1.1 573) R := by rw [(hO1.c (k := 573) (by decide) (by unfold Swt; omega)).1]; exact hR2
              refine T_aload_n (pc := 77) (i := 0) dX12_falls_77 rfl rfl ?_
              refine R_callV1 (pc := 78) (As := []) (rest := []) (Or.inl lk_X12_541) mk_X12_allFall (m_allFall hR1 hW1) kc_572 ⟨by decide, rfl⟩ lc_572 dX12_falls_78 rfl rfl (Nat.le_of_ble_eq_true rfl) (by decide) rfl (Nat.le_refl _) (Nat.le_refl _) ?_
              refine T_istore (pc := 81) (i := 4) (ls' := [some (.ref 572), some (.int (nI N)), some (.int (z)), some (.int (nI K)), some (.int (bI (okC 0 R.length R (lws 1 lst w0))))]) dX12_falls_81 (by decide) rfl ?_
              exact head _ _ m1 (Nat.lt_succ_self _) hL1 hW1 (fun b hb => by
                have hbl : b < w0.length := by rw [h08]; exact hb8 b hb
                rw [lws_len, lws_in hb hbl]
                exact ⟨hbl, hN1⟩) ((srF_begin hN1 hb8).trans eo.symm) hO1
            · skip
              have ev : flV R N z = -3 := by rw [eK] at g1; exact if_neg (by omega)
              rw [hQ2, ev]
              refine T_bipush (pc := 68) (v := (-3)) dX12_falls_68 (by decide) ?_
              exact T_iret (pc := 70) (ty := .int) dX12_falls_70 rfl rfl (Nat.le_refl _) (Nat.le_refl _) ⟨_, rfl, rfl, Tn.one.n⟩
          show T _ _ _ _ _ _ _ _ 35 [some (.ref 572), some (.int (nI N)), some (.int (z)), none, none] [.int (bI true), .ref 572] (rm (wI μ 572 0 (nI 0)))
          refine R_ifb_ne (pc := 35) (tgt := 42) dX12_falls_35 (by decide) (fun h4 => ?_) (fun h4 => ?_)
          · skip
            refine T_iconst (pc := 42) (v := nI 0) dX12_falls_42 (by decide) ?_
            refine T_iconst (pc := 43) (v := nI 2) dX12_falls_43 (by decide) ?_
            refine R_callV1 (pc := 44) (As := [.int (nI 0), .int (nI 2)]) (rest := []) (Or.inl lk_X12_302) mk_X12_throwsIf m_throws0n kc_572 ⟨by decide, rfl⟩ lc_572 dX12_falls_44 rfl rfl (Nat.le_of_ble_eq_true rfl) (by decide) rfl (Nat.le_refl _) (Nat.le_refl _) ?_
            refine R_ifb_eq (pc := 47) (tgt := 52) dX12_falls_47 (by decide) (fun h5 => ?_) (fun h5 => ?_)
            · skip
              refine T_aload_n (pc := 52) (i := 0) dX12_falls_52 rfl rfl ?_
              refine T_iconst (pc := 53) (v := nI 1) dX12_falls_53 (by decide) ?_
              refine T_iconst (pc := 54) (v := nI 1) dX12_falls_54 (by decide) ?_
              refine R_callV1 (pc := 55) (As := [.int (nI 1), .int (nI 1)]) (rest := []) (Or.inl lk_X12_528) mk_X12_inRules (m_inRules (a := true) (b := true) hR2) kc_572 ⟨by decide, rfl⟩ lc_572 dX12_falls_55 rfl rfl (Nat.le_of_ble_eq_true rfl) (by decide) rfl (Nat.le_refl _) (Nat.le_refl _) ?_
              rw [irN_B, show kLN R R.length ||| kRN R R.length = K from eK.symm]
              refine T_istore_n (pc := 58) (i := 3) (ls' := [some (.ref 572), some (.int (nI N)), some (.int (z)), some (.int (nI K)), none]) dX12_falls_58 rfl (by decide) rfl ?_
              exact t59
            · exact absurd h5 (by decide)
          · exact absurd h4 (by decide)
    · exact absurd h1 (by decide)
end MNF

