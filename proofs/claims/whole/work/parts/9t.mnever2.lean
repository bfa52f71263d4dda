/-! THE MODEL: neverBy -/
def nvS : Option (Nat × List Nat) → Int32
  | none => -1
  | some q => nI q.1
theorem nvQ_hit {R : List Ru} {x : Ru} {lst w : List Nat} {f md : Nat} (h : srch (okC md R.length (R ++ [x])) 0 md lst w0 = some w) : nvQ R x lst (f + 1) md = some (md, w) := by rw [nvQ_s, h]
theorem nvQ_no {R : List Ru} {x : Ru} {lst : List Nat} {f md : Nat} (h : srch (okC md R.length (R ++ [x])) 0 md lst w0 = none) : nvQ R x lst (f + 1) md = nvQ R x lst f (md + 1) := by rw [nvQ_s, h]
section MNB
variable {γ : Ga} {μ : SM2}
theorem m_neverBy {R : List Ru} {a d : List Nat} {K : Nat} (hR : mdR (μ.1 573) R) (ha : Mw a) (hd : Mw d) (hK : K < 2 ^ 8) : Ex γ 7 0 0 M_X12_neverBy [.ref 572, .long (lN (cd a)), .long (lN (cd d)), .int (nI K)] (rm μ) (Rm (some (.int (nvS (nvQ R (a, d) (lsB K 8) 4 2)))) (fun m => (∀ q, nvQ R (a, d) (lsB K 8) 4 2 = some q → MWg m q.2 ∧ q.1 < 6) ∧ OfM F43 Swt μ m)) := by
  obtain ⟨lst, el⟩ : ∃ lst, lst = lsB K 8 := ⟨_, rfl⟩
  have nd : ndL lst := by rw [el]; exact ndL_lsB K 8
  have hb8 : ∀ b ∈ lst, b < 8 := fun b hb => by
    rw [el] at hb
    exact ((lsB_mem 8).mp hb).1
  have h08 : w0.length = 8 := rfl
  rw [← el]
  obtain ⟨o, eo⟩ : ∃ o, o = nvQ R (a, d) lst 4 2 := ⟨_, rfl⟩
  rw [← eo]
  suffices outer : ∀ (g md : Nat) (m : SM2), md + g = 6 → 2 ≤ md → o = nvQ R (a, d) lst g md → OfM F43 Swt μ m → T γ 7 0 0 M_X12_neverBy (Rm (some (.int (nvS o))) (fun m => (∀ q, o = some q → MWg m q.2 ∧ q.1 < 6) ∧ OfM F43 Swt μ m)) 0 0 3 [some (.ref 572), some (.long (lN (cd a))), none, some (.long (lN (cd d))), none, some (.int (nI K)), some (.int (nI md))] [] (rm m) by
    refine Ex.of (by decide +kernel) rfl (Nat.le_of_ble_eq_true rfl) ?_
    show T _ _ _ _ _ _ _ _ _ [some (.ref 572), some (.long (lN (cd a))), none, some (.long (lN (cd d))), none, some (.int (nI K)), none] [] (rm μ)
    refine T_iconst (pc := 0) (v := nI 2) dX12_neverBy_0 (by decide) ?_
    refine T_istore (pc := 1) (i := 6) (ls' := [some (.ref 572), some (.long (lN (cd a))), none, some (.long (lN (cd d))), none, some (.int (nI K)), some (.int (nI 2))]) dX12_neverBy_1 (by decide) rfl ?_
    exact outer 4 2 μ rfl (Nat.le_refl _) eo (OfM.refl _ _ _)
  intro g
  induction g with
  | zero =>
    intro md m hm h2 ho hO
    have ho2 : o = none := ho
    rw [ho2]
    refine T_iload (pc := 3) (i := 6) dX12_neverBy_3 rfl ?_
    refine T_iconst (pc := 5) (v := nI 5) dX12_neverBy_5 (by decide) ?_
    refine R_icmp_gt (pc := 6) (tgt := 48) (by omega) (by omega) dX12_neverBy_6 (by decide) (fun h1 => ?_) (fun h1 => ?_)
    · skip
      refine T_iconst (pc := 48) (v := (-1)) dX12_neverBy_48 (by decide) ?_
      exact T_iret (pc := 49) (ty := .int) dX12_neverBy_49 rfl rfl (Nat.le_refl _) (Nat.le_refl _) ⟨_, rfl, rfl, (fun q z => by cases z), hO⟩
    · exact absurd h1 (by omega)
  | succ g ih =>
    intro md m hm h2 ho hO
    have e01 : 0 + md - 1 = md - 1 := by omega
    refine T_iload (pc := 3) (i := 6) dX12_neverBy_3 rfl ?_
    refine T_iconst (pc := 5) (v := nI 5) dX12_neverBy_5 (by decide) ?_
    refine R_icmp_gt (pc := 6) (tgt := 48) (by omega) (by omega) dX12_neverBy_6 (by decide) (fun h1 => ?_) (fun h1 => ?_)
    · exact absurd h1 (by omega)
    · skip
      refine T_aload_n (pc := 9) (i := 0) dX12_neverBy_9 rfl rfl ?_
      refine T_iload (pc := 10) (i := 5) dX12_neverBy_10 rfl ?_
      refine T_iconst (pc := 12) (v := nI 0) dX12_neverBy_12 (by decide) ?_
      refine R_callVm0 (pc := 13) (As := [.int (nI K), .int (nI 0)]) (rest := []) (Or.inl lk_X12_518) mk_X12_weighs (m_weighs hK (by omega)) kc_572 ⟨by decide, rfl⟩ lc_572 dX12_neverBy_13 rfl rfl (Nat.le_of_ble_eq_true rfl) (by decide) rfl (Nat.le_refl _) (Nat.le_refl _) (fun m1 h3 => ?_)
      rw [← el] at h3
      obtain ⟨⟨hL1, hW1⟩, hO1⟩ := h3
      suffices inner : ∀ (N : Nat) (w : List Nat) (m : SM2), mea 0 md lst w < N → MLs m lst → MWg m w → Dg (md - 1) lst w → srF (okC md R.length (R ++ [(a, d)])) 0 md lst w = srch (okC md R.length (R ++ [(a, d)])) 0 md lst w0 → OfM F43 Swt μ m → T γ 7 0 0 M_X12_neverBy (Rm (some (.int (nvS o))) (fun m => (∀ q, o = some q → MWg m q.2 ∧ q.1 < 6) ∧ OfM F43 Swt μ m)) 0 0 16 [some (.ref 572), some (.long (lN (cd a))), none, some (.long (lN (cd d))), none, some (.int (nI K)), some (.int (nI md))] [] (rm m) by
        exact inner _ _ m1 (Nat.lt_succ_self _) hL1 hW1 (fun b hb => by
          have hbl : b < w0.length := by rw [h08]; exact hb8 b hb
          rw [lws_len, lws_in hb hbl]
          exact ⟨hbl, Nat.zero_le _⟩) (srF_begin (by omega) hb8) (hO.trans hO1)
      intro N
      induction N with
      | zero =>
        intro w m hN
        exact absurd hN (Nat.not_lt_zero _)
      | succ N ihN =>
        intro w m hN hL hW hdg hsr hO2
        have hRm : mdR (m.1 573) R := by rw [(hO2.c (k := 573) (by decide) (by unfold Swt; omega)).1]; exact hR
        have hdg2 : Dg (0 + md - 1) lst w := by rw [e01]; exact hdg
        refine T_aload_n (pc := 16) (i := 0) dX12_neverBy_16 rfl rfl ?_
        refine T_lload_n (pc := 17) (i := 1) dX12_neverBy_17 rfl rfl ?_
        refine T_lload_n (pc := 18) (i := 3) dX12_neverBy_18 rfl rfl ?_
        refine T_iload (pc := 19) (i := 6) dX12_neverBy_19 rfl ?_
        refine R_callV1 (pc := 21) (As := [.long (lN (cd a)), .long (lN (cd d)), .int (nI md)]) (rest := []) (Or.inl lk_X12_521) mk_X12_isNever (m_isNever hRm hW ha hd ⟨by omega, h2⟩) kc_572 ⟨by decide, rfl⟩ lc_572 dX12_neverBy_21 rfl rfl (Nat.le_of_ble_eq_true rfl) (by decide) rfl (Nat.le_refl _) (Nat.le_refl _) ?_
        cases ec : okC md R.length (R ++ [(a, d)]) w with
        | true =>
          rw [srF_hit ec] at hsr
          rw [nvQ_hit hsr.symm] at ho
          rw [ho]
          show T _ _ _ _ _ _ _ _ 24 [some (.ref 572), some (.long (lN (cd a))), none, some (.long (lN (cd d))), none, some (.int (nI K)), some (.int (nI md))] [.int (bI true)] (rm m)
          refine R_ifb_eq (pc := 24) (tgt := 30) dX12_neverBy_24 (by decide) (fun k1 => ?_) (fun k1 => ?_)
          · exact absurd k1 (by decide)
          · skip
            refine T_iload (pc := 27) (i := 6) dX12_neverBy_27 rfl ?_
            exact T_iret (pc := 29) (ty := .int) dX12_neverBy_29 rfl rfl (Nat.le_refl _) (Nat.le_refl _) ⟨_, rfl, rfl, (fun q z => by cases z; exact ⟨hW, by show md < 6; omega⟩), hO2⟩
        | false =>
          have hnx := srF_next (lo := 0) (n := md) (by omega) ec nd hdg2
          rw [e01] at hnx
          have hme := fun v h => mea_next (lo := 0) (n := md) (w := w) (t := lst) (w' := v) (by omega) nd hdg2 h
          rw [e01] at hme
          show T _ _ _ _ _ _ _ _ 24 [some (.ref 572), some (.long (lN (cd a))), none, some (.long (lN (cd d))), none, some (.int (nI K)), some (.int (nI md))] [.int (bI false)] (rm m)
          refine R_ifb_eq (pc := 24) (tgt := 30) dX12_neverBy_24 (by decide) (fun k1 => ?_) (fun k1 => ?_)
          · skip
            refine T_aload_n (pc := 30) (i := 0) dX12_neverBy_30 rfl rfl ?_
            refine T_iconst (pc := 31) (v := nI 0) dX12_neverBy_31 (by decide) ?_
            refine T_iload (pc := 32) (i := 6) dX12_neverBy_32 rfl ?_
            refine T_iconst (pc := 34) (v := nI 1) dX12_neverBy_34 (by decide) ?_
            refine R_isub (pc := 35) (by omega) dX12_neverBy_35 ?_
            refine R_callVm1 (pc := 36) (As := [.int (nI 0), .int (nI (md - 1))]) (rest := []) (Or.inl lk_X12_525) mk_X12_nextWeights (m_nextWeights (lo := 0) hL hW nd hdg (by omega) (by omega)) kc_572 ⟨by decide, rfl⟩ lc_572 dX12_neverBy_36 rfl rfl (Nat.le_of_ble_eq_true rfl) (by decide) rfl (Nat.le_refl _) (Nat.le_refl _) (fun m3 h3 => ?_)
            obtain ⟨⟨v, hv, hz⟩, hO3⟩ := h3
            have hO4 : OfM F43 Swt μ m3 := hO2.trans (hO3.mono (fun j hj => hj.elim) (fun k hk => Or.inr hk))
            cases en : nxO 0 (md - 1) lst w with
            | none =>
              rw [en] at hnx
              have hs0 : srch (okC md R.length (R ++ [(a, d)])) 0 md lst w0 = none := hsr.symm.trans hnx
              rw [nvQ_no hs0] at ho
              show T _ _ _ _ _ _ _ _ 39 [some (.ref 572), some (.long (lN (cd a))), none, some (.long (lN (cd d))), none, some (.int (nI K)), some (.int (nI md))] [.int (bI false)] (rm m3)
              refine R_ifb_ne (pc := 39) (tgt := 16) dX12_neverBy_39 (by decide) (fun k2 => ?_) (fun k2 => ?_)
              · exact absurd k2 (by decide)
              · skip
                refine R_iinc (pc := 42) (i := 6) (n := 1) (ls' := [some (.ref 572), some (.long (lN (cd a))), none, some (.long (lN (cd d))), none, some (.int (nI K)), some (.int (nI (md + 1)))]) dX12_neverBy_42 rfl rfl ?_
                refine T_goto (pc := 45) (tgt := 3) dX12_neverBy_45 (by decide) ?_
                exact ih (md + 1) m3 (by omega) (by omega) ho hO4
            | some u =>
              rw [en] at hnx
              have huv := hz u en
              rw [← huv] at hv
              have hdu := nxO_dg (Nat.zero_le _) nd hdg en
              have hlt := hme u en
              show T _ _ _ _ _ _ _ _ 39 [some (.ref 572), some (.long (lN (cd a))), none, some (.long (lN (cd d))), none, some (.int (nI K)), some (.int (nI md))] [.int (bI true)] (rm m3)
              refine R_ifb_ne (pc := 39) (tgt := 16) dX12_neverBy_39 (by decide) (fun k2 => ?_) (fun k2 => ?_)
              · skip
                exact ihN u m3 (by omega) (hL.of hO3 (fun z => z) (by unfold S588; omega)) hv hdu (hnx.symm.trans hsr) hO4
              · exact absurd k2 (by decide)
          · exact absurd k1 (by decide)
end MNB

