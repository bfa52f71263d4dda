/-! THE MODEL: light -/
section MH
variable {γ : Ga} {μ : SM2}
theorem m_lightOf {W l : List Nat} (h : mdW (μ.1 573) W) (hl : Mw l) : Ex γ 5 0 0 M_X12_lightOf [.ref 572, .long (lN (cd l))] (rm μ) (Fn (some (.int (nI (wgN W l l.length)))) μ) := by
  have h20 := hl.1
  refine Ex.of (by decide +kernel) rfl (Nat.le_of_ble_eq_true rfl) ?_
  show T _ _ _ _ _ _ _ _ _ [some (.ref 572), some (.long (lN (cd l))), none, none, none] [] (rm μ)
  refine T_iconst (pc := 0) (v := nI 0) dX12_lightOf_0 (by decide) ?_
  refine T_istore_n (pc := 1) (i := 3) (ls' := [some (.ref 572), some (.long (lN (cd l))), none, some (.int (nI 0)), none]) dX12_lightOf_1 rfl (by decide) rfl ?_
  refine T_iconst (pc := 2) (v := nI 0) dX12_lightOf_2 (by decide) ?_
  refine T_istore (pc := 3) (i := 4) (ls' := [some (.ref 572), some (.long (lN (cd l))), none, some (.int (nI 0)), some (.int (nI 0))]) dX12_lightOf_3 (by decide) rfl ?_
  suffices loop : ∀ (f k : Nat), k + f = l.length → T γ 5 0 0 M_X12_lightOf (Fn (some (.int (nI (wgN W l l.length)))) μ) 0 0 5 [some (.ref 572), some (.long (lN (cd l))), none, some (.int (nI (wgN W l k))), some (.int (nI k))] [] (rm μ) by
    exact loop l.length 0 (Nat.zero_add _)
  intro f
  induction f with
  | zero =>
    intro k hk
    have e : k = l.length := by omega
    subst e
    refine T_iload (pc := 5) (i := 4) dX12_lightOf_5 rfl ?_
    refine T_lload_n (pc := 7) (i := 1) dX12_lightOf_7 rfl rfl ?_
    refine R_callS1 (pc := 8) (av := [.long (lN (cd l))]) (rest := [.int (nI l.length)]) (Or.inl lk_X12_13) mk_X12_size (m_size hl) dX12_lightOf_8 rfl rfl (Nat.le_of_ble_eq_true rfl) (by decide) rfl (Nat.le_refl _) (Nat.le_refl _) ?_
    refine R_icmp_ge (pc := 11) (tgt := 37) (by omega) (by omega) dX12_lightOf_11 (by decide) (fun h1 => ?_) (fun h1 => ?_)
    · skip
      refine T_iload_n (pc := 37) (i := 3) dX12_lightOf_37 rfl rfl ?_
      exact T_iret (pc := 38) (ty := .int) dX12_lightOf_38 rfl rfl (Nat.le_refl _) (Nat.le_refl _) ⟨rfl, rfl⟩
    · exact absurd h1 (by omega)
  | succ f ih =>
    intro k hk
    have hb := okb_gd hl.2 (i := k) (by omega)
    refine T_iload (pc := 5) (i := 4) dX12_lightOf_5 rfl ?_
    refine T_lload_n (pc := 7) (i := 1) dX12_lightOf_7 rfl rfl ?_
    refine R_callS1 (pc := 8) (av := [.long (lN (cd l))]) (rest := [.int (nI k)]) (Or.inl lk_X12_13) mk_X12_size (m_size hl) dX12_lightOf_8 rfl rfl (Nat.le_of_ble_eq_true rfl) (by decide) rfl (Nat.le_refl _) (Nat.le_refl _) ?_
    refine R_icmp_ge (pc := 11) (tgt := 37) (by omega) (by omega) dX12_lightOf_11 (by decide) (fun h1 => ?_) (fun h1 => ?_)
    · exact absurd h1 (by omega)
    · skip
      refine T_iload_n (pc := 14) (i := 3) dX12_lightOf_14 rfl rfl ?_
      refine T_aload_n (pc := 15) (i := 0) dX12_lightOf_15 rfl rfl ?_
      refine R_getR (pc := 16) (i := 573) fl_X12_29 rfl kc_572 lc_572 rc_572_1 dX12_lightOf_16 ?_
      refine T_bipush (pc := 19) (v := nI 9) dX12_lightOf_19 (by decide) ?_
      refine T_lload_n (pc := 21) (i := 1) dX12_lightOf_21 rfl rfl ?_
      refine T_iload (pc := 22) (i := 4) dX12_lightOf_22 rfl ?_
      refine R_callS1 (pc := 24) (av := [.long (lN (cd l)), .int (nI k)]) (rest := [.int (nI 9), .ref 573, .int (nI (wgN W l k))]) (Or.inl lk_X12_199) mk_X12_beastOf (m_beastOf hl (by omega)) dX12_lightOf_24 rfl rfl (Nat.le_of_ble_eq_true rfl) (by decide) rfl (Nat.le_refl _) (Nat.le_refl _) ?_
      refine R_iadd (pc := 27) dX12_lightOf_27 ?_
      refine R_iald (pc := 28) (x := nI (W.getD (l.getD k 0) 0)) kc_573 lc_573 (by omega) (by first | decide | assumption) ((h.2 _ hb).2) dX12_lightOf_28 ?_
      refine R_iadd (pc := 29) dX12_lightOf_29 ?_
      refine T_istore_n (pc := 30) (i := 3) (ls' := [some (.ref 572), some (.long (lN (cd l))), none, some (.int (nI ((wgN W l k) + (W.getD (l.getD k 0) 0)))), some (.int (nI k))]) dX12_lightOf_30 rfl (by decide) rfl ?_
      refine R_iinc (pc := 31) (i := 4) (n := 1) (ls' := [some (.ref 572), some (.long (lN (cd l))), none, some (.int (nI ((wgN W l k) + (W.getD (l.getD k 0) 0)))), some (.int (nI (k + 1)))]) dX12_lightOf_31 rfl rfl ?_
      refine T_goto (pc := 34) (tgt := 5) dX12_lightOf_34 (by decide) ?_
      exact ih (k + 1) (by omega)
theorem m_light {x : Int64} {W : List Nat} (h : mdW (μ.1 573) W) : Ex γ 6 0 0 M_X12_light [.ref 572, .long x] (rm μ) (Rm (some (.int (if codeB x = true then nI (wgN W (ml x) (ml x).length) else nI 0))) (fun m => Tn μ m (if codeB x = true then 0 else 1))) := by
  have h2 : mdW ((wI μ 572 0 (nI 0)).1 573) W := by rw [w573]; exact h
  cases e : codeB x with
  | false =>
    have hn : Ex γ 4 0 0 M_X12_isCode [.long x] (rm (wI μ 572 0 (nI 0))) (Fn (some (.int (bI false))) (wI μ 572 0 (nI 0))) := by rw [← e]; exact m_isCode
    rw [if_neg Bool.false_ne_true, if_neg Bool.false_ne_true]
    refine Ex.of (by decide +kernel) rfl (Nat.le_of_ble_eq_true rfl) ?_
    show T _ _ _ _ _ _ _ _ _ [some (.ref 572), some (.long (x)), none] [] (rm μ)
    refine T_aload_n (pc := 0) (i := 0) dX12_light_0 rfl rfl ?_
    refine T_iconst (pc := 1) (v := nI 0) dX12_light_1 (by decide) ?_
    refine R_putI (pc := 2) fl_X12_3 ⟨rfl, rfl⟩ (Or.inl rfl) kc_572 lc_572 dX12_light_2 ?_
    refine T_aload_n (pc := 5) (i := 0) dX12_light_5 rfl rfl ?_
    refine T_lload_n (pc := 6) (i := 1) dX12_light_6 rfl rfl ?_
    refine R_callS1 (pc := 7) (av := [.long (x)]) (rest := [.ref 572]) (Or.inl lk_X12_382) mk_X12_isCode hn dX12_light_7 rfl rfl (Nat.le_of_ble_eq_true rfl) (by decide) rfl (Nat.le_refl _) (Nat.le_refl _) ?_
    refine R_ifb_ne (pc := 10) (tgt := 17) dX12_light_10 (by decide) (fun h1 => ?_) (fun h1 => ?_)
    · exact absurd h1 (by decide)
    · skip
      refine T_iconst (pc := 13) (v := nI 1) dX12_light_13 (by decide) ?_
      refine T_goto (pc := 14) (tgt := 18) dX12_light_14 (by decide) ?_
      refine T_iconst (pc := 18) (v := nI 1) dX12_light_18 (by decide) ?_
      refine R_callV1 (pc := 19) (As := [.int (nI 1), .int (nI 1)]) (rest := []) (Or.inl lk_X12_302) mk_X12_throwsIf m_throws1n kc_572 ⟨by decide, rfl⟩ lc_572 dX12_light_19 rfl rfl (Nat.le_of_ble_eq_true rfl) (by decide) rfl (Nat.le_refl _) (Nat.le_refl _) ?_
      refine R_ifb_eq (pc := 22) (tgt := 29) dX12_light_22 (by decide) (fun h2 => ?_) (fun h2 => ?_)
      · exact absurd h2 (by decide)
      · skip
        refine T_iconst (pc := 25) (v := nI 0) dX12_light_25 (by decide) ?_
        refine T_goto (pc := 26) (tgt := 34) dX12_light_26 (by decide) ?_
        exact T_iret (pc := 34) (ty := .int) dX12_light_34 rfl rfl (Nat.le_refl _) (Nat.le_refl _) ⟨_, rfl, rfl, Tn.two⟩
  | true =>
    have hn : Ex γ 4 0 0 M_X12_isCode [.long x] (rm (wI μ 572 0 (nI 0))) (Fn (some (.int (bI true))) (wI μ 572 0 (nI 0))) := by rw [← e]; exact m_isCode
    obtain ⟨l, hl, rfl⟩ := codeB_iff.mp e
    rw [if_pos (c := true = true) rfl, if_pos (c := true = true) rfl, ml_cd hl]
    refine Ex.of (by decide +kernel) rfl (Nat.le_of_ble_eq_true rfl) ?_
    show T _ _ _ _ _ _ _ _ _ [some (.ref 572), some (.long (lN (cd l))), none] [] (rm μ)
    refine T_aload_n (pc := 0) (i := 0) dX12_light_0 rfl rfl ?_
    refine T_iconst (pc := 1) (v := nI 0) dX12_light_1 (by decide) ?_
    refine R_putI (pc := 2) fl_X12_3 ⟨rfl, rfl⟩ (Or.inl rfl) kc_572 lc_572 dX12_light_2 ?_
    refine T_aload_n (pc := 5) (i := 0) dX12_light_5 rfl rfl ?_
    refine T_lload_n (pc := 6) (i := 1) dX12_light_6 rfl rfl ?_
    refine R_callS1 (pc := 7) (av := [.long (lN (cd l))]) (rest := [.ref 572]) (Or.inl lk_X12_382) mk_X12_isCode hn dX12_light_7 rfl rfl (Nat.le_of_ble_eq_true rfl) (by decide) rfl (Nat.le_refl _) (Nat.le_refl _) ?_
    refine R_ifb_ne (pc := 10) (tgt := 17) dX12_light_10 (by decide) (fun h1 => ?_) (fun h1 => ?_)
    · skip
      refine T_iconst (pc := 17) (v := nI 0) dX12_light_17 (by decide) ?_
      refine T_iconst (pc := 18) (v := nI 1) dX12_light_18 (by decide) ?_
      refine R_callV1 (pc := 19) (As := [.int (nI 0), .int (nI 1)]) (rest := []) (Or.inl lk_X12_302) mk_X12_throwsIf m_throws0n kc_572 ⟨by decide, rfl⟩ lc_572 dX12_light_19 rfl rfl (Nat.le_of_ble_eq_true rfl) (by decide) rfl (Nat.le_refl _) (Nat.le_refl _) ?_
      refine R_ifb_eq (pc := 22) (tgt := 29) dX12_light_22 (by decide) (fun h3 => ?_) (fun h3 => ?_)
      · skip
        refine T_aload_n (pc := 29) (i := 0) dX12_light_29 rfl rfl ?_
        refine T_lload_n (pc := 30) (i := 1) dX12_light_30 rfl rfl ?_
        refine R_callV1 (pc := 31) (As := [.long (lN (cd l))]) (rest := []) (Or.inl lk_X12_544) mk_X12_lightOf (m_lightOf h2 hl) kc_572 ⟨by decide, rfl⟩ lc_572 dX12_light_31 rfl rfl (Nat.le_of_ble_eq_true rfl) (by decide) rfl (Nat.le_refl _) (Nat.le_refl _) ?_
        exact T_iret (pc := 34) (ty := .int) dX12_light_34 rfl rfl (Nat.le_refl _) (Nat.le_refl _) ⟨_, rfl, rfl, Tn.one⟩
      · exact absurd h3 (by decide)
    · exact absurd h1 (by decide)
end MH

