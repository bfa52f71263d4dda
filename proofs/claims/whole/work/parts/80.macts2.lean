/-! THE MODEL: undo, remembers -/
section MB
variable {γ : Ga} {μ : SM2}
theorem m_undo {r : Nat} (hr : μ.1 572 6 = nI r) (h16 : r ≤ 16) : Ex γ 1 0 0 M_X12_undo [.ref 572] (rm μ) (Rm (some (.int (bI (decide (r ≠ 0))))) (fun m => (∀ j, m.1 573 j = if r ≠ 0 ∧ j < 339 then μ.1 576 (339 * (r - 1) + j) else μ.1 573 j) ∧ (m.1 572 0 = nI 0 ∧ m.1 572 6 = nI (r - 1) ∧ ∀ j, j ≠ 0 → j ≠ 6 → m.1 572 j = μ.1 572 j) ∧ OfS (fun k => k = 572 ∨ k = 573) μ m)) := by
  by_cases h0 : r = 0
  · subst h0
    rw [decide_eq_false (fun z => z rfl)]
    refine Ex.of (by decide +kernel) rfl (Nat.le_of_ble_eq_true rfl) ?_
    show T _ _ _ _ _ _ _ _ _ [some (.ref 572), none] [] (rm μ)
    refine T_aload_n (pc := 0) (i := 0) dX12_undo_0 rfl rfl ?_
    refine T_iconst (pc := 1) (v := nI 0) dX12_undo_1 (by decide) ?_
    refine R_putI (pc := 2) fl_X12_3 ⟨rfl, rfl⟩ (Or.inl rfl) kc_572 lc_572 dX12_undo_2 ?_
    refine T_aload_n (pc := 5) (i := 0) dX12_undo_5 rfl rfl ?_
    refine R_getI (pc := 6) (x := nI 0) fl_X12_102 rfl kc_572 lc_572 ((wI_ne (by decide)).trans hr) dX12_undo_6 ?_
    refine R_if_ne (pc := 9) (tgt := 14) (by omega) dX12_undo_9 (by decide) (fun h1 => ?_) (fun h1 => ?_)
    · exact absurd h1 (by decide)
    · skip
      refine T_iconst (pc := 12) (v := nI 0) dX12_undo_12 (by decide) ?_
      exact T_iret (pc := 13) (ty := .boolean) dX12_undo_13 rfl (by decide) (Nat.le_refl _) (Nat.le_refl _) ⟨_, rfl, rfl, fun j => by rw [if_neg (fun z => z.1 rfl)]; exact n_wI (by omega), ⟨e_wI ⟨rfl, rfl⟩, (n_wI (by omega)).trans hr, fun j h0 h6 => n_wI (by omega)⟩, OfS.sI (OfS.refl _ _) (Or.inl rfl)⟩
  · rw [decide_eq_true h0]
    refine Ex.of (by decide +kernel) rfl (Nat.le_of_ble_eq_true rfl) ?_
    show T _ _ _ _ _ _ _ _ _ [some (.ref 572), none] [] (rm μ)
    refine T_aload_n (pc := 0) (i := 0) dX12_undo_0 rfl rfl ?_
    refine T_iconst (pc := 1) (v := nI 0) dX12_undo_1 (by decide) ?_
    refine R_putI (pc := 2) fl_X12_3 ⟨rfl, rfl⟩ (Or.inl rfl) kc_572 lc_572 dX12_undo_2 ?_
    refine T_aload_n (pc := 5) (i := 0) dX12_undo_5 rfl rfl ?_
    refine R_getI (pc := 6) (x := nI r) fl_X12_102 rfl kc_572 lc_572 ((wI_ne (by decide)).trans hr) dX12_undo_6 ?_
    refine R_if_ne (pc := 9) (tgt := 14) (by omega) dX12_undo_9 (by decide) (fun h1 => ?_) (fun h1 => ?_)
    · skip
      refine T_aload_n (pc := 14) (i := 0) dX12_undo_14 rfl rfl ?_
      refine T_dup (pc := 15) dX12_undo_15 rfl ?_
      refine R_getI (pc := 16) (x := nI r) fl_X12_102 rfl kc_572 lc_572 ((wI_ne (by decide)).trans hr) dX12_undo_16 ?_
      refine T_iconst (pc := 19) (v := nI 1) dX12_undo_19 (by decide) ?_
      refine R_isub (pc := 20) (by omega) dX12_undo_20 ?_
      refine R_putI (pc := 21) fl_X12_102 ⟨rfl, rfl⟩ (Or.inl rfl) kc_572 lc_572 dX12_undo_21 ?_
      refine T_iconst (pc := 24) (v := nI 0) dX12_undo_24 (by decide) ?_
      refine T_istore_n (pc := 25) (i := 1) (ls' := [some (.ref 572), some (.int (nI 0))]) dX12_undo_25 rfl (by decide) rfl ?_
      suffices loop : ∀ (f k : Nat) (m : SM2), k + f = 339 → (∀ j, m.1 573 j = if j < k then μ.1 576 (339 * (r - 1) + j) else μ.1 573 j) → (m.1 572 0 = nI 0 ∧ m.1 572 6 = nI (r - 1) ∧ ∀ j, j ≠ 0 → j ≠ 6 → m.1 572 j = μ.1 572 j) → OfS (fun k => k = 572 ∨ k = 573) μ m → T γ 1 0 0 M_X12_undo (Rm (some (.int (bI true))) (fun m => (∀ j, m.1 573 j = if r ≠ 0 ∧ j < 339 then μ.1 576 (339 * (r - 1) + j) else μ.1 573 j) ∧ (m.1 572 0 = nI 0 ∧ m.1 572 6 = nI (r - 1) ∧ ∀ j, j ≠ 0 → j ≠ 6 → m.1 572 j = μ.1 572 j) ∧ OfS (fun k => k = 572 ∨ k = 573) μ m)) 0 0 26 [some (.ref 572), some (.int (nI k))] [] (rm m) by
        exact loop 339 0 _ rfl (fun j => by rw [if_neg (Nat.not_lt_zero _), n_wI (by omega)]; exact n_wI (by omega)) ⟨(n_wI (by omega)).trans (e_wI ⟨rfl, rfl⟩), e_wI ⟨rfl, rfl⟩, fun j h0 h6 => (n_wI (by omega)).trans (n_wI (by omega))⟩ (OfS.sI (OfS.sI (OfS.refl _ _) (Or.inl rfl)) (Or.inl rfl))
      intro f
      induction f with
      | zero =>
        intro k m hk hc ho hO
        have e : k = 339 := by omega
        subst e
        have hz : ∀ j, m.1 573 j = if r ≠ 0 ∧ j < 339 then μ.1 576 (339 * (r - 1) + j) else μ.1 573 j := fun j => by
          rw [hc j]
          by_cases g : j < 339
          · rw [if_pos g, if_pos ⟨h0, g⟩]
          · rw [if_neg g, if_neg (fun z => g z.2)]
        refine T_iload_n (pc := 26) (i := 1) dX12_undo_26 rfl rfl ?_
        refine T_sipush (pc := 27) (v := nI 339) dX12_undo_27 (by decide) ?_
        refine R_icmp_ge (pc := 30) (tgt := 60) (by omega) (by omega) dX12_undo_30 (by decide) (fun h2 => ?_) (fun h2 => ?_)
        · skip
          refine T_iconst (pc := 60) (v := nI 1) dX12_undo_60 (by decide) ?_
          exact T_iret (pc := 61) (ty := .boolean) dX12_undo_61 rfl (by decide) (Nat.le_refl _) (Nat.le_refl _) ⟨_, rfl, rfl, hz, ho, hO⟩
        · exact absurd h2 (by decide)
      | succ f ih =>
        intro k m hk hc ho hO
        refine T_iload_n (pc := 26) (i := 1) dX12_undo_26 rfl rfl ?_
        refine T_sipush (pc := 27) (v := nI 339) dX12_undo_27 (by decide) ?_
        refine R_icmp_ge (pc := 30) (tgt := 60) (by omega) (by omega) dX12_undo_30 (by decide) (fun h2 => ?_) (fun h2 => ?_)
        · exact absurd h2 (by omega)
        · skip
          refine T_aload_n (pc := 33) (i := 0) dX12_undo_33 rfl rfl ?_
          refine R_getR (pc := 34) (i := 573) fl_X12_29 rfl kc_572 lc_572 rc_572_1 dX12_undo_34 ?_
          refine T_iload_n (pc := 37) (i := 1) dX12_undo_37 rfl rfl ?_
          refine T_aload_n (pc := 38) (i := 0) dX12_undo_38 rfl rfl ?_
          refine R_getR (pc := 39) (i := 576) fl_X12_39 rfl kc_572 lc_572 rc_572_4 dX12_undo_39 ?_
          refine T_sipush (pc := 42) (v := nI 339) dX12_undo_42 (by decide) ?_
          refine T_aload_n (pc := 45) (i := 0) dX12_undo_45 rfl rfl ?_
          refine R_getI (pc := 46) (x := nI (r - 1)) fl_X12_102 rfl kc_572 lc_572 ho.2.1 dX12_undo_46 ?_
          refine R_imul (pc := 49) dX12_undo_49 ?_
          refine T_iload_n (pc := 50) (i := 1) dX12_undo_50 rfl rfl ?_
          refine R_iadd (pc := 51) dX12_undo_51 ?_
          refine R_iald (pc := 52) (x := (μ.1 576 (339 * (r - 1) + k))) kc_576 lc_576 (by omega) (by first | decide | assumption) (hO.i (by omega) _) dX12_undo_52 ?_
          refine R_iast (pc := 53) kc_573 lc_573 (by omega) (by first | decide | assumption) dX12_undo_53 ?_
          refine R_iinc (pc := 54) (i := 1) (n := 1) (ls' := [some (.ref 572), some (.int (nI (k + 1)))]) dX12_undo_54 rfl rfl ?_
          refine T_goto (pc := 57) (tgt := 26) dX12_undo_57 (by decide) ?_
          refine ih (k + 1) _ (by omega) (fun j => ?_) ⟨(n_wI (by omega)).trans ho.1, (n_wI (by omega)).trans ho.2.1, fun j h0 h6 => (n_wI (by omega)).trans (ho.2.2 j h0 h6)⟩ (OfS.sI hO (Or.inr rfl))
          by_cases e : j = k
          · rw [e, if_pos (Nat.lt_succ_self _)]
            exact e_wI ⟨rfl, rfl⟩
          · rw [n_wI (by omega), hc j]
            by_cases g : j < k
            · rw [if_pos g, if_pos (by omega)]
            · rw [if_neg g, if_neg (by omega)]
    · exact absurd h1 (by omega)
theorem m_remembers {r : Nat} (hr : μ.1 572 6 = nI r) (h16 : r ≤ 16) : Ex γ 1 0 0 M_X12_remembers [.ref 572] (rm μ) (Rm none (fun m => (m.1 572 6 = nI (if r = 16 then 16 else r + 1) ∧ ∀ j, j ≠ 6 → m.1 572 j = μ.1 572 j) ∧ (∀ j, j < 339 → m.1 576 (339 * ((if r = 16 then 16 else r + 1) - 1) + j) = μ.1 573 j) ∧ (∀ j, j < 339 * ((if r = 16 then 16 else r + 1) - 1) → m.1 576 j = if r = 16 then μ.1 576 (j + 339) else μ.1 576 j) ∧ OfS (fun k => k = 572 ∨ k = 576) μ m)) := by
  -- behind the shift: how many there are, and the rows of the older acts
  have tail : ∀ (q : Nat) (m0 : SM2), 1 ≤ q → q ≤ 16 → q = (if r = 16 then 16 else r + 1) → (m0.1 572 6 = nI q ∧ ∀ j, j ≠ 6 → m0.1 572 j = μ.1 572 j) → (∀ j, j < 339 * (q - 1) → m0.1 576 j = if r = 16 then μ.1 576 (j + 339) else μ.1 576 j) → OfS (fun k => k = 572 ∨ k = 576) μ m0 → T γ 1 0 0 M_X12_remembers (Rm none (fun m => (m.1 572 6 = nI (if r = 16 then 16 else r + 1) ∧ ∀ j, j ≠ 6 → m.1 572 j = μ.1 572 j) ∧ (∀ j, j < 339 → m.1 576 (339 * ((if r = 16 then 16 else r + 1) - 1) + j) = μ.1 573 j) ∧ (∀ j, j < 339 * ((if r = 16 then 16 else r + 1) - 1) → m.1 576 j = if r = 16 then μ.1 576 (j + 339) else μ.1 576 j) ∧ OfS (fun k => k = 572 ∨ k = 576) μ m)) 0 0 53 [some (.ref 572), none] [] (rm m0) := fun q m0 hq1 hq eq ho hs hO => by
    rw [← eq]
    suffices loop : ∀ (f k : Nat) (m : SM2), k + f = 339 → (∀ j, j < k → m.1 576 (339 * (q - 1) + j) = μ.1 573 j) → (∀ j, j < 339 * (q - 1) → m.1 576 j = m0.1 576 j) → OfS (fun k => k = 576) m0 m → T γ 1 0 0 M_X12_remembers (Rm none (fun m => (m.1 572 6 = nI q ∧ ∀ j, j ≠ 6 → m.1 572 j = μ.1 572 j) ∧ (∀ j, j < 339 → m.1 576 (339 * (q - 1) + j) = μ.1 573 j) ∧ (∀ j, j < 339 * (q - 1) → m.1 576 j = if r = 16 then μ.1 576 (j + 339) else μ.1 576 j) ∧ OfS (fun k => k = 572 ∨ k = 576) μ m)) 0 0 55 [some (.ref 572), some (.int (nI k))] [] (rm m) by
      refine T_iconst (pc := 53) (v := nI 0) dX12_remembers_53 (by decide) ?_
      refine T_istore_n (pc := 54) (i := 1) (ls' := [some (.ref 572), some (.int (nI 0))]) dX12_remembers_54 rfl (by decide) rfl ?_
      exact loop 339 0 m0 rfl (fun j hj => absurd hj (Nat.not_lt_zero _)) (fun j hj => rfl) (OfS.refl _ _)
    intro f
    induction f with
    | zero =>
      intro k m hk hc hl hO2
      refine T_iload_n (pc := 55) (i := 1) dX12_remembers_55 rfl rfl ?_
      refine T_sipush (pc := 56) (v := nI 339) dX12_remembers_56 (by decide) ?_
      refine R_icmp_ge (pc := 59) (tgt := 91) (by omega) (by omega) dX12_remembers_59 (by decide) (fun h2 => ?_) (fun h2 => ?_)
      · skip
        exact T_vret dX12_remembers_91 rfl (Nat.le_refl _) (Nat.le_refl _) ⟨_, rfl, rfl, ⟨(hO2.i (by omega) 6).trans ho.1, fun j hj => (hO2.i (by omega) j).trans (ho.2 j hj)⟩, fun j hj => hc j (by omega), fun j hj => (hl j hj).trans (hs j hj), hO.trans (hO2.mono (fun k hk => Or.inr hk))⟩
      · exact absurd h2 (by omega)
    | succ f ih =>
      intro k m hk hc hl hO2
      refine T_iload_n (pc := 55) (i := 1) dX12_remembers_55 rfl rfl ?_
      refine T_sipush (pc := 56) (v := nI 339) dX12_remembers_56 (by decide) ?_
      refine R_icmp_ge (pc := 59) (tgt := 91) (by omega) (by omega) dX12_remembers_59 (by decide) (fun h2 => ?_) (fun h2 => ?_)
      · exact absurd h2 (by omega)
      · skip
        refine T_aload_n (pc := 62) (i := 0) dX12_remembers_62 rfl rfl ?_
        refine R_getR (pc := 63) (i := 576) fl_X12_39 rfl kc_572 lc_572 rc_572_4 dX12_remembers_63 ?_
        refine T_sipush (pc := 66) (v := nI 339) dX12_remembers_66 (by decide) ?_
        refine T_aload_n (pc := 69) (i := 0) dX12_remembers_69 rfl rfl ?_
        refine R_getI (pc := 70) (x := nI q) fl_X12_102 rfl kc_572 lc_572 ((hO2.i (by omega) 6).trans ho.1) dX12_remembers_70 ?_
        refine T_iconst (pc := 73) (v := nI 1) dX12_remembers_73 (by decide) ?_
        refine R_isub (pc := 74) (by omega) dX12_remembers_74 ?_
        refine R_imul (pc := 75) dX12_remembers_75 ?_
        refine T_iload_n (pc := 76) (i := 1) dX12_remembers_76 rfl rfl ?_
        refine R_iadd (pc := 77) dX12_remembers_77 ?_
        refine T_aload_n (pc := 78) (i := 0) dX12_remembers_78 rfl rfl ?_
        refine R_getR (pc := 79) (i := 573) fl_X12_29 rfl kc_572 lc_572 rc_572_1 dX12_remembers_79 ?_
        refine T_iload_n (pc := 82) (i := 1) dX12_remembers_82 rfl rfl ?_
        refine R_iald (pc := 83) (x := (μ.1 573 k)) kc_573 lc_573 (by omega) (by first | decide | assumption) ((hO2.i (by omega) k).trans (hO.i (by omega) k)) dX12_remembers_83 ?_
        refine R_iast (pc := 84) kc_576 lc_576 (by omega) (by first | decide | assumption) dX12_remembers_84 ?_
        refine R_iinc (pc := 85) (i := 1) (n := 1) (ls' := [some (.ref 572), some (.int (nI (k + 1)))]) dX12_remembers_85 rfl rfl ?_
        refine T_goto (pc := 88) (tgt := 55) dX12_remembers_88 (by decide) ?_
        refine ih (k + 1) _ (by omega) (fun j hj => ?_) (fun j hj => (n_wI (by omega)).trans (hl j hj)) (OfS.sI hO2 rfl)
        by_cases e : j = k
        · rw [e]
          exact e_wI ⟨rfl, rfl⟩
        · rw [n_wI (by omega)]
          exact hc j (by omega)
  refine Ex.of (by decide +kernel) rfl (Nat.le_of_ble_eq_true rfl) ?_
  show T _ _ _ _ _ _ _ _ _ [some (.ref 572), none] [] (rm μ)
  refine T_aload_n (pc := 0) (i := 0) dX12_remembers_0 rfl rfl ?_
  refine R_getI (pc := 1) (x := nI r) fl_X12_102 rfl kc_572 lc_572 hr dX12_remembers_1 ?_
  refine T_bipush (pc := 4) (v := nI 16) dX12_remembers_4 (by decide) ?_
  refine R_icmp_ne (pc := 6) (tgt := 43) (by omega) (by omega) dX12_remembers_6 (by decide) (fun h1 => ?_) (fun h1 => ?_)
  · skip
    refine T_aload_n (pc := 43) (i := 0) dX12_remembers_43 rfl rfl ?_
    refine T_dup (pc := 44) dX12_remembers_44 rfl ?_
    refine R_getI (pc := 45) (x := nI r) fl_X12_102 rfl kc_572 lc_572 hr dX12_remembers_45 ?_
    refine T_iconst (pc := 48) (v := nI 1) dX12_remembers_48 (by decide) ?_
    refine R_iadd (pc := 49) dX12_remembers_49 ?_
    refine R_putI (pc := 50) fl_X12_102 ⟨rfl, rfl⟩ (Or.inl rfl) kc_572 lc_572 dX12_remembers_50 ?_
    exact tail (r + 1) _ (by omega) (by omega) (by rw [if_neg h1]) ⟨e_wI ⟨rfl, rfl⟩, fun j hj => n_wI (by omega)⟩ (fun j hj => by rw [if_neg h1]; exact n_wI (by omega)) (OfS.sI (OfS.refl _ _) (Or.inl rfl))
  · skip
    have h1' : r = 16 := by omega
    refine T_iconst (pc := 9) (v := nI 0) dX12_remembers_9 (by decide) ?_
    refine T_istore_n (pc := 10) (i := 1) (ls' := [some (.ref 572), some (.int (nI 0))]) dX12_remembers_10 rfl (by decide) rfl ?_
    suffices loop : ∀ (f k : Nat) (m : SM2), k + f = 5085 → (∀ j, m.1 576 j = if j < k then μ.1 576 (j + 339) else μ.1 576 j) → OfS (fun k => k = 576) μ m → T γ 1 0 0 M_X12_remembers (Rm none (fun m => (m.1 572 6 = nI (if r = 16 then 16 else r + 1) ∧ ∀ j, j ≠ 6 → m.1 572 j = μ.1 572 j) ∧ (∀ j, j < 339 → m.1 576 (339 * ((if r = 16 then 16 else r + 1) - 1) + j) = μ.1 573 j) ∧ (∀ j, j < 339 * ((if r = 16 then 16 else r + 1) - 1) → m.1 576 j = if r = 16 then μ.1 576 (j + 339) else μ.1 576 j) ∧ OfS (fun k => k = 572 ∨ k = 576) μ m)) 0 0 11 [some (.ref 572), some (.int (nI k))] [] (rm m) by
      exact loop 5085 0 μ rfl (fun j => by rw [if_neg (Nat.not_lt_zero _)]) (OfS.refl _ _)
    intro f
    induction f with
    | zero =>
      intro k m hk hc hO
      have e : k = 5085 := by omega
      subst e
      refine T_iload_n (pc := 11) (i := 1) dX12_remembers_11 rfl rfl ?_
      refine T_sipush (pc := 12) (v := nI 5085) dX12_remembers_12 (by decide) ?_
      refine R_icmp_ge (pc := 15) (tgt := 40) (by omega) (by omega) dX12_remembers_15 (by decide) (fun h2 => ?_) (fun h2 => ?_)
      · skip
        refine T_goto (pc := 40) (tgt := 53) dX12_remembers_40 (by decide) ?_
        refine T_ls (ls' := [some (.ref 572), none]) (And.intro rfl True.intro) ?_
        exact tail 16 _ (by decide) (by decide) (by rw [if_pos h1']) ⟨(hO.i (by omega) 6).trans (hr.trans (by rw [h1'])), fun j hj => hO.i (by omega) j⟩ (fun j hj => by rw [if_pos h1', hc j, if_pos (by omega)]) (hO.mono (fun k hk => Or.inr hk))
      · exact absurd h2 (by decide)
    | succ f ih =>
      intro k m hk hc hO
      have hck := hc (k + 339)
      rw [if_neg (by omega)] at hck
      refine T_iload_n (pc := 11) (i := 1) dX12_remembers_11 rfl rfl ?_
      refine T_sipush (pc := 12) (v := nI 5085) dX12_remembers_12 (by decide) ?_
      refine R_icmp_ge (pc := 15) (tgt := 40) (by omega) (by omega) dX12_remembers_15 (by decide) (fun h2 => ?_) (fun h2 => ?_)
      · exact absurd h2 (by omega)
      · skip
        refine T_aload_n (pc := 18) (i := 0) dX12_remembers_18 rfl rfl ?_
        refine R_getR (pc := 19) (i := 576) fl_X12_39 rfl kc_572 lc_572 rc_572_4 dX12_remembers_19 ?_
        refine T_iload_n (pc := 22) (i := 1) dX12_remembers_22 rfl rfl ?_
        refine T_aload_n (pc := 23) (i := 0) dX12_remembers_23 rfl rfl ?_
        refine R_getR (pc := 24) (i := 576) fl_X12_39 rfl kc_572 lc_572 rc_572_4 dX12_remembers_24 ?_
        refine T_iload_n (pc := 27) (i := 1) dX12_remembers_27 rfl rfl ?_
        refine T_sipush (pc := 28) (v := nI 339) dX12_remembers_28 (by decide) ?_
        refine R_iadd (pc := 31) dX12_remembers_31 ?_
        refine R_iald (pc := 32) (x := (μ.1 576 (k + 339))) kc_576 lc_576 (by omega) (by first | decide | assumption) hck dX12_remembers_32 ?_
        refine R_iast (pc := 33) kc_576 lc_576 (by omega) (by first | decide | assumption) dX12_remembers_33 ?_
        refine R_iinc (pc := 34) (i := 1) (n := 1) (ls' := [some (.ref 572), some (.int (nI (k + 1)))]) dX12_remembers_34 rfl rfl ?_
        refine T_goto (pc := 37) (tgt := 11) dX12_remembers_37 (by decide) ?_
        refine ih (k + 1) _ (by omega) (fun j => ?_) (OfS.sI hO rfl)
        by_cases e : j = k
        · rw [e, if_pos (Nat.lt_succ_self _)]
          exact e_wI ⟨rfl, rfl⟩
        · rw [n_wI (by omega), hc j]
          by_cases g : j < k
          · rw [if_pos g, if_pos (by omega)]
          · rw [if_neg g, if_neg (by omega)]
end MB

