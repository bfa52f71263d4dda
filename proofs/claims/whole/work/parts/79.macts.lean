/-! THE MODEL: image, back, what is remembered (as copied rows) -/
section MA
variable {γ : Ga} {μ : SM2}
theorem m_image : Ex γ 1 0 0 M_X12_image [.ref 572] (rm μ) (Rm none (fun m => (∀ j, j < 1164 → m.1 574 j = μ.1 573 j) ∧ (m.1 572 0 = nI 0 ∧ m.1 572 5 = nI 1 ∧ ∀ j, j ≠ 0 → j ≠ 5 → m.1 572 j = μ.1 572 j) ∧ OfS (fun k => k = 572 ∨ k = 574) μ m)) := by
  refine Ex.of (by decide +kernel) rfl (Nat.le_of_ble_eq_true rfl) ?_
  show T _ _ _ _ _ _ _ _ _ [some (.ref 572), none] [] (rm μ)
  refine T_aload_n (pc := 0) (i := 0) dX12_image_0 rfl rfl ?_
  refine T_iconst (pc := 1) (v := nI 0) dX12_image_1 (by decide) ?_
  refine R_putI (pc := 2) fl_X12_3 ⟨rfl, rfl⟩ (Or.inl rfl) kc_572 lc_572 dX12_image_2 ?_
  refine T_iconst (pc := 5) (v := nI 0) dX12_image_5 (by decide) ?_
  refine T_istore_n (pc := 6) (i := 1) (ls' := [some (.ref 572), some (.int (nI 0))]) dX12_image_6 rfl (by decide) rfl ?_
  suffices loop : ∀ (f k : Nat) (m : SM2), k + f = 1164 → (∀ j, j < k → m.1 574 j = μ.1 573 j) → (m.1 572 0 = nI 0 ∧ ∀ j, j ≠ 0 → m.1 572 j = μ.1 572 j) → OfS (fun k => k = 572 ∨ k = 574) μ m → T γ 1 0 0 M_X12_image (Rm none (fun m => (∀ j, j < 1164 → m.1 574 j = μ.1 573 j) ∧ (m.1 572 0 = nI 0 ∧ m.1 572 5 = nI 1 ∧ ∀ j, j ≠ 0 → j ≠ 5 → m.1 572 j = μ.1 572 j) ∧ OfS (fun k => k = 572 ∨ k = 574) μ m)) 0 0 7 [some (.ref 572), some (.int (nI k))] [] (rm m) by
    exact loop 1164 0 _ rfl (fun j hj => absurd hj (Nat.not_lt_zero _)) ⟨e_wI ⟨rfl, rfl⟩, fun j hj => n_wI (by omega)⟩ (OfS.sI (OfS.refl _ _) (Or.inl rfl))
  intro f
  induction f with
  | zero =>
    intro k m hk hc ho hO
    refine T_iload_n (pc := 7) (i := 1) dX12_image_7 rfl rfl ?_
    refine T_sipush (pc := 8) (v := nI 1164) dX12_image_8 (by decide) ?_
    refine R_icmp_ge (pc := 11) (tgt := 32) (by omega) (by omega) dX12_image_11 (by decide) (fun h1 => ?_) (fun h1 => ?_)
    · skip
      refine T_aload_n (pc := 32) (i := 0) dX12_image_32 rfl rfl ?_
      refine T_iconst (pc := 33) (v := nI 1) dX12_image_33 (by decide) ?_
      refine R_putI (pc := 34) fl_X12_98 ⟨rfl, rfl⟩ (Or.inr (Or.inr rfl)) kc_572 lc_572 dX12_image_34 ?_
      exact T_vret dX12_image_37 rfl (Nat.le_refl _) (Nat.le_refl _) ⟨_, rfl, rfl, fun j hj => (n_wI (by omega)).trans (hc j (by omega)), ⟨(n_wI (by omega)).trans ho.1, e_wI ⟨rfl, rfl⟩, fun j h0 h5 => (n_wI (by omega)).trans (ho.2 j h0)⟩, OfS.sI hO (Or.inl rfl)⟩
    · exact absurd h1 (by omega)
  | succ f ih =>
    intro k m hk hc ho hO
    refine T_iload_n (pc := 7) (i := 1) dX12_image_7 rfl rfl ?_
    refine T_sipush (pc := 8) (v := nI 1164) dX12_image_8 (by decide) ?_
    refine R_icmp_ge (pc := 11) (tgt := 32) (by omega) (by omega) dX12_image_11 (by decide) (fun h1 => ?_) (fun h1 => ?_)
    · exact absurd h1 (by omega)
    · skip
      refine T_aload_n (pc := 14) (i := 0) dX12_image_14 rfl rfl ?_
      refine R_getR (pc := 15) (i := 574) fl_X12_33 rfl kc_572 lc_572 rc_572_2 dX12_image_15 ?_
      refine T_iload_n (pc := 18) (i := 1) dX12_image_18 rfl rfl ?_
      refine T_aload_n (pc := 19) (i := 0) dX12_image_19 rfl rfl ?_
      refine R_getR (pc := 20) (i := 573) fl_X12_29 rfl kc_572 lc_572 rc_572_1 dX12_image_20 ?_
      refine T_iload_n (pc := 23) (i := 1) dX12_image_23 rfl rfl ?_
      refine R_iald (pc := 24) (x := (μ.1 573 k)) kc_573 lc_573 (by omega) (by first | decide | assumption) (hO.i (by omega) k) dX12_image_24 ?_
      refine R_iast (pc := 25) kc_574 lc_574 (by omega) (by first | decide | assumption) dX12_image_25 ?_
      refine R_iinc (pc := 26) (i := 1) (n := 1) (ls' := [some (.ref 572), some (.int (nI (k + 1)))]) dX12_image_26 rfl rfl ?_
      refine T_goto (pc := 29) (tgt := 7) dX12_image_29 (by decide) ?_
      refine ih (k + 1) _ (by omega) (fun j hj => ?_) ⟨(n_wI (by omega)).trans ho.1, fun j hj => (n_wI (by omega)).trans (ho.2 j hj)⟩ (OfS.sI hO (Or.inr rfl))
      by_cases e : j = k
      · rw [e]
        exact e_wI ⟨rfl, rfl⟩
      · rw [n_wI (by omega)]
        exact hc j (by omega)
theorem m_back {b : Bool} (hb : μ.1 572 5 = bI b) : Ex γ 1 0 0 M_X12_back [.ref 572] (rm μ) (Rm (some (.int (bI b))) (fun m => (∀ j, m.1 573 j = if b = true ∧ j < 1164 then μ.1 574 j else μ.1 573 j) ∧ (m.1 572 0 = nI 0 ∧ (b = true → m.1 572 6 = nI 0) ∧ ∀ j, j ≠ 0 → (j ≠ 6 ∨ b = false) → m.1 572 j = μ.1 572 j) ∧ OfS (fun k => k = 572 ∨ k = 573) μ m)) := by
  cases b with
  | false =>
    refine Ex.of (by decide +kernel) rfl (Nat.le_of_ble_eq_true rfl) ?_
    show T _ _ _ _ _ _ _ _ _ [some (.ref 572), none] [] (rm μ)
    refine T_aload_n (pc := 0) (i := 0) dX12_back_0 rfl rfl ?_
    refine T_iconst (pc := 1) (v := nI 0) dX12_back_1 (by decide) ?_
    refine R_putI (pc := 2) fl_X12_3 ⟨rfl, rfl⟩ (Or.inl rfl) kc_572 lc_572 dX12_back_2 ?_
    refine T_aload_n (pc := 5) (i := 0) dX12_back_5 rfl rfl ?_
    refine R_getI (pc := 6) (x := bI false) fl_X12_98 rfl kc_572 lc_572 ((wI_ne (by decide)).trans hb) dX12_back_6 ?_
    refine R_ifb_ne (pc := 9) (tgt := 14) dX12_back_9 (by decide) (fun h1 => ?_) (fun h1 => ?_)
    · exact absurd h1 (by decide)
    · skip
      refine T_iconst (pc := 12) (v := nI 0) dX12_back_12 (by decide) ?_
      exact T_iret (pc := 13) (ty := .boolean) dX12_back_13 rfl (by decide) (Nat.le_refl _) (Nat.le_refl _) ⟨_, rfl, rfl, fun j => by rw [if_neg (fun z => Bool.noConfusion z.1)]; exact n_wI (by omega), ⟨e_wI ⟨rfl, rfl⟩, fun z => Bool.noConfusion z, fun j h0 h6 => n_wI (by omega)⟩, OfS.sI (OfS.refl _ _) (Or.inl rfl)⟩
  | true =>
    refine Ex.of (by decide +kernel) rfl (Nat.le_of_ble_eq_true rfl) ?_
    show T _ _ _ _ _ _ _ _ _ [some (.ref 572), none] [] (rm μ)
    refine T_aload_n (pc := 0) (i := 0) dX12_back_0 rfl rfl ?_
    refine T_iconst (pc := 1) (v := nI 0) dX12_back_1 (by decide) ?_
    refine R_putI (pc := 2) fl_X12_3 ⟨rfl, rfl⟩ (Or.inl rfl) kc_572 lc_572 dX12_back_2 ?_
    refine T_aload_n (pc := 5) (i := 0) dX12_back_5 rfl rfl ?_
    refine R_getI (pc := 6) (x := bI true) fl_X12_98 rfl kc_572 lc_572 ((wI_ne (by decide)).trans hb) dX12_back_6 ?_
    refine R_ifb_ne (pc := 9) (tgt := 14) dX12_back_9 (by decide) (fun h1 => ?_) (fun h1 => ?_)
    · skip
      refine T_iconst (pc := 14) (v := nI 0) dX12_back_14 (by decide) ?_
      refine T_istore_n (pc := 15) (i := 1) (ls' := [some (.ref 572), some (.int (nI 0))]) dX12_back_15 rfl (by decide) rfl ?_
      suffices loop : ∀ (f k : Nat) (m : SM2), k + f = 1164 → (∀ j, m.1 573 j = if j < k then μ.1 574 j else μ.1 573 j) → (m.1 572 0 = nI 0 ∧ ∀ j, j ≠ 0 → m.1 572 j = μ.1 572 j) → OfS (fun k => k = 572 ∨ k = 573) μ m → T γ 1 0 0 M_X12_back (Rm (some (.int (bI true))) (fun m => (∀ j, m.1 573 j = if true = true ∧ j < 1164 then μ.1 574 j else μ.1 573 j) ∧ (m.1 572 0 = nI 0 ∧ (true = true → m.1 572 6 = nI 0) ∧ ∀ j, j ≠ 0 → (j ≠ 6 ∨ true = false) → m.1 572 j = μ.1 572 j) ∧ OfS (fun k => k = 572 ∨ k = 573) μ m)) 0 0 16 [some (.ref 572), some (.int (nI k))] [] (rm m) by
        exact loop 1164 0 _ rfl (fun j => by rw [if_neg (Nat.not_lt_zero _)]; exact n_wI (by omega)) ⟨e_wI ⟨rfl, rfl⟩, fun j hj => n_wI (by omega)⟩ (OfS.sI (OfS.refl _ _) (Or.inl rfl))
      intro f
      induction f with
      | zero =>
        intro k m hk hc ho hO
        have e : k = 1164 := by omega
        subst e
        refine T_iload_n (pc := 16) (i := 1) dX12_back_16 rfl rfl ?_
        refine T_sipush (pc := 17) (v := nI 1164) dX12_back_17 (by decide) ?_
        refine R_icmp_ge (pc := 20) (tgt := 41) (by omega) (by omega) dX12_back_20 (by decide) (fun h2 => ?_) (fun h2 => ?_)
        · skip
          refine T_aload_n (pc := 41) (i := 0) dX12_back_41 rfl rfl ?_
          refine T_iconst (pc := 42) (v := nI 0) dX12_back_42 (by decide) ?_
          refine R_putI (pc := 43) fl_X12_102 ⟨rfl, rfl⟩ (Or.inl rfl) kc_572 lc_572 dX12_back_43 ?_
          refine T_iconst (pc := 46) (v := nI 1) dX12_back_46 (by decide) ?_
          have hz : ∀ j, (wI m 572 6 (nI 0)).1 573 j = if true = true ∧ j < 1164 then μ.1 574 j else μ.1 573 j := fun j => by
            rw [n_wI (by omega), hc j]
            by_cases g : j < 1164
            · rw [if_pos g, if_pos ⟨rfl, g⟩]
            · rw [if_neg g, if_neg (fun z => g z.2)]
          exact T_iret (pc := 47) (ty := .boolean) dX12_back_47 rfl (by decide) (Nat.le_refl _) (Nat.le_refl _) ⟨_, rfl, rfl, hz, ⟨(n_wI (by omega)).trans ho.1, fun _ => e_wI ⟨rfl, rfl⟩, fun j h0 h6 => (n_wI (by rcases h6 with h6 | h6 <;> first | omega | cases h6)).trans (ho.2 j h0)⟩, OfS.sI hO (Or.inl rfl)⟩
        · exact absurd h2 (by decide)
      | succ f ih =>
        intro k m hk hc ho hO
        refine T_iload_n (pc := 16) (i := 1) dX12_back_16 rfl rfl ?_
        refine T_sipush (pc := 17) (v := nI 1164) dX12_back_17 (by decide) ?_
        refine R_icmp_ge (pc := 20) (tgt := 41) (by omega) (by omega) dX12_back_20 (by decide) (fun h2 => ?_) (fun h2 => ?_)
        · exact absurd h2 (by omega)
        · skip
          refine T_aload_n (pc := 23) (i := 0) dX12_back_23 rfl rfl ?_
          refine R_getR (pc := 24) (i := 573) fl_X12_29 rfl kc_572 lc_572 rc_572_1 dX12_back_24 ?_
          refine T_iload_n (pc := 27) (i := 1) dX12_back_27 rfl rfl ?_
          refine T_aload_n (pc := 28) (i := 0) dX12_back_28 rfl rfl ?_
          refine R_getR (pc := 29) (i := 574) fl_X12_33 rfl kc_572 lc_572 rc_572_2 dX12_back_29 ?_
          refine T_iload_n (pc := 32) (i := 1) dX12_back_32 rfl rfl ?_
          refine R_iald (pc := 33) (x := (μ.1 574 k)) kc_574 lc_574 (by omega) (by first | decide | assumption) (hO.i (by omega) k) dX12_back_33 ?_
          refine R_iast (pc := 34) kc_573 lc_573 (by omega) (by first | decide | assumption) dX12_back_34 ?_
          refine R_iinc (pc := 35) (i := 1) (n := 1) (ls' := [some (.ref 572), some (.int (nI (k + 1)))]) dX12_back_35 rfl rfl ?_
          refine T_goto (pc := 38) (tgt := 16) dX12_back_38 (by decide) ?_
          refine ih (k + 1) _ (by omega) (fun j => ?_) ⟨(n_wI (by omega)).trans ho.1, fun j hj => (n_wI (by omega)).trans (ho.2 j hj)⟩ (OfS.sI hO (Or.inr rfl))
          by_cases e : j = k
          · rw [e, if_pos (Nat.lt_succ_self _)]
            exact e_wI ⟨rfl, rfl⟩
          · rw [n_wI (by omega), hc j]
            by_cases g : j < k
            · rw [if_pos g, if_pos (by omega)]
            · rw [if_neg g, if_neg (by omega)]
    · exact absurd h1 (by decide)
end MA

