/-! an act undone -/
/-- all but what is told now, and how many acts are remembered, is alike -/
def OffU (μ m : SM2) : Prop := (∀ k, 0 < k → k < 3 ∨ 31 ≤ k → m.1 k = μ.1 k ∧ m.2 k = μ.2 k) ∧ m.1 0 7 = μ.1 0 7
section UN
variable {γ : Ga} {μ : SM2}
theorem c_undo_no (hU : ActsAt μ []) : Ex γ 4 0 0 M_X11_undo [.ref 0] (rm μ) (Fn (some (.int (bI false))) μ) := by
  obtain ⟨nx, hn, e10, e9, hl, hu⟩ := hU
  refine Ex.of (by decide +kernel) rfl (Nat.le_of_ble_eq_true rfl) ?_
  show T _ _ _ _ _ _ _ _ _ [some (.ref 0)] [] (rm μ)
  refine T_aload_n (pc := 0) (i := 0) dX11_undo_0 rfl rfl ?_
  refine R_getI (pc := 1) (x := nI 0) fl_X11_448 rfl kc_0 lc_0 e9 dX11_undo_1 ?_
  refine R_if_ne (pc := 4) (tgt := 9) (by omega) dX11_undo_4 (by decide) (fun h => ?_) (fun h => ?_)
  · exact absurd rfl h
  · skip
    refine T_iconst (pc := 7) (v := nI 0) dX11_undo_7 (by decide) ?_
    exact T_iret (pc := 8) (ty := .boolean) dX11_undo_8 rfl (by decide) (Nat.le_refl _) (Nat.le_refl _) ⟨rfl, rfl⟩
theorem c_undo {X : Td} {U : List Td} (hU : ActsAt μ (X :: U)) : Ex γ 4 0 0 M_X11_undo [.ref 0] (rm μ) (Rm (some (.int (bI true))) (fun m => (ToldAt m 3 X ∧ ActsAt m U) ∧ OffU μ m)) := by
  obtain ⟨nx, hn, e10, e9, hl, hu⟩ := hU
  have hl2 : U.length + 1 ≤ 16 := hl
  have hX := hu 0 (Nat.succ_pos _)
  rw [show (nx + 15 - 0) % 16 = (nx + 16 - 1) % 16 by omega] at hX
  refine Ex.of (by decide +kernel) rfl (Nat.le_of_ble_eq_true rfl) ?_
  show T _ _ _ _ _ _ _ _ _ [some (.ref 0)] [] (rm μ)
  refine T_aload_n (pc := 0) (i := 0) dX11_undo_0 rfl rfl ?_
  refine R_getI (pc := 1) (x := nI (U.length + 1)) fl_X11_448 rfl kc_0 lc_0 e9 dX11_undo_1 ?_
  refine R_if_ne (pc := 4) (tgt := 9) (by omega) dX11_undo_4 (by decide) (fun h => ?_) (fun h => ?_)
  · skip
    refine T_aload_n (pc := 9) (i := 0) dX11_undo_9 rfl rfl ?_
    refine T_dup (pc := 10) dX11_undo_10 rfl ?_
    refine R_getI (pc := 11) (x := nI (U.length + 1)) fl_X11_448 rfl kc_0 lc_0 e9 dX11_undo_11 ?_
    refine T_iconst (pc := 14) (v := nI 1) dX11_undo_14 (by decide) ?_
    refine R_isub (pc := 15) (by omega) dX11_undo_15 ?_
    refine R_putI (pc := 16) fl_X11_448 ⟨rfl, rfl⟩ (Or.inl rfl) kc_0 lc_0 dX11_undo_16 ?_
    refine T_aload_n (pc := 19) (i := 0) dX11_undo_19 rfl rfl ?_
    refine T_aload_n (pc := 20) (i := 0) dX11_undo_20 rfl rfl ?_
    refine R_getI (pc := 21) (x := nI nx) fl_X11_451 rfl kc_0 lc_0 ((wI_ne (by decide)).trans e10) dX11_undo_21 ?_
    refine T_bipush (pc := 24) (v := nI 16) dX11_undo_24 (by decide) ?_
    refine R_iadd (pc := 26) dX11_undo_26 ?_
    refine T_iconst (pc := 27) (v := nI 1) dX11_undo_27 (by decide) ?_
    refine R_isub (pc := 28) (by omega) dX11_undo_28 ?_
    refine T_bipush (pc := 29) (v := nI 16) dX11_undo_29 (by decide) ?_
    refine R_irem (pc := 31) ⟨by omega, by omega, by omega⟩ dX11_undo_31 ?_
    refine R_putI (pc := 32) fl_X11_451 ⟨rfl, rfl⟩ (Or.inl rfl) kc_0 lc_0 dX11_undo_32 ?_
    refine T_aload_n (pc := 35) (i := 0) dX11_undo_35 rfl rfl ?_
    refine R_getR (pc := 36) (i := 3) fl_X11_19 rfl kc_0 lc_0 rc_0_1 dX11_undo_36 ?_
    refine T_aload_n (pc := 39) (i := 0) dX11_undo_39 rfl rfl ?_
    refine R_getR (pc := 40) (i := 96) fl_X11_42 rfl kc_0 lc_0 rc_0_8 dX11_undo_40 ?_
    refine T_aload_n (pc := 43) (i := 0) dX11_undo_43 rfl rfl ?_
    refine R_getI (pc := 44) (x := nI (((nx + 16) - 1) % 16)) fl_X11_451 rfl kc_0 lc_0 wI_eq dX11_undo_44 ?_
    refine R_aald (pc := 47) (t := 1) (j := (124 + 28 * (((nx + 16) - 1) % 16))) kc_96 (by decide) lc_96 (by omega) (by decide) (rt_memory (by omega)) dX11_undo_47 ?_
    have h0 : Off 0 1 μ (wI (wI μ 0 9 (nI ((U.length + 1) - 1))) 0 10 (nI (((nx + 16) - 1) % 16))) := (Off.sI (Off.sI (Off.refl _ _ _) (by omega)) (by omega))
    refine R_callVm0 (pc := 48) (As := [.ref (124 + 28 * (((nx + 16) - 1) % 16))]) (rest := []) (Or.inl lk_X11_105) mk_X9_copyFrom (c_Told_copyFrom told3 (memory_told (by omega)) (by omega) (hX.off h0 (by omega))) (kt_told told3) ⟨by decide, rfl⟩ (lt_told told3) dX11_undo_48 rfl rfl (Nat.le_of_ble_eq_true rfl) (by decide) rfl (Nat.le_refl _) (Nat.le_refl _) (fun m h3 => ?_)
    obtain ⟨hm, ho⟩ := h3
    have ho' : Off 3 28 (wI (wI μ 0 9 (nI (U.length + 1 - 1))) 0 10 (nI ((nx + 16 - 1) % 16))) m := ho
    refine T_iconst (pc := 51) (v := nI 1) dX11_undo_51 (by decide) ?_
    refine T_iret (pc := 52) (ty := .boolean) dX11_undo_52 rfl (by decide) (Nat.le_refl _) (Nat.le_refl _) ⟨_, rfl, rfl, ⟨hm, (nx + 16 - 1) % 16, by omega, ?_, ?_, by omega, fun j hj => ?_⟩, fun k hk hk2 => ?_, ?_⟩
    · rw [ho'.i (by omega) 10]
      simp (disch := omega) only [n_wI, e_wI, n_wL, e_wL, m_wI2, m_wL1, n_wCI, e_wCI, n_wCL, e_wCL, m_wCI2, m_wCL1, n_wF, e_wF, m_wF2]
    · rw [ho'.i (by omega) 9]
      simp (disch := omega) only [n_wI, e_wI, n_wL, e_wL, m_wI2, m_wL1, n_wCI, e_wCI, n_wCL, e_wCL, m_wCI2, m_wCL1, n_wF, e_wF, m_wF2]
      rfl
    · have h5 := hu (j + 1) (Nat.succ_lt_succ hj)
      rw [show (nx + 15 - (j + 1)) % 16 = ((nx + 16 - 1) % 16 + 15 - j) % 16 by omega] at h5
      exact (h5.off h0 (by omega)).off ho' (by omega)
    · have h1 := ho' k (by omega)
      have h2 := h0 k (by omega)
      exact ⟨h1.1.trans h2.1, h1.2.trans h2.2⟩
    · rw [ho'.i (by omega) 7]
      simp (disch := omega) only [n_wI, e_wI, n_wL, e_wL, m_wI2, m_wL1, n_wCI, e_wCI, n_wCL, e_wCL, m_wCI2, m_wCL1, n_wF, e_wF, m_wF2]
  · exact absurd h (by omega)
end UN

