/-! THE IMAGE taken back -/
/-- all but the acts' number, what is told now and THE LAW is alike -/
def OffB (μ m : SM2) : Prop := (∀ k, 0 < k → k < 3 ∨ (31 ≤ k ∧ k < 59) ∨ 62 ≤ k → m.1 k = μ.1 k ∧ m.2 k = μ.2 k) ∧ m.1 0 7 = μ.1 0 7
theorem ActsAt.forget {m : SM2} (h9 : m.1 0 9 = nI 0) {U : List Td} {μ : SM2} (hU : ActsAt μ U) (h10 : m.1 0 10 = μ.1 0 10) : ActsAt m [] := by
  obtain ⟨nx, hn, e10, e9, hl, hu⟩ := hU
  exact ⟨nx, hn, h10.trans e10, h9, Nat.zero_le _, fun j hj => absurd hj (Nat.not_lt_zero j)⟩
section BA
variable {γ : Ga} {μ : SM2}
theorem c_back_no (hK : KeptAt μ none) : Ex γ 4 0 0 M_X11_back [.ref 0] (rm μ) (Fn (some (.int (bI false))) μ) := by
  refine Ex.of (by decide +kernel) rfl (Nat.le_of_ble_eq_true rfl) ?_
  show T _ _ _ _ _ _ _ _ _ [some (.ref 0)] [] (rm μ)
  refine T_aload_n (pc := 0) (i := 0) dX11_back_0 rfl rfl ?_
  refine R_getI (pc := 1) (x := nI 0) fl_X11_454 rfl kc_0 lc_0 hK dX11_back_1 ?_
  refine R_if_ne (pc := 4) (tgt := 9) (by omega) dX11_back_4 (by decide) (fun h => ?_) (fun h => ?_)
  · exact absurd rfl h
  · skip
    refine T_iconst (pc := 7) (v := nI 0) dX11_back_7 (by decide) ?_
    exact T_iret (pc := 8) (ty := .boolean) dX11_back_8 rfl (by decide) (Nat.le_refl _) (Nat.le_refl _) ⟨rfl, rfl⟩
theorem c_back {X : Td} {L : Lw} {U : List Td} (hK : KeptAt μ (some (X, L))) (hU : ActsAt μ U) : Ex γ 4 0 0 M_X11_back [.ref 0] (rm μ) (Rm (some (.int (bI true))) (fun m => (ToldAt m 3 X ∧ LawAt m 59 L ∧ ActsAt m []) ∧ OffB μ m)) := by
  obtain ⟨h7, hX, hL⟩ := hK
  refine Ex.of (by decide +kernel) rfl (Nat.le_of_ble_eq_true rfl) ?_
  show T _ _ _ _ _ _ _ _ _ [some (.ref 0)] [] (rm μ)
  refine T_aload_n (pc := 0) (i := 0) dX11_back_0 rfl rfl ?_
  refine R_getI (pc := 1) (x := nI 1) fl_X11_454 rfl kc_0 lc_0 h7 dX11_back_1 ?_
  refine R_if_ne (pc := 4) (tgt := 9) (by omega) dX11_back_4 (by decide) (fun h => ?_) (fun h => ?_)
  · skip
    refine T_aload_n (pc := 9) (i := 0) dX11_back_9 rfl rfl ?_
    refine R_getR (pc := 10) (i := 3) fl_X11_19 rfl kc_0 lc_0 rc_0_1 dX11_back_10 ?_
    refine T_aload_n (pc := 13) (i := 0) dX11_back_13 rfl rfl ?_
    refine R_getR (pc := 14) (i := 65) fl_X11_36 rfl kc_0 lc_0 rc_0_5 dX11_back_14 ?_
    refine R_callVm0 (pc := 17) (As := [.ref 65]) (rest := []) (Or.inl lk_X11_105) mk_X9_copyFrom (c_Told_copyFrom told3 told65 (by omega) hX) (kt_told told3) ⟨by decide, rfl⟩ (lt_told told3) dX11_back_17 rfl rfl (Nat.le_of_ble_eq_true rfl) (by decide) rfl (Nat.le_refl _) (Nat.le_refl _) (fun m h => ?_)
    obtain ⟨hT, hO⟩ := h
    refine T_aload_n (pc := 20) (i := 0) dX11_back_20 rfl rfl ?_
    refine R_getR (pc := 21) (i := 59) fl_X11_29 rfl kc_0 lc_0 rc_0_3 dX11_back_21 ?_
    refine T_aload_n (pc := 24) (i := 0) dX11_back_24 rfl rfl ?_
    refine R_getR (pc := 25) (i := 93) fl_X11_39 rfl kc_0 lc_0 rc_0_6 dX11_back_25 ?_
    refine R_callVm0 (pc := 28) (As := [.ref 93]) (rest := []) (Or.inl lk_X11_126) mk_X5_copyFrom (c_Law_copyFrom law59 law93 (by omega) (hL.off hO (by omega))) (kt_law law59) ⟨by decide, rfl⟩ (lt_law law59) dX11_back_28 rfl rfl (Nat.le_of_ble_eq_true rfl) (by decide) rfl (Nat.le_refl _) (Nat.le_refl _) (fun m2 h2 => ?_)
    obtain ⟨hL2, hO2⟩ := h2
    refine T_aload_n (pc := 31) (i := 0) dX11_back_31 rfl rfl ?_
    have h3 : Off 0 1 m2 (wI m2 0 9 (nI 0)) := Off.sI (Off.refl _ _ _) (by omega)
    refine R_callV0 (pc := 32) (As := []) (rest := []) (Or.inl lk_X11_122) mk_X11_forgetActs c_forgetActs kc_0 ⟨by decide, rfl⟩ lc_0 dX11_back_32 rfl rfl (Nat.le_of_ble_eq_true rfl) (by decide) rfl (Nat.le_refl _) (Nat.le_refl _) ?_
    refine T_iconst (pc := 35) (v := nI 1) dX11_back_35 (by decide) ?_
    refine T_iret (pc := 36) (ty := .boolean) dX11_back_36 rfl (by decide) (Nat.le_refl _) (Nat.le_refl _) ⟨_, rfl, rfl, ⟨(hT.off hO2 (by omega)).off h3 (by omega), hL2.off h3 (by omega), ActsAt.forget ?_ hU ?_⟩, fun k hk hk2 => ?_, ?_⟩
    · skip
      simp (disch := omega) only [n_wI, e_wI, n_wL, e_wL, m_wI2, m_wL1, n_wCI, e_wCI, n_wCL, e_wCL, m_wCI2, m_wCL1, n_wF, e_wF, m_wF2]
    · skip
      simp (disch := omega) only [n_wI, e_wI, n_wL, e_wL, m_wI2, m_wL1, n_wCI, e_wCI, n_wCL, e_wCL, m_wCI2, m_wCL1, n_wF, e_wF, m_wF2]
      exact (hO2.i (by omega) 10).trans (hO.i (by omega) 10)
    · have e1 := hO k (by omega)
      have e2 := hO2 k (by omega)
      have e3 := h3 k (by omega)
      exact ⟨e3.1.trans (e2.1.trans e1.1), e3.2.trans (e2.2.trans e1.2)⟩
    · skip
      simp (disch := omega) only [n_wI, e_wI, n_wL, e_wL, m_wI2, m_wL1, n_wCI, e_wCI, n_wCL, e_wCL, m_wCI2, m_wCL1, n_wF, e_wF, m_wF2]
      exact (hO2.i (by omega) 7).trans (hO.i (by omega) 7)
  · exact absurd h (by decide)
end BA

