/-! acts remembered -/
abbrev uAt (U : List Td) (j : Nat) : Td := U.getD j ([], [], [], [], (0, 0, 0), (0, 0))
/-- what was ahead of the latest acts, the latest first: a ring, nx is the place of the next -/
def ActsAt (μ : SM2) (U : List Td) : Prop := ∃ nx, nx < 16 ∧ μ.1 0 10 = nI nx ∧ μ.1 0 9 = nI U.length ∧ U.length ≤ 16 ∧ ∀ j, j < U.length → ToldAt μ (124 + 28 * ((nx + 15 - j) % 16)) (uAt U j)
/-- all but the acts is alike -/
def OffA (μ m : SM2) : Prop := (∀ k, 0 < k → k < 124 ∨ 572 ≤ k → m.1 k = μ.1 k ∧ m.2 k = μ.2 k) ∧ m.1 0 7 = μ.1 0 7
section AC
variable {γ : Ga} {μ : SM2}
theorem c_remember {X : Td} {U : List Td} (hX : ToldAt μ 3 X) (hU : ActsAt μ U) : Ex γ 4 0 0 M_X11_remember [.ref 0] (rm μ) (Rm none (fun m => ActsAt m ((X :: U).take 16) ∧ OffA μ m)) := by
  obtain ⟨nx, hn, e10, e9, hl, hu⟩ := hU
  refine Ex.of (by decide +kernel) rfl (Nat.le_of_ble_eq_true rfl) ?_
  show T _ _ _ _ _ _ _ _ _ [some (.ref 0)] [] (rm μ)
  refine T_aload_n (pc := 0) (i := 0) dX11_remember_0 rfl rfl ?_
  refine R_getR (pc := 1) (i := 96) fl_X11_42 rfl kc_0 lc_0 rc_0_8 dX11_remember_1 ?_
  refine T_aload_n (pc := 4) (i := 0) dX11_remember_4 rfl rfl ?_
  refine R_getI (pc := 5) (x := nI nx) fl_X11_451 rfl kc_0 lc_0 e10 dX11_remember_5 ?_
  refine R_aald (pc := 8) (t := 1) (j := (124 + 28 * nx)) kc_96 (by decide) lc_96 (by omega) (by decide) (rt_memory (by omega)) dX11_remember_8 ?_
  refine T_aload_n (pc := 9) (i := 0) dX11_remember_9 rfl rfl ?_
  refine R_getR (pc := 10) (i := 3) fl_X11_19 rfl kc_0 lc_0 rc_0_1 dX11_remember_10 ?_
  refine R_callVm0 (pc := 13) (As := [.ref 3]) (rest := []) (Or.inl lk_X11_105) mk_X9_copyFrom (c_Told_copyFrom (memory_told hn) told3 (by omega) hX) (kt_told (memory_told (by omega))) ⟨by decide, rfl⟩ (lt_told (memory_told (by omega))) dX11_remember_13 rfl rfl (Nat.le_of_ble_eq_true rfl) (by decide) rfl (Nat.le_refl _) (Nat.le_refl _) (fun m h => ?_)
  obtain ⟨hm, ho⟩ := h
  refine T_aload_n (pc := 16) (i := 0) dX11_remember_16 rfl rfl ?_
  refine T_aload_n (pc := 17) (i := 0) dX11_remember_17 rfl rfl ?_
  refine R_getI (pc := 18) (x := nI nx) fl_X11_451 rfl kc_0 lc_0 ((ho.i (by omega) 10).trans e10) dX11_remember_18 ?_
  refine T_iconst (pc := 21) (v := nI 1) dX11_remember_21 (by decide) ?_
  refine R_iadd (pc := 22) dX11_remember_22 ?_
  refine T_bipush (pc := 23) (v := nI 16) dX11_remember_23 (by decide) ?_
  refine R_irem (pc := 25) ⟨by omega, by omega, by omega⟩ dX11_remember_25 ?_
  refine R_putI (pc := 26) fl_X11_451 ⟨rfl, rfl⟩ (Or.inl rfl) kc_0 lc_0 dX11_remember_26 ?_
  refine T_aload_n (pc := 29) (i := 0) dX11_remember_29 rfl rfl ?_
  refine T_aload_n (pc := 30) (i := 0) dX11_remember_30 rfl rfl ?_
  refine R_getI (pc := 31) (x := nI U.length) fl_X11_448 rfl kc_0 lc_0 ((wI_ne (by decide)).trans ((ho.i (by omega) 9).trans e9)) dX11_remember_31 ?_
  refine T_iconst (pc := 34) (v := nI 1) dX11_remember_34 (by decide) ?_
  refine R_iadd (pc := 35) dX11_remember_35 ?_
  refine T_bipush (pc := 36) (v := nI 16) dX11_remember_36 (by decide) ?_
  refine R_mmin (pc := 38) lk_X11_310 (by omega) (by omega) (by decide) (Nat.le_refl _) (Nat.le_refl _) dX11_remember_38 ?_
  refine R_putI (pc := 41) fl_X11_448 ⟨rfl, rfl⟩ (Or.inl rfl) kc_0 lc_0 dX11_remember_41 ?_
  have hlen : ((X :: U).take 16).length = min (U.length + 1) 16 := by rw [List.length_take, List.length_cons, Nat.min_comm]
  refine T_vret dX11_remember_44 rfl (Nat.le_refl _) (Nat.le_refl _) ⟨_, rfl, rfl, ⟨(nx + 1) % 16, by omega, ?_, ?_, by omega, fun j hj => ?_⟩, fun k hk hk2 => ?_, ?_⟩
  · skip
    simp (disch := omega) only [n_wI, e_wI, n_wL, e_wL, m_wI2, m_wL1, n_wCI, e_wCI, n_wCL, e_wCL, m_wCI2, m_wCL1, n_wF, e_wF, m_wF2]
  · rw [hlen]
    simp (disch := omega) only [n_wI, e_wI, n_wL, e_wL, m_wI2, m_wL1, n_wCI, e_wCI, n_wCL, e_wCL, m_wCI2, m_wCL1, n_wF, e_wF, m_wF2]
  · rw [hlen] at hj
    have hoff : ∀ b t, 0 < b → ToldAt m b t → ToldAt (wI (wI m 0 10 (nI ((nx + 1) % 16))) 0 9 (nI (min (U.length + 1) 16))) b t := fun b t hb h => h.off (a := 0) (n := 1) (Off.sI (Off.sI (Off.refl _ _ _) (by omega)) (by omega)) (by omega)
    refine hoff _ _ (by omega) ?_
    cases j with
    | zero =>
      rw [show ((nx + 1) % 16 + 15 - 0) % 16 = nx by omega]
      exact hm
    | succ j =>
      rw [show ((nx + 1) % 16 + 15 - (j + 1)) % 16 = (nx + 15 - j) % 16 by omega]
      have e : uAt ((X :: U).take 16) (j + 1) = uAt U j := by
        show (List.take 16 (X :: U)).getD (j + 1) _ = U.getD j _
        rw [List.getD_eq_getElem?_getD, List.getD_eq_getElem?_getD, List.getElem?_take, if_pos (by omega), List.getElem?_cons_succ]
      rw [e]
      exact (hu j (by omega)).off ho (by omega)
  · have h1 := ho k (by omega)
    refine ⟨?_, h1.2⟩
    show up2 (up2 m.1 _ _ _) _ _ _ k = _
    rw [up2_ne (by omega), up2_ne (by omega)]
    exact h1.1
  · skip
    simp (disch := omega) only [n_wI, e_wI, n_wL, e_wL, m_wI2, m_wL1, n_wCI, e_wCI, n_wCL, e_wCL, m_wCI2, m_wCL1, n_wF, e_wF, m_wF2]
    exact ho.i (by omega) 7
end AC

