/-! RULES appended, removed, looked over -/
section LO
variable {γ : Ga} {d mc ms : Nat} {M : MI} {Q : Out → SMem → Prop} {kc ks : Nat} {pc : Nat}
theorem T_for (n : Nat) (ls : Nat → List (Option Value)) (mm : Nat → SMem) (h : ∀ k, k ≤ n → (k < n → T γ d mc ms M Q kc ks pc (ls (k + 1)) [] (mm (k + 1))) → T γ d mc ms M Q kc ks pc (ls k) [] (mm k)) (a : Nat) (ha : a ≤ n) : T γ d mc ms M Q kc ks pc (ls a) [] (mm a) := by
  have g : ∀ f k, k + f = n → T γ d mc ms M Q kc ks pc (ls k) [] (mm k) := by
    intro f
    induction f with
    | zero => intro k hk; exact h k (by omega) (fun z => absurd z (by omega))
    | succ f ih => intro k hk; exact h k (by omega) (fun _ => ih (k + 1) (by omega))
  exact g (n - a) a (by omega)
theorem T_forI (n : Nat) (ls : Nat → List (Option Value)) (I : Nat → SM2 → Prop) (h : ∀ k m, k ≤ n → I k m → (k < n → ∀ m', I (k + 1) m' → T γ d mc ms M Q kc ks pc (ls (k + 1)) [] (rm m')) → T γ d mc ms M Q kc ks pc (ls k) [] (rm m)) (a : Nat) (ha : a ≤ n) {m0 : SM2} (h0 : I a m0) : T γ d mc ms M Q kc ks pc (ls a) [] (rm m0) := by
  have g : ∀ f k m, k + f = n → I k m → T γ d mc ms M Q kc ks pc (ls k) [] (rm m) := by
    intro f
    induction f with
    | zero => intro k m hk hI; exact h k m (by omega) hI (fun z => absurd z (by omega))
    | succ f ih => intro k m hk hI; exact h k m (by omega) hI (fun _ m' hI' => ih (k + 1) m' (by omega) hI')
  exact g (n - a) a m0 (by omega) h0
end LO
theorem rAt_app {R : List Ru} {x : Ru} {i : Nat} (h : i < R.length + 1) : rAt (R ++ [x]) i = if i < R.length then rAt R i else x := by
  unfold rAt
  by_cases h1 : i < R.length
  · rw [if_pos h1, List.getD_eq_getElem?_getD, List.getD_eq_getElem?_getD, List.getElem?_append_left h1]
  · rw [if_neg h1, List.getD_eq_getElem?_getD, List.getElem?_append_right (by omega), show i - R.length = 0 by omega]
    rfl
theorem rAt_erase {R : List Ru} {k i : Nat} : rAt (R.eraseIdx k) i = if i < k then rAt R i else rAt R (i + 1) := by
  unfold rAt
  rw [List.getD_eq_getElem?_getD, List.getD_eq_getElem?_getD, List.getD_eq_getElem?_getD, List.getElem?_eraseIdx]
  split <;> rfl
section RU2
variable {γ : Ga} {μ : SM2}
theorem c_Rules_append {r : Nat} {R : List Ru} {x : Ru} (hr : isRules r) (h : RulesAt μ r R) (hn : R.length < 12) (hx : okR x) : Ex γ 2 0 0 M_X6_append [.ref r, .long (lN (cd x.1)), .long (lN (cd x.2))] (rm μ) (Rm none (fun m => RulesAt m r (R ++ [x]) ∧ Off r 5 μ m)) := by
  refine Ex.of (by decide +kernel) rfl (Nat.le_of_ble_eq_true rfl) ?_
  show T _ _ _ _ _ _ _ _ _ [some (.ref r), some (.long (lN (cd x.1))), none, some (.long (lN (cd x.2))), none] [] (rm μ)
  refine T_aload_n (pc := 0) (i := 0) dX6_append_0 rfl rfl ?_
  refine R_getI (pc := 1) (x := nI R.length) fl_X6_25 rfl (kt_rules hr) (lt_rules hr) h.size dX6_append_1 ?_
  refine T_bipush (pc := 4) (v := nI 12) dX6_append_4 (by decide) ?_
  refine R_icmp_ge (pc := 6) (tgt := 65) (by omega) (by omega) dX6_append_6 (by decide) (fun h1 => ?_) (fun h1 => ?_)
  · exact absurd h1 (by omega)
  · skip
    refine T_aload_n (pc := 9) (i := 0) dX6_append_9 rfl rfl ?_
    refine R_getR (pc := 10) (i := (r + 1)) fl_X6_9 rfl (kt_rules hr) (lt_rules hr) (rt_rules_left hr) dX6_append_10 ?_
    refine T_aload_n (pc := 13) (i := 0) dX6_append_13 rfl rfl ?_
    refine R_getI (pc := 14) (x := nI R.length) fl_X6_25 rfl (kt_rules hr) (lt_rules hr) h.size dX6_append_14 ?_
    refine T_lload_n (pc := 17) (i := 1) dX6_append_17 rfl rfl ?_
    refine R_last (pc := 18) (kt_rules_left hr) (lt_rules_left hr) (by omega) (by decide) dX6_append_18 ?_
    refine T_aload_n (pc := 19) (i := 0) dX6_append_19 rfl rfl ?_
    refine R_getR (pc := 20) (i := (r + 2)) fl_X6_15 rfl (kt_rules hr) (lt_rules hr) (rt_rules_right hr) dX6_append_20 ?_
    refine T_aload_n (pc := 23) (i := 0) dX6_append_23 rfl rfl ?_
    refine R_getI (pc := 24) (x := nI R.length) fl_X6_25 rfl (kt_rules hr) (lt_rules hr) h.size dX6_append_24 ?_
    refine T_lload_n (pc := 27) (i := 3) dX6_append_27 rfl rfl ?_
    refine R_last (pc := 28) (kt_rules_right hr) (lt_rules_right hr) (by omega) (by decide) dX6_append_28 ?_
    refine T_aload_n (pc := 29) (i := 0) dX6_append_29 rfl rfl ?_
    refine R_getR (pc := 30) (i := (r + 3)) fl_X6_18 rfl (kt_rules hr) (lt_rules hr) (rt_rules_leftSize hr) dX6_append_30 ?_
    refine T_aload_n (pc := 33) (i := 0) dX6_append_33 rfl rfl ?_
    refine R_getI (pc := 34) (x := nI R.length) fl_X6_25 rfl (kt_rules hr) (lt_rules hr) h.size dX6_append_34 ?_
    refine T_lload_n (pc := 37) (i := 1) dX6_append_37 rfl rfl ?_
    refine R_callS1 (pc := 38) (av := [.long (lN (cd x.1))]) (rest := [.int (nI R.length), .ref (r + 3)]) (Or.inr lk_X6_35) mk_X11_sizeOf (c_sizeOf_cd hx.l) dX6_append_38 rfl rfl (Nat.le_of_ble_eq_true rfl) (by decide) rfl (Nat.le_refl _) (Nat.le_refl _) ?_
    refine R_iast (pc := 41) (kt_rules_leftSize hr) (lt_rules_leftSize hr) (by omega) (by decide) dX6_append_41 ?_
    refine T_aload_n (pc := 42) (i := 0) dX6_append_42 rfl rfl ?_
    refine R_getR (pc := 43) (i := (r + 4)) fl_X6_22 rfl (kt_rules hr) (lt_rules hr) (rt_rules_rightSize hr) dX6_append_43 ?_
    refine T_aload_n (pc := 46) (i := 0) dX6_append_46 rfl rfl ?_
    refine R_getI (pc := 47) (x := nI R.length) fl_X6_25 rfl (kt_rules hr) (lt_rules hr) ((wI_ne (by first | omega | simp)).trans h.size) dX6_append_47 ?_
    refine T_lload_n (pc := 50) (i := 3) dX6_append_50 rfl rfl ?_
    refine R_callS1 (pc := 51) (av := [.long (lN (cd x.2))]) (rest := [.int (nI R.length), .ref (r + 4)]) (Or.inr lk_X6_35) mk_X11_sizeOf (c_sizeOf_cd hx.r) dX6_append_51 rfl rfl (Nat.le_of_ble_eq_true rfl) (by decide) rfl (Nat.le_refl _) (Nat.le_refl _) ?_
    refine R_iast (pc := 54) (kt_rules_rightSize hr) (lt_rules_rightSize hr) (by omega) (by decide) dX6_append_54 ?_
    refine T_aload_n (pc := 55) (i := 0) dX6_append_55 rfl rfl ?_
    refine T_dup (pc := 56) dX6_append_56 rfl ?_
    refine R_getI (pc := 57) (x := nI R.length) fl_X6_25 rfl (kt_rules hr) (lt_rules hr) ((wI_ne (by first | omega | simp)).trans ((wI_ne (by first | omega | simp)).trans h.size)) dX6_append_57 ?_
    refine T_iconst (pc := 60) (v := nI 1) dX6_append_60 (by decide) ?_
    refine R_iadd (pc := 61) dX6_append_61 ?_
    refine R_putI (pc := 62) fl_X6_25 ⟨rfl, rfl⟩ (Or.inl rfl) (kt_rules hr) (lt_rules hr) dX6_append_62 ?_
    have hof : Off r 5 μ (wI (wI (wI (wL (wL μ (r + 1) R.length (lN (cd x.1))) (r + 2) R.length (lN (cd x.2))) (r + 3) R.length (nI x.1.length)) (r + 4) R.length (nI x.2.length)) r 0 (nI (R.length + 1))) := (Off.sI (Off.sI (Off.sI (Off.sL (Off.sL (Off.refl _ _ _) (by omega)) (by omega)) (by omega)) (by omega)) (by omega))
    have hl : (R ++ [x]).length = R.length + 1 := by rw [List.length_append]; rfl
    refine T_vret dX6_append_65 rfl (Nat.le_refl _) (Nat.le_refl _) ⟨_, rfl, rfl, ⟨?_, by omega, fun i hi => ?_, fun i hi => ?_⟩, hof⟩
    · skip
      simp (disch := omega) only [n_wI, e_wI, n_wL, e_wL, m_wI2, m_wL1, n_wCI, e_wCI, n_wCL, e_wCL, m_wCI2, m_wCL1, n_wF, e_wF, m_wF2]
      rw [hl]
    · rw [hl] at hi
      rw [rAt_app hi]
      split
      · exact h.ok i ‹_›
      · exact hx
    · rw [hl] at hi
      rw [rAt_app hi]
      by_cases hi2 : i < R.length
      · rw [if_pos hi2]
        obtain ⟨e1, e2, e3, e4⟩ := h.row i hi2
        refine ⟨?_, ?_, ?_, ?_⟩
        all_goals
          simp (disch := omega) only [n_wI, e_wI, n_wL, e_wL, m_wI2, m_wL1, n_wCI, e_wCI, n_wCL, e_wCL, m_wCI2, m_wCL1, n_wF, e_wF, m_wF2]
          assumption
      · have e : i = R.length := by omega
        subst e
        rw [if_neg hi2]
        refine ⟨?_, ?_, ?_, ?_⟩
        all_goals
          simp (disch := omega) only [n_wI, e_wI, n_wL, e_wL, m_wI2, m_wL1, n_wCI, e_wCI, n_wCL, e_wCL, m_wCI2, m_wCL1, n_wF, e_wF, m_wF2]
theorem c_Rules_remove {r k : Nat} {R : List Ru} (hr : isRules r) (h : RulesAt μ r R) (hk : k < R.length) : Ex γ 1 0 0 M_X6_remove [.ref r, .int (nI k)] (rm μ) (Rm none (fun m => RulesAt m r (R.eraseIdx k) ∧ Off r 5 μ m)) := by
  have h12 := h.len
  refine Ex.of (by decide +kernel) rfl (Nat.le_of_ble_eq_true rfl) ?_
  show T _ _ _ _ _ _ _ _ _ [some (.ref r), some (.int (nI k)), none] [] (rm μ)
  refine T_iload_n (pc := 0) (i := 1) dX6_remove_0 rfl rfl ?_
  refine T_istore_n (pc := 1) (i := 2) (ls' := [some (.ref r), some (.int (nI k)), some (.int (nI k))]) dX6_remove_1 rfl (by decide) rfl ?_
  refine T_forI (pc := 2) (R.length - 1) (fun i => [some (.ref r), some (.int (nI k)), some (.int (nI i))]) (fun i m => k ≤ i ∧ m.1 r 0 = nI R.length ∧ (∀ j, j < R.length → RowAt m r j (if k ≤ j ∧ j < i then rAt R (j + 1) else rAt R j)) ∧ Off r 5 μ m) (fun i m hle hI ih => ?_) k (by omega) (⟨Nat.le_refl _, h.size, fun j hj => by rw [if_neg (by omega)]; exact h.row j hj, Off.refl _ _ _⟩)
  show T _ _ _ _ _ _ _ _ 2 [some (.ref r), some (.int (nI k)), some (.int (nI i))] [] (rm m)
  obtain ⟨hki, hs, hw, ho⟩ := hI
  refine T_iload_n (pc := 2) (i := 2) dX6_remove_2 rfl rfl ?_
  refine T_iconst (pc := 3) (v := nI 1) dX6_remove_3 (by decide) ?_
  refine R_iadd (pc := 4) dX6_remove_4 ?_
  refine T_aload_n (pc := 5) (i := 0) dX6_remove_5 rfl rfl ?_
  refine R_getI (pc := 6) (x := nI R.length) fl_X6_25 rfl (kt_rules hr) (lt_rules hr) hs dX6_remove_6 ?_
  refine R_icmp_ge (pc := 9) (tgt := 74) (by omega) (by omega) dX6_remove_9 (by decide) (fun h1 => ?_) (fun h1 => ?_)
  · skip
    refine T_aload_n (pc := 74) (i := 0) dX6_remove_74 rfl rfl ?_
    refine T_dup (pc := 75) dX6_remove_75 rfl ?_
    refine R_getI (pc := 76) (x := nI R.length) fl_X6_25 rfl (kt_rules hr) (lt_rules hr) hs dX6_remove_76 ?_
    refine T_iconst (pc := 79) (v := nI 1) dX6_remove_79 (by decide) ?_
    refine R_isub (pc := 80) (by omega) dX6_remove_80 ?_
    refine R_putI (pc := 81) fl_X6_25 ⟨rfl, rfl⟩ (Or.inl rfl) (kt_rules hr) (lt_rules hr) dX6_remove_81 ?_
    have hof : Off r 5 m (wI m r 0 (nI (R.length - 1))) := (Off.sI (Off.refl _ _ _) (by omega))
    have hl : (R.eraseIdx k).length = R.length - 1 := by rw [List.length_eraseIdx, if_pos hk]
    refine T_vret dX6_remove_84 rfl (Nat.le_refl _) (Nat.le_refl _) ⟨_, rfl, rfl, ⟨?_, by omega, fun j hj => ?_, fun j hj => ?_⟩, ho.trans hof⟩
    · skip
      simp (disch := omega) only [n_wI, e_wI, n_wL, e_wL, m_wI2, m_wL1, n_wCI, e_wCI, n_wCL, e_wCL, m_wCI2, m_wCL1, n_wF, e_wF, m_wF2]
      rw [hl]
    · rw [rAt_erase]
      split
      · exact h.ok j (by omega)
      · exact h.ok (j + 1) (by omega)
    · obtain ⟨e1, e2, e3, e4⟩ := hw j (by omega)
      rw [rAt_erase]
      by_cases hj2 : j < k
      · rw [if_neg (by omega)] at e1 e2 e3 e4
        rw [if_pos hj2]
        refine ⟨?_, ?_, ?_, ?_⟩
        all_goals
          simp (disch := omega) only [n_wI, e_wI, n_wL, e_wL, m_wI2, m_wL1, n_wCI, e_wCI, n_wCL, e_wCL, m_wCI2, m_wCL1, n_wF, e_wF, m_wF2]
          assumption
      · rw [if_pos (by omega)] at e1 e2 e3 e4
        rw [if_neg hj2]
        refine ⟨?_, ?_, ?_, ?_⟩
        all_goals
          simp (disch := omega) only [n_wI, e_wI, n_wL, e_wL, m_wI2, m_wL1, n_wCI, e_wCI, n_wCL, e_wCL, m_wCI2, m_wCL1, n_wF, e_wF, m_wF2]
          assumption
  · skip
    have hi := hw (i + 1) (by omega)
    rw [if_neg (by omega)] at hi
    refine T_aload_n (pc := 12) (i := 0) dX6_remove_12 rfl rfl ?_
    refine R_getR (pc := 13) (i := (r + 1)) fl_X6_9 rfl (kt_rules hr) (lt_rules hr) (rt_rules_left hr) dX6_remove_13 ?_
    refine T_iload_n (pc := 16) (i := 2) dX6_remove_16 rfl rfl ?_
    refine T_aload_n (pc := 17) (i := 0) dX6_remove_17 rfl rfl ?_
    refine R_getR (pc := 18) (i := (r + 1)) fl_X6_9 rfl (kt_rules hr) (lt_rules hr) (rt_rules_left hr) dX6_remove_18 ?_
    refine T_iload_n (pc := 21) (i := 2) dX6_remove_21 rfl rfl ?_
    refine T_iconst (pc := 22) (v := nI 1) dX6_remove_22 (by decide) ?_
    refine R_iadd (pc := 23) dX6_remove_23 ?_
    refine R_lald (pc := 24) (x := lN (cd (rAt R (i + 1)).1)) (kt_rules_left hr) (lt_rules_left hr) (by omega) (by decide) hi.1 dX6_remove_24 ?_
    refine R_last (pc := 25) (kt_rules_left hr) (lt_rules_left hr) (by omega) (by decide) dX6_remove_25 ?_
    refine T_aload_n (pc := 26) (i := 0) dX6_remove_26 rfl rfl ?_
    refine R_getR (pc := 27) (i := (r + 2)) fl_X6_15 rfl (kt_rules hr) (lt_rules hr) (rt_rules_right hr) dX6_remove_27 ?_
    refine T_iload_n (pc := 30) (i := 2) dX6_remove_30 rfl rfl ?_
    refine T_aload_n (pc := 31) (i := 0) dX6_remove_31 rfl rfl ?_
    refine R_getR (pc := 32) (i := (r + 2)) fl_X6_15 rfl (kt_rules hr) (lt_rules hr) (rt_rules_right hr) dX6_remove_32 ?_
    refine T_iload_n (pc := 35) (i := 2) dX6_remove_35 rfl rfl ?_
    refine T_iconst (pc := 36) (v := nI 1) dX6_remove_36 (by decide) ?_
    refine R_iadd (pc := 37) dX6_remove_37 ?_
    refine R_lald (pc := 38) (x := lN (cd (rAt R (i + 1)).2)) (kt_rules_right hr) (lt_rules_right hr) (by omega) (by decide) ((wL_ne (by first | omega | simp)).trans hi.2.1) dX6_remove_38 ?_
    refine R_last (pc := 39) (kt_rules_right hr) (lt_rules_right hr) (by omega) (by decide) dX6_remove_39 ?_
    refine T_aload_n (pc := 40) (i := 0) dX6_remove_40 rfl rfl ?_
    refine R_getR (pc := 41) (i := (r + 3)) fl_X6_18 rfl (kt_rules hr) (lt_rules hr) (rt_rules_leftSize hr) dX6_remove_41 ?_
    refine T_iload_n (pc := 44) (i := 2) dX6_remove_44 rfl rfl ?_
    refine T_aload_n (pc := 45) (i := 0) dX6_remove_45 rfl rfl ?_
    refine R_getR (pc := 46) (i := (r + 3)) fl_X6_18 rfl (kt_rules hr) (lt_rules hr) (rt_rules_leftSize hr) dX6_remove_46 ?_
    refine T_iload_n (pc := 49) (i := 2) dX6_remove_49 rfl rfl ?_
    refine T_iconst (pc := 50) (v := nI 1) dX6_remove_50 (by decide) ?_
    refine R_iadd (pc := 51) dX6_remove_51 ?_
    refine R_iald (pc := 52) (x := nI ((rAt R (i + 1)).1.length)) (kt_rules_leftSize hr) (lt_rules_leftSize hr) (by omega) (by decide) hi.2.2.1 dX6_remove_52 ?_
    refine R_iast (pc := 53) (kt_rules_leftSize hr) (lt_rules_leftSize hr) (by omega) (by decide) dX6_remove_53 ?_
    refine T_aload_n (pc := 54) (i := 0) dX6_remove_54 rfl rfl ?_
    refine R_getR (pc := 55) (i := (r + 4)) fl_X6_22 rfl (kt_rules hr) (lt_rules hr) (rt_rules_rightSize hr) dX6_remove_55 ?_
    refine T_iload_n (pc := 58) (i := 2) dX6_remove_58 rfl rfl ?_
    refine T_aload_n (pc := 59) (i := 0) dX6_remove_59 rfl rfl ?_
    refine R_getR (pc := 60) (i := (r + 4)) fl_X6_22 rfl (kt_rules hr) (lt_rules hr) (rt_rules_rightSize hr) dX6_remove_60 ?_
    refine T_iload_n (pc := 63) (i := 2) dX6_remove_63 rfl rfl ?_
    refine T_iconst (pc := 64) (v := nI 1) dX6_remove_64 (by decide) ?_
    refine R_iadd (pc := 65) dX6_remove_65 ?_
    refine R_iald (pc := 66) (x := nI ((rAt R (i + 1)).2.length)) (kt_rules_rightSize hr) (lt_rules_rightSize hr) (by omega) (by decide) ((wI_ne (by first | omega | simp)).trans hi.2.2.2) dX6_remove_66 ?_
    refine R_iast (pc := 67) (kt_rules_rightSize hr) (lt_rules_rightSize hr) (by omega) (by decide) dX6_remove_67 ?_
    refine R_iinc (pc := 68) (i := 2) (n := 1) (ls' := [some (.ref r), some (.int (nI k)), some (.int (nI (i + 1)))]) dX6_remove_68 rfl rfl ?_
    refine T_goto (pc := 71) (tgt := 2) dX6_remove_71 (by decide) ?_
    have hof : Off r 5 m (wI (wI (wL (wL m (r + 1) i (lN (cd (rAt R (i + 1)).1))) (r + 2) i (lN (cd (rAt R (i + 1)).2))) (r + 3) i (nI ((rAt R (i + 1)).1.length))) (r + 4) i (nI ((rAt R (i + 1)).2.length))) := (Off.sI (Off.sI (Off.sL (Off.sL (Off.refl _ _ _) (by omega)) (by omega)) (by omega)) (by omega))
    refine ih (by omega) _ ⟨by omega, ?_, fun j hj => ?_, ho.trans hof⟩
    · skip
      simp (disch := omega) only [n_wI, e_wI, n_wL, e_wL, m_wI2, m_wL1, n_wCI, e_wCI, n_wCL, e_wCL, m_wCI2, m_wCL1, n_wF, e_wF, m_wF2]
      exact hs
    · obtain ⟨e1, e2, e3, e4⟩ := hw j hj
      by_cases hj2 : j = i
      · subst hj2
        rw [if_pos (by omega)]
        refine ⟨?_, ?_, ?_, ?_⟩
        all_goals
          simp (disch := omega) only [n_wI, e_wI, n_wL, e_wL, m_wI2, m_wL1, n_wCI, e_wCI, n_wCL, e_wCL, m_wCI2, m_wCL1, n_wF, e_wF, m_wF2]
      · have e9 : (if k ≤ j ∧ j < i + 1 then rAt R (j + 1) else rAt R j) = (if k ≤ j ∧ j < i then rAt R (j + 1) else rAt R j) := by
          by_cases h7 : k ≤ j ∧ j < i
          · rw [if_pos h7, if_pos (by omega)]
          · rw [if_neg h7, if_neg (by omega)]
        rw [e9]
        refine ⟨?_, ?_, ?_, ?_⟩
        all_goals
          simp (disch := omega) only [n_wI, e_wI, n_wL, e_wL, m_wI2, m_wL1, n_wCI, e_wCI, n_wCL, e_wCL, m_wCI2, m_wCL1, n_wF, e_wF, m_wF2]
          assumption
theorem kLN_lt {r : Nat} {R : List Ru} (h : RulesAt μ r R) {i : Nat} (hi : i ≤ R.length) : kLN R i < 2 ^ 8 := by
  induction i with
  | zero => exact Nat.pow_pos (by decide)
  | succ i ih => exact Nat.or_lt_two_pow (ih (by omega)) (kd_lt (h.ok i (by omega)).1)
theorem kRN_lt {r : Nat} {R : List Ru} (h : RulesAt μ r R) {i : Nat} (hi : i ≤ R.length) : kRN R i < 2 ^ 8 := by
  induction i with
  | zero => exact Nat.pow_pos (by decide)
  | succ i ih => exact Nat.or_lt_two_pow (ih (by omega)) (kd_lt (h.ok i (by omega)).2.2.2.1)
theorem c_Rules_kindsOfLefts {r : Nat} {R : List Ru} (hr : isRules r) (h : RulesAt μ r R) : Ex γ 3 0 0 M_X6_kindsOfLefts [.ref r] (rm μ) (Fn (some (.int (nI (kLN R R.length)))) μ) := by
  have h12 := h.len
  refine Ex.of (by decide +kernel) rfl (Nat.le_of_ble_eq_true rfl) ?_
  show T _ _ _ _ _ _ _ _ _ [some (.ref r), none, none] [] (rm μ)
  refine T_iconst (pc := 0) (v := nI 0) dX6_kindsOfLefts_0 (by decide) ?_
  refine T_istore_n (pc := 1) (i := 1) (ls' := [some (.ref r), some (.int (nI 0)), none]) dX6_kindsOfLefts_1 rfl (by decide) rfl ?_
  refine T_iconst (pc := 2) (v := nI 0) dX6_kindsOfLefts_2 (by decide) ?_
  refine T_istore_n (pc := 3) (i := 2) (ls' := [some (.ref r), some (.int (nI 0)), some (.int (nI 0))]) dX6_kindsOfLefts_3 rfl (by decide) rfl ?_
  refine T_for (pc := 4) R.length (fun i => [some (.ref r), some (.int (nI (kLN R i))), some (.int (nI i))]) (fun _ => rm μ) (fun i hle ih => ?_) 0 (Nat.zero_le _)
  show T _ _ _ _ _ _ _ _ 4 [some (.ref r), some (.int (nI (kLN R i))), some (.int (nI i))] [] (rm μ)
  refine T_iload_n (pc := 4) (i := 2) dX6_kindsOfLefts_4 rfl rfl ?_
  refine T_aload_n (pc := 5) (i := 0) dX6_kindsOfLefts_5 rfl rfl ?_
  refine R_getI (pc := 6) (x := nI R.length) fl_X6_25 rfl (kt_rules hr) (lt_rules hr) h.size dX6_kindsOfLefts_6 ?_
  refine R_icmp_ge (pc := 9) (tgt := 30) (by omega) (by omega) dX6_kindsOfLefts_9 (by decide) (fun h1 => ?_) (fun h1 => ?_)
  · skip
    refine T_iload_n (pc := 30) (i := 1) dX6_kindsOfLefts_30 rfl rfl ?_
    rw [show i = R.length by omega]
    exact T_iret (pc := 31) (ty := .int) dX6_kindsOfLefts_31 rfl rfl (Nat.le_refl _) (Nat.le_refl _) ⟨rfl, rfl⟩
  · skip
    refine T_iload_n (pc := 12) (i := 1) dX6_kindsOfLefts_12 rfl rfl ?_
    refine T_aload_n (pc := 13) (i := 0) dX6_kindsOfLefts_13 rfl rfl ?_
    refine R_getR (pc := 14) (i := (r + 1)) fl_X6_9 rfl (kt_rules hr) (lt_rules hr) (rt_rules_left hr) dX6_kindsOfLefts_14 ?_
    refine T_iload_n (pc := 17) (i := 2) dX6_kindsOfLefts_17 rfl rfl ?_
    refine R_lald (pc := 18) (x := lN (cd (rAt R i).1)) (kt_rules_left hr) (lt_rules_left hr) (by omega) (by decide) ((h.row i h1).1) dX6_kindsOfLefts_18 ?_
    refine R_callS1 (pc := 19) (av := [.long (lN (cd (rAt R i).1))]) (rest := [.int (nI (kLN R i))]) (Or.inr lk_X6_39) mk_X11_kindsIn (c_kindsIn (h.ok i h1).l) dX6_kindsOfLefts_19 rfl rfl (Nat.le_of_ble_eq_true rfl) (by decide) rfl (Nat.le_refl _) (Nat.le_refl _) ?_
    refine R_ior (pc := 22) dX6_kindsOfLefts_22 ?_
    refine T_istore_n (pc := 23) (i := 1) (ls' := [some (.ref r), some (.int (nI ((kLN R i) ||| (kd (rAt R i).1)))), some (.int (nI i))]) dX6_kindsOfLefts_23 rfl (by decide) rfl ?_
    refine R_iinc (pc := 24) (i := 2) (n := 1) (ls' := [some (.ref r), some (.int (nI ((kLN R i) ||| (kd (rAt R i).1)))), some (.int (nI (i + 1)))]) dX6_kindsOfLefts_24 rfl rfl ?_
    refine T_goto (pc := 27) (tgt := 4) dX6_kindsOfLefts_27 (by decide) ?_
    exact ih h1
theorem c_Rules_kindsOfRights {r : Nat} {R : List Ru} (hr : isRules r) (h : RulesAt μ r R) : Ex γ 3 0 0 M_X6_kindsOfRights [.ref r] (rm μ) (Fn (some (.int (nI (kRN R R.length)))) μ) := by
  have h12 := h.len
  refine Ex.of (by decide +kernel) rfl (Nat.le_of_ble_eq_true rfl) ?_
  show T _ _ _ _ _ _ _ _ _ [some (.ref r), none, none] [] (rm μ)
  refine T_iconst (pc := 0) (v := nI 0) dX6_kindsOfRights_0 (by decide) ?_
  refine T_istore_n (pc := 1) (i := 1) (ls' := [some (.ref r), some (.int (nI 0)), none]) dX6_kindsOfRights_1 rfl (by decide) rfl ?_
  refine T_iconst (pc := 2) (v := nI 0) dX6_kindsOfRights_2 (by decide) ?_
  refine T_istore_n (pc := 3) (i := 2) (ls' := [some (.ref r), some (.int (nI 0)), some (.int (nI 0))]) dX6_kindsOfRights_3 rfl (by decide) rfl ?_
  refine T_for (pc := 4) R.length (fun i => [some (.ref r), some (.int (nI (kRN R i))), some (.int (nI i))]) (fun _ => rm μ) (fun i hle ih => ?_) 0 (Nat.zero_le _)
  show T _ _ _ _ _ _ _ _ 4 [some (.ref r), some (.int (nI (kRN R i))), some (.int (nI i))] [] (rm μ)
  refine T_iload_n (pc := 4) (i := 2) dX6_kindsOfRights_4 rfl rfl ?_
  refine T_aload_n (pc := 5) (i := 0) dX6_kindsOfRights_5 rfl rfl ?_
  refine R_getI (pc := 6) (x := nI R.length) fl_X6_25 rfl (kt_rules hr) (lt_rules hr) h.size dX6_kindsOfRights_6 ?_
  refine R_icmp_ge (pc := 9) (tgt := 30) (by omega) (by omega) dX6_kindsOfRights_9 (by decide) (fun h1 => ?_) (fun h1 => ?_)
  · skip
    refine T_iload_n (pc := 30) (i := 1) dX6_kindsOfRights_30 rfl rfl ?_
    rw [show i = R.length by omega]
    exact T_iret (pc := 31) (ty := .int) dX6_kindsOfRights_31 rfl rfl (Nat.le_refl _) (Nat.le_refl _) ⟨rfl, rfl⟩
  · skip
    refine T_iload_n (pc := 12) (i := 1) dX6_kindsOfRights_12 rfl rfl ?_
    refine T_aload_n (pc := 13) (i := 0) dX6_kindsOfRights_13 rfl rfl ?_
    refine R_getR (pc := 14) (i := (r + 2)) fl_X6_15 rfl (kt_rules hr) (lt_rules hr) (rt_rules_right hr) dX6_kindsOfRights_14 ?_
    refine T_iload_n (pc := 17) (i := 2) dX6_kindsOfRights_17 rfl rfl ?_
    refine R_lald (pc := 18) (x := lN (cd (rAt R i).2)) (kt_rules_right hr) (lt_rules_right hr) (by omega) (by decide) ((h.row i h1).2.1) dX6_kindsOfRights_18 ?_
    refine R_callS1 (pc := 19) (av := [.long (lN (cd (rAt R i).2))]) (rest := [.int (nI (kRN R i))]) (Or.inr lk_X6_39) mk_X11_kindsIn (c_kindsIn (h.ok i h1).r) dX6_kindsOfRights_19 rfl rfl (Nat.le_of_ble_eq_true rfl) (by decide) rfl (Nat.le_refl _) (Nat.le_refl _) ?_
    refine R_ior (pc := 22) dX6_kindsOfRights_22 ?_
    refine T_istore_n (pc := 23) (i := 1) (ls' := [some (.ref r), some (.int (nI ((kRN R i) ||| (kd (rAt R i).2)))), some (.int (nI i))]) dX6_kindsOfRights_23 rfl (by decide) rfl ?_
    refine R_iinc (pc := 24) (i := 2) (n := 1) (ls' := [some (.ref r), some (.int (nI ((kRN R i) ||| (kd (rAt R i).2)))), some (.int (nI (i + 1)))]) dX6_kindsOfRights_24 rfl rfl ?_
    refine T_goto (pc := 27) (tgt := 4) dX6_kindsOfRights_27 (by decide) ?_
    exact ih h1
theorem c_Rules_kinds {r : Nat} {R : List Ru} (hr : isRules r) (h : RulesAt μ r R) : Ex γ 4 0 0 M_X6_kinds [.ref r] (rm μ) (Fn (some (.int (nI (kLN R R.length ||| kRN R R.length)))) μ) := by
  refine Ex.of (by decide +kernel) rfl (Nat.le_of_ble_eq_true rfl) ?_
  show T _ _ _ _ _ _ _ _ _ [some (.ref r)] [] (rm μ)
  refine T_aload_n (pc := 0) (i := 0) dX6_kinds_0 rfl rfl ?_
  refine R_callV1 (pc := 1) (As := []) (rest := []) (Or.inl lk_X6_42) mk_X6_kindsOfLefts (c_Rules_kindsOfLefts hr h) (kt_rules hr) ⟨by decide, rfl⟩ (lt_rules hr) dX6_kinds_1 rfl rfl (Nat.le_of_ble_eq_true rfl) (by decide) rfl (Nat.le_refl _) (Nat.le_refl _) ?_
  refine T_aload_n (pc := 4) (i := 0) dX6_kinds_4 rfl rfl ?_
  refine R_callV1 (pc := 5) (As := []) (rest := [.int (nI (kLN R R.length))]) (Or.inl lk_X6_46) mk_X6_kindsOfRights (c_Rules_kindsOfRights hr h) (kt_rules hr) ⟨by decide, rfl⟩ (lt_rules hr) dX6_kinds_5 rfl rfl (Nat.le_of_ble_eq_true rfl) (by decide) rfl (Nat.le_refl _) (Nat.le_refl _) ?_
  refine R_ior (pc := 8) dX6_kinds_8 ?_
  exact T_iret (pc := 9) (ty := .int) dX6_kinds_9 rfl rfl (Nat.le_refl _) (Nat.le_refl _) ⟨rfl, rfl⟩
theorem c_Rules_shrinking {r : Nat} {R : List Ru} (hr : isRules r) (h : RulesAt μ r R) : Ex γ 1 0 0 M_X6_shrinking [.ref r] (rm μ) (Fn (some (.int (nI (shN R R.length)))) μ) := by
  have h12 := h.len
  refine Ex.of (by decide +kernel) rfl (Nat.le_of_ble_eq_true rfl) ?_
  show T _ _ _ _ _ _ _ _ _ [some (.ref r), none, none] [] (rm μ)
  refine T_iconst (pc := 0) (v := nI 0) dX6_shrinking_0 (by decide) ?_
  refine T_istore_n (pc := 1) (i := 1) (ls' := [some (.ref r), some (.int (nI 0)), none]) dX6_shrinking_1 rfl (by decide) rfl ?_
  refine T_iconst (pc := 2) (v := nI 0) dX6_shrinking_2 (by decide) ?_
  refine T_istore_n (pc := 3) (i := 2) (ls' := [some (.ref r), some (.int (nI 0)), some (.int (nI 0))]) dX6_shrinking_3 rfl (by decide) rfl ?_
  refine T_for (pc := 4) R.length (fun i => [some (.ref r), some (.int (nI (shN R i))), some (.int (nI i))]) (fun _ => rm μ) (fun i hle ih => ?_) 0 (Nat.zero_le _)
  show T _ _ _ _ _ _ _ _ 4 [some (.ref r), some (.int (nI (shN R i))), some (.int (nI i))] [] (rm μ)
  refine T_iload_n (pc := 4) (i := 2) dX6_shrinking_4 rfl rfl ?_
  refine T_aload_n (pc := 5) (i := 0) dX6_shrinking_5 rfl rfl ?_
  refine R_getI (pc := 6) (x := nI R.length) fl_X6_25 rfl (kt_rules hr) (lt_rules hr) h.size dX6_shrinking_6 ?_
  refine R_icmp_ge (pc := 9) (tgt := 43) (by omega) (by omega) dX6_shrinking_9 (by decide) (fun h1 => ?_) (fun h1 => ?_)
  · skip
    refine T_iload_n (pc := 43) (i := 1) dX6_shrinking_43 rfl rfl ?_
    rw [show i = R.length by omega]
    exact T_iret (pc := 44) (ty := .int) dX6_shrinking_44 rfl rfl (Nat.le_refl _) (Nat.le_refl _) ⟨rfl, rfl⟩
  · skip
    have hk := h.ok i h1
    have k1 := hk.2.2.1
    have k2 := hk.2.2.2.2
    refine T_iload_n (pc := 12) (i := 1) dX6_shrinking_12 rfl rfl ?_
    refine T_aload_n (pc := 13) (i := 0) dX6_shrinking_13 rfl rfl ?_
    refine R_getR (pc := 14) (i := (r + 4)) fl_X6_22 rfl (kt_rules hr) (lt_rules hr) (rt_rules_rightSize hr) dX6_shrinking_14 ?_
    refine T_iload_n (pc := 17) (i := 2) dX6_shrinking_17 rfl rfl ?_
    refine R_iald (pc := 18) (x := nI ((rAt R i).2.length)) (kt_rules_rightSize hr) (lt_rules_rightSize hr) (by omega) (by decide) ((h.row i h1).2.2.2) dX6_shrinking_18 ?_
    refine T_aload_n (pc := 19) (i := 0) dX6_shrinking_19 rfl rfl ?_
    refine R_getR (pc := 20) (i := (r + 3)) fl_X6_18 rfl (kt_rules hr) (lt_rules hr) (rt_rules_leftSize hr) dX6_shrinking_20 ?_
    refine T_iload_n (pc := 23) (i := 2) dX6_shrinking_23 rfl rfl ?_
    refine R_iald (pc := 24) (x := nI ((rAt R i).1.length)) (kt_rules_leftSize hr) (lt_rules_leftSize hr) (by omega) (by decide) ((h.row i h1).2.2.1) dX6_shrinking_24 ?_
    refine R_icmp_ge (pc := 25) (tgt := 34) (by omega) (by omega) dX6_shrinking_25 (by decide) (fun h2 => ?_) (fun h2 => ?_)
    · skip
      refine T_iconst (pc := 34) (v := nI 0) dX6_shrinking_34 (by decide) ?_
      refine R_ior (pc := 35) dX6_shrinking_35 ?_
      refine T_istore_n (pc := 36) (i := 1) (ls' := [some (.ref r), some (.int (nI ((shN R i) ||| 0))), some (.int (nI i))]) dX6_shrinking_36 rfl (by decide) rfl ?_
      refine R_iinc (pc := 37) (i := 2) (n := 1) (ls' := [some (.ref r), some (.int (nI ((shN R i) ||| 0))), some (.int (nI (i + 1)))]) dX6_shrinking_37 rfl rfl ?_
      refine T_goto (pc := 40) (tgt := 4) dX6_shrinking_40 (by decide) ?_
      have h9 := ih h1
      rw [show shN R (i + 1) = shN R i ||| 0 by show shN R i ||| (if _ then _ else _) = _; rw [if_neg (by omega)]] at h9
      exact h9
    · skip
      refine T_iconst (pc := 28) (v := nI 1) dX6_shrinking_28 (by decide) ?_
      refine T_iload_n (pc := 29) (i := 2) dX6_shrinking_29 rfl rfl ?_
      refine R_ishl (pc := 30) (by omega) dX6_shrinking_30 ?_
      refine T_goto (pc := 31) (tgt := 35) dX6_shrinking_31 (by decide) ?_
      refine R_ior (pc := 35) dX6_shrinking_35 ?_
      refine T_istore_n (pc := 36) (i := 1) (ls' := [some (.ref r), some (.int (nI ((shN R i) ||| (1 * 2 ^ i)))), some (.int (nI i))]) dX6_shrinking_36 rfl (by decide) rfl ?_
      refine R_iinc (pc := 37) (i := 2) (n := 1) (ls' := [some (.ref r), some (.int (nI ((shN R i) ||| (1 * 2 ^ i)))), some (.int (nI (i + 1)))]) dX6_shrinking_37 rfl rfl ?_
      refine T_goto (pc := 40) (tgt := 4) dX6_shrinking_40 (by decide) ?_
      have h9 := ih h1
      rw [show shN R (i + 1) = shN R i ||| 2 ^ i by show shN R i ||| (if _ then _ else _) = _; rw [if_pos (by omega)]] at h9
      rw [Nat.one_mul]
      exact h9
theorem c_Rules_growing {r : Nat} {R : List Ru} (hr : isRules r) (h : RulesAt μ r R) : Ex γ 1 0 0 M_X6_growing [.ref r] (rm μ) (Fn (some (.int (nI (gwN R R.length)))) μ) := by
  have h12 := h.len
  refine Ex.of (by decide +kernel) rfl (Nat.le_of_ble_eq_true rfl) ?_
  show T _ _ _ _ _ _ _ _ _ [some (.ref r), none, none] [] (rm μ)
  refine T_iconst (pc := 0) (v := nI 0) dX6_growing_0 (by decide) ?_
  refine T_istore_n (pc := 1) (i := 1) (ls' := [some (.ref r), some (.int (nI 0)), none]) dX6_growing_1 rfl (by decide) rfl ?_
  refine T_iconst (pc := 2) (v := nI 0) dX6_growing_2 (by decide) ?_
  refine T_istore_n (pc := 3) (i := 2) (ls' := [some (.ref r), some (.int (nI 0)), some (.int (nI 0))]) dX6_growing_3 rfl (by decide) rfl ?_
  refine T_for (pc := 4) R.length (fun i => [some (.ref r), some (.int (nI (gwN R i))), some (.int (nI i))]) (fun _ => rm μ) (fun i hle ih => ?_) 0 (Nat.zero_le _)
  show T _ _ _ _ _ _ _ _ 4 [some (.ref r), some (.int (nI (gwN R i))), some (.int (nI i))] [] (rm μ)
  refine T_iload_n (pc := 4) (i := 2) dX6_growing_4 rfl rfl ?_
  refine T_aload_n (pc := 5) (i := 0) dX6_growing_5 rfl rfl ?_
  refine R_getI (pc := 6) (x := nI R.length) fl_X6_25 rfl (kt_rules hr) (lt_rules hr) h.size dX6_growing_6 ?_
  refine R_icmp_ge (pc := 9) (tgt := 43) (by omega) (by omega) dX6_growing_9 (by decide) (fun h1 => ?_) (fun h1 => ?_)
  · skip
    refine T_iload_n (pc := 43) (i := 1) dX6_growing_43 rfl rfl ?_
    rw [show i = R.length by omega]
    exact T_iret (pc := 44) (ty := .int) dX6_growing_44 rfl rfl (Nat.le_refl _) (Nat.le_refl _) ⟨rfl, rfl⟩
  · skip
    have hk := h.ok i h1
    have k1 := hk.2.2.1
    have k2 := hk.2.2.2.2
    refine T_iload_n (pc := 12) (i := 1) dX6_growing_12 rfl rfl ?_
    refine T_aload_n (pc := 13) (i := 0) dX6_growing_13 rfl rfl ?_
    refine R_getR (pc := 14) (i := (r + 4)) fl_X6_22 rfl (kt_rules hr) (lt_rules hr) (rt_rules_rightSize hr) dX6_growing_14 ?_
    refine T_iload_n (pc := 17) (i := 2) dX6_growing_17 rfl rfl ?_
    refine R_iald (pc := 18) (x := nI ((rAt R i).2.length)) (kt_rules_rightSize hr) (lt_rules_rightSize hr) (by omega) (by decide) ((h.row i h1).2.2.2) dX6_growing_18 ?_
    refine T_aload_n (pc := 19) (i := 0) dX6_growing_19 rfl rfl ?_
    refine R_getR (pc := 20) (i := (r + 3)) fl_X6_18 rfl (kt_rules hr) (lt_rules hr) (rt_rules_leftSize hr) dX6_growing_20 ?_
    refine T_iload_n (pc := 23) (i := 2) dX6_growing_23 rfl rfl ?_
    refine R_iald (pc := 24) (x := nI ((rAt R i).1.length)) (kt_rules_leftSize hr) (lt_rules_leftSize hr) (by omega) (by decide) ((h.row i h1).2.2.1) dX6_growing_24 ?_
    refine R_icmp_le (pc := 25) (tgt := 34) (by omega) (by omega) dX6_growing_25 (by decide) (fun h2 => ?_) (fun h2 => ?_)
    · skip
      refine T_iconst (pc := 34) (v := nI 0) dX6_growing_34 (by decide) ?_
      refine R_ior (pc := 35) dX6_growing_35 ?_
      refine T_istore_n (pc := 36) (i := 1) (ls' := [some (.ref r), some (.int (nI ((gwN R i) ||| 0))), some (.int (nI i))]) dX6_growing_36 rfl (by decide) rfl ?_
      refine R_iinc (pc := 37) (i := 2) (n := 1) (ls' := [some (.ref r), some (.int (nI ((gwN R i) ||| 0))), some (.int (nI (i + 1)))]) dX6_growing_37 rfl rfl ?_
      refine T_goto (pc := 40) (tgt := 4) dX6_growing_40 (by decide) ?_
      have h9 := ih h1
      rw [show gwN R (i + 1) = gwN R i ||| 0 by show gwN R i ||| (if _ then _ else _) = _; rw [if_neg (by omega)]] at h9
      exact h9
    · skip
      refine T_iconst (pc := 28) (v := nI 1) dX6_growing_28 (by decide) ?_
      refine T_iload_n (pc := 29) (i := 2) dX6_growing_29 rfl rfl ?_
      refine R_ishl (pc := 30) (by omega) dX6_growing_30 ?_
      refine T_goto (pc := 31) (tgt := 35) dX6_growing_31 (by decide) ?_
      refine R_ior (pc := 35) dX6_growing_35 ?_
      refine T_istore_n (pc := 36) (i := 1) (ls' := [some (.ref r), some (.int (nI ((gwN R i) ||| (1 * 2 ^ i)))), some (.int (nI i))]) dX6_growing_36 rfl (by decide) rfl ?_
      refine R_iinc (pc := 37) (i := 2) (n := 1) (ls' := [some (.ref r), some (.int (nI ((gwN R i) ||| (1 * 2 ^ i)))), some (.int (nI (i + 1)))]) dX6_growing_37 rfl rfl ?_
      refine T_goto (pc := 40) (tgt := 4) dX6_growing_40 (by decide) ?_
      have h9 := ih h1
      rw [show gwN R (i + 1) = gwN R i ||| 2 ^ i by show gwN R i ||| (if _ then _ else _) = _; rw [if_pos (by omega)]] at h9
      rw [Nat.one_mul]
      exact h9
end RU2

