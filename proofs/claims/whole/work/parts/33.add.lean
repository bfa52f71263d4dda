/-! a RULE added -/
section AD
variable {γ : Ga} {μ : SM2}
theorem c_addRule {y : Ru} {X : Td} {U : List Td} (hX : ToldAt μ 3 X) (hU : ActsAt μ U) (hy : okR y) : Ex γ 5 1 6 M_X11_addRule [.ref 0, .long (lN (cd y.1)), .long (lN (cd y.2))] (rm μ) (Ax (if X.R.length < 12 then none else some "java/lang/UnsupportedOperationException") (.int (nI X.R.length)) μ (fun m => (ToldAt m 3 (X.R ++ [y], X.2) ∧ ActsAt m ((X :: U).take 16)) ∧ OffP μ m)) := by
  have h12 := hX.1.len
  refine Ex.of (by decide +kernel) rfl (Nat.le_of_ble_eq_true rfl) ?_
  show T _ _ _ _ _ _ _ _ _ [some (.ref 0), some (.long (lN (cd y.1))), none, some (.long (lN (cd y.2))), none] [] (rm μ)
  refine T_aload_n (pc := 0) (i := 0) dX11_addRule_0 rfl rfl ?_
  refine R_getR (pc := 1) (i := 3) fl_X11_19 rfl kc_0 lc_0 rc_0_1 dX11_addRule_1 ?_
  refine R_getR (pc := 4) (i := 4) fl_X11_48 rfl (kt_told told3) (lt_told told3) (rt_told_rules told3) dX11_addRule_4 ?_
  refine R_getI (pc := 7) (x := nI X.R.length) fl_X11_230 rfl (kt_rules rules4) (lt_rules rules4) hX.1.size dX11_addRule_7 ?_
  refine T_bipush (pc := 10) (v := nI 12) dX11_addRule_10 (by decide) ?_
  refine R_icmp_lt (pc := 12) (tgt := 23) (by omega) (by omega) dX11_addRule_12 (by decide) (fun h1 => ?_) (fun h1 => ?_)
  · skip
    refine T_aload_n (pc := 23) (i := 0) dX11_addRule_23 rfl rfl ?_
    refine R_callVm0 (pc := 24) (As := []) (rest := []) (Or.inl lk_X11_208) mk_X11_remember (c_remember hX hU) kc_0 ⟨by decide, rfl⟩ lc_0 dX11_addRule_24 rfl rfl (Nat.le_of_ble_eq_true rfl) (by decide) rfl (by decide) (by decide) (fun m h => ?_)
    obtain ⟨hA, hO⟩ := h
    have hX1 := hX.offA hO (by omega)
    refine T_aload_n (pc := 27) (i := 0) dX11_addRule_27 rfl rfl ?_
    refine R_getR (pc := 28) (i := 3) fl_X11_19 rfl kc_0 lc_0 rc_0_1 dX11_addRule_28 ?_
    refine R_getR (pc := 31) (i := 4) fl_X11_48 rfl (kt_told told3) (lt_told told3) (rt_told_rules told3) dX11_addRule_31 ?_
    refine T_lload_n (pc := 34) (i := 1) dX11_addRule_34 rfl rfl ?_
    refine T_lload_n (pc := 35) (i := 3) dX11_addRule_35 rfl rfl ?_
    refine R_callVm0 (pc := 36) (As := [.long (lN (cd y.1)), .long (lN (cd y.2))]) (rest := []) (Or.inl lk_X11_231) mk_X6_append (c_Rules_append (told_rules told3) hX1.1 h1 hy) (kt_rules rules4) ⟨by decide, rfl⟩ (lt_rules rules4) dX11_addRule_36 rfl rfl (Nat.le_of_ble_eq_true rfl) (by decide) rfl (by decide) (by decide) (fun m2 h2 => ?_)
    obtain ⟨hR2, hO2⟩ := h2
    have hl : (X.R ++ [y]).length = X.R.length + 1 := by rw [List.length_append]; rfl
    refine T_aload_n (pc := 39) (i := 0) dX11_addRule_39 rfl rfl ?_
    refine R_getR (pc := 40) (i := 3) fl_X11_19 rfl kc_0 lc_0 rc_0_1 dX11_addRule_40 ?_
    refine R_getR (pc := 43) (i := 4) fl_X11_48 rfl (kt_told told3) (lt_told told3) (rt_told_rules told3) dX11_addRule_43 ?_
    refine R_getI (pc := 46) (x := nI (X.R.length + 1)) fl_X11_230 rfl (kt_rules rules4) (lt_rules rules4) (hl ▸ hR2.size) dX11_addRule_46 ?_
    refine T_iconst (pc := 49) (v := nI 1) dX11_addRule_49 (by decide) ?_
    refine R_isub (pc := 50) (by omega) dX11_addRule_50 ?_
    exact T_iret (pc := 51) (ty := .int) dX11_addRule_51 rfl rfl (by decide) (by decide) (Ax_v h1 ⟨⟨hX1.rules hO2 hR2, hA.off hO2 (by omega)⟩, hO.p hO2 (by omega)⟩)
  · skip
    exact T_throw (pc := 15) (ik := 119) (ic := 121) thr_X11_119 thw_X11_119 dX11_addRule_15 dX11_addRule_18 dX11_addRule_19 dX11_addRule_22 rfl (Nat.le_of_ble_eq_true rfl) (by decide) (by decide) rfl ((Ax_e (by omega)))
end AD

