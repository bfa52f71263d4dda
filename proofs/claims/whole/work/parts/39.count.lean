/-! count -/
def cntV (X : Td) (L : Lw) (U : List Td) (x : Int32) : Int32 := if x = nI 0 then nI X.R.length else if x = nI 1 then nI X.F.length else if x = nI 2 then nI X.S.length else if x = nI 3 then nI X.texts else if x = nI 4 then L.1 else if x = nI 5 then nI X.way else if x = nI 6 then nI X.fog else if x = nI 7 then X.year else if x = nI 8 then soN X.F X.F.length else if x = nI 9 then nI (boN X.F X.F.length) else if x = nI 10 then nI U.length else -1
section CO
variable {γ : Ga} {μ : SM2}
theorem c_count {x : Int32} {X : Td} {L : Lw} {U : List Td} (hX : ToldAt μ 3 X) (hL : LawAt μ 59 L) (hU : ActsAt μ U) : Ex γ 3 0 0 M_X11_count [.ref 0, .int x] (rm μ) (Fn (some (.int (cntV X L U x))) μ) := by
  obtain ⟨nx, hn, e10, h9, hl, hu⟩ := hU
  by_cases hin : inB x 11 = true
  · obtain ⟨k, hk, rfl⟩ := inB_of (by decide) hin
    have hc : k = 0 ∨ k = 1 ∨ k = 2 ∨ k = 3 ∨ k = 4 ∨ k = 5 ∨ k = 6 ∨ k = 7 ∨ k = 8 ∨ k = 9 ∨ k = 10 := by omega
    rcases hc with rfl | rfl | rfl | rfl | rfl | rfl | rfl | rfl | rfl | rfl | rfl
    · rw [show cntV X L U (nI 0) = (nI X.R.length) from rfl]
      refine Ex.of (by decide +kernel) rfl (Nat.le_of_ble_eq_true rfl) ?_
      show T _ _ _ _ _ _ _ _ _ [some (.ref 0), some (.int (nI 0))] [] (rm μ)
      refine T_iload_n (pc := 0) (i := 1) dX11_count_0 rfl rfl ?_
      refine T_tableIn (pc := 1) (tgt := 60) dX11_count_1 (by decide) (by decide) rfl (by decide) ?_
      refine T_aload_n (pc := 60) (i := 0) dX11_count_60 rfl rfl ?_
      refine R_getR (pc := 61) (i := 3) fl_X11_19 rfl kc_0 lc_0 rc_0_1 dX11_count_61 ?_
      refine R_getR (pc := 64) (i := 4) fl_X11_48 rfl (kt_told told3) (lt_told told3) (rt_told_rules told3) dX11_count_64 ?_
      refine R_getI (pc := 67) (x := nI X.R.length) fl_X11_230 rfl (kt_rules rules4) (lt_rules rules4) hX.1.size dX11_count_67 ?_
      exact T_iret (pc := 70) (ty := .int) dX11_count_70 rfl rfl (Nat.le_refl _) (Nat.le_refl _) ⟨rfl, rfl⟩
    · rw [show cntV X L U (nI 1) = (nI X.F.length) from rfl]
      refine Ex.of (by decide +kernel) rfl (Nat.le_of_ble_eq_true rfl) ?_
      show T _ _ _ _ _ _ _ _ _ [some (.ref 0), some (.int (nI 1))] [] (rm μ)
      refine T_iload_n (pc := 0) (i := 1) dX11_count_0 rfl rfl ?_
      refine T_tableIn (pc := 1) (tgt := 71) dX11_count_1 (by decide) (by decide) rfl (by decide) ?_
      refine T_aload_n (pc := 71) (i := 0) dX11_count_71 rfl rfl ?_
      refine R_getR (pc := 72) (i := 3) fl_X11_19 rfl kc_0 lc_0 rc_0_1 dX11_count_72 ?_
      refine R_getI (pc := 75) (x := nI X.F.length) fl_X11_323 rfl (kt_told told3) (lt_told told3) hX.2.1.1 dX11_count_75 ?_
      exact T_iret (pc := 78) (ty := .int) dX11_count_78 rfl rfl (Nat.le_refl _) (Nat.le_refl _) ⟨rfl, rfl⟩
    · rw [show cntV X L U (nI 2) = (nI X.S.length) from rfl]
      refine Ex.of (by decide +kernel) rfl (Nat.le_of_ble_eq_true rfl) ?_
      show T _ _ _ _ _ _ _ _ _ [some (.ref 0), some (.int (nI 2))] [] (rm μ)
      refine T_iload_n (pc := 0) (i := 1) dX11_count_0 rfl rfl ?_
      refine T_tableIn (pc := 1) (tgt := 79) dX11_count_1 (by decide) (by decide) rfl (by decide) ?_
      refine T_aload_n (pc := 79) (i := 0) dX11_count_79 rfl rfl ?_
      refine R_getR (pc := 80) (i := 3) fl_X11_19 rfl kc_0 lc_0 rc_0_1 dX11_count_80 ?_
      refine R_getI (pc := 83) (x := nI X.S.length) fl_X11_458 rfl (kt_told told3) (lt_told told3) hX.2.2.1.1 dX11_count_83 ?_
      exact T_iret (pc := 86) (ty := .int) dX11_count_86 rfl rfl (Nat.le_refl _) (Nat.le_refl _) ⟨rfl, rfl⟩
    · rw [show cntV X L U (nI 3) = (nI X.texts) from rfl]
      refine Ex.of (by decide +kernel) rfl (Nat.le_of_ble_eq_true rfl) ?_
      show T _ _ _ _ _ _ _ _ _ [some (.ref 0), some (.int (nI 3))] [] (rm μ)
      refine T_iload_n (pc := 0) (i := 1) dX11_count_0 rfl rfl ?_
      refine T_tableIn (pc := 1) (tgt := 87) dX11_count_1 (by decide) (by decide) rfl (by decide) ?_
      refine T_aload_n (pc := 87) (i := 0) dX11_count_87 rfl rfl ?_
      refine R_getR (pc := 88) (i := 3) fl_X11_19 rfl kc_0 lc_0 rc_0_1 dX11_count_88 ?_
      refine R_getI (pc := 91) (x := nI X.texts) fl_X11_116 rfl (kt_told told3) (lt_told told3) hX.2.2.2.2.2.1 dX11_count_91 ?_
      exact T_iret (pc := 94) (ty := .int) dX11_count_94 rfl rfl (Nat.le_refl _) (Nat.le_refl _) ⟨rfl, rfl⟩
    · rw [show cntV X L U (nI 4) = L.1 from rfl]
      refine Ex.of (by decide +kernel) rfl (Nat.le_of_ble_eq_true rfl) ?_
      show T _ _ _ _ _ _ _ _ _ [some (.ref 0), some (.int (nI 4))] [] (rm μ)
      refine T_iload_n (pc := 0) (i := 1) dX11_count_0 rfl rfl ?_
      refine T_tableIn (pc := 1) (tgt := 95) dX11_count_1 (by decide) (by decide) rfl (by decide) ?_
      refine T_aload_n (pc := 95) (i := 0) dX11_count_95 rfl rfl ?_
      refine R_getR (pc := 96) (i := 59) fl_X11_29 rfl kc_0 lc_0 rc_0_3 dX11_count_96 ?_
      refine R_getI (pc := 99) (x := L.1) fl_X11_129 rfl (kt_law law59) (lt_law law59) hL.1 dX11_count_99 ?_
      exact T_iret (pc := 102) (ty := .int) dX11_count_102 rfl rfl (Nat.le_refl _) (Nat.le_refl _) ⟨rfl, rfl⟩
    · rw [show cntV X L U (nI 5) = (nI X.way) from rfl]
      refine Ex.of (by decide +kernel) rfl (Nat.le_of_ble_eq_true rfl) ?_
      show T _ _ _ _ _ _ _ _ _ [some (.ref 0), some (.int (nI 5))] [] (rm μ)
      refine T_iload_n (pc := 0) (i := 1) dX11_count_0 rfl rfl ?_
      refine T_tableIn (pc := 1) (tgt := 103) dX11_count_1 (by decide) (by decide) rfl (by decide) ?_
      refine T_aload_n (pc := 103) (i := 0) dX11_count_103 rfl rfl ?_
      refine R_getR (pc := 104) (i := 3) fl_X11_19 rfl kc_0 lc_0 rc_0_1 dX11_count_104 ?_
      refine R_getI (pc := 107) (x := nI X.way) fl_X11_461 rfl (kt_told told3) (lt_told told3) hX.2.2.2.2.2.2.1 dX11_count_107 ?_
      exact T_iret (pc := 110) (ty := .int) dX11_count_110 rfl rfl (Nat.le_refl _) (Nat.le_refl _) ⟨rfl, rfl⟩
    · rw [show cntV X L U (nI 6) = (nI X.fog) from rfl]
      refine Ex.of (by decide +kernel) rfl (Nat.le_of_ble_eq_true rfl) ?_
      show T _ _ _ _ _ _ _ _ _ [some (.ref 0), some (.int (nI 6))] [] (rm μ)
      refine T_iload_n (pc := 0) (i := 1) dX11_count_0 rfl rfl ?_
      refine T_tableIn (pc := 1) (tgt := 111) dX11_count_1 (by decide) (by decide) rfl (by decide) ?_
      refine T_aload_n (pc := 111) (i := 0) dX11_count_111 rfl rfl ?_
      refine R_getR (pc := 112) (i := 3) fl_X11_19 rfl kc_0 lc_0 rc_0_1 dX11_count_112 ?_
      refine R_getI (pc := 115) (x := nI X.fog) fl_X11_244 rfl (kt_told told3) (lt_told told3) hX.2.2.2.2.2.2.2.1 dX11_count_115 ?_
      exact T_iret (pc := 118) (ty := .int) dX11_count_118 rfl rfl (Nat.le_refl _) (Nat.le_refl _) ⟨rfl, rfl⟩
    · rw [show cntV X L U (nI 7) = X.year from rfl]
      refine Ex.of (by decide +kernel) rfl (Nat.le_of_ble_eq_true rfl) ?_
      show T _ _ _ _ _ _ _ _ _ [some (.ref 0), some (.int (nI 7))] [] (rm μ)
      refine T_iload_n (pc := 0) (i := 1) dX11_count_0 rfl rfl ?_
      refine T_tableIn (pc := 1) (tgt := 119) dX11_count_1 (by decide) (by decide) rfl (by decide) ?_
      refine T_aload_n (pc := 119) (i := 0) dX11_count_119 rfl rfl ?_
      refine R_getR (pc := 120) (i := 3) fl_X11_19 rfl kc_0 lc_0 rc_0_1 dX11_count_120 ?_
      refine R_getI (pc := 123) (x := X.year) fl_X11_253 rfl (kt_told told3) (lt_told told3) hX.2.2.2.2.2.2.2.2.1 dX11_count_123 ?_
      exact T_iret (pc := 126) (ty := .int) dX11_count_126 rfl rfl (Nat.le_refl _) (Nat.le_refl _) ⟨rfl, rfl⟩
    · rw [show cntV X L U (nI 8) = (soN X.F X.F.length) from rfl]
      refine Ex.of (by decide +kernel) rfl (Nat.le_of_ble_eq_true rfl) ?_
      show T _ _ _ _ _ _ _ _ _ [some (.ref 0), some (.int (nI 8))] [] (rm μ)
      refine T_iload_n (pc := 0) (i := 1) dX11_count_0 rfl rfl ?_
      refine T_tableIn (pc := 1) (tgt := 127) dX11_count_1 (by decide) (by decide) rfl (by decide) ?_
      refine T_aload_n (pc := 127) (i := 0) dX11_count_127 rfl rfl ?_
      refine R_getR (pc := 128) (i := 3) fl_X11_19 rfl kc_0 lc_0 rc_0_1 dX11_count_128 ?_
      refine R_callV1 (pc := 131) (As := []) (rest := []) (Or.inl lk_X11_464) mk_X9_stepsOfAll (c_Told_stepsOfAll told3 hX.2.1) (kt_told told3) ⟨by decide, rfl⟩ (lt_told told3) dX11_count_131 rfl rfl (Nat.le_of_ble_eq_true rfl) (by decide) rfl (Nat.le_refl _) (Nat.le_refl _) ?_
      exact T_iret (pc := 134) (ty := .int) dX11_count_134 rfl rfl (Nat.le_refl _) (Nat.le_refl _) ⟨rfl, rfl⟩
    · rw [show cntV X L U (nI 9) = (nI (boN X.F X.F.length)) from rfl]
      refine Ex.of (by decide +kernel) rfl (Nat.le_of_ble_eq_true rfl) ?_
      show T _ _ _ _ _ _ _ _ _ [some (.ref 0), some (.int (nI 9))] [] (rm μ)
      refine T_iload_n (pc := 0) (i := 1) dX11_count_0 rfl rfl ?_
      refine T_tableIn (pc := 1) (tgt := 135) dX11_count_1 (by decide) (by decide) rfl (by decide) ?_
      refine T_aload_n (pc := 135) (i := 0) dX11_count_135 rfl rfl ?_
      refine R_getR (pc := 136) (i := 3) fl_X11_19 rfl kc_0 lc_0 rc_0_1 dX11_count_136 ?_
      refine R_callV1 (pc := 139) (As := []) (rest := []) (Or.inl lk_X11_467) mk_X9_beastsOfAll (c_Told_beastsOfAll told3 hX.2.1) (kt_told told3) ⟨by decide, rfl⟩ (lt_told told3) dX11_count_139 rfl rfl (Nat.le_of_ble_eq_true rfl) (by decide) rfl (Nat.le_refl _) (Nat.le_refl _) ?_
      exact T_iret (pc := 142) (ty := .int) dX11_count_142 rfl rfl (Nat.le_refl _) (Nat.le_refl _) ⟨rfl, rfl⟩
    · rw [show cntV X L U (nI 10) = (nI U.length) from rfl]
      refine Ex.of (by decide +kernel) rfl (Nat.le_of_ble_eq_true rfl) ?_
      show T _ _ _ _ _ _ _ _ _ [some (.ref 0), some (.int (nI 10))] [] (rm μ)
      refine T_iload_n (pc := 0) (i := 1) dX11_count_0 rfl rfl ?_
      refine T_tableIn (pc := 1) (tgt := 143) dX11_count_1 (by decide) (by decide) rfl (by decide) ?_
      refine T_aload_n (pc := 143) (i := 0) dX11_count_143 rfl rfl ?_
      refine R_getI (pc := 144) (x := nI U.length) fl_X11_448 rfl kc_0 lc_0 h9 dX11_count_144 ?_
      exact T_iret (pc := 147) (ty := .int) dX11_count_147 rfl rfl (Nat.le_refl _) (Nat.le_refl _) ⟨rfl, rfl⟩
  · have e : cntV X L U x = -1 := by
      have g : ∀ k, k < 11 → ¬ x = nI k := fun k hk z => hin (by rw [z]; exact inB_n hk (by decide))
      unfold cntV
      rw [if_neg (g 0 (by decide)), if_neg (g 1 (by decide)), if_neg (g 2 (by decide)), if_neg (g 3 (by decide)), if_neg (g 4 (by decide)), if_neg (g 5 (by decide)), if_neg (g 6 (by decide)), if_neg (g 7 (by decide)), if_neg (g 8 (by decide)), if_neg (g 9 (by decide)), if_neg (g 10 (by decide))]
    rw [e]
    refine Ex.of (by decide +kernel) rfl (Nat.le_of_ble_eq_true rfl) ?_
    show T _ _ _ _ _ _ _ _ _ [some (.ref 0), some (.int (x))] [] (rm μ)
    refine T_iload_n (pc := 0) (i := 1) dX11_count_0 rfl rfl ?_
    have hx : x.toInt < 0 ∨ 10 < x.toInt := by
      apply Classical.byContradiction
      intro z
      refine hin ?_
      rw [show x = nI x.toInt.toNat by rw [fa_eq, nI_toInt (by omega)]; omega]
      exact inB_n (by omega) (by decide)
    refine T_tableOut (pc := 1) (tgt := 148) dX11_count_1 hx (by decide) ?_
    refine T_iconst (pc := 148) (v := (-1)) dX11_count_148 (by decide) ?_
    exact T_iret (pc := 149) (ty := .int) dX11_count_149 rfl rfl (Nat.le_refl _) (Nat.le_refl _) ⟨rfl, rfl⟩
end CO

