/-! lesser and greater; loss, SEED, fault, end, acts forgotten -/
section A2
variable {γ : Ga} {μ : SM2}
theorem c_forgetActs : Ex γ 1 0 0 M_X11_forgetActs [.ref 0] (rm μ) (Fn none (wI μ 0 9 (nI 0))) := by
  refine Ex.of (by decide +kernel) rfl (Nat.le_of_ble_eq_true rfl) ?_
  show T _ _ _ _ _ _ _ _ _ [some (.ref 0)] [] (rm μ)
  refine T_aload_n (pc := 0) (i := 0) dX11_forgetActs_0 rfl rfl ?_
  refine T_iconst (pc := 1) (v := nI 0) dX11_forgetActs_1 (by decide) ?_
  refine R_putI (pc := 2) fl_X11_448 ⟨rfl, rfl⟩ (Or.inl rfl) kc_0 lc_0 dX11_forgetActs_2 ?_
  exact T_vret dX11_forgetActs_5 rfl (Nat.le_refl _) (Nat.le_refl _) ⟨rfl, rfl⟩
theorem c_seed {x s : Int32} (h : μ.1 3 11 = s) : Ex γ 1 0 0 M_X11_seed [.ref 0, .int x] (rm μ) (Fn (some (.int s)) (wI μ 3 11 x)) := by
  refine Ex.of (by decide +kernel) rfl (Nat.le_of_ble_eq_true rfl) ?_
  show T _ _ _ _ _ _ _ _ _ [some (.ref 0), some (.int (x)), none] [] (rm μ)
  refine T_aload_n (pc := 0) (i := 0) dX11_seed_0 rfl rfl ?_
  refine R_getR (pc := 1) (i := 3) fl_X11_19 rfl kc_0 lc_0 rc_0_1 dX11_seed_1 ?_
  refine R_getI (pc := 4) (x := s) fl_X11_445 rfl (kt_told told3) (lt_told told3) h dX11_seed_4 ?_
  refine T_istore_n (pc := 7) (i := 2) (ls' := [some (.ref 0), some (.int (x)), some (.int (s))]) dX11_seed_7 rfl (by decide) rfl ?_
  refine T_aload_n (pc := 8) (i := 0) dX11_seed_8 rfl rfl ?_
  refine R_getR (pc := 9) (i := 3) fl_X11_19 rfl kc_0 lc_0 rc_0_1 dX11_seed_9 ?_
  refine T_iload_n (pc := 12) (i := 1) dX11_seed_12 rfl rfl ?_
  refine R_putI (pc := 13) fl_X11_445 ⟨rfl, rfl⟩ (Or.inl rfl) (kt_told told3) (lt_told told3) dX11_seed_13 ?_
  refine T_iload_n (pc := 16) (i := 2) dX11_seed_16 rfl rfl ?_
  exact T_iret (pc := 17) (ty := .int) dX11_seed_17 rfl rfl (Nat.le_refl _) (Nat.le_refl _) ⟨rfl, rfl⟩
theorem c_fault {s : Int32} (h : μ.1 1 6 = s) : Ex γ 1 0 0 M_X11_fault [.ref 0] (rm μ) (Fn (some (.int s)) μ) := by
  refine Ex.of (by decide +kernel) rfl (Nat.le_of_ble_eq_true rfl) ?_
  show T _ _ _ _ _ _ _ _ _ [some (.ref 0)] [] (rm μ)
  refine T_aload_n (pc := 0) (i := 0) dX11_fault_0 rfl rfl ?_
  refine R_getR (pc := 1) (i := 1) fl_X11_10 rfl kc_0 lc_0 rc_0_0 dX11_fault_1 ?_
  refine R_getI (pc := 4) (x := s) fl_X11_132 rfl kc_1 lc_1 h dX11_fault_4 ?_
  exact T_iret (pc := 7) (ty := .int) dX11_fault_7 rfl rfl (Nat.le_refl _) (Nat.le_refl _) ⟨rfl, rfl⟩
theorem c_loss {x : Int32} {R : List Ru} {W : List Nat} (h : RulesAt μ 4 R) (hW : WeightsAt μ 3 W) : Ex γ 5 1 6 M_X11_loss [.ref 0, .int x] (rm μ) (An (if inB x R.length = true then .inr (.int (nI (wgN W (rAt R x.toNatClampNeg).1 (rAt R x.toNatClampNeg).1.length) - nI (wgN W (rAt R x.toNatClampNeg).2 (rAt R x.toNatClampNeg).2.length))) else .inl "java/lang/IndexOutOfBoundsException") μ) := by
  have h12 := h.len
  refine Ex.of (by decide +kernel) rfl (Nat.le_of_ble_eq_true rfl) ?_
  show T _ _ _ _ _ _ _ _ _ [some (.ref 0), some (.int (x))] [] (rm μ)
  refine T_aload_n (pc := 0) (i := 0) dX11_loss_0 rfl rfl ?_
  refine T_iload_n (pc := 1) (i := 1) dX11_loss_1 rfl rfl ?_
  refine R_chkV (pc := 2) (As := [.int (x)]) (rest := []) (Or.inl lk_X11_135) mk_X11_checkRule (c_checkRule h) kc_0 ⟨by decide, rfl⟩ lc_0 dX11_loss_2 rfl rfl (Nat.le_of_ble_eq_true rfl) (by decide) rfl (by decide) (by decide) (fun z => An_e (by rw [z]; decide)) (fun hB => ?_)
  obtain ⟨k, hk, rfl⟩ := inB_of (by omega) hB
  rw [nI_clamp (n := k) (by omega)]
  refine T_aload_n (pc := 5) (i := 0) dX11_loss_5 rfl rfl ?_
  refine R_getR (pc := 6) (i := 3) fl_X11_19 rfl kc_0 lc_0 rc_0_1 dX11_loss_6 ?_
  refine T_aload_n (pc := 9) (i := 0) dX11_loss_9 rfl rfl ?_
  refine R_getR (pc := 10) (i := 3) fl_X11_19 rfl kc_0 lc_0 rc_0_1 dX11_loss_10 ?_
  refine R_getR (pc := 13) (i := 4) fl_X11_48 rfl (kt_told told3) (lt_told told3) (rt_told_rules told3) dX11_loss_13 ?_
  refine R_getR (pc := 16) (i := 5) fl_X11_144 rfl (kt_rules rules4) (lt_rules rules4) (rt_rules_left rules4) dX11_loss_16 ?_
  refine T_iload_n (pc := 19) (i := 1) dX11_loss_19 rfl rfl ?_
  refine R_lald (pc := 20) (x := lN (cd (rAt R k).1)) (kt_rules_left rules4) (lt_rules_left rules4) (by omega) (by first | decide | assumption) ((h.row k hk).1) dX11_loss_20 ?_
  refine R_callV1 (pc := 21) (As := [.long (lN (cd (rAt R k).1))]) (rest := []) (Or.inl lk_X11_417) mk_X9_weigh (c_Told_weigh told3 hW (h.ok k hk).l) (kt_told told3) ⟨by decide, rfl⟩ (lt_told told3) dX11_loss_21 rfl rfl (Nat.le_of_ble_eq_true rfl) (by decide) rfl (by decide) (by decide) ?_
  refine T_aload_n (pc := 24) (i := 0) dX11_loss_24 rfl rfl ?_
  refine R_getR (pc := 25) (i := 3) fl_X11_19 rfl kc_0 lc_0 rc_0_1 dX11_loss_25 ?_
  refine T_aload_n (pc := 28) (i := 0) dX11_loss_28 rfl rfl ?_
  refine R_getR (pc := 29) (i := 3) fl_X11_19 rfl kc_0 lc_0 rc_0_1 dX11_loss_29 ?_
  refine R_getR (pc := 32) (i := 4) fl_X11_48 rfl (kt_told told3) (lt_told told3) (rt_told_rules told3) dX11_loss_32 ?_
  refine R_getR (pc := 35) (i := 6) fl_X11_138 rfl (kt_rules rules4) (lt_rules rules4) (rt_rules_right rules4) dX11_loss_35 ?_
  refine T_iload_n (pc := 38) (i := 1) dX11_loss_38 rfl rfl ?_
  refine R_lald (pc := 39) (x := lN (cd (rAt R k).2)) (kt_rules_right rules4) (lt_rules_right rules4) (by omega) (by first | decide | assumption) ((h.row k hk).2.1) dX11_loss_39 ?_
  refine R_callV1 (pc := 40) (As := [.long (lN (cd (rAt R k).2))]) (rest := [.int (nI (wgN W (rAt R k).1 (rAt R k).1.length))]) (Or.inl lk_X11_417) mk_X9_weigh (c_Told_weigh told3 hW (h.ok k hk).r) (kt_told told3) ⟨by decide, rfl⟩ (lt_told told3) dX11_loss_40 rfl rfl (Nat.le_of_ble_eq_true rfl) (by decide) rfl (by decide) (by decide) ?_
  refine T_isub (pc := 43) dX11_loss_43 ?_
  exact T_iret (pc := 44) (ty := .int) dX11_loss_44 rfl rfl (by decide) (by decide) (An_v hB)
end A2

