section CT9
variable {γ : Ga}
theorem i_X11 {μ : SMem} (h1 : μ.1 = 1) (h2 : μ.2.1 0 = z0) (h3 : μ.2.2.1 0 = zi) : Ex γ 3 571 26790 M_X11_init [.ref 0] μ (Ci 0 572 μ (fun I => I 0 = zi ∧ I 1 = upr (upr zi 2 (-1)) 6 (-1) ∧ I 3 = upr (upr zi 8 (nI 0)) 11 (nI 1) ∧ I 4 = zi ∧ I 59 = upr zi 0 (-1) ∧ ∀ j, j < 8 → I 12 j = nI 1)) := by
  refine Ex.of (by decide +kernel) rfl (Nat.le_of_ble_eq_true rfl) ?_
  show T _ _ _ _ _ _ _ _ 0 [some (.ref 0), none] [] μ
  have b0 : Bd 0 0 1 z0 z0 zi μ μ := Bd.start h1 h2 h3
  refine T_aload_n (pc := 0) (i := 0) dX11_init_0 rfl rfl ?_
  refine T_objInit (pc := 1) oi_X11_1 (Nat.le_of_ble_eq_true rfl) dX11_init_1 ?_
  refine T_aload_n (pc := 4) (i := 0) dX11_init_4 rfl rfl ?_
  refine T_new (pc := 5) (c := 8) nw_X11_7 (by decide) (by rw [b0.n]; exact (show KT 1 = (0, 8) by decide)) (by rw [b0.n]; show _ < 595; omega) (Nat.le_of_ble_eq_true rfl) (Nat.le_of_ble_eq_true rfl) dX11_init_5 ?_
  rw [b0.n]
  refine T_dup (pc := 8) dX11_init_8 rfl ?_
  refine T_callI (pc := 9) (b := 1) (As := []) (rest := [.ref 1, .ref 0]) (Or.inr lk_X11_9) mk_X8_init rfl (i_X8  (by show μ.1 + 1 = _; rw [b0.n]) (new_rz b0.n) (new_iz b0.n)) dX11_init_9 rfl rfl (Nat.le_of_ble_eq_true rfl) (by decide) rfl (Nat.le_of_ble_eq_true rfl) (Nat.le_of_ble_eq_true rfl) (fun E m' h => by obtain ⟨z, _⟩ := h; cases z) (fun v μ1 h => ?_)
  obtain ⟨h0, c1⟩ := h
  cases h0
  have b1 : Bd 0 0 3 z0 z0 zi μ μ1 := b0.call c1 (by omega)
  have jx_1 : μ1.2.2.1 1 = (upr (upr zi 2 (-1)) 6 (-1)) := c1.2.2.2.2
  show T _ _ _ _ _ _ _ _ 12 [some (.ref 0), none] [.ref 1, .ref 0] μ1
  refine T_putR (pc := 12) (c := 11) (j := 0) fl_X11_10 ⟨rfl, rfl⟩ ⟨rfl, rfl⟩ (fun q => ⟨rfl, rfl⟩) (show KT 0 = (0, 11) by decide) (by rw [b1.n]; omega) dX11_init_12 ?_
  have b2 : Bd 0 0 3 (upr z0 0 (1 + 1)) z0 zi μ (mR μ1 0 0 (1 + 1)) := b1.putR
  have jx_2 : (mR μ1 0 0 (1 + 1)).2.2.1 1 = (upr (upr zi 2 (-1)) 6 (-1)) := jx_1
  generalize mR μ1 0 0 (1 + 1) = μ2 at b2 jx_2 ⊢
  refine T_aload_n (pc := 15) (i := 0) dX11_init_15 rfl rfl ?_
  refine T_new (pc := 16) (c := 9) nw_X11_16 (by decide) (by rw [b2.n]; exact (show KT 3 = (0, 9) by decide)) (by rw [b2.n]; show _ < 595; omega) (Nat.le_of_ble_eq_true rfl) (Nat.le_of_ble_eq_true rfl) dX11_init_16 ?_
  rw [b2.n]
  refine T_dup (pc := 19) dX11_init_19 rfl ?_
  refine T_callI (pc := 20) (b := 3) (As := []) (rest := [.ref 3, .ref 0]) (Or.inl lk_X11_18) mk_X9_init rfl (i_X9 (show isTold 3 by unfold isTold; omega) (by omega) (by show μ2.1 + 1 = _; rw [b2.n]) (new_rz b2.n) (new_iz b2.n)) dX11_init_20 rfl rfl (Nat.le_of_ble_eq_true rfl) (by decide) rfl (Nat.le_of_ble_eq_true rfl) (Nat.le_of_ble_eq_true rfl) (fun E m' h => by obtain ⟨z, _⟩ := h; cases z) (fun v μ3 h => ?_)
  obtain ⟨h0, c3⟩ := h
  cases h0
  have b3 : Bd 0 0 31 (upr z0 0 (1 + 1)) z0 zi μ μ3 := b2.call c3 (by omega)
  have jx_3 : μ3.2.2.1 1 = (upr (upr zi 2 (-1)) 6 (-1)) := (c3.lo b2.n (by omega)).trans jx_2
  obtain ⟨w12, e12, w12p⟩ : ∃ w, μ3.2.2.1 12 = w ∧ ∀ j, j < 8 → w j = nI 1 := ⟨_, rfl, c3.2.2.2.2.2.2⟩
  have jm_3 : μ3.2.2.1 3 = (upr (upr zi 8 (nI 0)) 11 (nI 1)) := c3.2.2.2.2.1
  have jn_3 : μ3.2.2.1 4 = zi := c3.2.2.2.2.2.1
  have jo_3 : μ3.2.2.1 12 = w12 := e12
  show T _ _ _ _ _ _ _ _ 23 [some (.ref 0), none] [.ref 3, .ref 0] μ3
  refine T_putR (pc := 23) (c := 11) (j := 1) fl_X11_19 ⟨rfl, rfl⟩ ⟨rfl, rfl⟩ (fun q => ⟨rfl, rfl⟩) (show KT 0 = (0, 11) by decide) (by rw [b3.n]; omega) dX11_init_23 ?_
  have b4 : Bd 0 0 31 (upr (upr z0 0 (1 + 1)) 1 (3 + 1)) z0 zi μ (mR μ3 0 1 (3 + 1)) := b3.putR
  have jx_4 : (mR μ3 0 1 (3 + 1)).2.2.1 1 = (upr (upr zi 2 (-1)) 6 (-1)) := jx_3
  have jm_4 : (mR μ3 0 1 (3 + 1)).2.2.1 3 = (upr (upr zi 8 (nI 0)) 11 (nI 1)) := jm_3
  have jn_4 : (mR μ3 0 1 (3 + 1)).2.2.1 4 = zi := jn_3
  have jo_4 : (mR μ3 0 1 (3 + 1)).2.2.1 12 = w12 := jo_3
  generalize mR μ3 0 1 (3 + 1) = μ4 at b4 jx_4 jm_4 jn_4 jo_4 ⊢
  refine T_aload_n (pc := 26) (i := 0) dX11_init_26 rfl rfl ?_
  refine T_new (pc := 27) (c := 9) nw_X11_16 (by decide) (by rw [b4.n]; exact (show KT 31 = (0, 9) by decide)) (by rw [b4.n]; show _ < 595; omega) (Nat.le_of_ble_eq_true rfl) (Nat.le_of_ble_eq_true rfl) dX11_init_27 ?_
  rw [b4.n]
  refine T_dup (pc := 30) dX11_init_30 rfl ?_
  refine T_callI (pc := 31) (b := 31) (As := []) (rest := [.ref 31, .ref 0]) (Or.inl lk_X11_18) mk_X9_init rfl (i_X9 (show isTold 31 by unfold isTold; omega) (by omega) (by show μ4.1 + 1 = _; rw [b4.n]) (new_rz b4.n) (new_iz b4.n)) dX11_init_31 rfl rfl (Nat.le_of_ble_eq_true rfl) (by decide) rfl (Nat.le_of_ble_eq_true rfl) (Nat.le_of_ble_eq_true rfl) (fun E m' h => by obtain ⟨z, _⟩ := h; cases z) (fun v μ5 h => ?_)
  obtain ⟨h0, c5⟩ := h
  cases h0
  have b5 : Bd 0 0 59 (upr (upr z0 0 (1 + 1)) 1 (3 + 1)) z0 zi μ μ5 := b4.call c5 (by omega)
  have jx_5 : μ5.2.2.1 1 = (upr (upr zi 2 (-1)) 6 (-1)) := (c5.lo b4.n (by omega)).trans jx_4
  have jm_5 : μ5.2.2.1 3 = (upr (upr zi 8 (nI 0)) 11 (nI 1)) := (c5.lo b4.n (by omega)).trans jm_4
  have jn_5 : μ5.2.2.1 4 = zi := (c5.lo b4.n (by omega)).trans jn_4
  have jo_5 : μ5.2.2.1 12 = w12 := (c5.lo b4.n (by omega)).trans jo_4
  show T _ _ _ _ _ _ _ _ 34 [some (.ref 0), none] [.ref 31, .ref 0] μ5
  refine T_putR (pc := 34) (c := 11) (j := 2) fl_X11_23 ⟨rfl, rfl⟩ ⟨rfl, rfl⟩ (fun q => ⟨rfl, rfl⟩) (show KT 0 = (0, 11) by decide) (by rw [b5.n]; omega) dX11_init_34 ?_
  have b6 : Bd 0 0 59 (upr (upr (upr z0 0 (1 + 1)) 1 (3 + 1)) 2 (31 + 1)) z0 zi μ (mR μ5 0 2 (31 + 1)) := b5.putR
  have jx_6 : (mR μ5 0 2 (31 + 1)).2.2.1 1 = (upr (upr zi 2 (-1)) 6 (-1)) := jx_5
  have jm_6 : (mR μ5 0 2 (31 + 1)).2.2.1 3 = (upr (upr zi 8 (nI 0)) 11 (nI 1)) := jm_5
  have jn_6 : (mR μ5 0 2 (31 + 1)).2.2.1 4 = zi := jn_5
  have jo_6 : (mR μ5 0 2 (31 + 1)).2.2.1 12 = w12 := jo_5
  generalize mR μ5 0 2 (31 + 1) = μ6 at b6 jx_6 jm_6 jn_6 jo_6 ⊢
  refine T_aload_n (pc := 37) (i := 0) dX11_init_37 rfl rfl ?_
  refine T_new (pc := 38) (c := 5) nw_X11_26 (by decide) (by rw [b6.n]; exact (show KT 59 = (0, 5) by decide)) (by rw [b6.n]; show _ < 595; omega) (Nat.le_of_ble_eq_true rfl) (Nat.le_of_ble_eq_true rfl) dX11_init_38 ?_
  rw [b6.n]
  refine T_dup (pc := 41) dX11_init_41 rfl ?_
  refine T_callI (pc := 42) (b := 59) (As := []) (rest := [.ref 59, .ref 0]) (Or.inr lk_X11_28) mk_X5_init rfl (i_X5 (show isLaw 59 by unfold isLaw; omega) (by omega) (by show μ6.1 + 1 = _; rw [b6.n]) (new_rz b6.n) (new_iz b6.n)) dX11_init_42 rfl rfl (Nat.le_of_ble_eq_true rfl) (by decide) rfl (Nat.le_of_ble_eq_true rfl) (Nat.le_of_ble_eq_true rfl) (fun E m' h => by obtain ⟨z, _⟩ := h; cases z) (fun v μ7 h => ?_)
  obtain ⟨h0, c7⟩ := h
  cases h0
  have b7 : Bd 0 0 62 (upr (upr (upr z0 0 (1 + 1)) 1 (3 + 1)) 2 (31 + 1)) z0 zi μ μ7 := b6.call c7 (by omega)
  have jx_7 : μ7.2.2.1 1 = (upr (upr zi 2 (-1)) 6 (-1)) := (c7.lo b6.n (by omega)).trans jx_6
  have jm_7 : μ7.2.2.1 3 = (upr (upr zi 8 (nI 0)) 11 (nI 1)) := (c7.lo b6.n (by omega)).trans jm_6
  have jn_7 : μ7.2.2.1 4 = zi := (c7.lo b6.n (by omega)).trans jn_6
  have jo_7 : μ7.2.2.1 12 = w12 := (c7.lo b6.n (by omega)).trans jo_6
  have jl_7 : μ7.2.2.1 59 = (upr zi 0 (-1)) := c7.2.2.2.2
  show T _ _ _ _ _ _ _ _ 45 [some (.ref 0), none] [.ref 59, .ref 0] μ7
  refine T_putR (pc := 45) (c := 11) (j := 3) fl_X11_29 ⟨rfl, rfl⟩ ⟨rfl, rfl⟩ (fun q => ⟨rfl, rfl⟩) (show KT 0 = (0, 11) by decide) (by rw [b7.n]; omega) dX11_init_45 ?_
  have b8 : Bd 0 0 62 (upr (upr (upr (upr z0 0 (1 + 1)) 1 (3 + 1)) 2 (31 + 1)) 3 (59 + 1)) z0 zi μ (mR μ7 0 3 (59 + 1)) := b7.putR
  have jx_8 : (mR μ7 0 3 (59 + 1)).2.2.1 1 = (upr (upr zi 2 (-1)) 6 (-1)) := jx_7
  have jm_8 : (mR μ7 0 3 (59 + 1)).2.2.1 3 = (upr (upr zi 8 (nI 0)) 11 (nI 1)) := jm_7
  have jn_8 : (mR μ7 0 3 (59 + 1)).2.2.1 4 = zi := jn_7
  have jo_8 : (mR μ7 0 3 (59 + 1)).2.2.1 12 = w12 := jo_7
  have jl_8 : (mR μ7 0 3 (59 + 1)).2.2.1 59 = (upr zi 0 (-1)) := jl_7
  generalize mR μ7 0 3 (59 + 1) = μ8 at b8 jx_8 jm_8 jn_8 jo_8 jl_8 ⊢
  refine T_aload_n (pc := 48) (i := 0) dX11_init_48 rfl rfl ?_
  refine T_new (pc := 49) (c := 5) nw_X11_26 (by decide) (by rw [b8.n]; exact (show KT 62 = (0, 5) by decide)) (by rw [b8.n]; show _ < 595; omega) (Nat.le_of_ble_eq_true rfl) (Nat.le_of_ble_eq_true rfl) dX11_init_49 ?_
  rw [b8.n]
  refine T_dup (pc := 52) dX11_init_52 rfl ?_
  refine T_callI (pc := 53) (b := 62) (As := []) (rest := [.ref 62, .ref 0]) (Or.inr lk_X11_28) mk_X5_init rfl (i_X5 (show isLaw 62 by unfold isLaw; omega) (by omega) (by show μ8.1 + 1 = _; rw [b8.n]) (new_rz b8.n) (new_iz b8.n)) dX11_init_53 rfl rfl (Nat.le_of_ble_eq_true rfl) (by decide) rfl (Nat.le_of_ble_eq_true rfl) (Nat.le_of_ble_eq_true rfl) (fun E m' h => by obtain ⟨z, _⟩ := h; cases z) (fun v μ9 h => ?_)
  obtain ⟨h0, c9⟩ := h
  cases h0
  have b9 : Bd 0 0 65 (upr (upr (upr (upr z0 0 (1 + 1)) 1 (3 + 1)) 2 (31 + 1)) 3 (59 + 1)) z0 zi μ μ9 := b8.call c9 (by omega)
  have jx_9 : μ9.2.2.1 1 = (upr (upr zi 2 (-1)) 6 (-1)) := (c9.lo b8.n (by omega)).trans jx_8
  have jm_9 : μ9.2.2.1 3 = (upr (upr zi 8 (nI 0)) 11 (nI 1)) := (c9.lo b8.n (by omega)).trans jm_8
  have jn_9 : μ9.2.2.1 4 = zi := (c9.lo b8.n (by omega)).trans jn_8
  have jo_9 : μ9.2.2.1 12 = w12 := (c9.lo b8.n (by omega)).trans jo_8
  have jl_9 : μ9.2.2.1 59 = (upr zi 0 (-1)) := (c9.lo b8.n (by omega)).trans jl_8
  show T _ _ _ _ _ _ _ _ 56 [some (.ref 0), none] [.ref 62, .ref 0] μ9
  refine T_putR (pc := 56) (c := 11) (j := 4) fl_X11_33 ⟨rfl, rfl⟩ ⟨rfl, rfl⟩ (fun q => ⟨rfl, rfl⟩) (show KT 0 = (0, 11) by decide) (by rw [b9.n]; omega) dX11_init_56 ?_
  have b10 : Bd 0 0 65 (upr (upr (upr (upr (upr z0 0 (1 + 1)) 1 (3 + 1)) 2 (31 + 1)) 3 (59 + 1)) 4 (62 + 1)) z0 zi μ (mR μ9 0 4 (62 + 1)) := b9.putR
  have jx_10 : (mR μ9 0 4 (62 + 1)).2.2.1 1 = (upr (upr zi 2 (-1)) 6 (-1)) := jx_9
  have jm_10 : (mR μ9 0 4 (62 + 1)).2.2.1 3 = (upr (upr zi 8 (nI 0)) 11 (nI 1)) := jm_9
  have jn_10 : (mR μ9 0 4 (62 + 1)).2.2.1 4 = zi := jn_9
  have jo_10 : (mR μ9 0 4 (62 + 1)).2.2.1 12 = w12 := jo_9
  have jl_10 : (mR μ9 0 4 (62 + 1)).2.2.1 59 = (upr zi 0 (-1)) := jl_9
  generalize mR μ9 0 4 (62 + 1) = μ10 at b10 jx_10 jm_10 jn_10 jo_10 jl_10 ⊢
  refine T_aload_n (pc := 59) (i := 0) dX11_init_59 rfl rfl ?_
  refine T_new (pc := 60) (c := 9) nw_X11_16 (by decide) (by rw [b10.n]; exact (show KT 65 = (0, 9) by decide)) (by rw [b10.n]; show _ < 595; omega) (Nat.le_of_ble_eq_true rfl) (Nat.le_of_ble_eq_true rfl) dX11_init_60 ?_
  rw [b10.n]
  refine T_dup (pc := 63) dX11_init_63 rfl ?_
  refine T_callI (pc := 64) (b := 65) (As := []) (rest := [.ref 65, .ref 0]) (Or.inl lk_X11_18) mk_X9_init rfl (i_X9 (show isTold 65 by unfold isTold; omega) (by omega) (by show μ10.1 + 1 = _; rw [b10.n]) (new_rz b10.n) (new_iz b10.n)) dX11_init_64 rfl rfl (Nat.le_of_ble_eq_true rfl) (by decide) rfl (Nat.le_of_ble_eq_true rfl) (Nat.le_of_ble_eq_true rfl) (fun E m' h => by obtain ⟨z, _⟩ := h; cases z) (fun v μ11 h => ?_)
  obtain ⟨h0, c11⟩ := h
  cases h0
  have b11 : Bd 0 0 93 (upr (upr (upr (upr (upr z0 0 (1 + 1)) 1 (3 + 1)) 2 (31 + 1)) 3 (59 + 1)) 4 (62 + 1)) z0 zi μ μ11 := b10.call c11 (by omega)
  have jx_11 : μ11.2.2.1 1 = (upr (upr zi 2 (-1)) 6 (-1)) := (c11.lo b10.n (by omega)).trans jx_10
  have jm_11 : μ11.2.2.1 3 = (upr (upr zi 8 (nI 0)) 11 (nI 1)) := (c11.lo b10.n (by omega)).trans jm_10
  have jn_11 : μ11.2.2.1 4 = zi := (c11.lo b10.n (by omega)).trans jn_10
  have jo_11 : μ11.2.2.1 12 = w12 := (c11.lo b10.n (by omega)).trans jo_10
  have jl_11 : μ11.2.2.1 59 = (upr zi 0 (-1)) := (c11.lo b10.n (by omega)).trans jl_10
  show T _ _ _ _ _ _ _ _ 67 [some (.ref 0), none] [.ref 65, .ref 0] μ11
  refine T_putR (pc := 67) (c := 11) (j := 5) fl_X11_36 ⟨rfl, rfl⟩ ⟨rfl, rfl⟩ (fun q => ⟨rfl, rfl⟩) (show KT 0 = (0, 11) by decide) (by rw [b11.n]; omega) dX11_init_67 ?_
  have b12 : Bd 0 0 93 (upr (upr (upr (upr (upr (upr z0 0 (1 + 1)) 1 (3 + 1)) 2 (31 + 1)) 3 (59 + 1)) 4 (62 + 1)) 5 (65 + 1)) z0 zi μ (mR μ11 0 5 (65 + 1)) := b11.putR
  have jx_12 : (mR μ11 0 5 (65 + 1)).2.2.1 1 = (upr (upr zi 2 (-1)) 6 (-1)) := jx_11
  have jm_12 : (mR μ11 0 5 (65 + 1)).2.2.1 3 = (upr (upr zi 8 (nI 0)) 11 (nI 1)) := jm_11
  have jn_12 : (mR μ11 0 5 (65 + 1)).2.2.1 4 = zi := jn_11
  have jo_12 : (mR μ11 0 5 (65 + 1)).2.2.1 12 = w12 := jo_11
  have jl_12 : (mR μ11 0 5 (65 + 1)).2.2.1 59 = (upr zi 0 (-1)) := jl_11
  generalize mR μ11 0 5 (65 + 1) = μ12 at b12 jx_12 jm_12 jn_12 jo_12 jl_12 ⊢
  refine T_aload_n (pc := 70) (i := 0) dX11_init_70 rfl rfl ?_
  refine T_new (pc := 71) (c := 5) nw_X11_26 (by decide) (by rw [b12.n]; exact (show KT 93 = (0, 5) by decide)) (by rw [b12.n]; show _ < 595; omega) (Nat.le_of_ble_eq_true rfl) (Nat.le_of_ble_eq_true rfl) dX11_init_71 ?_
  rw [b12.n]
  refine T_dup (pc := 74) dX11_init_74 rfl ?_
  refine T_callI (pc := 75) (b := 93) (As := []) (rest := [.ref 93, .ref 0]) (Or.inr lk_X11_28) mk_X5_init rfl (i_X5 (show isLaw 93 by unfold isLaw; omega) (by omega) (by show μ12.1 + 1 = _; rw [b12.n]) (new_rz b12.n) (new_iz b12.n)) dX11_init_75 rfl rfl (Nat.le_of_ble_eq_true rfl) (by decide) rfl (Nat.le_of_ble_eq_true rfl) (Nat.le_of_ble_eq_true rfl) (fun E m' h => by obtain ⟨z, _⟩ := h; cases z) (fun v μ13 h => ?_)
  obtain ⟨h0, c13⟩ := h
  cases h0
  have b13 : Bd 0 0 96 (upr (upr (upr (upr (upr (upr z0 0 (1 + 1)) 1 (3 + 1)) 2 (31 + 1)) 3 (59 + 1)) 4 (62 + 1)) 5 (65 + 1)) z0 zi μ μ13 := b12.call c13 (by omega)
  have jx_13 : μ13.2.2.1 1 = (upr (upr zi 2 (-1)) 6 (-1)) := (c13.lo b12.n (by omega)).trans jx_12
  have jm_13 : μ13.2.2.1 3 = (upr (upr zi 8 (nI 0)) 11 (nI 1)) := (c13.lo b12.n (by omega)).trans jm_12
  have jn_13 : μ13.2.2.1 4 = zi := (c13.lo b12.n (by omega)).trans jn_12
  have jo_13 : μ13.2.2.1 12 = w12 := (c13.lo b12.n (by omega)).trans jo_12
  have jl_13 : μ13.2.2.1 59 = (upr zi 0 (-1)) := (c13.lo b12.n (by omega)).trans jl_12
  show T _ _ _ _ _ _ _ _ 78 [some (.ref 0), none] [.ref 93, .ref 0] μ13
  refine T_putR (pc := 78) (c := 11) (j := 6) fl_X11_39 ⟨rfl, rfl⟩ ⟨rfl, rfl⟩ (fun q => ⟨rfl, rfl⟩) (show KT 0 = (0, 11) by decide) (by rw [b13.n]; omega) dX11_init_78 ?_
  have b14 : Bd 0 0 96 (upr (upr (upr (upr (upr (upr (upr z0 0 (1 + 1)) 1 (3 + 1)) 2 (31 + 1)) 3 (59 + 1)) 4 (62 + 1)) 5 (65 + 1)) 6 (93 + 1)) z0 zi μ (mR μ13 0 6 (93 + 1)) := b13.putR
  have jx_14 : (mR μ13 0 6 (93 + 1)).2.2.1 1 = (upr (upr zi 2 (-1)) 6 (-1)) := jx_13
  have jm_14 : (mR μ13 0 6 (93 + 1)).2.2.1 3 = (upr (upr zi 8 (nI 0)) 11 (nI 1)) := jm_13
  have jn_14 : (mR μ13 0 6 (93 + 1)).2.2.1 4 = zi := jn_13
  have jo_14 : (mR μ13 0 6 (93 + 1)).2.2.1 12 = w12 := jo_13
  have jl_14 : (mR μ13 0 6 (93 + 1)).2.2.1 59 = (upr zi 0 (-1)) := jl_13
  generalize mR μ13 0 6 (93 + 1) = μ14 at b14 jx_14 jm_14 jn_14 jo_14 jl_14 ⊢
  refine T_aload_n (pc := 81) (i := 0) dX11_init_81 rfl rfl ?_
  refine T_bipush (pc := 82) (v := nI 16) dX11_init_82 (by decide) ?_
  refine T_anew (pc := 84) (c := 9) (t := 5) (N := 16) cl_X11_16 (Or.inr ⟨rfl, rfl⟩) (nI_pos (by omega)) (nI_clamp (by omega)) (by decide) (by rw [b14.n]; exact (show KT 96 = (5, 16) by decide)) (by rw [b14.n]; show _ < 595; omega) (Nat.le_of_ble_eq_true rfl) (Nat.le_of_ble_eq_true rfl) dX11_init_84 ?_
  rw [b14.n]
  have b15 : Bd 0 96 97 (upr (upr (upr (upr (upr (upr (upr z0 0 (1 + 1)) 1 (3 + 1)) 2 (31 + 1)) 3 (59 + 1)) 4 (62 + 1)) 5 (65 + 1)) 6 (93 + 1)) z0 zi μ (mNew μ14) := b14.newr
  have jx_15 : (mNew μ14).2.2.1 1 = (upr (upr zi 2 (-1)) 6 (-1)) := (new_i (by rw [b14.n]; omega)).trans jx_14
  have jm_15 : (mNew μ14).2.2.1 3 = (upr (upr zi 8 (nI 0)) 11 (nI 1)) := (new_i (by rw [b14.n]; omega)).trans jm_14
  have jn_15 : (mNew μ14).2.2.1 4 = zi := (new_i (by rw [b14.n]; omega)).trans jn_14
  have jo_15 : (mNew μ14).2.2.1 12 = w12 := (new_i (by rw [b14.n]; omega)).trans jo_14
  have jl_15 : (mNew μ14).2.2.1 59 = (upr zi 0 (-1)) := (new_i (by rw [b14.n]; omega)).trans jl_14
  generalize mNew μ14 = μ15 at b15 jx_15 jm_15 jn_15 jo_15 jl_15 ⊢
  refine T_putR (pc := 87) (c := 11) (j := 8) fl_X11_42 ⟨rfl, rfl⟩ ⟨rfl, rfl⟩ (fun q => ⟨rfl, rfl⟩) (show KT 0 = (0, 11) by decide) (by rw [b15.n]; omega) dX11_init_87 ?_
  have b16 : Bd 0 96 97 (upr (upr (upr (upr (upr (upr (upr (upr z0 0 (1 + 1)) 1 (3 + 1)) 2 (31 + 1)) 3 (59 + 1)) 4 (62 + 1)) 5 (65 + 1)) 6 (93 + 1)) 8 (96 + 1)) z0 zi μ (mR μ15 0 8 (96 + 1)) := b15.putR
  have jx_16 : (mR μ15 0 8 (96 + 1)).2.2.1 1 = (upr (upr zi 2 (-1)) 6 (-1)) := jx_15
  have jm_16 : (mR μ15 0 8 (96 + 1)).2.2.1 3 = (upr (upr zi 8 (nI 0)) 11 (nI 1)) := jm_15
  have jn_16 : (mR μ15 0 8 (96 + 1)).2.2.1 4 = zi := jn_15
  have jo_16 : (mR μ15 0 8 (96 + 1)).2.2.1 12 = w12 := jo_15
  have jl_16 : (mR μ15 0 8 (96 + 1)).2.2.1 59 = (upr zi 0 (-1)) := jl_15
  generalize mR μ15 0 8 (96 + 1) = μ16 at b16 jx_16 jm_16 jn_16 jo_16 jl_16 ⊢
  refine T_aload_n (pc := 90) (i := 0) dX11_init_90 rfl rfl ?_
  refine T_new (pc := 91) (c := 10) nw_X11_46 (by decide) (by rw [b16.n]; exact (show KT 97 = (0, 10) by decide)) (by rw [b16.n]; show _ < 595; omega) (Nat.le_of_ble_eq_true rfl) (Nat.le_of_ble_eq_true rfl) dX11_init_91 ?_
  rw [b16.n]
  refine T_dup (pc := 94) dX11_init_94 rfl ?_
  refine T_aload_n (pc := 95) (i := 0) dX11_init_95 rfl rfl ?_
  refine T_getR (pc := 96) (c := 11) (j := 1) (i := 3) fl_X11_19 rfl (show KT 0 = (0, 11) by decide) (by show _ < μ16.1 + 1; rw [b16.n]; omega) (by rw [new_r (by rw [b16.n]; omega)]; rw [b16.r]; rfl) dX11_init_96 ?_
  refine T_getR (pc := 99) (c := 9) (j := 0) (i := 4) fl_X11_48 rfl (show KT 3 = (0, 9) by decide) (by show _ < μ16.1 + 1; rw [b16.n]; omega) (by rw [new_r (by rw [b16.n]; omega)]; rw [b16.2.2.2.1 3 (by omega) (by omega) (by omega)]; rfl) dX11_init_99 ?_
  refine T_aload_n (pc := 102) (i := 0) dX11_init_102 rfl rfl ?_
  refine T_getR (pc := 103) (c := 11) (j := 3) (i := 59) fl_X11_29 rfl (show KT 0 = (0, 11) by decide) (by show _ < μ16.1 + 1; rw [b16.n]; omega) (by rw [new_r (by rw [b16.n]; omega)]; rw [b16.r]; rfl) dX11_init_103 ?_
  refine T_callI (pc := 106) (b := 97) (As := [.ref 4, .ref 59]) (rest := [.ref 97, .ref 0]) (Or.inl lk_X11_52) mk_X10_init rfl (i_X10  (by show μ16.1 + 1 = _; rw [b16.n]) (new_rz b16.n) (new_iz b16.n)) dX11_init_106 rfl rfl (Nat.le_of_ble_eq_true rfl) (by decide) rfl (Nat.le_of_ble_eq_true rfl) (Nat.le_of_ble_eq_true rfl) (fun E m' h => by obtain ⟨z, _⟩ := h; cases z) (fun v μ17 h => ?_)
  obtain ⟨h0, c17⟩ := h
  cases h0
  have b17 : Bd 0 96 105 (upr (upr (upr (upr (upr (upr (upr (upr z0 0 (1 + 1)) 1 (3 + 1)) 2 (31 + 1)) 3 (59 + 1)) 4 (62 + 1)) 5 (65 + 1)) 6 (93 + 1)) 8 (96 + 1)) z0 zi μ μ17 := b16.call c17 (by omega)
  have jx_17 : μ17.2.2.1 1 = (upr (upr zi 2 (-1)) 6 (-1)) := (c17.lo b16.n (by omega)).trans jx_16
  have jm_17 : μ17.2.2.1 3 = (upr (upr zi 8 (nI 0)) 11 (nI 1)) := (c17.lo b16.n (by omega)).trans jm_16
  have jn_17 : μ17.2.2.1 4 = zi := (c17.lo b16.n (by omega)).trans jn_16
  have jo_17 : μ17.2.2.1 12 = w12 := (c17.lo b16.n (by omega)).trans jo_16
  have jl_17 : μ17.2.2.1 59 = (upr zi 0 (-1)) := (c17.lo b16.n (by omega)).trans jl_16
  show T _ _ _ _ _ _ _ _ 109 [some (.ref 0), none] [.ref 97, .ref 0] μ17
  refine T_putR (pc := 109) (c := 11) (j := 11) fl_X11_55 ⟨rfl, rfl⟩ ⟨rfl, rfl⟩ (fun q => ⟨rfl, rfl⟩) (show KT 0 = (0, 11) by decide) (by rw [b17.n]; omega) dX11_init_109 ?_
  have b18 : Bd 0 96 105 (upr (upr (upr (upr (upr (upr (upr (upr (upr z0 0 (1 + 1)) 1 (3 + 1)) 2 (31 + 1)) 3 (59 + 1)) 4 (62 + 1)) 5 (65 + 1)) 6 (93 + 1)) 8 (96 + 1)) 11 (97 + 1)) z0 zi μ (mR μ17 0 11 (97 + 1)) := b17.putR
  have jx_18 : (mR μ17 0 11 (97 + 1)).2.2.1 1 = (upr (upr zi 2 (-1)) 6 (-1)) := jx_17
  have jm_18 : (mR μ17 0 11 (97 + 1)).2.2.1 3 = (upr (upr zi 8 (nI 0)) 11 (nI 1)) := jm_17
  have jn_18 : (mR μ17 0 11 (97 + 1)).2.2.1 4 = zi := jn_17
  have jo_18 : (mR μ17 0 11 (97 + 1)).2.2.1 12 = w12 := jo_17
  have jl_18 : (mR μ17 0 11 (97 + 1)).2.2.1 59 = (upr zi 0 (-1)) := jl_17
  generalize mR μ17 0 11 (97 + 1) = μ18 at b18 jx_18 jm_18 jn_18 jo_18 jl_18 ⊢
  refine T_aload_n (pc := 112) (i := 0) dX11_init_112 rfl rfl ?_
  refine T_new (pc := 113) (c := 4) nw_X11_59 (by decide) (by rw [b18.n]; exact (show KT 105 = (0, 4) by decide)) (by rw [b18.n]; show _ < 595; omega) (Nat.le_of_ble_eq_true rfl) (Nat.le_of_ble_eq_true rfl) dX11_init_113 ?_
  rw [b18.n]
  refine T_dup (pc := 116) dX11_init_116 rfl ?_
  refine T_callI (pc := 117) (b := 105) (As := []) (rest := [.ref 105, .ref 0]) (Or.inr lk_X11_61) mk_X4_init rfl (i_X4 (show isHerd 105 by unfold isHerd; omega) (by omega) (by show μ18.1 + 1 = _; rw [b18.n]) (new_rz b18.n) (new_iz b18.n)) dX11_init_117 rfl rfl (Nat.le_of_ble_eq_true rfl) (by decide) rfl (Nat.le_of_ble_eq_true rfl) (Nat.le_of_ble_eq_true rfl) (fun E m' h => by obtain ⟨z, _⟩ := h; cases z) (fun v μ19 h => ?_)
  obtain ⟨h0, c19⟩ := h
  cases h0
  have b19 : Bd 0 96 109 (upr (upr (upr (upr (upr (upr (upr (upr (upr z0 0 (1 + 1)) 1 (3 + 1)) 2 (31 + 1)) 3 (59 + 1)) 4 (62 + 1)) 5 (65 + 1)) 6 (93 + 1)) 8 (96 + 1)) 11 (97 + 1)) z0 zi μ μ19 := b18.call c19 (by omega)
  have jx_19 : μ19.2.2.1 1 = (upr (upr zi 2 (-1)) 6 (-1)) := (c19.lo b18.n (by omega)).trans jx_18
  have jm_19 : μ19.2.2.1 3 = (upr (upr zi 8 (nI 0)) 11 (nI 1)) := (c19.lo b18.n (by omega)).trans jm_18
  have jn_19 : μ19.2.2.1 4 = zi := (c19.lo b18.n (by omega)).trans jn_18
  have jo_19 : μ19.2.2.1 12 = w12 := (c19.lo b18.n (by omega)).trans jo_18
  have jl_19 : μ19.2.2.1 59 = (upr zi 0 (-1)) := (c19.lo b18.n (by omega)).trans jl_18
  show T _ _ _ _ _ _ _ _ 120 [some (.ref 0), none] [.ref 105, .ref 0] μ19
  refine T_putR (pc := 120) (c := 11) (j := 12) fl_X11_62 ⟨rfl, rfl⟩ ⟨rfl, rfl⟩ (fun q => ⟨rfl, rfl⟩) (show KT 0 = (0, 11) by decide) (by rw [b19.n]; omega) dX11_init_120 ?_
  have b20 : Bd 0 96 109 (upr (upr (upr (upr (upr (upr (upr (upr (upr (upr z0 0 (1 + 1)) 1 (3 + 1)) 2 (31 + 1)) 3 (59 + 1)) 4 (62 + 1)) 5 (65 + 1)) 6 (93 + 1)) 8 (96 + 1)) 11 (97 + 1)) 12 (105 + 1)) z0 zi μ (mR μ19 0 12 (105 + 1)) := b19.putR
  have jx_20 : (mR μ19 0 12 (105 + 1)).2.2.1 1 = (upr (upr zi 2 (-1)) 6 (-1)) := jx_19
  have jm_20 : (mR μ19 0 12 (105 + 1)).2.2.1 3 = (upr (upr zi 8 (nI 0)) 11 (nI 1)) := jm_19
  have jn_20 : (mR μ19 0 12 (105 + 1)).2.2.1 4 = zi := jn_19
  have jo_20 : (mR μ19 0 12 (105 + 1)).2.2.1 12 = w12 := jo_19
  have jl_20 : (mR μ19 0 12 (105 + 1)).2.2.1 59 = (upr zi 0 (-1)) := jl_19
  generalize mR μ19 0 12 (105 + 1) = μ20 at b20 jx_20 jm_20 jn_20 jo_20 jl_20 ⊢
  refine T_aload_n (pc := 123) (i := 0) dX11_init_123 rfl rfl ?_
  refine T_new (pc := 124) (c := 4) nw_X11_59 (by decide) (by rw [b20.n]; exact (show KT 109 = (0, 4) by decide)) (by rw [b20.n]; show _ < 595; omega) (Nat.le_of_ble_eq_true rfl) (Nat.le_of_ble_eq_true rfl) dX11_init_124 ?_
  rw [b20.n]
  refine T_dup (pc := 127) dX11_init_127 rfl ?_
  refine T_callI (pc := 128) (b := 109) (As := []) (rest := [.ref 109, .ref 0]) (Or.inr lk_X11_61) mk_X4_init rfl (i_X4 (show isHerd 109 by unfold isHerd; omega) (by omega) (by show μ20.1 + 1 = _; rw [b20.n]) (new_rz b20.n) (new_iz b20.n)) dX11_init_128 rfl rfl (Nat.le_of_ble_eq_true rfl) (by decide) rfl (Nat.le_of_ble_eq_true rfl) (Nat.le_of_ble_eq_true rfl) (fun E m' h => by obtain ⟨z, _⟩ := h; cases z) (fun v μ21 h => ?_)
  obtain ⟨h0, c21⟩ := h
  cases h0
  have b21 : Bd 0 96 113 (upr (upr (upr (upr (upr (upr (upr (upr (upr (upr z0 0 (1 + 1)) 1 (3 + 1)) 2 (31 + 1)) 3 (59 + 1)) 4 (62 + 1)) 5 (65 + 1)) 6 (93 + 1)) 8 (96 + 1)) 11 (97 + 1)) 12 (105 + 1)) z0 zi μ μ21 := b20.call c21 (by omega)
  have jx_21 : μ21.2.2.1 1 = (upr (upr zi 2 (-1)) 6 (-1)) := (c21.lo b20.n (by omega)).trans jx_20
  have jm_21 : μ21.2.2.1 3 = (upr (upr zi 8 (nI 0)) 11 (nI 1)) := (c21.lo b20.n (by omega)).trans jm_20
  have jn_21 : μ21.2.2.1 4 = zi := (c21.lo b20.n (by omega)).trans jn_20
  have jo_21 : μ21.2.2.1 12 = w12 := (c21.lo b20.n (by omega)).trans jo_20
  have jl_21 : μ21.2.2.1 59 = (upr zi 0 (-1)) := (c21.lo b20.n (by omega)).trans jl_20
  show T _ _ _ _ _ _ _ _ 131 [some (.ref 0), none] [.ref 109, .ref 0] μ21
  refine T_putR (pc := 131) (c := 11) (j := 13) fl_X11_66 ⟨rfl, rfl⟩ ⟨rfl, rfl⟩ (fun q => ⟨rfl, rfl⟩) (show KT 0 = (0, 11) by decide) (by rw [b21.n]; omega) dX11_init_131 ?_
  have b22 : Bd 0 96 113 (upr (upr (upr (upr (upr (upr (upr (upr (upr (upr (upr z0 0 (1 + 1)) 1 (3 + 1)) 2 (31 + 1)) 3 (59 + 1)) 4 (62 + 1)) 5 (65 + 1)) 6 (93 + 1)) 8 (96 + 1)) 11 (97 + 1)) 12 (105 + 1)) 13 (109 + 1)) z0 zi μ (mR μ21 0 13 (109 + 1)) := b21.putR
  have jx_22 : (mR μ21 0 13 (109 + 1)).2.2.1 1 = (upr (upr zi 2 (-1)) 6 (-1)) := jx_21
  have jm_22 : (mR μ21 0 13 (109 + 1)).2.2.1 3 = (upr (upr zi 8 (nI 0)) 11 (nI 1)) := jm_21
  have jn_22 : (mR μ21 0 13 (109 + 1)).2.2.1 4 = zi := jn_21
  have jo_22 : (mR μ21 0 13 (109 + 1)).2.2.1 12 = w12 := jo_21
  have jl_22 : (mR μ21 0 13 (109 + 1)).2.2.1 59 = (upr zi 0 (-1)) := jl_21
  generalize mR μ21 0 13 (109 + 1) = μ22 at b22 jx_22 jm_22 jn_22 jo_22 jl_22 ⊢
  refine T_aload_n (pc := 134) (i := 0) dX11_init_134 rfl rfl ?_
  refine T_new (pc := 135) (c := 2) nw_X11_69 (by decide) (by rw [b22.n]; exact (show KT 113 = (0, 2) by decide)) (by rw [b22.n]; show _ < 595; omega) (Nat.le_of_ble_eq_true rfl) (Nat.le_of_ble_eq_true rfl) dX11_init_135 ?_
  rw [b22.n]
  refine T_dup (pc := 138) dX11_init_138 rfl ?_
  refine T_callI (pc := 139) (b := 113) (As := []) (rest := [.ref 113, .ref 0]) (Or.inr lk_X11_71) mk_X2_init rfl (i_X2  (by show μ22.1 + 1 = _; rw [b22.n]) (new_rz b22.n) (new_iz b22.n)) dX11_init_139 rfl rfl (Nat.le_of_ble_eq_true rfl) (by decide) rfl (Nat.le_of_ble_eq_true rfl) (Nat.le_of_ble_eq_true rfl) (fun E m' h => by obtain ⟨z, _⟩ := h; cases z) (fun v μ23 h => ?_)
  obtain ⟨h0, c23⟩ := h
  cases h0
  have b23 : Bd 0 96 116 (upr (upr (upr (upr (upr (upr (upr (upr (upr (upr (upr z0 0 (1 + 1)) 1 (3 + 1)) 2 (31 + 1)) 3 (59 + 1)) 4 (62 + 1)) 5 (65 + 1)) 6 (93 + 1)) 8 (96 + 1)) 11 (97 + 1)) 12 (105 + 1)) 13 (109 + 1)) z0 zi μ μ23 := b22.call c23 (by omega)
  have jx_23 : μ23.2.2.1 1 = (upr (upr zi 2 (-1)) 6 (-1)) := (c23.lo b22.n (by omega)).trans jx_22
  have jm_23 : μ23.2.2.1 3 = (upr (upr zi 8 (nI 0)) 11 (nI 1)) := (c23.lo b22.n (by omega)).trans jm_22
  have jn_23 : μ23.2.2.1 4 = zi := (c23.lo b22.n (by omega)).trans jn_22
  have jo_23 : μ23.2.2.1 12 = w12 := (c23.lo b22.n (by omega)).trans jo_22
  have jl_23 : μ23.2.2.1 59 = (upr zi 0 (-1)) := (c23.lo b22.n (by omega)).trans jl_22
  show T _ _ _ _ _ _ _ _ 142 [some (.ref 0), none] [.ref 113, .ref 0] μ23
  refine T_putR (pc := 142) (c := 11) (j := 14) fl_X11_72 ⟨rfl, rfl⟩ ⟨rfl, rfl⟩ (fun q => ⟨rfl, rfl⟩) (show KT 0 = (0, 11) by decide) (by rw [b23.n]; omega) dX11_init_142 ?_
  have b24 : Bd 0 96 116 (upr (upr (upr (upr (upr (upr (upr (upr (upr (upr (upr (upr z0 0 (1 + 1)) 1 (3 + 1)) 2 (31 + 1)) 3 (59 + 1)) 4 (62 + 1)) 5 (65 + 1)) 6 (93 + 1)) 8 (96 + 1)) 11 (97 + 1)) 12 (105 + 1)) 13 (109 + 1)) 14 (113 + 1)) z0 zi μ (mR μ23 0 14 (113 + 1)) := b23.putR
  have jx_24 : (mR μ23 0 14 (113 + 1)).2.2.1 1 = (upr (upr zi 2 (-1)) 6 (-1)) := jx_23
  have jm_24 : (mR μ23 0 14 (113 + 1)).2.2.1 3 = (upr (upr zi 8 (nI 0)) 11 (nI 1)) := jm_23
  have jn_24 : (mR μ23 0 14 (113 + 1)).2.2.1 4 = zi := jn_23
  have jo_24 : (mR μ23 0 14 (113 + 1)).2.2.1 12 = w12 := jo_23
  have jl_24 : (mR μ23 0 14 (113 + 1)).2.2.1 59 = (upr zi 0 (-1)) := jl_23
  generalize mR μ23 0 14 (113 + 1) = μ24 at b24 jx_24 jm_24 jn_24 jo_24 jl_24 ⊢
  refine T_aload_n (pc := 145) (i := 0) dX11_init_145 rfl rfl ?_
  refine T_new (pc := 146) (c := 7) nw_X11_76 (by decide) (by rw [b24.n]; exact (show KT 116 = (0, 7) by decide)) (by rw [b24.n]; show _ < 595; omega) (Nat.le_of_ble_eq_true rfl) (Nat.le_of_ble_eq_true rfl) dX11_init_146 ?_
  rw [b24.n]
  refine T_dup (pc := 149) dX11_init_149 rfl ?_
  refine T_callI (pc := 150) (b := 116) (As := []) (rest := [.ref 116, .ref 0]) (Or.inr lk_X11_78) mk_X7_init rfl (i_X7  (by show μ24.1 + 1 = _; rw [b24.n]) (new_rz b24.n) (new_iz b24.n)) dX11_init_150 rfl rfl (Nat.le_of_ble_eq_true rfl) (by decide) rfl (Nat.le_of_ble_eq_true rfl) (Nat.le_of_ble_eq_true rfl) (fun E m' h => by obtain ⟨z, _⟩ := h; cases z) (fun v μ25 h => ?_)
  obtain ⟨h0, c25⟩ := h
  cases h0
  have b25 : Bd 0 96 121 (upr (upr (upr (upr (upr (upr (upr (upr (upr (upr (upr (upr z0 0 (1 + 1)) 1 (3 + 1)) 2 (31 + 1)) 3 (59 + 1)) 4 (62 + 1)) 5 (65 + 1)) 6 (93 + 1)) 8 (96 + 1)) 11 (97 + 1)) 12 (105 + 1)) 13 (109 + 1)) 14 (113 + 1)) z0 zi μ μ25 := b24.call c25 (by omega)
  have jx_25 : μ25.2.2.1 1 = (upr (upr zi 2 (-1)) 6 (-1)) := (c25.lo b24.n (by omega)).trans jx_24
  have jm_25 : μ25.2.2.1 3 = (upr (upr zi 8 (nI 0)) 11 (nI 1)) := (c25.lo b24.n (by omega)).trans jm_24
  have jn_25 : μ25.2.2.1 4 = zi := (c25.lo b24.n (by omega)).trans jn_24
  have jo_25 : μ25.2.2.1 12 = w12 := (c25.lo b24.n (by omega)).trans jo_24
  have jl_25 : μ25.2.2.1 59 = (upr zi 0 (-1)) := (c25.lo b24.n (by omega)).trans jl_24
  show T _ _ _ _ _ _ _ _ 153 [some (.ref 0), none] [.ref 116, .ref 0] μ25
  refine T_putR (pc := 153) (c := 11) (j := 15) fl_X11_79 ⟨rfl, rfl⟩ ⟨rfl, rfl⟩ (fun q => ⟨rfl, rfl⟩) (show KT 0 = (0, 11) by decide) (by rw [b25.n]; omega) dX11_init_153 ?_
  have b26 : Bd 0 96 121 (upr (upr (upr (upr (upr (upr (upr (upr (upr (upr (upr (upr (upr z0 0 (1 + 1)) 1 (3 + 1)) 2 (31 + 1)) 3 (59 + 1)) 4 (62 + 1)) 5 (65 + 1)) 6 (93 + 1)) 8 (96 + 1)) 11 (97 + 1)) 12 (105 + 1)) 13 (109 + 1)) 14 (113 + 1)) 15 (116 + 1)) z0 zi μ (mR μ25 0 15 (116 + 1)) := b25.putR
  have jx_26 : (mR μ25 0 15 (116 + 1)).2.2.1 1 = (upr (upr zi 2 (-1)) 6 (-1)) := jx_25
  have jm_26 : (mR μ25 0 15 (116 + 1)).2.2.1 3 = (upr (upr zi 8 (nI 0)) 11 (nI 1)) := jm_25
  have jn_26 : (mR μ25 0 15 (116 + 1)).2.2.1 4 = zi := jn_25
  have jo_26 : (mR μ25 0 15 (116 + 1)).2.2.1 12 = w12 := jo_25
  have jl_26 : (mR μ25 0 15 (116 + 1)).2.2.1 59 = (upr zi 0 (-1)) := jl_25
  generalize mR μ25 0 15 (116 + 1) = μ26 at b26 jx_26 jm_26 jn_26 jo_26 jl_26 ⊢
  refine T_aload_n (pc := 156) (i := 0) dX11_init_156 rfl rfl ?_
  refine T_new (pc := 157) (c := 0) nw_X11_83 (by decide) (by rw [b26.n]; exact (show KT 121 = (0, 0) by decide)) (by rw [b26.n]; show _ < 595; omega) (Nat.le_of_ble_eq_true rfl) (Nat.le_of_ble_eq_true rfl) dX11_init_157 ?_
  rw [b26.n]
  refine T_dup (pc := 160) dX11_init_160 rfl ?_
  refine T_callI (pc := 161) (b := 121) (As := []) (rest := [.ref 121, .ref 0]) (Or.inr lk_X11_85) mk_X0_init rfl (i_X0  (by show μ26.1 + 1 = _; rw [b26.n]) (new_rz b26.n) (new_iz b26.n)) dX11_init_161 rfl rfl (Nat.le_of_ble_eq_true rfl) (by decide) rfl (Nat.le_of_ble_eq_true rfl) (Nat.le_of_ble_eq_true rfl) (fun E m' h => by obtain ⟨z, _⟩ := h; cases z) (fun v μ27 h => ?_)
  obtain ⟨h0, c27⟩ := h
  cases h0
  have b27 : Bd 0 96 122 (upr (upr (upr (upr (upr (upr (upr (upr (upr (upr (upr (upr (upr z0 0 (1 + 1)) 1 (3 + 1)) 2 (31 + 1)) 3 (59 + 1)) 4 (62 + 1)) 5 (65 + 1)) 6 (93 + 1)) 8 (96 + 1)) 11 (97 + 1)) 12 (105 + 1)) 13 (109 + 1)) 14 (113 + 1)) 15 (116 + 1)) z0 zi μ μ27 := b26.call c27 (by omega)
  have jx_27 : μ27.2.2.1 1 = (upr (upr zi 2 (-1)) 6 (-1)) := (c27.lo b26.n (by omega)).trans jx_26
  have jm_27 : μ27.2.2.1 3 = (upr (upr zi 8 (nI 0)) 11 (nI 1)) := (c27.lo b26.n (by omega)).trans jm_26
  have jn_27 : μ27.2.2.1 4 = zi := (c27.lo b26.n (by omega)).trans jn_26
  have jo_27 : μ27.2.2.1 12 = w12 := (c27.lo b26.n (by omega)).trans jo_26
  have jl_27 : μ27.2.2.1 59 = (upr zi 0 (-1)) := (c27.lo b26.n (by omega)).trans jl_26
  show T _ _ _ _ _ _ _ _ 164 [some (.ref 0), none] [.ref 121, .ref 0] μ27
  refine T_putR (pc := 164) (c := 11) (j := 16) fl_X11_86 ⟨rfl, rfl⟩ ⟨rfl, rfl⟩ (fun q => ⟨rfl, rfl⟩) (show KT 0 = (0, 11) by decide) (by rw [b27.n]; omega) dX11_init_164 ?_
  have b28 : Bd 0 96 122 (upr (upr (upr (upr (upr (upr (upr (upr (upr (upr (upr (upr (upr (upr z0 0 (1 + 1)) 1 (3 + 1)) 2 (31 + 1)) 3 (59 + 1)) 4 (62 + 1)) 5 (65 + 1)) 6 (93 + 1)) 8 (96 + 1)) 11 (97 + 1)) 12 (105 + 1)) 13 (109 + 1)) 14 (113 + 1)) 15 (116 + 1)) 16 (121 + 1)) z0 zi μ (mR μ27 0 16 (121 + 1)) := b27.putR
  have jx_28 : (mR μ27 0 16 (121 + 1)).2.2.1 1 = (upr (upr zi 2 (-1)) 6 (-1)) := jx_27
  have jm_28 : (mR μ27 0 16 (121 + 1)).2.2.1 3 = (upr (upr zi 8 (nI 0)) 11 (nI 1)) := jm_27
  have jn_28 : (mR μ27 0 16 (121 + 1)).2.2.1 4 = zi := jn_27
  have jo_28 : (mR μ27 0 16 (121 + 1)).2.2.1 12 = w12 := jo_27
  have jl_28 : (mR μ27 0 16 (121 + 1)).2.2.1 59 = (upr zi 0 (-1)) := jl_27
  generalize mR μ27 0 16 (121 + 1) = μ28 at b28 jx_28 jm_28 jn_28 jo_28 jl_28 ⊢
  refine T_aload_n (pc := 167) (i := 0) dX11_init_167 rfl rfl ?_
  refine T_new (pc := 168) (c := 3) nw_X11_90 (by decide) (by rw [b28.n]; exact (show KT 122 = (0, 3) by decide)) (by rw [b28.n]; show _ < 595; omega) (Nat.le_of_ble_eq_true rfl) (Nat.le_of_ble_eq_true rfl) dX11_init_168 ?_
  rw [b28.n]
  refine T_dup (pc := 171) dX11_init_171 rfl ?_
  refine T_callI (pc := 172) (b := 122) (As := []) (rest := [.ref 122, .ref 0]) (Or.inr lk_X11_92) mk_X3_init rfl (i_X3  (by show μ28.1 + 1 = _; rw [b28.n]) (new_rz b28.n) (new_iz b28.n)) dX11_init_172 rfl rfl (Nat.le_of_ble_eq_true rfl) (by decide) rfl (Nat.le_of_ble_eq_true rfl) (Nat.le_of_ble_eq_true rfl) (fun E m' h => by obtain ⟨z, _⟩ := h; cases z) (fun v μ29 h => ?_)
  obtain ⟨h0, c29⟩ := h
  cases h0
  have b29 : Bd 0 96 124 (upr (upr (upr (upr (upr (upr (upr (upr (upr (upr (upr (upr (upr (upr z0 0 (1 + 1)) 1 (3 + 1)) 2 (31 + 1)) 3 (59 + 1)) 4 (62 + 1)) 5 (65 + 1)) 6 (93 + 1)) 8 (96 + 1)) 11 (97 + 1)) 12 (105 + 1)) 13 (109 + 1)) 14 (113 + 1)) 15 (116 + 1)) 16 (121 + 1)) z0 zi μ μ29 := b28.call c29 (by omega)
  have jx_29 : μ29.2.2.1 1 = (upr (upr zi 2 (-1)) 6 (-1)) := (c29.lo b28.n (by omega)).trans jx_28
  have jm_29 : μ29.2.2.1 3 = (upr (upr zi 8 (nI 0)) 11 (nI 1)) := (c29.lo b28.n (by omega)).trans jm_28
  have jn_29 : μ29.2.2.1 4 = zi := (c29.lo b28.n (by omega)).trans jn_28
  have jo_29 : μ29.2.2.1 12 = w12 := (c29.lo b28.n (by omega)).trans jo_28
  have jl_29 : μ29.2.2.1 59 = (upr zi 0 (-1)) := (c29.lo b28.n (by omega)).trans jl_28
  show T _ _ _ _ _ _ _ _ 175 [some (.ref 0), none] [.ref 122, .ref 0] μ29
  refine T_putR (pc := 175) (c := 11) (j := 17) fl_X11_93 ⟨rfl, rfl⟩ ⟨rfl, rfl⟩ (fun q => ⟨rfl, rfl⟩) (show KT 0 = (0, 11) by decide) (by rw [b29.n]; omega) dX11_init_175 ?_
  have b30 : Bd 0 96 124 (upr (upr (upr (upr (upr (upr (upr (upr (upr (upr (upr (upr (upr (upr (upr z0 0 (1 + 1)) 1 (3 + 1)) 2 (31 + 1)) 3 (59 + 1)) 4 (62 + 1)) 5 (65 + 1)) 6 (93 + 1)) 8 (96 + 1)) 11 (97 + 1)) 12 (105 + 1)) 13 (109 + 1)) 14 (113 + 1)) 15 (116 + 1)) 16 (121 + 1)) 17 (122 + 1)) z0 zi μ (mR μ29 0 17 (122 + 1)) := b29.putR
  have jx_30 : (mR μ29 0 17 (122 + 1)).2.2.1 1 = (upr (upr zi 2 (-1)) 6 (-1)) := jx_29
  have jm_30 : (mR μ29 0 17 (122 + 1)).2.2.1 3 = (upr (upr zi 8 (nI 0)) 11 (nI 1)) := jm_29
  have jn_30 : (mR μ29 0 17 (122 + 1)).2.2.1 4 = zi := jn_29
  have jo_30 : (mR μ29 0 17 (122 + 1)).2.2.1 12 = w12 := jo_29
  have jl_30 : (mR μ29 0 17 (122 + 1)).2.2.1 59 = (upr zi 0 (-1)) := jl_29
  generalize mR μ29 0 17 (122 + 1) = μ30 at b30 jx_30 jm_30 jn_30 jo_30 jl_30 ⊢
  refine T_iconst (pc := 178) (v := nI 0) dX11_init_178 (by decide) ?_
  refine T_istore_n (pc := 179) (i := 1) (ls' := [some (.ref 0), some (.int (nI 0))]) dX11_init_179 rfl (by decide) rfl ?_
  refine T_iload_n (pc := 180) (i := 1) dX11_init_180 rfl rfl ?_
  refine T_bipush (pc := 181) (v := nI 16) dX11_init_181 (by decide) ?_
  refine T_icmp_ge (pc := 183) (tgt := 205) dX11_init_183 (by decide) (fun h => absurd h (by decide)) (fun _ => ?_)
  refine T_aload_n (pc := 186) (i := 0) dX11_init_186 rfl rfl ?_
  refine T_getR (pc := 187) (c := 11) (j := 8) (i := 96) fl_X11_42 rfl (show KT 0 = (0, 11) by decide) (by rw [b30.n]; omega) (by rw [b30.r]; rfl) dX11_init_187 ?_
  refine T_iload_n (pc := 190) (i := 1) dX11_init_190 rfl rfl ?_
  refine T_new (pc := 191) (c := 9) nw_X11_16 (by decide) (by rw [b30.n]; exact (show KT 124 = (0, 9) by decide)) (by rw [b30.n]; show _ < 595; omega) (Nat.le_of_ble_eq_true rfl) (Nat.le_of_ble_eq_true rfl) dX11_init_191 ?_
  rw [b30.n]
  refine T_dup (pc := 194) dX11_init_194 rfl ?_
  refine T_callI (pc := 195) (b := 124) (As := []) (rest := [.ref 124, .int (nI 0), .ref 96]) (Or.inl lk_X11_18) mk_X9_init rfl (i_X9 (show isTold 124 from memory_told (i := 0) (by decide)) (by omega) (by show μ30.1 + 1 = _; rw [b30.n]) (new_rz b30.n) (new_iz b30.n)) dX11_init_195 rfl rfl (Nat.le_of_ble_eq_true rfl) (by decide) rfl (Nat.le_of_ble_eq_true rfl) (Nat.le_of_ble_eq_true rfl) (fun E m' h => by obtain ⟨z, _⟩ := h; cases z) (fun v μ31 h => ?_)
  obtain ⟨h0, c31⟩ := h
  cases h0
  have b31 : Bd 0 96 152 (upr (upr (upr (upr (upr (upr (upr (upr (upr (upr (upr (upr (upr (upr (upr z0 0 (1 + 1)) 1 (3 + 1)) 2 (31 + 1)) 3 (59 + 1)) 4 (62 + 1)) 5 (65 + 1)) 6 (93 + 1)) 8 (96 + 1)) 11 (97 + 1)) 12 (105 + 1)) 13 (109 + 1)) 14 (113 + 1)) 15 (116 + 1)) 16 (121 + 1)) 17 (122 + 1)) z0 zi μ μ31 := b30.call c31 (by omega)
  have jx_31 : μ31.2.2.1 1 = (upr (upr zi 2 (-1)) 6 (-1)) := (c31.lo b30.n (by omega)).trans jx_30
  have jm_31 : μ31.2.2.1 3 = (upr (upr zi 8 (nI 0)) 11 (nI 1)) := (c31.lo b30.n (by omega)).trans jm_30
  have jn_31 : μ31.2.2.1 4 = zi := (c31.lo b30.n (by omega)).trans jn_30
  have jo_31 : μ31.2.2.1 12 = w12 := (c31.lo b30.n (by omega)).trans jo_30
  have jl_31 : μ31.2.2.1 59 = (upr zi 0 (-1)) := (c31.lo b30.n (by omega)).trans jl_30
  show T _ _ _ _ _ _ _ _ 198 [some (.ref 0), some (.int (nI 0))] [.ref 124, .int (nI 0), .ref 96] μ31
  refine T_aast (pc := 198) (t := 1) (c := 9) (n := 16) (show KT 96 = (5, 16) by decide) (Or.inr ⟨rfl, rfl⟩) (show KT 124 = (0, 9) by decide) (by rw [b31.n]; omega) (by rw [b31.n]; omega) (vp_in_nI (n := 0) (by omega) (by omega)) dX11_init_198 ?_
  rw [nI_clamp (n := 0) (by omega)]
  have b32 : Bd 0 96 152 (upr (upr (upr (upr (upr (upr (upr (upr (upr (upr (upr (upr (upr (upr (upr z0 0 (1 + 1)) 1 (3 + 1)) 2 (31 + 1)) 3 (59 + 1)) 4 (62 + 1)) 5 (65 + 1)) 6 (93 + 1)) 8 (96 + 1)) 11 (97 + 1)) 12 (105 + 1)) 13 (109 + 1)) 14 (113 + 1)) 15 (116 + 1)) 16 (121 + 1)) 17 (122 + 1)) (upr z0 0 (124 + 1)) zi μ (mR μ31 96 0 (124 + 1)) := b31.ast (by omega)
  have jx_32 : (mR μ31 96 0 (124 + 1)).2.2.1 1 = (upr (upr zi 2 (-1)) 6 (-1)) := jx_31
  have jm_32 : (mR μ31 96 0 (124 + 1)).2.2.1 3 = (upr (upr zi 8 (nI 0)) 11 (nI 1)) := jm_31
  have jn_32 : (mR μ31 96 0 (124 + 1)).2.2.1 4 = zi := jn_31
  have jo_32 : (mR μ31 96 0 (124 + 1)).2.2.1 12 = w12 := jo_31
  have jl_32 : (mR μ31 96 0 (124 + 1)).2.2.1 59 = (upr zi 0 (-1)) := jl_31
  generalize mR μ31 96 0 (124 + 1) = μ32 at b32 jx_32 jm_32 jn_32 jo_32 jl_32 ⊢
  refine T_iinc (pc := 199) (i := 1) (v := nI 1) (ls' := [some (.ref 0), some (.int (nI 1))]) dX11_init_199 rfl (by decide) rfl ?_
  refine T_goto (pc := 202) (tgt := 180) dX11_init_202 (by decide) ?_
  refine T_iload_n (pc := 180) (i := 1) dX11_init_180 rfl rfl ?_
  refine T_bipush (pc := 181) (v := nI 16) dX11_init_181 (by decide) ?_
  refine T_icmp_ge (pc := 183) (tgt := 205) dX11_init_183 (by decide) (fun h => absurd h (by decide)) (fun _ => ?_)
  refine T_aload_n (pc := 186) (i := 0) dX11_init_186 rfl rfl ?_
  refine T_getR (pc := 187) (c := 11) (j := 8) (i := 96) fl_X11_42 rfl (show KT 0 = (0, 11) by decide) (by rw [b32.n]; omega) (by rw [b32.r]; rfl) dX11_init_187 ?_
  refine T_iload_n (pc := 190) (i := 1) dX11_init_190 rfl rfl ?_
  refine T_new (pc := 191) (c := 9) nw_X11_16 (by decide) (by rw [b32.n]; exact (show KT 152 = (0, 9) by decide)) (by rw [b32.n]; show _ < 595; omega) (Nat.le_of_ble_eq_true rfl) (Nat.le_of_ble_eq_true rfl) dX11_init_191 ?_
  rw [b32.n]
  refine T_dup (pc := 194) dX11_init_194 rfl ?_
  refine T_callI (pc := 195) (b := 152) (As := []) (rest := [.ref 152, .int (nI 1), .ref 96]) (Or.inl lk_X11_18) mk_X9_init rfl (i_X9 (show isTold 152 from memory_told (i := 1) (by decide)) (by omega) (by show μ32.1 + 1 = _; rw [b32.n]) (new_rz b32.n) (new_iz b32.n)) dX11_init_195 rfl rfl (Nat.le_of_ble_eq_true rfl) (by decide) rfl (Nat.le_of_ble_eq_true rfl) (Nat.le_of_ble_eq_true rfl) (fun E m' h => by obtain ⟨z, _⟩ := h; cases z) (fun v μ33 h => ?_)
  obtain ⟨h0, c33⟩ := h
  cases h0
  have b33 : Bd 0 96 180 (upr (upr (upr (upr (upr (upr (upr (upr (upr (upr (upr (upr (upr (upr (upr z0 0 (1 + 1)) 1 (3 + 1)) 2 (31 + 1)) 3 (59 + 1)) 4 (62 + 1)) 5 (65 + 1)) 6 (93 + 1)) 8 (96 + 1)) 11 (97 + 1)) 12 (105 + 1)) 13 (109 + 1)) 14 (113 + 1)) 15 (116 + 1)) 16 (121 + 1)) 17 (122 + 1)) (upr z0 0 (124 + 1)) zi μ μ33 := b32.call c33 (by omega)
  have jx_33 : μ33.2.2.1 1 = (upr (upr zi 2 (-1)) 6 (-1)) := (c33.lo b32.n (by omega)).trans jx_32
  have jm_33 : μ33.2.2.1 3 = (upr (upr zi 8 (nI 0)) 11 (nI 1)) := (c33.lo b32.n (by omega)).trans jm_32
  have jn_33 : μ33.2.2.1 4 = zi := (c33.lo b32.n (by omega)).trans jn_32
  have jo_33 : μ33.2.2.1 12 = w12 := (c33.lo b32.n (by omega)).trans jo_32
  have jl_33 : μ33.2.2.1 59 = (upr zi 0 (-1)) := (c33.lo b32.n (by omega)).trans jl_32
  show T _ _ _ _ _ _ _ _ 198 [some (.ref 0), some (.int (nI 1))] [.ref 152, .int (nI 1), .ref 96] μ33
  refine T_aast (pc := 198) (t := 1) (c := 9) (n := 16) (show KT 96 = (5, 16) by decide) (Or.inr ⟨rfl, rfl⟩) (show KT 152 = (0, 9) by decide) (by rw [b33.n]; omega) (by rw [b33.n]; omega) (vp_in_nI (n := 1) (by omega) (by omega)) dX11_init_198 ?_
  rw [nI_clamp (n := 1) (by omega)]
  have b34 : Bd 0 96 180 (upr (upr (upr (upr (upr (upr (upr (upr (upr (upr (upr (upr (upr (upr (upr z0 0 (1 + 1)) 1 (3 + 1)) 2 (31 + 1)) 3 (59 + 1)) 4 (62 + 1)) 5 (65 + 1)) 6 (93 + 1)) 8 (96 + 1)) 11 (97 + 1)) 12 (105 + 1)) 13 (109 + 1)) 14 (113 + 1)) 15 (116 + 1)) 16 (121 + 1)) 17 (122 + 1)) (upr (upr z0 0 (124 + 1)) 1 (152 + 1)) zi μ (mR μ33 96 1 (152 + 1)) := b33.ast (by omega)
  have jx_34 : (mR μ33 96 1 (152 + 1)).2.2.1 1 = (upr (upr zi 2 (-1)) 6 (-1)) := jx_33
  have jm_34 : (mR μ33 96 1 (152 + 1)).2.2.1 3 = (upr (upr zi 8 (nI 0)) 11 (nI 1)) := jm_33
  have jn_34 : (mR μ33 96 1 (152 + 1)).2.2.1 4 = zi := jn_33
  have jo_34 : (mR μ33 96 1 (152 + 1)).2.2.1 12 = w12 := jo_33
  have jl_34 : (mR μ33 96 1 (152 + 1)).2.2.1 59 = (upr zi 0 (-1)) := jl_33
  generalize mR μ33 96 1 (152 + 1) = μ34 at b34 jx_34 jm_34 jn_34 jo_34 jl_34 ⊢
  refine T_iinc (pc := 199) (i := 1) (v := nI 2) (ls' := [some (.ref 0), some (.int (nI 2))]) dX11_init_199 rfl (by decide) rfl ?_
  refine T_goto (pc := 202) (tgt := 180) dX11_init_202 (by decide) ?_
  refine T_iload_n (pc := 180) (i := 1) dX11_init_180 rfl rfl ?_
  refine T_bipush (pc := 181) (v := nI 16) dX11_init_181 (by decide) ?_
  refine T_icmp_ge (pc := 183) (tgt := 205) dX11_init_183 (by decide) (fun h => absurd h (by decide)) (fun _ => ?_)
  refine T_aload_n (pc := 186) (i := 0) dX11_init_186 rfl rfl ?_
  refine T_getR (pc := 187) (c := 11) (j := 8) (i := 96) fl_X11_42 rfl (show KT 0 = (0, 11) by decide) (by rw [b34.n]; omega) (by rw [b34.r]; rfl) dX11_init_187 ?_
  refine T_iload_n (pc := 190) (i := 1) dX11_init_190 rfl rfl ?_
  refine T_new (pc := 191) (c := 9) nw_X11_16 (by decide) (by rw [b34.n]; exact (show KT 180 = (0, 9) by decide)) (by rw [b34.n]; show _ < 595; omega) (Nat.le_of_ble_eq_true rfl) (Nat.le_of_ble_eq_true rfl) dX11_init_191 ?_
  rw [b34.n]
  refine T_dup (pc := 194) dX11_init_194 rfl ?_
  refine T_callI (pc := 195) (b := 180) (As := []) (rest := [.ref 180, .int (nI 2), .ref 96]) (Or.inl lk_X11_18) mk_X9_init rfl (i_X9 (show isTold 180 from memory_told (i := 2) (by decide)) (by omega) (by show μ34.1 + 1 = _; rw [b34.n]) (new_rz b34.n) (new_iz b34.n)) dX11_init_195 rfl rfl (Nat.le_of_ble_eq_true rfl) (by decide) rfl (Nat.le_of_ble_eq_true rfl) (Nat.le_of_ble_eq_true rfl) (fun E m' h => by obtain ⟨z, _⟩ := h; cases z) (fun v μ35 h => ?_)
  obtain ⟨h0, c35⟩ := h
  cases h0
  have b35 : Bd 0 96 208 (upr (upr (upr (upr (upr (upr (upr (upr (upr (upr (upr (upr (upr (upr (upr z0 0 (1 + 1)) 1 (3 + 1)) 2 (31 + 1)) 3 (59 + 1)) 4 (62 + 1)) 5 (65 + 1)) 6 (93 + 1)) 8 (96 + 1)) 11 (97 + 1)) 12 (105 + 1)) 13 (109 + 1)) 14 (113 + 1)) 15 (116 + 1)) 16 (121 + 1)) 17 (122 + 1)) (upr (upr z0 0 (124 + 1)) 1 (152 + 1)) zi μ μ35 := b34.call c35 (by omega)
  have jx_35 : μ35.2.2.1 1 = (upr (upr zi 2 (-1)) 6 (-1)) := (c35.lo b34.n (by omega)).trans jx_34
  have jm_35 : μ35.2.2.1 3 = (upr (upr zi 8 (nI 0)) 11 (nI 1)) := (c35.lo b34.n (by omega)).trans jm_34
  have jn_35 : μ35.2.2.1 4 = zi := (c35.lo b34.n (by omega)).trans jn_34
  have jo_35 : μ35.2.2.1 12 = w12 := (c35.lo b34.n (by omega)).trans jo_34
  have jl_35 : μ35.2.2.1 59 = (upr zi 0 (-1)) := (c35.lo b34.n (by omega)).trans jl_34
  show T _ _ _ _ _ _ _ _ 198 [some (.ref 0), some (.int (nI 2))] [.ref 180, .int (nI 2), .ref 96] μ35
  refine T_aast (pc := 198) (t := 1) (c := 9) (n := 16) (show KT 96 = (5, 16) by decide) (Or.inr ⟨rfl, rfl⟩) (show KT 180 = (0, 9) by decide) (by rw [b35.n]; omega) (by rw [b35.n]; omega) (vp_in_nI (n := 2) (by omega) (by omega)) dX11_init_198 ?_
  rw [nI_clamp (n := 2) (by omega)]
  have b36 : Bd 0 96 208 (upr (upr (upr (upr (upr (upr (upr (upr (upr (upr (upr (upr (upr (upr (upr z0 0 (1 + 1)) 1 (3 + 1)) 2 (31 + 1)) 3 (59 + 1)) 4 (62 + 1)) 5 (65 + 1)) 6 (93 + 1)) 8 (96 + 1)) 11 (97 + 1)) 12 (105 + 1)) 13 (109 + 1)) 14 (113 + 1)) 15 (116 + 1)) 16 (121 + 1)) 17 (122 + 1)) (upr (upr (upr z0 0 (124 + 1)) 1 (152 + 1)) 2 (180 + 1)) zi μ (mR μ35 96 2 (180 + 1)) := b35.ast (by omega)
  have jx_36 : (mR μ35 96 2 (180 + 1)).2.2.1 1 = (upr (upr zi 2 (-1)) 6 (-1)) := jx_35
  have jm_36 : (mR μ35 96 2 (180 + 1)).2.2.1 3 = (upr (upr zi 8 (nI 0)) 11 (nI 1)) := jm_35
  have jn_36 : (mR μ35 96 2 (180 + 1)).2.2.1 4 = zi := jn_35
  have jo_36 : (mR μ35 96 2 (180 + 1)).2.2.1 12 = w12 := jo_35
  have jl_36 : (mR μ35 96 2 (180 + 1)).2.2.1 59 = (upr zi 0 (-1)) := jl_35
  generalize mR μ35 96 2 (180 + 1) = μ36 at b36 jx_36 jm_36 jn_36 jo_36 jl_36 ⊢
  refine T_iinc (pc := 199) (i := 1) (v := nI 3) (ls' := [some (.ref 0), some (.int (nI 3))]) dX11_init_199 rfl (by decide) rfl ?_
  refine T_goto (pc := 202) (tgt := 180) dX11_init_202 (by decide) ?_
  refine T_iload_n (pc := 180) (i := 1) dX11_init_180 rfl rfl ?_
  refine T_bipush (pc := 181) (v := nI 16) dX11_init_181 (by decide) ?_
  refine T_icmp_ge (pc := 183) (tgt := 205) dX11_init_183 (by decide) (fun h => absurd h (by decide)) (fun _ => ?_)
  refine T_aload_n (pc := 186) (i := 0) dX11_init_186 rfl rfl ?_
  refine T_getR (pc := 187) (c := 11) (j := 8) (i := 96) fl_X11_42 rfl (show KT 0 = (0, 11) by decide) (by rw [b36.n]; omega) (by rw [b36.r]; rfl) dX11_init_187 ?_
  refine T_iload_n (pc := 190) (i := 1) dX11_init_190 rfl rfl ?_
  refine T_new (pc := 191) (c := 9) nw_X11_16 (by decide) (by rw [b36.n]; exact (show KT 208 = (0, 9) by decide)) (by rw [b36.n]; show _ < 595; omega) (Nat.le_of_ble_eq_true rfl) (Nat.le_of_ble_eq_true rfl) dX11_init_191 ?_
  rw [b36.n]
  refine T_dup (pc := 194) dX11_init_194 rfl ?_
  refine T_callI (pc := 195) (b := 208) (As := []) (rest := [.ref 208, .int (nI 3), .ref 96]) (Or.inl lk_X11_18) mk_X9_init rfl (i_X9 (show isTold 208 from memory_told (i := 3) (by decide)) (by omega) (by show μ36.1 + 1 = _; rw [b36.n]) (new_rz b36.n) (new_iz b36.n)) dX11_init_195 rfl rfl (Nat.le_of_ble_eq_true rfl) (by decide) rfl (Nat.le_of_ble_eq_true rfl) (Nat.le_of_ble_eq_true rfl) (fun E m' h => by obtain ⟨z, _⟩ := h; cases z) (fun v μ37 h => ?_)
  obtain ⟨h0, c37⟩ := h
  cases h0
  have b37 : Bd 0 96 236 (upr (upr (upr (upr (upr (upr (upr (upr (upr (upr (upr (upr (upr (upr (upr z0 0 (1 + 1)) 1 (3 + 1)) 2 (31 + 1)) 3 (59 + 1)) 4 (62 + 1)) 5 (65 + 1)) 6 (93 + 1)) 8 (96 + 1)) 11 (97 + 1)) 12 (105 + 1)) 13 (109 + 1)) 14 (113 + 1)) 15 (116 + 1)) 16 (121 + 1)) 17 (122 + 1)) (upr (upr (upr z0 0 (124 + 1)) 1 (152 + 1)) 2 (180 + 1)) zi μ μ37 := b36.call c37 (by omega)
  have jx_37 : μ37.2.2.1 1 = (upr (upr zi 2 (-1)) 6 (-1)) := (c37.lo b36.n (by omega)).trans jx_36
  have jm_37 : μ37.2.2.1 3 = (upr (upr zi 8 (nI 0)) 11 (nI 1)) := (c37.lo b36.n (by omega)).trans jm_36
  have jn_37 : μ37.2.2.1 4 = zi := (c37.lo b36.n (by omega)).trans jn_36
  have jo_37 : μ37.2.2.1 12 = w12 := (c37.lo b36.n (by omega)).trans jo_36
  have jl_37 : μ37.2.2.1 59 = (upr zi 0 (-1)) := (c37.lo b36.n (by omega)).trans jl_36
  show T _ _ _ _ _ _ _ _ 198 [some (.ref 0), some (.int (nI 3))] [.ref 208, .int (nI 3), .ref 96] μ37
  refine T_aast (pc := 198) (t := 1) (c := 9) (n := 16) (show KT 96 = (5, 16) by decide) (Or.inr ⟨rfl, rfl⟩) (show KT 208 = (0, 9) by decide) (by rw [b37.n]; omega) (by rw [b37.n]; omega) (vp_in_nI (n := 3) (by omega) (by omega)) dX11_init_198 ?_
  rw [nI_clamp (n := 3) (by omega)]
  have b38 : Bd 0 96 236 (upr (upr (upr (upr (upr (upr (upr (upr (upr (upr (upr (upr (upr (upr (upr z0 0 (1 + 1)) 1 (3 + 1)) 2 (31 + 1)) 3 (59 + 1)) 4 (62 + 1)) 5 (65 + 1)) 6 (93 + 1)) 8 (96 + 1)) 11 (97 + 1)) 12 (105 + 1)) 13 (109 + 1)) 14 (113 + 1)) 15 (116 + 1)) 16 (121 + 1)) 17 (122 + 1)) (upr (upr (upr (upr z0 0 (124 + 1)) 1 (152 + 1)) 2 (180 + 1)) 3 (208 + 1)) zi μ (mR μ37 96 3 (208 + 1)) := b37.ast (by omega)
  have jx_38 : (mR μ37 96 3 (208 + 1)).2.2.1 1 = (upr (upr zi 2 (-1)) 6 (-1)) := jx_37
  have jm_38 : (mR μ37 96 3 (208 + 1)).2.2.1 3 = (upr (upr zi 8 (nI 0)) 11 (nI 1)) := jm_37
  have jn_38 : (mR μ37 96 3 (208 + 1)).2.2.1 4 = zi := jn_37
  have jo_38 : (mR μ37 96 3 (208 + 1)).2.2.1 12 = w12 := jo_37
  have jl_38 : (mR μ37 96 3 (208 + 1)).2.2.1 59 = (upr zi 0 (-1)) := jl_37
  generalize mR μ37 96 3 (208 + 1) = μ38 at b38 jx_38 jm_38 jn_38 jo_38 jl_38 ⊢
  refine T_iinc (pc := 199) (i := 1) (v := nI 4) (ls' := [some (.ref 0), some (.int (nI 4))]) dX11_init_199 rfl (by decide) rfl ?_
  refine T_goto (pc := 202) (tgt := 180) dX11_init_202 (by decide) ?_
  refine T_iload_n (pc := 180) (i := 1) dX11_init_180 rfl rfl ?_
  refine T_bipush (pc := 181) (v := nI 16) dX11_init_181 (by decide) ?_
  refine T_icmp_ge (pc := 183) (tgt := 205) dX11_init_183 (by decide) (fun h => absurd h (by decide)) (fun _ => ?_)
  refine T_aload_n (pc := 186) (i := 0) dX11_init_186 rfl rfl ?_
  refine T_getR (pc := 187) (c := 11) (j := 8) (i := 96) fl_X11_42 rfl (show KT 0 = (0, 11) by decide) (by rw [b38.n]; omega) (by rw [b38.r]; rfl) dX11_init_187 ?_
  refine T_iload_n (pc := 190) (i := 1) dX11_init_190 rfl rfl ?_
  refine T_new (pc := 191) (c := 9) nw_X11_16 (by decide) (by rw [b38.n]; exact (show KT 236 = (0, 9) by decide)) (by rw [b38.n]; show _ < 595; omega) (Nat.le_of_ble_eq_true rfl) (Nat.le_of_ble_eq_true rfl) dX11_init_191 ?_
  rw [b38.n]
  refine T_dup (pc := 194) dX11_init_194 rfl ?_
  refine T_callI (pc := 195) (b := 236) (As := []) (rest := [.ref 236, .int (nI 4), .ref 96]) (Or.inl lk_X11_18) mk_X9_init rfl (i_X9 (show isTold 236 from memory_told (i := 4) (by decide)) (by omega) (by show μ38.1 + 1 = _; rw [b38.n]) (new_rz b38.n) (new_iz b38.n)) dX11_init_195 rfl rfl (Nat.le_of_ble_eq_true rfl) (by decide) rfl (Nat.le_of_ble_eq_true rfl) (Nat.le_of_ble_eq_true rfl) (fun E m' h => by obtain ⟨z, _⟩ := h; cases z) (fun v μ39 h => ?_)
  obtain ⟨h0, c39⟩ := h
  cases h0
  have b39 : Bd 0 96 264 (upr (upr (upr (upr (upr (upr (upr (upr (upr (upr (upr (upr (upr (upr (upr z0 0 (1 + 1)) 1 (3 + 1)) 2 (31 + 1)) 3 (59 + 1)) 4 (62 + 1)) 5 (65 + 1)) 6 (93 + 1)) 8 (96 + 1)) 11 (97 + 1)) 12 (105 + 1)) 13 (109 + 1)) 14 (113 + 1)) 15 (116 + 1)) 16 (121 + 1)) 17 (122 + 1)) (upr (upr (upr (upr z0 0 (124 + 1)) 1 (152 + 1)) 2 (180 + 1)) 3 (208 + 1)) zi μ μ39 := b38.call c39 (by omega)
  have jx_39 : μ39.2.2.1 1 = (upr (upr zi 2 (-1)) 6 (-1)) := (c39.lo b38.n (by omega)).trans jx_38
  have jm_39 : μ39.2.2.1 3 = (upr (upr zi 8 (nI 0)) 11 (nI 1)) := (c39.lo b38.n (by omega)).trans jm_38
  have jn_39 : μ39.2.2.1 4 = zi := (c39.lo b38.n (by omega)).trans jn_38
  have jo_39 : μ39.2.2.1 12 = w12 := (c39.lo b38.n (by omega)).trans jo_38
  have jl_39 : μ39.2.2.1 59 = (upr zi 0 (-1)) := (c39.lo b38.n (by omega)).trans jl_38
  show T _ _ _ _ _ _ _ _ 198 [some (.ref 0), some (.int (nI 4))] [.ref 236, .int (nI 4), .ref 96] μ39
  refine T_aast (pc := 198) (t := 1) (c := 9) (n := 16) (show KT 96 = (5, 16) by decide) (Or.inr ⟨rfl, rfl⟩) (show KT 236 = (0, 9) by decide) (by rw [b39.n]; omega) (by rw [b39.n]; omega) (vp_in_nI (n := 4) (by omega) (by omega)) dX11_init_198 ?_
  rw [nI_clamp (n := 4) (by omega)]
  have b40 : Bd 0 96 264 (upr (upr (upr (upr (upr (upr (upr (upr (upr (upr (upr (upr (upr (upr (upr z0 0 (1 + 1)) 1 (3 + 1)) 2 (31 + 1)) 3 (59 + 1)) 4 (62 + 1)) 5 (65 + 1)) 6 (93 + 1)) 8 (96 + 1)) 11 (97 + 1)) 12 (105 + 1)) 13 (109 + 1)) 14 (113 + 1)) 15 (116 + 1)) 16 (121 + 1)) 17 (122 + 1)) (upr (upr (upr (upr (upr z0 0 (124 + 1)) 1 (152 + 1)) 2 (180 + 1)) 3 (208 + 1)) 4 (236 + 1)) zi μ (mR μ39 96 4 (236 + 1)) := b39.ast (by omega)
  have jx_40 : (mR μ39 96 4 (236 + 1)).2.2.1 1 = (upr (upr zi 2 (-1)) 6 (-1)) := jx_39
  have jm_40 : (mR μ39 96 4 (236 + 1)).2.2.1 3 = (upr (upr zi 8 (nI 0)) 11 (nI 1)) := jm_39
  have jn_40 : (mR μ39 96 4 (236 + 1)).2.2.1 4 = zi := jn_39
  have jo_40 : (mR μ39 96 4 (236 + 1)).2.2.1 12 = w12 := jo_39
  have jl_40 : (mR μ39 96 4 (236 + 1)).2.2.1 59 = (upr zi 0 (-1)) := jl_39
  generalize mR μ39 96 4 (236 + 1) = μ40 at b40 jx_40 jm_40 jn_40 jo_40 jl_40 ⊢
  refine T_iinc (pc := 199) (i := 1) (v := nI 5) (ls' := [some (.ref 0), some (.int (nI 5))]) dX11_init_199 rfl (by decide) rfl ?_
  refine T_goto (pc := 202) (tgt := 180) dX11_init_202 (by decide) ?_
  refine T_iload_n (pc := 180) (i := 1) dX11_init_180 rfl rfl ?_
  refine T_bipush (pc := 181) (v := nI 16) dX11_init_181 (by decide) ?_
  refine T_icmp_ge (pc := 183) (tgt := 205) dX11_init_183 (by decide) (fun h => absurd h (by decide)) (fun _ => ?_)
  refine T_aload_n (pc := 186) (i := 0) dX11_init_186 rfl rfl ?_
  refine T_getR (pc := 187) (c := 11) (j := 8) (i := 96) fl_X11_42 rfl (show KT 0 = (0, 11) by decide) (by rw [b40.n]; omega) (by rw [b40.r]; rfl) dX11_init_187 ?_
  refine T_iload_n (pc := 190) (i := 1) dX11_init_190 rfl rfl ?_
  refine T_new (pc := 191) (c := 9) nw_X11_16 (by decide) (by rw [b40.n]; exact (show KT 264 = (0, 9) by decide)) (by rw [b40.n]; show _ < 595; omega) (Nat.le_of_ble_eq_true rfl) (Nat.le_of_ble_eq_true rfl) dX11_init_191 ?_
  rw [b40.n]
  refine T_dup (pc := 194) dX11_init_194 rfl ?_
  refine T_callI (pc := 195) (b := 264) (As := []) (rest := [.ref 264, .int (nI 5), .ref 96]) (Or.inl lk_X11_18) mk_X9_init rfl (i_X9 (show isTold 264 from memory_told (i := 5) (by decide)) (by omega) (by show μ40.1 + 1 = _; rw [b40.n]) (new_rz b40.n) (new_iz b40.n)) dX11_init_195 rfl rfl (Nat.le_of_ble_eq_true rfl) (by decide) rfl (Nat.le_of_ble_eq_true rfl) (Nat.le_of_ble_eq_true rfl) (fun E m' h => by obtain ⟨z, _⟩ := h; cases z) (fun v μ41 h => ?_)
  obtain ⟨h0, c41⟩ := h
  cases h0
  have b41 : Bd 0 96 292 (upr (upr (upr (upr (upr (upr (upr (upr (upr (upr (upr (upr (upr (upr (upr z0 0 (1 + 1)) 1 (3 + 1)) 2 (31 + 1)) 3 (59 + 1)) 4 (62 + 1)) 5 (65 + 1)) 6 (93 + 1)) 8 (96 + 1)) 11 (97 + 1)) 12 (105 + 1)) 13 (109 + 1)) 14 (113 + 1)) 15 (116 + 1)) 16 (121 + 1)) 17 (122 + 1)) (upr (upr (upr (upr (upr z0 0 (124 + 1)) 1 (152 + 1)) 2 (180 + 1)) 3 (208 + 1)) 4 (236 + 1)) zi μ μ41 := b40.call c41 (by omega)
  have jx_41 : μ41.2.2.1 1 = (upr (upr zi 2 (-1)) 6 (-1)) := (c41.lo b40.n (by omega)).trans jx_40
  have jm_41 : μ41.2.2.1 3 = (upr (upr zi 8 (nI 0)) 11 (nI 1)) := (c41.lo b40.n (by omega)).trans jm_40
  have jn_41 : μ41.2.2.1 4 = zi := (c41.lo b40.n (by omega)).trans jn_40
  have jo_41 : μ41.2.2.1 12 = w12 := (c41.lo b40.n (by omega)).trans jo_40
  have jl_41 : μ41.2.2.1 59 = (upr zi 0 (-1)) := (c41.lo b40.n (by omega)).trans jl_40
  show T _ _ _ _ _ _ _ _ 198 [some (.ref 0), some (.int (nI 5))] [.ref 264, .int (nI 5), .ref 96] μ41
  refine T_aast (pc := 198) (t := 1) (c := 9) (n := 16) (show KT 96 = (5, 16) by decide) (Or.inr ⟨rfl, rfl⟩) (show KT 264 = (0, 9) by decide) (by rw [b41.n]; omega) (by rw [b41.n]; omega) (vp_in_nI (n := 5) (by omega) (by omega)) dX11_init_198 ?_
  rw [nI_clamp (n := 5) (by omega)]
  have b42 : Bd 0 96 292 (upr (upr (upr (upr (upr (upr (upr (upr (upr (upr (upr (upr (upr (upr (upr z0 0 (1 + 1)) 1 (3 + 1)) 2 (31 + 1)) 3 (59 + 1)) 4 (62 + 1)) 5 (65 + 1)) 6 (93 + 1)) 8 (96 + 1)) 11 (97 + 1)) 12 (105 + 1)) 13 (109 + 1)) 14 (113 + 1)) 15 (116 + 1)) 16 (121 + 1)) 17 (122 + 1)) (upr (upr (upr (upr (upr (upr z0 0 (124 + 1)) 1 (152 + 1)) 2 (180 + 1)) 3 (208 + 1)) 4 (236 + 1)) 5 (264 + 1)) zi μ (mR μ41 96 5 (264 + 1)) := b41.ast (by omega)
  have jx_42 : (mR μ41 96 5 (264 + 1)).2.2.1 1 = (upr (upr zi 2 (-1)) 6 (-1)) := jx_41
  have jm_42 : (mR μ41 96 5 (264 + 1)).2.2.1 3 = (upr (upr zi 8 (nI 0)) 11 (nI 1)) := jm_41
  have jn_42 : (mR μ41 96 5 (264 + 1)).2.2.1 4 = zi := jn_41
  have jo_42 : (mR μ41 96 5 (264 + 1)).2.2.1 12 = w12 := jo_41
  have jl_42 : (mR μ41 96 5 (264 + 1)).2.2.1 59 = (upr zi 0 (-1)) := jl_41
  generalize mR μ41 96 5 (264 + 1) = μ42 at b42 jx_42 jm_42 jn_42 jo_42 jl_42 ⊢
  refine T_iinc (pc := 199) (i := 1) (v := nI 6) (ls' := [some (.ref 0), some (.int (nI 6))]) dX11_init_199 rfl (by decide) rfl ?_
  refine T_goto (pc := 202) (tgt := 180) dX11_init_202 (by decide) ?_
  refine T_iload_n (pc := 180) (i := 1) dX11_init_180 rfl rfl ?_
  refine T_bipush (pc := 181) (v := nI 16) dX11_init_181 (by decide) ?_
  refine T_icmp_ge (pc := 183) (tgt := 205) dX11_init_183 (by decide) (fun h => absurd h (by decide)) (fun _ => ?_)
  refine T_aload_n (pc := 186) (i := 0) dX11_init_186 rfl rfl ?_
  refine T_getR (pc := 187) (c := 11) (j := 8) (i := 96) fl_X11_42 rfl (show KT 0 = (0, 11) by decide) (by rw [b42.n]; omega) (by rw [b42.r]; rfl) dX11_init_187 ?_
  refine T_iload_n (pc := 190) (i := 1) dX11_init_190 rfl rfl ?_
  refine T_new (pc := 191) (c := 9) nw_X11_16 (by decide) (by rw [b42.n]; exact (show KT 292 = (0, 9) by decide)) (by rw [b42.n]; show _ < 595; omega) (Nat.le_of_ble_eq_true rfl) (Nat.le_of_ble_eq_true rfl) dX11_init_191 ?_
  rw [b42.n]
  refine T_dup (pc := 194) dX11_init_194 rfl ?_
  refine T_callI (pc := 195) (b := 292) (As := []) (rest := [.ref 292, .int (nI 6), .ref 96]) (Or.inl lk_X11_18) mk_X9_init rfl (i_X9 (show isTold 292 from memory_told (i := 6) (by decide)) (by omega) (by show μ42.1 + 1 = _; rw [b42.n]) (new_rz b42.n) (new_iz b42.n)) dX11_init_195 rfl rfl (Nat.le_of_ble_eq_true rfl) (by decide) rfl (Nat.le_of_ble_eq_true rfl) (Nat.le_of_ble_eq_true rfl) (fun E m' h => by obtain ⟨z, _⟩ := h; cases z) (fun v μ43 h => ?_)
  obtain ⟨h0, c43⟩ := h
  cases h0
  have b43 : Bd 0 96 320 (upr (upr (upr (upr (upr (upr (upr (upr (upr (upr (upr (upr (upr (upr (upr z0 0 (1 + 1)) 1 (3 + 1)) 2 (31 + 1)) 3 (59 + 1)) 4 (62 + 1)) 5 (65 + 1)) 6 (93 + 1)) 8 (96 + 1)) 11 (97 + 1)) 12 (105 + 1)) 13 (109 + 1)) 14 (113 + 1)) 15 (116 + 1)) 16 (121 + 1)) 17 (122 + 1)) (upr (upr (upr (upr (upr (upr z0 0 (124 + 1)) 1 (152 + 1)) 2 (180 + 1)) 3 (208 + 1)) 4 (236 + 1)) 5 (264 + 1)) zi μ μ43 := b42.call c43 (by omega)
  have jx_43 : μ43.2.2.1 1 = (upr (upr zi 2 (-1)) 6 (-1)) := (c43.lo b42.n (by omega)).trans jx_42
  have jm_43 : μ43.2.2.1 3 = (upr (upr zi 8 (nI 0)) 11 (nI 1)) := (c43.lo b42.n (by omega)).trans jm_42
  have jn_43 : μ43.2.2.1 4 = zi := (c43.lo b42.n (by omega)).trans jn_42
  have jo_43 : μ43.2.2.1 12 = w12 := (c43.lo b42.n (by omega)).trans jo_42
  have jl_43 : μ43.2.2.1 59 = (upr zi 0 (-1)) := (c43.lo b42.n (by omega)).trans jl_42
  show T _ _ _ _ _ _ _ _ 198 [some (.ref 0), some (.int (nI 6))] [.ref 292, .int (nI 6), .ref 96] μ43
  refine T_aast (pc := 198) (t := 1) (c := 9) (n := 16) (show KT 96 = (5, 16) by decide) (Or.inr ⟨rfl, rfl⟩) (show KT 292 = (0, 9) by decide) (by rw [b43.n]; omega) (by rw [b43.n]; omega) (vp_in_nI (n := 6) (by omega) (by omega)) dX11_init_198 ?_
  rw [nI_clamp (n := 6) (by omega)]
  have b44 : Bd 0 96 320 (upr (upr (upr (upr (upr (upr (upr (upr (upr (upr (upr (upr (upr (upr (upr z0 0 (1 + 1)) 1 (3 + 1)) 2 (31 + 1)) 3 (59 + 1)) 4 (62 + 1)) 5 (65 + 1)) 6 (93 + 1)) 8 (96 + 1)) 11 (97 + 1)) 12 (105 + 1)) 13 (109 + 1)) 14 (113 + 1)) 15 (116 + 1)) 16 (121 + 1)) 17 (122 + 1)) (upr (upr (upr (upr (upr (upr (upr z0 0 (124 + 1)) 1 (152 + 1)) 2 (180 + 1)) 3 (208 + 1)) 4 (236 + 1)) 5 (264 + 1)) 6 (292 + 1)) zi μ (mR μ43 96 6 (292 + 1)) := b43.ast (by omega)
  have jx_44 : (mR μ43 96 6 (292 + 1)).2.2.1 1 = (upr (upr zi 2 (-1)) 6 (-1)) := jx_43
  have jm_44 : (mR μ43 96 6 (292 + 1)).2.2.1 3 = (upr (upr zi 8 (nI 0)) 11 (nI 1)) := jm_43
  have jn_44 : (mR μ43 96 6 (292 + 1)).2.2.1 4 = zi := jn_43
  have jo_44 : (mR μ43 96 6 (292 + 1)).2.2.1 12 = w12 := jo_43
  have jl_44 : (mR μ43 96 6 (292 + 1)).2.2.1 59 = (upr zi 0 (-1)) := jl_43
  generalize mR μ43 96 6 (292 + 1) = μ44 at b44 jx_44 jm_44 jn_44 jo_44 jl_44 ⊢
  refine T_iinc (pc := 199) (i := 1) (v := nI 7) (ls' := [some (.ref 0), some (.int (nI 7))]) dX11_init_199 rfl (by decide) rfl ?_
  refine T_goto (pc := 202) (tgt := 180) dX11_init_202 (by decide) ?_
  refine T_iload_n (pc := 180) (i := 1) dX11_init_180 rfl rfl ?_
  refine T_bipush (pc := 181) (v := nI 16) dX11_init_181 (by decide) ?_
  refine T_icmp_ge (pc := 183) (tgt := 205) dX11_init_183 (by decide) (fun h => absurd h (by decide)) (fun _ => ?_)
  refine T_aload_n (pc := 186) (i := 0) dX11_init_186 rfl rfl ?_
  refine T_getR (pc := 187) (c := 11) (j := 8) (i := 96) fl_X11_42 rfl (show KT 0 = (0, 11) by decide) (by rw [b44.n]; omega) (by rw [b44.r]; rfl) dX11_init_187 ?_
  refine T_iload_n (pc := 190) (i := 1) dX11_init_190 rfl rfl ?_
  refine T_new (pc := 191) (c := 9) nw_X11_16 (by decide) (by rw [b44.n]; exact (show KT 320 = (0, 9) by decide)) (by rw [b44.n]; show _ < 595; omega) (Nat.le_of_ble_eq_true rfl) (Nat.le_of_ble_eq_true rfl) dX11_init_191 ?_
  rw [b44.n]
  refine T_dup (pc := 194) dX11_init_194 rfl ?_
  refine T_callI (pc := 195) (b := 320) (As := []) (rest := [.ref 320, .int (nI 7), .ref 96]) (Or.inl lk_X11_18) mk_X9_init rfl (i_X9 (show isTold 320 from memory_told (i := 7) (by decide)) (by omega) (by show μ44.1 + 1 = _; rw [b44.n]) (new_rz b44.n) (new_iz b44.n)) dX11_init_195 rfl rfl (Nat.le_of_ble_eq_true rfl) (by decide) rfl (Nat.le_of_ble_eq_true rfl) (Nat.le_of_ble_eq_true rfl) (fun E m' h => by obtain ⟨z, _⟩ := h; cases z) (fun v μ45 h => ?_)
  obtain ⟨h0, c45⟩ := h
  cases h0
  have b45 : Bd 0 96 348 (upr (upr (upr (upr (upr (upr (upr (upr (upr (upr (upr (upr (upr (upr (upr z0 0 (1 + 1)) 1 (3 + 1)) 2 (31 + 1)) 3 (59 + 1)) 4 (62 + 1)) 5 (65 + 1)) 6 (93 + 1)) 8 (96 + 1)) 11 (97 + 1)) 12 (105 + 1)) 13 (109 + 1)) 14 (113 + 1)) 15 (116 + 1)) 16 (121 + 1)) 17 (122 + 1)) (upr (upr (upr (upr (upr (upr (upr z0 0 (124 + 1)) 1 (152 + 1)) 2 (180 + 1)) 3 (208 + 1)) 4 (236 + 1)) 5 (264 + 1)) 6 (292 + 1)) zi μ μ45 := b44.call c45 (by omega)
  have jx_45 : μ45.2.2.1 1 = (upr (upr zi 2 (-1)) 6 (-1)) := (c45.lo b44.n (by omega)).trans jx_44
  have jm_45 : μ45.2.2.1 3 = (upr (upr zi 8 (nI 0)) 11 (nI 1)) := (c45.lo b44.n (by omega)).trans jm_44
  have jn_45 : μ45.2.2.1 4 = zi := (c45.lo b44.n (by omega)).trans jn_44
  have jo_45 : μ45.2.2.1 12 = w12 := (c45.lo b44.n (by omega)).trans jo_44
  have jl_45 : μ45.2.2.1 59 = (upr zi 0 (-1)) := (c45.lo b44.n (by omega)).trans jl_44
  show T _ _ _ _ _ _ _ _ 198 [some (.ref 0), some (.int (nI 7))] [.ref 320, .int (nI 7), .ref 96] μ45
  refine T_aast (pc := 198) (t := 1) (c := 9) (n := 16) (show KT 96 = (5, 16) by decide) (Or.inr ⟨rfl, rfl⟩) (show KT 320 = (0, 9) by decide) (by rw [b45.n]; omega) (by rw [b45.n]; omega) (vp_in_nI (n := 7) (by omega) (by omega)) dX11_init_198 ?_
  rw [nI_clamp (n := 7) (by omega)]
  have b46 : Bd 0 96 348 (upr (upr (upr (upr (upr (upr (upr (upr (upr (upr (upr (upr (upr (upr (upr z0 0 (1 + 1)) 1 (3 + 1)) 2 (31 + 1)) 3 (59 + 1)) 4 (62 + 1)) 5 (65 + 1)) 6 (93 + 1)) 8 (96 + 1)) 11 (97 + 1)) 12 (105 + 1)) 13 (109 + 1)) 14 (113 + 1)) 15 (116 + 1)) 16 (121 + 1)) 17 (122 + 1)) (upr (upr (upr (upr (upr (upr (upr (upr z0 0 (124 + 1)) 1 (152 + 1)) 2 (180 + 1)) 3 (208 + 1)) 4 (236 + 1)) 5 (264 + 1)) 6 (292 + 1)) 7 (320 + 1)) zi μ (mR μ45 96 7 (320 + 1)) := b45.ast (by omega)
  have jx_46 : (mR μ45 96 7 (320 + 1)).2.2.1 1 = (upr (upr zi 2 (-1)) 6 (-1)) := jx_45
  have jm_46 : (mR μ45 96 7 (320 + 1)).2.2.1 3 = (upr (upr zi 8 (nI 0)) 11 (nI 1)) := jm_45
  have jn_46 : (mR μ45 96 7 (320 + 1)).2.2.1 4 = zi := jn_45
  have jo_46 : (mR μ45 96 7 (320 + 1)).2.2.1 12 = w12 := jo_45
  have jl_46 : (mR μ45 96 7 (320 + 1)).2.2.1 59 = (upr zi 0 (-1)) := jl_45
  generalize mR μ45 96 7 (320 + 1) = μ46 at b46 jx_46 jm_46 jn_46 jo_46 jl_46 ⊢
  refine T_iinc (pc := 199) (i := 1) (v := nI 8) (ls' := [some (.ref 0), some (.int (nI 8))]) dX11_init_199 rfl (by decide) rfl ?_
  refine T_goto (pc := 202) (tgt := 180) dX11_init_202 (by decide) ?_
  refine T_iload_n (pc := 180) (i := 1) dX11_init_180 rfl rfl ?_
  refine T_bipush (pc := 181) (v := nI 16) dX11_init_181 (by decide) ?_
  refine T_icmp_ge (pc := 183) (tgt := 205) dX11_init_183 (by decide) (fun h => absurd h (by decide)) (fun _ => ?_)
  refine T_aload_n (pc := 186) (i := 0) dX11_init_186 rfl rfl ?_
  refine T_getR (pc := 187) (c := 11) (j := 8) (i := 96) fl_X11_42 rfl (show KT 0 = (0, 11) by decide) (by rw [b46.n]; omega) (by rw [b46.r]; rfl) dX11_init_187 ?_
  refine T_iload_n (pc := 190) (i := 1) dX11_init_190 rfl rfl ?_
  refine T_new (pc := 191) (c := 9) nw_X11_16 (by decide) (by rw [b46.n]; exact (show KT 348 = (0, 9) by decide)) (by rw [b46.n]; show _ < 595; omega) (Nat.le_of_ble_eq_true rfl) (Nat.le_of_ble_eq_true rfl) dX11_init_191 ?_
  rw [b46.n]
  refine T_dup (pc := 194) dX11_init_194 rfl ?_
  refine T_callI (pc := 195) (b := 348) (As := []) (rest := [.ref 348, .int (nI 8), .ref 96]) (Or.inl lk_X11_18) mk_X9_init rfl (i_X9 (show isTold 348 from memory_told (i := 8) (by decide)) (by omega) (by show μ46.1 + 1 = _; rw [b46.n]) (new_rz b46.n) (new_iz b46.n)) dX11_init_195 rfl rfl (Nat.le_of_ble_eq_true rfl) (by decide) rfl (Nat.le_of_ble_eq_true rfl) (Nat.le_of_ble_eq_true rfl) (fun E m' h => by obtain ⟨z, _⟩ := h; cases z) (fun v μ47 h => ?_)
  obtain ⟨h0, c47⟩ := h
  cases h0
  have b47 : Bd 0 96 376 (upr (upr (upr (upr (upr (upr (upr (upr (upr (upr (upr (upr (upr (upr (upr z0 0 (1 + 1)) 1 (3 + 1)) 2 (31 + 1)) 3 (59 + 1)) 4 (62 + 1)) 5 (65 + 1)) 6 (93 + 1)) 8 (96 + 1)) 11 (97 + 1)) 12 (105 + 1)) 13 (109 + 1)) 14 (113 + 1)) 15 (116 + 1)) 16 (121 + 1)) 17 (122 + 1)) (upr (upr (upr (upr (upr (upr (upr (upr z0 0 (124 + 1)) 1 (152 + 1)) 2 (180 + 1)) 3 (208 + 1)) 4 (236 + 1)) 5 (264 + 1)) 6 (292 + 1)) 7 (320 + 1)) zi μ μ47 := b46.call c47 (by omega)
  have jx_47 : μ47.2.2.1 1 = (upr (upr zi 2 (-1)) 6 (-1)) := (c47.lo b46.n (by omega)).trans jx_46
  have jm_47 : μ47.2.2.1 3 = (upr (upr zi 8 (nI 0)) 11 (nI 1)) := (c47.lo b46.n (by omega)).trans jm_46
  have jn_47 : μ47.2.2.1 4 = zi := (c47.lo b46.n (by omega)).trans jn_46
  have jo_47 : μ47.2.2.1 12 = w12 := (c47.lo b46.n (by omega)).trans jo_46
  have jl_47 : μ47.2.2.1 59 = (upr zi 0 (-1)) := (c47.lo b46.n (by omega)).trans jl_46
  show T _ _ _ _ _ _ _ _ 198 [some (.ref 0), some (.int (nI 8))] [.ref 348, .int (nI 8), .ref 96] μ47
  refine T_aast (pc := 198) (t := 1) (c := 9) (n := 16) (show KT 96 = (5, 16) by decide) (Or.inr ⟨rfl, rfl⟩) (show KT 348 = (0, 9) by decide) (by rw [b47.n]; omega) (by rw [b47.n]; omega) (vp_in_nI (n := 8) (by omega) (by omega)) dX11_init_198 ?_
  rw [nI_clamp (n := 8) (by omega)]
  have b48 : Bd 0 96 376 (upr (upr (upr (upr (upr (upr (upr (upr (upr (upr (upr (upr (upr (upr (upr z0 0 (1 + 1)) 1 (3 + 1)) 2 (31 + 1)) 3 (59 + 1)) 4 (62 + 1)) 5 (65 + 1)) 6 (93 + 1)) 8 (96 + 1)) 11 (97 + 1)) 12 (105 + 1)) 13 (109 + 1)) 14 (113 + 1)) 15 (116 + 1)) 16 (121 + 1)) 17 (122 + 1)) (upr (upr (upr (upr (upr (upr (upr (upr (upr z0 0 (124 + 1)) 1 (152 + 1)) 2 (180 + 1)) 3 (208 + 1)) 4 (236 + 1)) 5 (264 + 1)) 6 (292 + 1)) 7 (320 + 1)) 8 (348 + 1)) zi μ (mR μ47 96 8 (348 + 1)) := b47.ast (by omega)
  have jx_48 : (mR μ47 96 8 (348 + 1)).2.2.1 1 = (upr (upr zi 2 (-1)) 6 (-1)) := jx_47
  have jm_48 : (mR μ47 96 8 (348 + 1)).2.2.1 3 = (upr (upr zi 8 (nI 0)) 11 (nI 1)) := jm_47
  have jn_48 : (mR μ47 96 8 (348 + 1)).2.2.1 4 = zi := jn_47
  have jo_48 : (mR μ47 96 8 (348 + 1)).2.2.1 12 = w12 := jo_47
  have jl_48 : (mR μ47 96 8 (348 + 1)).2.2.1 59 = (upr zi 0 (-1)) := jl_47
  generalize mR μ47 96 8 (348 + 1) = μ48 at b48 jx_48 jm_48 jn_48 jo_48 jl_48 ⊢
  refine T_iinc (pc := 199) (i := 1) (v := nI 9) (ls' := [some (.ref 0), some (.int (nI 9))]) dX11_init_199 rfl (by decide) rfl ?_
  refine T_goto (pc := 202) (tgt := 180) dX11_init_202 (by decide) ?_
  refine T_iload_n (pc := 180) (i := 1) dX11_init_180 rfl rfl ?_
  refine T_bipush (pc := 181) (v := nI 16) dX11_init_181 (by decide) ?_
  refine T_icmp_ge (pc := 183) (tgt := 205) dX11_init_183 (by decide) (fun h => absurd h (by decide)) (fun _ => ?_)
  refine T_aload_n (pc := 186) (i := 0) dX11_init_186 rfl rfl ?_
  refine T_getR (pc := 187) (c := 11) (j := 8) (i := 96) fl_X11_42 rfl (show KT 0 = (0, 11) by decide) (by rw [b48.n]; omega) (by rw [b48.r]; rfl) dX11_init_187 ?_
  refine T_iload_n (pc := 190) (i := 1) dX11_init_190 rfl rfl ?_
  refine T_new (pc := 191) (c := 9) nw_X11_16 (by decide) (by rw [b48.n]; exact (show KT 376 = (0, 9) by decide)) (by rw [b48.n]; show _ < 595; omega) (Nat.le_of_ble_eq_true rfl) (Nat.le_of_ble_eq_true rfl) dX11_init_191 ?_
  rw [b48.n]
  refine T_dup (pc := 194) dX11_init_194 rfl ?_
  refine T_callI (pc := 195) (b := 376) (As := []) (rest := [.ref 376, .int (nI 9), .ref 96]) (Or.inl lk_X11_18) mk_X9_init rfl (i_X9 (show isTold 376 from memory_told (i := 9) (by decide)) (by omega) (by show μ48.1 + 1 = _; rw [b48.n]) (new_rz b48.n) (new_iz b48.n)) dX11_init_195 rfl rfl (Nat.le_of_ble_eq_true rfl) (by decide) rfl (Nat.le_of_ble_eq_true rfl) (Nat.le_of_ble_eq_true rfl) (fun E m' h => by obtain ⟨z, _⟩ := h; cases z) (fun v μ49 h => ?_)
  obtain ⟨h0, c49⟩ := h
  cases h0
  have b49 : Bd 0 96 404 (upr (upr (upr (upr (upr (upr (upr (upr (upr (upr (upr (upr (upr (upr (upr z0 0 (1 + 1)) 1 (3 + 1)) 2 (31 + 1)) 3 (59 + 1)) 4 (62 + 1)) 5 (65 + 1)) 6 (93 + 1)) 8 (96 + 1)) 11 (97 + 1)) 12 (105 + 1)) 13 (109 + 1)) 14 (113 + 1)) 15 (116 + 1)) 16 (121 + 1)) 17 (122 + 1)) (upr (upr (upr (upr (upr (upr (upr (upr (upr z0 0 (124 + 1)) 1 (152 + 1)) 2 (180 + 1)) 3 (208 + 1)) 4 (236 + 1)) 5 (264 + 1)) 6 (292 + 1)) 7 (320 + 1)) 8 (348 + 1)) zi μ μ49 := b48.call c49 (by omega)
  have jx_49 : μ49.2.2.1 1 = (upr (upr zi 2 (-1)) 6 (-1)) := (c49.lo b48.n (by omega)).trans jx_48
  have jm_49 : μ49.2.2.1 3 = (upr (upr zi 8 (nI 0)) 11 (nI 1)) := (c49.lo b48.n (by omega)).trans jm_48
  have jn_49 : μ49.2.2.1 4 = zi := (c49.lo b48.n (by omega)).trans jn_48
  have jo_49 : μ49.2.2.1 12 = w12 := (c49.lo b48.n (by omega)).trans jo_48
  have jl_49 : μ49.2.2.1 59 = (upr zi 0 (-1)) := (c49.lo b48.n (by omega)).trans jl_48
  show T _ _ _ _ _ _ _ _ 198 [some (.ref 0), some (.int (nI 9))] [.ref 376, .int (nI 9), .ref 96] μ49
  refine T_aast (pc := 198) (t := 1) (c := 9) (n := 16) (show KT 96 = (5, 16) by decide) (Or.inr ⟨rfl, rfl⟩) (show KT 376 = (0, 9) by decide) (by rw [b49.n]; omega) (by rw [b49.n]; omega) (vp_in_nI (n := 9) (by omega) (by omega)) dX11_init_198 ?_
  rw [nI_clamp (n := 9) (by omega)]
  have b50 : Bd 0 96 404 (upr (upr (upr (upr (upr (upr (upr (upr (upr (upr (upr (upr (upr (upr (upr z0 0 (1 + 1)) 1 (3 + 1)) 2 (31 + 1)) 3 (59 + 1)) 4 (62 + 1)) 5 (65 + 1)) 6 (93 + 1)) 8 (96 + 1)) 11 (97 + 1)) 12 (105 + 1)) 13 (109 + 1)) 14 (113 + 1)) 15 (116 + 1)) 16 (121 + 1)) 17 (122 + 1)) (upr (upr (upr (upr (upr (upr (upr (upr (upr (upr z0 0 (124 + 1)) 1 (152 + 1)) 2 (180 + 1)) 3 (208 + 1)) 4 (236 + 1)) 5 (264 + 1)) 6 (292 + 1)) 7 (320 + 1)) 8 (348 + 1)) 9 (376 + 1)) zi μ (mR μ49 96 9 (376 + 1)) := b49.ast (by omega)
  have jx_50 : (mR μ49 96 9 (376 + 1)).2.2.1 1 = (upr (upr zi 2 (-1)) 6 (-1)) := jx_49
  have jm_50 : (mR μ49 96 9 (376 + 1)).2.2.1 3 = (upr (upr zi 8 (nI 0)) 11 (nI 1)) := jm_49
  have jn_50 : (mR μ49 96 9 (376 + 1)).2.2.1 4 = zi := jn_49
  have jo_50 : (mR μ49 96 9 (376 + 1)).2.2.1 12 = w12 := jo_49
  have jl_50 : (mR μ49 96 9 (376 + 1)).2.2.1 59 = (upr zi 0 (-1)) := jl_49
  generalize mR μ49 96 9 (376 + 1) = μ50 at b50 jx_50 jm_50 jn_50 jo_50 jl_50 ⊢
  refine T_iinc (pc := 199) (i := 1) (v := nI 10) (ls' := [some (.ref 0), some (.int (nI 10))]) dX11_init_199 rfl (by decide) rfl ?_
  refine T_goto (pc := 202) (tgt := 180) dX11_init_202 (by decide) ?_
  refine T_iload_n (pc := 180) (i := 1) dX11_init_180 rfl rfl ?_
  refine T_bipush (pc := 181) (v := nI 16) dX11_init_181 (by decide) ?_
  refine T_icmp_ge (pc := 183) (tgt := 205) dX11_init_183 (by decide) (fun h => absurd h (by decide)) (fun _ => ?_)
  refine T_aload_n (pc := 186) (i := 0) dX11_init_186 rfl rfl ?_
  refine T_getR (pc := 187) (c := 11) (j := 8) (i := 96) fl_X11_42 rfl (show KT 0 = (0, 11) by decide) (by rw [b50.n]; omega) (by rw [b50.r]; rfl) dX11_init_187 ?_
  refine T_iload_n (pc := 190) (i := 1) dX11_init_190 rfl rfl ?_
  refine T_new (pc := 191) (c := 9) nw_X11_16 (by decide) (by rw [b50.n]; exact (show KT 404 = (0, 9) by decide)) (by rw [b50.n]; show _ < 595; omega) (Nat.le_of_ble_eq_true rfl) (Nat.le_of_ble_eq_true rfl) dX11_init_191 ?_
  rw [b50.n]
  refine T_dup (pc := 194) dX11_init_194 rfl ?_
  refine T_callI (pc := 195) (b := 404) (As := []) (rest := [.ref 404, .int (nI 10), .ref 96]) (Or.inl lk_X11_18) mk_X9_init rfl (i_X9 (show isTold 404 from memory_told (i := 10) (by decide)) (by omega) (by show μ50.1 + 1 = _; rw [b50.n]) (new_rz b50.n) (new_iz b50.n)) dX11_init_195 rfl rfl (Nat.le_of_ble_eq_true rfl) (by decide) rfl (Nat.le_of_ble_eq_true rfl) (Nat.le_of_ble_eq_true rfl) (fun E m' h => by obtain ⟨z, _⟩ := h; cases z) (fun v μ51 h => ?_)
  obtain ⟨h0, c51⟩ := h
  cases h0
  have b51 : Bd 0 96 432 (upr (upr (upr (upr (upr (upr (upr (upr (upr (upr (upr (upr (upr (upr (upr z0 0 (1 + 1)) 1 (3 + 1)) 2 (31 + 1)) 3 (59 + 1)) 4 (62 + 1)) 5 (65 + 1)) 6 (93 + 1)) 8 (96 + 1)) 11 (97 + 1)) 12 (105 + 1)) 13 (109 + 1)) 14 (113 + 1)) 15 (116 + 1)) 16 (121 + 1)) 17 (122 + 1)) (upr (upr (upr (upr (upr (upr (upr (upr (upr (upr z0 0 (124 + 1)) 1 (152 + 1)) 2 (180 + 1)) 3 (208 + 1)) 4 (236 + 1)) 5 (264 + 1)) 6 (292 + 1)) 7 (320 + 1)) 8 (348 + 1)) 9 (376 + 1)) zi μ μ51 := b50.call c51 (by omega)
  have jx_51 : μ51.2.2.1 1 = (upr (upr zi 2 (-1)) 6 (-1)) := (c51.lo b50.n (by omega)).trans jx_50
  have jm_51 : μ51.2.2.1 3 = (upr (upr zi 8 (nI 0)) 11 (nI 1)) := (c51.lo b50.n (by omega)).trans jm_50
  have jn_51 : μ51.2.2.1 4 = zi := (c51.lo b50.n (by omega)).trans jn_50
  have jo_51 : μ51.2.2.1 12 = w12 := (c51.lo b50.n (by omega)).trans jo_50
  have jl_51 : μ51.2.2.1 59 = (upr zi 0 (-1)) := (c51.lo b50.n (by omega)).trans jl_50
  show T _ _ _ _ _ _ _ _ 198 [some (.ref 0), some (.int (nI 10))] [.ref 404, .int (nI 10), .ref 96] μ51
  refine T_aast (pc := 198) (t := 1) (c := 9) (n := 16) (show KT 96 = (5, 16) by decide) (Or.inr ⟨rfl, rfl⟩) (show KT 404 = (0, 9) by decide) (by rw [b51.n]; omega) (by rw [b51.n]; omega) (vp_in_nI (n := 10) (by omega) (by omega)) dX11_init_198 ?_
  rw [nI_clamp (n := 10) (by omega)]
  have b52 : Bd 0 96 432 (upr (upr (upr (upr (upr (upr (upr (upr (upr (upr (upr (upr (upr (upr (upr z0 0 (1 + 1)) 1 (3 + 1)) 2 (31 + 1)) 3 (59 + 1)) 4 (62 + 1)) 5 (65 + 1)) 6 (93 + 1)) 8 (96 + 1)) 11 (97 + 1)) 12 (105 + 1)) 13 (109 + 1)) 14 (113 + 1)) 15 (116 + 1)) 16 (121 + 1)) 17 (122 + 1)) (upr (upr (upr (upr (upr (upr (upr (upr (upr (upr (upr z0 0 (124 + 1)) 1 (152 + 1)) 2 (180 + 1)) 3 (208 + 1)) 4 (236 + 1)) 5 (264 + 1)) 6 (292 + 1)) 7 (320 + 1)) 8 (348 + 1)) 9 (376 + 1)) 10 (404 + 1)) zi μ (mR μ51 96 10 (404 + 1)) := b51.ast (by omega)
  have jx_52 : (mR μ51 96 10 (404 + 1)).2.2.1 1 = (upr (upr zi 2 (-1)) 6 (-1)) := jx_51
  have jm_52 : (mR μ51 96 10 (404 + 1)).2.2.1 3 = (upr (upr zi 8 (nI 0)) 11 (nI 1)) := jm_51
  have jn_52 : (mR μ51 96 10 (404 + 1)).2.2.1 4 = zi := jn_51
  have jo_52 : (mR μ51 96 10 (404 + 1)).2.2.1 12 = w12 := jo_51
  have jl_52 : (mR μ51 96 10 (404 + 1)).2.2.1 59 = (upr zi 0 (-1)) := jl_51
  generalize mR μ51 96 10 (404 + 1) = μ52 at b52 jx_52 jm_52 jn_52 jo_52 jl_52 ⊢
  refine T_iinc (pc := 199) (i := 1) (v := nI 11) (ls' := [some (.ref 0), some (.int (nI 11))]) dX11_init_199 rfl (by decide) rfl ?_
  refine T_goto (pc := 202) (tgt := 180) dX11_init_202 (by decide) ?_
  refine T_iload_n (pc := 180) (i := 1) dX11_init_180 rfl rfl ?_
  refine T_bipush (pc := 181) (v := nI 16) dX11_init_181 (by decide) ?_
  refine T_icmp_ge (pc := 183) (tgt := 205) dX11_init_183 (by decide) (fun h => absurd h (by decide)) (fun _ => ?_)
  refine T_aload_n (pc := 186) (i := 0) dX11_init_186 rfl rfl ?_
  refine T_getR (pc := 187) (c := 11) (j := 8) (i := 96) fl_X11_42 rfl (show KT 0 = (0, 11) by decide) (by rw [b52.n]; omega) (by rw [b52.r]; rfl) dX11_init_187 ?_
  refine T_iload_n (pc := 190) (i := 1) dX11_init_190 rfl rfl ?_
  refine T_new (pc := 191) (c := 9) nw_X11_16 (by decide) (by rw [b52.n]; exact (show KT 432 = (0, 9) by decide)) (by rw [b52.n]; show _ < 595; omega) (Nat.le_of_ble_eq_true rfl) (Nat.le_of_ble_eq_true rfl) dX11_init_191 ?_
  rw [b52.n]
  refine T_dup (pc := 194) dX11_init_194 rfl ?_
  refine T_callI (pc := 195) (b := 432) (As := []) (rest := [.ref 432, .int (nI 11), .ref 96]) (Or.inl lk_X11_18) mk_X9_init rfl (i_X9 (show isTold 432 from memory_told (i := 11) (by decide)) (by omega) (by show μ52.1 + 1 = _; rw [b52.n]) (new_rz b52.n) (new_iz b52.n)) dX11_init_195 rfl rfl (Nat.le_of_ble_eq_true rfl) (by decide) rfl (Nat.le_of_ble_eq_true rfl) (Nat.le_of_ble_eq_true rfl) (fun E m' h => by obtain ⟨z, _⟩ := h; cases z) (fun v μ53 h => ?_)
  obtain ⟨h0, c53⟩ := h
  cases h0
  have b53 : Bd 0 96 460 (upr (upr (upr (upr (upr (upr (upr (upr (upr (upr (upr (upr (upr (upr (upr z0 0 (1 + 1)) 1 (3 + 1)) 2 (31 + 1)) 3 (59 + 1)) 4 (62 + 1)) 5 (65 + 1)) 6 (93 + 1)) 8 (96 + 1)) 11 (97 + 1)) 12 (105 + 1)) 13 (109 + 1)) 14 (113 + 1)) 15 (116 + 1)) 16 (121 + 1)) 17 (122 + 1)) (upr (upr (upr (upr (upr (upr (upr (upr (upr (upr (upr z0 0 (124 + 1)) 1 (152 + 1)) 2 (180 + 1)) 3 (208 + 1)) 4 (236 + 1)) 5 (264 + 1)) 6 (292 + 1)) 7 (320 + 1)) 8 (348 + 1)) 9 (376 + 1)) 10 (404 + 1)) zi μ μ53 := b52.call c53 (by omega)
  have jx_53 : μ53.2.2.1 1 = (upr (upr zi 2 (-1)) 6 (-1)) := (c53.lo b52.n (by omega)).trans jx_52
  have jm_53 : μ53.2.2.1 3 = (upr (upr zi 8 (nI 0)) 11 (nI 1)) := (c53.lo b52.n (by omega)).trans jm_52
  have jn_53 : μ53.2.2.1 4 = zi := (c53.lo b52.n (by omega)).trans jn_52
  have jo_53 : μ53.2.2.1 12 = w12 := (c53.lo b52.n (by omega)).trans jo_52
  have jl_53 : μ53.2.2.1 59 = (upr zi 0 (-1)) := (c53.lo b52.n (by omega)).trans jl_52
  show T _ _ _ _ _ _ _ _ 198 [some (.ref 0), some (.int (nI 11))] [.ref 432, .int (nI 11), .ref 96] μ53
  refine T_aast (pc := 198) (t := 1) (c := 9) (n := 16) (show KT 96 = (5, 16) by decide) (Or.inr ⟨rfl, rfl⟩) (show KT 432 = (0, 9) by decide) (by rw [b53.n]; omega) (by rw [b53.n]; omega) (vp_in_nI (n := 11) (by omega) (by omega)) dX11_init_198 ?_
  rw [nI_clamp (n := 11) (by omega)]
  have b54 : Bd 0 96 460 (upr (upr (upr (upr (upr (upr (upr (upr (upr (upr (upr (upr (upr (upr (upr z0 0 (1 + 1)) 1 (3 + 1)) 2 (31 + 1)) 3 (59 + 1)) 4 (62 + 1)) 5 (65 + 1)) 6 (93 + 1)) 8 (96 + 1)) 11 (97 + 1)) 12 (105 + 1)) 13 (109 + 1)) 14 (113 + 1)) 15 (116 + 1)) 16 (121 + 1)) 17 (122 + 1)) (upr (upr (upr (upr (upr (upr (upr (upr (upr (upr (upr (upr z0 0 (124 + 1)) 1 (152 + 1)) 2 (180 + 1)) 3 (208 + 1)) 4 (236 + 1)) 5 (264 + 1)) 6 (292 + 1)) 7 (320 + 1)) 8 (348 + 1)) 9 (376 + 1)) 10 (404 + 1)) 11 (432 + 1)) zi μ (mR μ53 96 11 (432 + 1)) := b53.ast (by omega)
  have jx_54 : (mR μ53 96 11 (432 + 1)).2.2.1 1 = (upr (upr zi 2 (-1)) 6 (-1)) := jx_53
  have jm_54 : (mR μ53 96 11 (432 + 1)).2.2.1 3 = (upr (upr zi 8 (nI 0)) 11 (nI 1)) := jm_53
  have jn_54 : (mR μ53 96 11 (432 + 1)).2.2.1 4 = zi := jn_53
  have jo_54 : (mR μ53 96 11 (432 + 1)).2.2.1 12 = w12 := jo_53
  have jl_54 : (mR μ53 96 11 (432 + 1)).2.2.1 59 = (upr zi 0 (-1)) := jl_53
  generalize mR μ53 96 11 (432 + 1) = μ54 at b54 jx_54 jm_54 jn_54 jo_54 jl_54 ⊢
  refine T_iinc (pc := 199) (i := 1) (v := nI 12) (ls' := [some (.ref 0), some (.int (nI 12))]) dX11_init_199 rfl (by decide) rfl ?_
  refine T_goto (pc := 202) (tgt := 180) dX11_init_202 (by decide) ?_
  refine T_iload_n (pc := 180) (i := 1) dX11_init_180 rfl rfl ?_
  refine T_bipush (pc := 181) (v := nI 16) dX11_init_181 (by decide) ?_
  refine T_icmp_ge (pc := 183) (tgt := 205) dX11_init_183 (by decide) (fun h => absurd h (by decide)) (fun _ => ?_)
  refine T_aload_n (pc := 186) (i := 0) dX11_init_186 rfl rfl ?_
  refine T_getR (pc := 187) (c := 11) (j := 8) (i := 96) fl_X11_42 rfl (show KT 0 = (0, 11) by decide) (by rw [b54.n]; omega) (by rw [b54.r]; rfl) dX11_init_187 ?_
  refine T_iload_n (pc := 190) (i := 1) dX11_init_190 rfl rfl ?_
  refine T_new (pc := 191) (c := 9) nw_X11_16 (by decide) (by rw [b54.n]; exact (show KT 460 = (0, 9) by decide)) (by rw [b54.n]; show _ < 595; omega) (Nat.le_of_ble_eq_true rfl) (Nat.le_of_ble_eq_true rfl) dX11_init_191 ?_
  rw [b54.n]
  refine T_dup (pc := 194) dX11_init_194 rfl ?_
  refine T_callI (pc := 195) (b := 460) (As := []) (rest := [.ref 460, .int (nI 12), .ref 96]) (Or.inl lk_X11_18) mk_X9_init rfl (i_X9 (show isTold 460 from memory_told (i := 12) (by decide)) (by omega) (by show μ54.1 + 1 = _; rw [b54.n]) (new_rz b54.n) (new_iz b54.n)) dX11_init_195 rfl rfl (Nat.le_of_ble_eq_true rfl) (by decide) rfl (Nat.le_of_ble_eq_true rfl) (Nat.le_of_ble_eq_true rfl) (fun E m' h => by obtain ⟨z, _⟩ := h; cases z) (fun v μ55 h => ?_)
  obtain ⟨h0, c55⟩ := h
  cases h0
  have b55 : Bd 0 96 488 (upr (upr (upr (upr (upr (upr (upr (upr (upr (upr (upr (upr (upr (upr (upr z0 0 (1 + 1)) 1 (3 + 1)) 2 (31 + 1)) 3 (59 + 1)) 4 (62 + 1)) 5 (65 + 1)) 6 (93 + 1)) 8 (96 + 1)) 11 (97 + 1)) 12 (105 + 1)) 13 (109 + 1)) 14 (113 + 1)) 15 (116 + 1)) 16 (121 + 1)) 17 (122 + 1)) (upr (upr (upr (upr (upr (upr (upr (upr (upr (upr (upr (upr z0 0 (124 + 1)) 1 (152 + 1)) 2 (180 + 1)) 3 (208 + 1)) 4 (236 + 1)) 5 (264 + 1)) 6 (292 + 1)) 7 (320 + 1)) 8 (348 + 1)) 9 (376 + 1)) 10 (404 + 1)) 11 (432 + 1)) zi μ μ55 := b54.call c55 (by omega)
  have jx_55 : μ55.2.2.1 1 = (upr (upr zi 2 (-1)) 6 (-1)) := (c55.lo b54.n (by omega)).trans jx_54
  have jm_55 : μ55.2.2.1 3 = (upr (upr zi 8 (nI 0)) 11 (nI 1)) := (c55.lo b54.n (by omega)).trans jm_54
  have jn_55 : μ55.2.2.1 4 = zi := (c55.lo b54.n (by omega)).trans jn_54
  have jo_55 : μ55.2.2.1 12 = w12 := (c55.lo b54.n (by omega)).trans jo_54
  have jl_55 : μ55.2.2.1 59 = (upr zi 0 (-1)) := (c55.lo b54.n (by omega)).trans jl_54
  show T _ _ _ _ _ _ _ _ 198 [some (.ref 0), some (.int (nI 12))] [.ref 460, .int (nI 12), .ref 96] μ55
  refine T_aast (pc := 198) (t := 1) (c := 9) (n := 16) (show KT 96 = (5, 16) by decide) (Or.inr ⟨rfl, rfl⟩) (show KT 460 = (0, 9) by decide) (by rw [b55.n]; omega) (by rw [b55.n]; omega) (vp_in_nI (n := 12) (by omega) (by omega)) dX11_init_198 ?_
  rw [nI_clamp (n := 12) (by omega)]
  have b56 : Bd 0 96 488 (upr (upr (upr (upr (upr (upr (upr (upr (upr (upr (upr (upr (upr (upr (upr z0 0 (1 + 1)) 1 (3 + 1)) 2 (31 + 1)) 3 (59 + 1)) 4 (62 + 1)) 5 (65 + 1)) 6 (93 + 1)) 8 (96 + 1)) 11 (97 + 1)) 12 (105 + 1)) 13 (109 + 1)) 14 (113 + 1)) 15 (116 + 1)) 16 (121 + 1)) 17 (122 + 1)) (upr (upr (upr (upr (upr (upr (upr (upr (upr (upr (upr (upr (upr z0 0 (124 + 1)) 1 (152 + 1)) 2 (180 + 1)) 3 (208 + 1)) 4 (236 + 1)) 5 (264 + 1)) 6 (292 + 1)) 7 (320 + 1)) 8 (348 + 1)) 9 (376 + 1)) 10 (404 + 1)) 11 (432 + 1)) 12 (460 + 1)) zi μ (mR μ55 96 12 (460 + 1)) := b55.ast (by omega)
  have jx_56 : (mR μ55 96 12 (460 + 1)).2.2.1 1 = (upr (upr zi 2 (-1)) 6 (-1)) := jx_55
  have jm_56 : (mR μ55 96 12 (460 + 1)).2.2.1 3 = (upr (upr zi 8 (nI 0)) 11 (nI 1)) := jm_55
  have jn_56 : (mR μ55 96 12 (460 + 1)).2.2.1 4 = zi := jn_55
  have jo_56 : (mR μ55 96 12 (460 + 1)).2.2.1 12 = w12 := jo_55
  have jl_56 : (mR μ55 96 12 (460 + 1)).2.2.1 59 = (upr zi 0 (-1)) := jl_55
  generalize mR μ55 96 12 (460 + 1) = μ56 at b56 jx_56 jm_56 jn_56 jo_56 jl_56 ⊢
  refine T_iinc (pc := 199) (i := 1) (v := nI 13) (ls' := [some (.ref 0), some (.int (nI 13))]) dX11_init_199 rfl (by decide) rfl ?_
  refine T_goto (pc := 202) (tgt := 180) dX11_init_202 (by decide) ?_
  refine T_iload_n (pc := 180) (i := 1) dX11_init_180 rfl rfl ?_
  refine T_bipush (pc := 181) (v := nI 16) dX11_init_181 (by decide) ?_
  refine T_icmp_ge (pc := 183) (tgt := 205) dX11_init_183 (by decide) (fun h => absurd h (by decide)) (fun _ => ?_)
  refine T_aload_n (pc := 186) (i := 0) dX11_init_186 rfl rfl ?_
  refine T_getR (pc := 187) (c := 11) (j := 8) (i := 96) fl_X11_42 rfl (show KT 0 = (0, 11) by decide) (by rw [b56.n]; omega) (by rw [b56.r]; rfl) dX11_init_187 ?_
  refine T_iload_n (pc := 190) (i := 1) dX11_init_190 rfl rfl ?_
  refine T_new (pc := 191) (c := 9) nw_X11_16 (by decide) (by rw [b56.n]; exact (show KT 488 = (0, 9) by decide)) (by rw [b56.n]; show _ < 595; omega) (Nat.le_of_ble_eq_true rfl) (Nat.le_of_ble_eq_true rfl) dX11_init_191 ?_
  rw [b56.n]
  refine T_dup (pc := 194) dX11_init_194 rfl ?_
  refine T_callI (pc := 195) (b := 488) (As := []) (rest := [.ref 488, .int (nI 13), .ref 96]) (Or.inl lk_X11_18) mk_X9_init rfl (i_X9 (show isTold 488 from memory_told (i := 13) (by decide)) (by omega) (by show μ56.1 + 1 = _; rw [b56.n]) (new_rz b56.n) (new_iz b56.n)) dX11_init_195 rfl rfl (Nat.le_of_ble_eq_true rfl) (by decide) rfl (Nat.le_of_ble_eq_true rfl) (Nat.le_of_ble_eq_true rfl) (fun E m' h => by obtain ⟨z, _⟩ := h; cases z) (fun v μ57 h => ?_)
  obtain ⟨h0, c57⟩ := h
  cases h0
  have b57 : Bd 0 96 516 (upr (upr (upr (upr (upr (upr (upr (upr (upr (upr (upr (upr (upr (upr (upr z0 0 (1 + 1)) 1 (3 + 1)) 2 (31 + 1)) 3 (59 + 1)) 4 (62 + 1)) 5 (65 + 1)) 6 (93 + 1)) 8 (96 + 1)) 11 (97 + 1)) 12 (105 + 1)) 13 (109 + 1)) 14 (113 + 1)) 15 (116 + 1)) 16 (121 + 1)) 17 (122 + 1)) (upr (upr (upr (upr (upr (upr (upr (upr (upr (upr (upr (upr (upr z0 0 (124 + 1)) 1 (152 + 1)) 2 (180 + 1)) 3 (208 + 1)) 4 (236 + 1)) 5 (264 + 1)) 6 (292 + 1)) 7 (320 + 1)) 8 (348 + 1)) 9 (376 + 1)) 10 (404 + 1)) 11 (432 + 1)) 12 (460 + 1)) zi μ μ57 := b56.call c57 (by omega)
  have jx_57 : μ57.2.2.1 1 = (upr (upr zi 2 (-1)) 6 (-1)) := (c57.lo b56.n (by omega)).trans jx_56
  have jm_57 : μ57.2.2.1 3 = (upr (upr zi 8 (nI 0)) 11 (nI 1)) := (c57.lo b56.n (by omega)).trans jm_56
  have jn_57 : μ57.2.2.1 4 = zi := (c57.lo b56.n (by omega)).trans jn_56
  have jo_57 : μ57.2.2.1 12 = w12 := (c57.lo b56.n (by omega)).trans jo_56
  have jl_57 : μ57.2.2.1 59 = (upr zi 0 (-1)) := (c57.lo b56.n (by omega)).trans jl_56
  show T _ _ _ _ _ _ _ _ 198 [some (.ref 0), some (.int (nI 13))] [.ref 488, .int (nI 13), .ref 96] μ57
  refine T_aast (pc := 198) (t := 1) (c := 9) (n := 16) (show KT 96 = (5, 16) by decide) (Or.inr ⟨rfl, rfl⟩) (show KT 488 = (0, 9) by decide) (by rw [b57.n]; omega) (by rw [b57.n]; omega) (vp_in_nI (n := 13) (by omega) (by omega)) dX11_init_198 ?_
  rw [nI_clamp (n := 13) (by omega)]
  have b58 : Bd 0 96 516 (upr (upr (upr (upr (upr (upr (upr (upr (upr (upr (upr (upr (upr (upr (upr z0 0 (1 + 1)) 1 (3 + 1)) 2 (31 + 1)) 3 (59 + 1)) 4 (62 + 1)) 5 (65 + 1)) 6 (93 + 1)) 8 (96 + 1)) 11 (97 + 1)) 12 (105 + 1)) 13 (109 + 1)) 14 (113 + 1)) 15 (116 + 1)) 16 (121 + 1)) 17 (122 + 1)) (upr (upr (upr (upr (upr (upr (upr (upr (upr (upr (upr (upr (upr (upr z0 0 (124 + 1)) 1 (152 + 1)) 2 (180 + 1)) 3 (208 + 1)) 4 (236 + 1)) 5 (264 + 1)) 6 (292 + 1)) 7 (320 + 1)) 8 (348 + 1)) 9 (376 + 1)) 10 (404 + 1)) 11 (432 + 1)) 12 (460 + 1)) 13 (488 + 1)) zi μ (mR μ57 96 13 (488 + 1)) := b57.ast (by omega)
  have jx_58 : (mR μ57 96 13 (488 + 1)).2.2.1 1 = (upr (upr zi 2 (-1)) 6 (-1)) := jx_57
  have jm_58 : (mR μ57 96 13 (488 + 1)).2.2.1 3 = (upr (upr zi 8 (nI 0)) 11 (nI 1)) := jm_57
  have jn_58 : (mR μ57 96 13 (488 + 1)).2.2.1 4 = zi := jn_57
  have jo_58 : (mR μ57 96 13 (488 + 1)).2.2.1 12 = w12 := jo_57
  have jl_58 : (mR μ57 96 13 (488 + 1)).2.2.1 59 = (upr zi 0 (-1)) := jl_57
  generalize mR μ57 96 13 (488 + 1) = μ58 at b58 jx_58 jm_58 jn_58 jo_58 jl_58 ⊢
  refine T_iinc (pc := 199) (i := 1) (v := nI 14) (ls' := [some (.ref 0), some (.int (nI 14))]) dX11_init_199 rfl (by decide) rfl ?_
  refine T_goto (pc := 202) (tgt := 180) dX11_init_202 (by decide) ?_
  refine T_iload_n (pc := 180) (i := 1) dX11_init_180 rfl rfl ?_
  refine T_bipush (pc := 181) (v := nI 16) dX11_init_181 (by decide) ?_
  refine T_icmp_ge (pc := 183) (tgt := 205) dX11_init_183 (by decide) (fun h => absurd h (by decide)) (fun _ => ?_)
  refine T_aload_n (pc := 186) (i := 0) dX11_init_186 rfl rfl ?_
  refine T_getR (pc := 187) (c := 11) (j := 8) (i := 96) fl_X11_42 rfl (show KT 0 = (0, 11) by decide) (by rw [b58.n]; omega) (by rw [b58.r]; rfl) dX11_init_187 ?_
  refine T_iload_n (pc := 190) (i := 1) dX11_init_190 rfl rfl ?_
  refine T_new (pc := 191) (c := 9) nw_X11_16 (by decide) (by rw [b58.n]; exact (show KT 516 = (0, 9) by decide)) (by rw [b58.n]; show _ < 595; omega) (Nat.le_of_ble_eq_true rfl) (Nat.le_of_ble_eq_true rfl) dX11_init_191 ?_
  rw [b58.n]
  refine T_dup (pc := 194) dX11_init_194 rfl ?_
  refine T_callI (pc := 195) (b := 516) (As := []) (rest := [.ref 516, .int (nI 14), .ref 96]) (Or.inl lk_X11_18) mk_X9_init rfl (i_X9 (show isTold 516 from memory_told (i := 14) (by decide)) (by omega) (by show μ58.1 + 1 = _; rw [b58.n]) (new_rz b58.n) (new_iz b58.n)) dX11_init_195 rfl rfl (Nat.le_of_ble_eq_true rfl) (by decide) rfl (Nat.le_of_ble_eq_true rfl) (Nat.le_of_ble_eq_true rfl) (fun E m' h => by obtain ⟨z, _⟩ := h; cases z) (fun v μ59 h => ?_)
  obtain ⟨h0, c59⟩ := h
  cases h0
  have b59 : Bd 0 96 544 (upr (upr (upr (upr (upr (upr (upr (upr (upr (upr (upr (upr (upr (upr (upr z0 0 (1 + 1)) 1 (3 + 1)) 2 (31 + 1)) 3 (59 + 1)) 4 (62 + 1)) 5 (65 + 1)) 6 (93 + 1)) 8 (96 + 1)) 11 (97 + 1)) 12 (105 + 1)) 13 (109 + 1)) 14 (113 + 1)) 15 (116 + 1)) 16 (121 + 1)) 17 (122 + 1)) (upr (upr (upr (upr (upr (upr (upr (upr (upr (upr (upr (upr (upr (upr z0 0 (124 + 1)) 1 (152 + 1)) 2 (180 + 1)) 3 (208 + 1)) 4 (236 + 1)) 5 (264 + 1)) 6 (292 + 1)) 7 (320 + 1)) 8 (348 + 1)) 9 (376 + 1)) 10 (404 + 1)) 11 (432 + 1)) 12 (460 + 1)) 13 (488 + 1)) zi μ μ59 := b58.call c59 (by omega)
  have jx_59 : μ59.2.2.1 1 = (upr (upr zi 2 (-1)) 6 (-1)) := (c59.lo b58.n (by omega)).trans jx_58
  have jm_59 : μ59.2.2.1 3 = (upr (upr zi 8 (nI 0)) 11 (nI 1)) := (c59.lo b58.n (by omega)).trans jm_58
  have jn_59 : μ59.2.2.1 4 = zi := (c59.lo b58.n (by omega)).trans jn_58
  have jo_59 : μ59.2.2.1 12 = w12 := (c59.lo b58.n (by omega)).trans jo_58
  have jl_59 : μ59.2.2.1 59 = (upr zi 0 (-1)) := (c59.lo b58.n (by omega)).trans jl_58
  show T _ _ _ _ _ _ _ _ 198 [some (.ref 0), some (.int (nI 14))] [.ref 516, .int (nI 14), .ref 96] μ59
  refine T_aast (pc := 198) (t := 1) (c := 9) (n := 16) (show KT 96 = (5, 16) by decide) (Or.inr ⟨rfl, rfl⟩) (show KT 516 = (0, 9) by decide) (by rw [b59.n]; omega) (by rw [b59.n]; omega) (vp_in_nI (n := 14) (by omega) (by omega)) dX11_init_198 ?_
  rw [nI_clamp (n := 14) (by omega)]
  have b60 : Bd 0 96 544 (upr (upr (upr (upr (upr (upr (upr (upr (upr (upr (upr (upr (upr (upr (upr z0 0 (1 + 1)) 1 (3 + 1)) 2 (31 + 1)) 3 (59 + 1)) 4 (62 + 1)) 5 (65 + 1)) 6 (93 + 1)) 8 (96 + 1)) 11 (97 + 1)) 12 (105 + 1)) 13 (109 + 1)) 14 (113 + 1)) 15 (116 + 1)) 16 (121 + 1)) 17 (122 + 1)) (upr (upr (upr (upr (upr (upr (upr (upr (upr (upr (upr (upr (upr (upr (upr z0 0 (124 + 1)) 1 (152 + 1)) 2 (180 + 1)) 3 (208 + 1)) 4 (236 + 1)) 5 (264 + 1)) 6 (292 + 1)) 7 (320 + 1)) 8 (348 + 1)) 9 (376 + 1)) 10 (404 + 1)) 11 (432 + 1)) 12 (460 + 1)) 13 (488 + 1)) 14 (516 + 1)) zi μ (mR μ59 96 14 (516 + 1)) := b59.ast (by omega)
  have jx_60 : (mR μ59 96 14 (516 + 1)).2.2.1 1 = (upr (upr zi 2 (-1)) 6 (-1)) := jx_59
  have jm_60 : (mR μ59 96 14 (516 + 1)).2.2.1 3 = (upr (upr zi 8 (nI 0)) 11 (nI 1)) := jm_59
  have jn_60 : (mR μ59 96 14 (516 + 1)).2.2.1 4 = zi := jn_59
  have jo_60 : (mR μ59 96 14 (516 + 1)).2.2.1 12 = w12 := jo_59
  have jl_60 : (mR μ59 96 14 (516 + 1)).2.2.1 59 = (upr zi 0 (-1)) := jl_59
  generalize mR μ59 96 14 (516 + 1) = μ60 at b60 jx_60 jm_60 jn_60 jo_60 jl_60 ⊢
  refine T_iinc (pc := 199) (i := 1) (v := nI 15) (ls' := [some (.ref 0), some (.int (nI 15))]) dX11_init_199 rfl (by decide) rfl ?_
  refine T_goto (pc := 202) (tgt := 180) dX11_init_202 (by decide) ?_
  refine T_iload_n (pc := 180) (i := 1) dX11_init_180 rfl rfl ?_
  refine T_bipush (pc := 181) (v := nI 16) dX11_init_181 (by decide) ?_
  refine T_icmp_ge (pc := 183) (tgt := 205) dX11_init_183 (by decide) (fun h => absurd h (by decide)) (fun _ => ?_)
  refine T_aload_n (pc := 186) (i := 0) dX11_init_186 rfl rfl ?_
  refine T_getR (pc := 187) (c := 11) (j := 8) (i := 96) fl_X11_42 rfl (show KT 0 = (0, 11) by decide) (by rw [b60.n]; omega) (by rw [b60.r]; rfl) dX11_init_187 ?_
  refine T_iload_n (pc := 190) (i := 1) dX11_init_190 rfl rfl ?_
  refine T_new (pc := 191) (c := 9) nw_X11_16 (by decide) (by rw [b60.n]; exact (show KT 544 = (0, 9) by decide)) (by rw [b60.n]; show _ < 595; omega) (Nat.le_of_ble_eq_true rfl) (Nat.le_of_ble_eq_true rfl) dX11_init_191 ?_
  rw [b60.n]
  refine T_dup (pc := 194) dX11_init_194 rfl ?_
  refine T_callI (pc := 195) (b := 544) (As := []) (rest := [.ref 544, .int (nI 15), .ref 96]) (Or.inl lk_X11_18) mk_X9_init rfl (i_X9 (show isTold 544 from memory_told (i := 15) (by decide)) (by omega) (by show μ60.1 + 1 = _; rw [b60.n]) (new_rz b60.n) (new_iz b60.n)) dX11_init_195 rfl rfl (Nat.le_of_ble_eq_true rfl) (by decide) rfl (Nat.le_of_ble_eq_true rfl) (Nat.le_of_ble_eq_true rfl) (fun E m' h => by obtain ⟨z, _⟩ := h; cases z) (fun v μ61 h => ?_)
  obtain ⟨h0, c61⟩ := h
  cases h0
  have b61 : Bd 0 96 572 (upr (upr (upr (upr (upr (upr (upr (upr (upr (upr (upr (upr (upr (upr (upr z0 0 (1 + 1)) 1 (3 + 1)) 2 (31 + 1)) 3 (59 + 1)) 4 (62 + 1)) 5 (65 + 1)) 6 (93 + 1)) 8 (96 + 1)) 11 (97 + 1)) 12 (105 + 1)) 13 (109 + 1)) 14 (113 + 1)) 15 (116 + 1)) 16 (121 + 1)) 17 (122 + 1)) (upr (upr (upr (upr (upr (upr (upr (upr (upr (upr (upr (upr (upr (upr (upr z0 0 (124 + 1)) 1 (152 + 1)) 2 (180 + 1)) 3 (208 + 1)) 4 (236 + 1)) 5 (264 + 1)) 6 (292 + 1)) 7 (320 + 1)) 8 (348 + 1)) 9 (376 + 1)) 10 (404 + 1)) 11 (432 + 1)) 12 (460 + 1)) 13 (488 + 1)) 14 (516 + 1)) zi μ μ61 := b60.call c61 (by omega)
  have jx_61 : μ61.2.2.1 1 = (upr (upr zi 2 (-1)) 6 (-1)) := (c61.lo b60.n (by omega)).trans jx_60
  have jm_61 : μ61.2.2.1 3 = (upr (upr zi 8 (nI 0)) 11 (nI 1)) := (c61.lo b60.n (by omega)).trans jm_60
  have jn_61 : μ61.2.2.1 4 = zi := (c61.lo b60.n (by omega)).trans jn_60
  have jo_61 : μ61.2.2.1 12 = w12 := (c61.lo b60.n (by omega)).trans jo_60
  have jl_61 : μ61.2.2.1 59 = (upr zi 0 (-1)) := (c61.lo b60.n (by omega)).trans jl_60
  show T _ _ _ _ _ _ _ _ 198 [some (.ref 0), some (.int (nI 15))] [.ref 544, .int (nI 15), .ref 96] μ61
  refine T_aast (pc := 198) (t := 1) (c := 9) (n := 16) (show KT 96 = (5, 16) by decide) (Or.inr ⟨rfl, rfl⟩) (show KT 544 = (0, 9) by decide) (by rw [b61.n]; omega) (by rw [b61.n]; omega) (vp_in_nI (n := 15) (by omega) (by omega)) dX11_init_198 ?_
  rw [nI_clamp (n := 15) (by omega)]
  have b62 : Bd 0 96 572 (upr (upr (upr (upr (upr (upr (upr (upr (upr (upr (upr (upr (upr (upr (upr z0 0 (1 + 1)) 1 (3 + 1)) 2 (31 + 1)) 3 (59 + 1)) 4 (62 + 1)) 5 (65 + 1)) 6 (93 + 1)) 8 (96 + 1)) 11 (97 + 1)) 12 (105 + 1)) 13 (109 + 1)) 14 (113 + 1)) 15 (116 + 1)) 16 (121 + 1)) 17 (122 + 1)) (upr (upr (upr (upr (upr (upr (upr (upr (upr (upr (upr (upr (upr (upr (upr (upr z0 0 (124 + 1)) 1 (152 + 1)) 2 (180 + 1)) 3 (208 + 1)) 4 (236 + 1)) 5 (264 + 1)) 6 (292 + 1)) 7 (320 + 1)) 8 (348 + 1)) 9 (376 + 1)) 10 (404 + 1)) 11 (432 + 1)) 12 (460 + 1)) 13 (488 + 1)) 14 (516 + 1)) 15 (544 + 1)) zi μ (mR μ61 96 15 (544 + 1)) := b61.ast (by omega)
  have jx_62 : (mR μ61 96 15 (544 + 1)).2.2.1 1 = (upr (upr zi 2 (-1)) 6 (-1)) := jx_61
  have jm_62 : (mR μ61 96 15 (544 + 1)).2.2.1 3 = (upr (upr zi 8 (nI 0)) 11 (nI 1)) := jm_61
  have jn_62 : (mR μ61 96 15 (544 + 1)).2.2.1 4 = zi := jn_61
  have jo_62 : (mR μ61 96 15 (544 + 1)).2.2.1 12 = w12 := jo_61
  have jl_62 : (mR μ61 96 15 (544 + 1)).2.2.1 59 = (upr zi 0 (-1)) := jl_61
  generalize mR μ61 96 15 (544 + 1) = μ62 at b62 jx_62 jm_62 jn_62 jo_62 jl_62 ⊢
  refine T_iinc (pc := 199) (i := 1) (v := nI 16) (ls' := [some (.ref 0), some (.int (nI 16))]) dX11_init_199 rfl (by decide) rfl ?_
  refine T_goto (pc := 202) (tgt := 180) dX11_init_202 (by decide) ?_
  refine T_iload_n (pc := 180) (i := 1) dX11_init_180 rfl rfl ?_
  refine T_bipush (pc := 181) (v := nI 16) dX11_init_181 (by decide) ?_
  refine T_icmp_ge (pc := 183) (tgt := 205) dX11_init_183 (by decide) (fun _ => ?_) (fun h => absurd (by decide) h)
  have hr : R0 0 = (upr (upr (upr (upr (upr (upr (upr (upr (upr (upr (upr (upr (upr (upr (upr z0 0 (1 + 1)) 1 (3 + 1)) 2 (31 + 1)) 3 (59 + 1)) 4 (62 + 1)) 5 (65 + 1)) 6 (93 + 1)) 8 (96 + 1)) 11 (97 + 1)) 12 (105 + 1)) 13 (109 + 1)) 14 (113 + 1)) 15 (116 + 1)) 16 (121 + 1)) 17 (122 + 1)) := by
    funext j
    show rt (KT 0) 0 j = _
    rw [show KT 0 = (0, 11) from (show KT 0 = (0, 11) by decide)]
    match j with
    | 0 => rfl
    | 1 => rfl
    | 2 => rfl
    | 3 => rfl
    | 4 => rfl
    | 5 => rfl
    | 6 => rfl
    | 7 => rfl
    | 8 => rfl
    | 9 => rfl
    | 10 => rfl
    | 11 => rfl
    | 12 => rfl
    | 13 => rfl
    | 14 => rfl
    | 15 => rfl
    | 16 => rfl
    | 17 => rfl
    | q + 18 => (simp only [upr]; rw [if_neg (by omega), if_neg (by omega), if_neg (by omega), if_neg (by omega), if_neg (by omega), if_neg (by omega), if_neg (by omega), if_neg (by omega), if_neg (by omega), if_neg (by omega), if_neg (by omega), if_neg (by omega), if_neg (by omega), if_neg (by omega), if_neg (by omega)] <;> rfl)
  have ha : R0 96 = (upr (upr (upr (upr (upr (upr (upr (upr (upr (upr (upr (upr (upr (upr (upr (upr z0 0 (124 + 1)) 1 (152 + 1)) 2 (180 + 1)) 3 (208 + 1)) 4 (236 + 1)) 5 (264 + 1)) 6 (292 + 1)) 7 (320 + 1)) 8 (348 + 1)) 9 (376 + 1)) 10 (404 + 1)) 11 (432 + 1)) 12 (460 + 1)) 13 (488 + 1)) 14 (516 + 1)) 15 (544 + 1)) := by
    funext j
    show rt (KT 96) 96 j = _
    rw [show KT 96 = (5, 16) from (show KT 96 = (5, 16) by decide)]
    match j with
    | 0 => rfl
    | 1 => rfl
    | 2 => rfl
    | 3 => rfl
    | 4 => rfl
    | 5 => rfl
    | 6 => rfl
    | 7 => rfl
    | 8 => rfl
    | 9 => rfl
    | 10 => rfl
    | 11 => rfl
    | 12 => rfl
    | 13 => rfl
    | 14 => rfl
    | 15 => rfl
    | q + 16 => (simp only [upr]; rw [if_neg (by omega), if_neg (by omega), if_neg (by omega), if_neg (by omega), if_neg (by omega), if_neg (by omega), if_neg (by omega), if_neg (by omega), if_neg (by omega), if_neg (by omega), if_neg (by omega), if_neg (by omega), if_neg (by omega), if_neg (by omega), if_neg (by omega), if_neg (by omega)]; show (if q + 16 < 16 then 125 + 28 * (q + 16) else 0) = 0; rw [if_neg (by omega)])
  exact T_vret (pc := 205) dX11_init_205 rfl (Nat.le_of_ble_eq_true rfl) (Nat.le_of_ble_eq_true rfl) ⟨rfl, b62.done hr (fun h => ha) ⟨b62.i, jx_62, jm_62, jn_62, jl_62, fun j hj => by rw [jo_62]; exact w12p j hj⟩⟩
end CT9

