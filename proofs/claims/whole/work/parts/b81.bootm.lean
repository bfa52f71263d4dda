section CT9
variable {γ : Ga}
theorem i_X12 {μ : SMem} (h1 : μ.1 = 573) (h2 : μ.2.1 572 = z0) (h3 : μ.2.2.1 572 = zi) : Ex γ 1 21 24415 M_X12_init [.ref 572] μ (Ci 572 594 μ (fun I => I 572 = upr zi 13 (-1) ∧ I 573 = upr (upr (upr (upr (upr (upr (upr (upr (upr zi 8 (nI 1)) 9 (nI 1)) 10 (nI 1)) 11 (nI 1)) 12 (nI 1)) 13 (nI 1)) 14 (nI 1)) 15 (nI 1)) 16 (nI 1))) := by
  refine Ex.of (by decide +kernel) rfl (Nat.le_of_ble_eq_true rfl) ?_
  show T _ _ _ _ _ _ _ _ 0 [some (.ref 572), none] [] μ
  have b0 : Bd 572 572 573 z0 z0 zi μ μ := Bd.start h1 h2 h3
  refine T_aload_n (pc := 0) (i := 0) dX12_init_0 rfl rfl ?_
  refine T_objInit (pc := 1) oi_X12_23 (Nat.le_of_ble_eq_true rfl) dX12_init_1 ?_
  refine T_aload_n (pc := 4) (i := 0) dX12_init_4 rfl rfl ?_
  refine T_sipush (pc := 5) (v := nI 1989) dX12_init_5 (by decide) ?_
  refine T_newa (pc := 8) (at9 := .int) (t := 1) (N := 1989) ac_int (Or.inl ⟨rfl, rfl⟩) (nI_pos (by omega)) (nI_clamp (by omega)) (by decide) (by rw [b0.n]; exact (show KT 573 = (1, 1989) by decide)) (by rw [b0.n]; show _ < 595; omega) (Nat.le_of_ble_eq_true rfl) (Nat.le_of_ble_eq_true rfl) dX12_init_8 ?_
  rw [b0.n]
  have b1 : Bd 572 572 574 z0 z0 zi μ (mNew μ) := b0.newp (R0_arr (t := 1) (N := 1989) (show KT 573 = (1, 1989) by decide) (by decide))
  have jt_1 : (mNew μ).2.2.1 573 = zi := new_iz b0.n
  generalize mNew μ = μ1 at b1 jt_1 ⊢
  refine T_putR (pc := 10) (c := 12) (j := 1) fl_X12_29 ⟨rfl, rfl⟩ ⟨rfl, rfl⟩ (fun q => ⟨rfl, rfl⟩) (show KT 572 = (0, 12) by decide) (by rw [b1.n]; omega) dX12_init_10 ?_
  have b2 : Bd 572 572 574 (upr z0 1 (573 + 1)) z0 zi μ (mR μ1 572 1 (573 + 1)) := b1.putR
  have jt_2 : (mR μ1 572 1 (573 + 1)).2.2.1 573 = zi := jt_1
  generalize mR μ1 572 1 (573 + 1) = μ2 at b2 jt_2 ⊢
  refine T_aload_n (pc := 13) (i := 0) dX12_init_13 rfl rfl ?_
  refine T_sipush (pc := 14) (v := nI 1164) dX12_init_14 (by decide) ?_
  refine T_newa (pc := 17) (at9 := .int) (t := 1) (N := 1164) ac_int (Or.inl ⟨rfl, rfl⟩) (nI_pos (by omega)) (nI_clamp (by omega)) (by decide) (by rw [b2.n]; exact (show KT 574 = (1, 1164) by decide)) (by rw [b2.n]; show _ < 595; omega) (Nat.le_of_ble_eq_true rfl) (Nat.le_of_ble_eq_true rfl) dX12_init_17 ?_
  rw [b2.n]
  have b3 : Bd 572 572 575 (upr z0 1 (573 + 1)) z0 zi μ (mNew μ2) := b2.newp (R0_arr (t := 1) (N := 1164) (show KT 574 = (1, 1164) by decide) (by decide))
  have jt_3 : (mNew μ2).2.2.1 573 = zi := (new_i (by rw [b2.n]; omega)).trans jt_2
  generalize mNew μ2 = μ3 at b3 jt_3 ⊢
  refine T_putR (pc := 19) (c := 12) (j := 2) fl_X12_33 ⟨rfl, rfl⟩ ⟨rfl, rfl⟩ (fun q => ⟨rfl, rfl⟩) (show KT 572 = (0, 12) by decide) (by rw [b3.n]; omega) dX12_init_19 ?_
  have b4 : Bd 572 572 575 (upr (upr z0 1 (573 + 1)) 2 (574 + 1)) z0 zi μ (mR μ3 572 2 (574 + 1)) := b3.putR
  have jt_4 : (mR μ3 572 2 (574 + 1)).2.2.1 573 = zi := jt_3
  generalize mR μ3 572 2 (574 + 1) = μ4 at b4 jt_4 ⊢
  refine T_aload_n (pc := 22) (i := 0) dX12_init_22 rfl rfl ?_
  refine T_sipush (pc := 23) (v := nI 1164) dX12_init_23 (by decide) ?_
  refine T_newa (pc := 26) (at9 := .int) (t := 1) (N := 1164) ac_int (Or.inl ⟨rfl, rfl⟩) (nI_pos (by omega)) (nI_clamp (by omega)) (by decide) (by rw [b4.n]; exact (show KT 575 = (1, 1164) by decide)) (by rw [b4.n]; show _ < 595; omega) (Nat.le_of_ble_eq_true rfl) (Nat.le_of_ble_eq_true rfl) dX12_init_26 ?_
  rw [b4.n]
  have b5 : Bd 572 572 576 (upr (upr z0 1 (573 + 1)) 2 (574 + 1)) z0 zi μ (mNew μ4) := b4.newp (R0_arr (t := 1) (N := 1164) (show KT 575 = (1, 1164) by decide) (by decide))
  have jt_5 : (mNew μ4).2.2.1 573 = zi := (new_i (by rw [b4.n]; omega)).trans jt_4
  generalize mNew μ4 = μ5 at b5 jt_5 ⊢
  refine T_putR (pc := 28) (c := 12) (j := 3) fl_X12_36 ⟨rfl, rfl⟩ ⟨rfl, rfl⟩ (fun q => ⟨rfl, rfl⟩) (show KT 572 = (0, 12) by decide) (by rw [b5.n]; omega) dX12_init_28 ?_
  have b6 : Bd 572 572 576 (upr (upr (upr z0 1 (573 + 1)) 2 (574 + 1)) 3 (575 + 1)) z0 zi μ (mR μ5 572 3 (575 + 1)) := b5.putR
  have jt_6 : (mR μ5 572 3 (575 + 1)).2.2.1 573 = zi := jt_5
  generalize mR μ5 572 3 (575 + 1) = μ6 at b6 jt_6 ⊢
  refine T_aload_n (pc := 31) (i := 0) dX12_init_31 rfl rfl ?_
  refine T_sipush (pc := 32) (v := nI 5424) dX12_init_32 (by decide) ?_
  refine T_newa (pc := 35) (at9 := .int) (t := 1) (N := 5424) ac_int (Or.inl ⟨rfl, rfl⟩) (nI_pos (by omega)) (nI_clamp (by omega)) (by decide) (by rw [b6.n]; exact (show KT 576 = (1, 5424) by decide)) (by rw [b6.n]; show _ < 595; omega) (Nat.le_of_ble_eq_true rfl) (Nat.le_of_ble_eq_true rfl) dX12_init_35 ?_
  rw [b6.n]
  have b7 : Bd 572 572 577 (upr (upr (upr z0 1 (573 + 1)) 2 (574 + 1)) 3 (575 + 1)) z0 zi μ (mNew μ6) := b6.newp (R0_arr (t := 1) (N := 5424) (show KT 576 = (1, 5424) by decide) (by decide))
  have jt_7 : (mNew μ6).2.2.1 573 = zi := (new_i (by rw [b6.n]; omega)).trans jt_6
  generalize mNew μ6 = μ7 at b7 jt_7 ⊢
  refine T_putR (pc := 37) (c := 12) (j := 4) fl_X12_39 ⟨rfl, rfl⟩ ⟨rfl, rfl⟩ (fun q => ⟨rfl, rfl⟩) (show KT 572 = (0, 12) by decide) (by rw [b7.n]; omega) dX12_init_37 ?_
  have b8 : Bd 572 572 577 (upr (upr (upr (upr z0 1 (573 + 1)) 2 (574 + 1)) 3 (575 + 1)) 4 (576 + 1)) z0 zi μ (mR μ7 572 4 (576 + 1)) := b7.putR
  have jt_8 : (mR μ7 572 4 (576 + 1)).2.2.1 573 = zi := jt_7
  generalize mR μ7 572 4 (576 + 1) = μ8 at b8 jt_8 ⊢
  refine T_aload_n (pc := 40) (i := 0) dX12_init_40 rfl rfl ?_
  refine T_sipush (pc := 41) (v := nI 400) dX12_init_41 (by decide) ?_
  refine T_newa (pc := 44) (at9 := .byte) (t := 3) (N := 400) ac_byte (Or.inr (Or.inr ⟨rfl, rfl⟩)) (nI_pos (by omega)) (nI_clamp (by omega)) (by decide) (by rw [b8.n]; exact (show KT 577 = (3, 400) by decide)) (by rw [b8.n]; show _ < 595; omega) (Nat.le_of_ble_eq_true rfl) (Nat.le_of_ble_eq_true rfl) dX12_init_44 ?_
  rw [b8.n]
  have b9 : Bd 572 572 578 (upr (upr (upr (upr z0 1 (573 + 1)) 2 (574 + 1)) 3 (575 + 1)) 4 (576 + 1)) z0 zi μ (mNew μ8) := b8.newp (R0_arr (t := 3) (N := 400) (show KT 577 = (3, 400) by decide) (by decide))
  have jt_9 : (mNew μ8).2.2.1 573 = zi := (new_i (by rw [b8.n]; omega)).trans jt_8
  generalize mNew μ8 = μ9 at b9 jt_9 ⊢
  refine T_putR (pc := 46) (c := 12) (j := 7) fl_X12_42 ⟨rfl, rfl⟩ ⟨rfl, rfl⟩ (fun q => ⟨rfl, rfl⟩) (show KT 572 = (0, 12) by decide) (by rw [b9.n]; omega) dX12_init_46 ?_
  have b10 : Bd 572 572 578 (upr (upr (upr (upr (upr z0 1 (573 + 1)) 2 (574 + 1)) 3 (575 + 1)) 4 (576 + 1)) 7 (577 + 1)) z0 zi μ (mR μ9 572 7 (577 + 1)) := b9.putR
  have jt_10 : (mR μ9 572 7 (577 + 1)).2.2.1 573 = zi := jt_9
  generalize mR μ9 572 7 (577 + 1) = μ10 at b10 jt_10 ⊢
  refine T_aload_n (pc := 49) (i := 0) dX12_init_49 rfl rfl ?_
  refine T_iconst (pc := 50) (v := (-1)) dX12_init_50 (by decide) ?_
  refine T_putI (pc := 51) (c := 12) (j := 13) fl_X12_46 ⟨rfl, rfl⟩ (Or.inl rfl) (show KT 572 = (0, 12) by decide) (by rw [b10.n]; omega) dX12_init_51 ?_
  have b11 : Bd 572 572 578 (upr (upr (upr (upr (upr z0 1 (573 + 1)) 2 (574 + 1)) 3 (575 + 1)) 4 (576 + 1)) 7 (577 + 1)) z0 (upr zi 13 (-1)) μ (mI μ10 572 13 (-1)) := b10.putI
  have jt_11 : (mI μ10 572 13 (-1)).2.2.1 573 = zi := (show up2 μ10.2.2.1 572 13 (-1) 573 = _ from (up2_ne (by omega)).trans jt_10)
  generalize mI μ10 572 13 (-1) = μ11 at b11 jt_11 ⊢
  refine T_aload_n (pc := 54) (i := 0) dX12_init_54 rfl rfl ?_
  refine T_iconst (pc := 55) (v := nI 5) dX12_init_55 (by decide) ?_
  refine T_newa (pc := 56) (at9 := .int) (t := 1) (N := 5) ac_int (Or.inl ⟨rfl, rfl⟩) (nI_pos (by omega)) (nI_clamp (by omega)) (by decide) (by rw [b11.n]; exact (show KT 578 = (1, 5) by decide)) (by rw [b11.n]; show _ < 595; omega) (Nat.le_of_ble_eq_true rfl) (Nat.le_of_ble_eq_true rfl) dX12_init_56 ?_
  rw [b11.n]
  have b12 : Bd 572 572 579 (upr (upr (upr (upr (upr z0 1 (573 + 1)) 2 (574 + 1)) 3 (575 + 1)) 4 (576 + 1)) 7 (577 + 1)) z0 (upr zi 13 (-1)) μ (mNew μ11) := b11.newp (R0_arr (t := 1) (N := 5) (show KT 578 = (1, 5) by decide) (by decide))
  have jt_12 : (mNew μ11).2.2.1 573 = zi := (new_i (by rw [b11.n]; omega)).trans jt_11
  generalize mNew μ11 = μ12 at b12 jt_12 ⊢
  refine T_putR (pc := 58) (c := 12) (j := 14) fl_X12_49 ⟨rfl, rfl⟩ ⟨rfl, rfl⟩ (fun q => ⟨rfl, rfl⟩) (show KT 572 = (0, 12) by decide) (by rw [b12.n]; omega) dX12_init_58 ?_
  have b13 : Bd 572 572 579 (upr (upr (upr (upr (upr (upr z0 1 (573 + 1)) 2 (574 + 1)) 3 (575 + 1)) 4 (576 + 1)) 7 (577 + 1)) 14 (578 + 1)) z0 (upr zi 13 (-1)) μ (mR μ12 572 14 (578 + 1)) := b12.putR
  have jt_13 : (mR μ12 572 14 (578 + 1)).2.2.1 573 = zi := jt_12
  generalize mR μ12 572 14 (578 + 1) = μ13 at b13 jt_13 ⊢
  refine T_aload_n (pc := 61) (i := 0) dX12_init_61 rfl rfl ?_
  refine T_sipush (pc := 62) (v := nI 400) dX12_init_62 (by decide) ?_
  refine T_newa (pc := 65) (at9 := .int) (t := 1) (N := 400) ac_int (Or.inl ⟨rfl, rfl⟩) (nI_pos (by omega)) (nI_clamp (by omega)) (by decide) (by rw [b13.n]; exact (show KT 579 = (1, 400) by decide)) (by rw [b13.n]; show _ < 595; omega) (Nat.le_of_ble_eq_true rfl) (Nat.le_of_ble_eq_true rfl) dX12_init_65 ?_
  rw [b13.n]
  have b14 : Bd 572 572 580 (upr (upr (upr (upr (upr (upr z0 1 (573 + 1)) 2 (574 + 1)) 3 (575 + 1)) 4 (576 + 1)) 7 (577 + 1)) 14 (578 + 1)) z0 (upr zi 13 (-1)) μ (mNew μ13) := b13.newp (R0_arr (t := 1) (N := 400) (show KT 579 = (1, 400) by decide) (by decide))
  have jt_14 : (mNew μ13).2.2.1 573 = zi := (new_i (by rw [b13.n]; omega)).trans jt_13
  generalize mNew μ13 = μ14 at b14 jt_14 ⊢
  refine T_putR (pc := 67) (c := 12) (j := 18) fl_X12_52 ⟨rfl, rfl⟩ ⟨rfl, rfl⟩ (fun q => ⟨rfl, rfl⟩) (show KT 572 = (0, 12) by decide) (by rw [b14.n]; omega) dX12_init_67 ?_
  have b15 : Bd 572 572 580 (upr (upr (upr (upr (upr (upr (upr z0 1 (573 + 1)) 2 (574 + 1)) 3 (575 + 1)) 4 (576 + 1)) 7 (577 + 1)) 14 (578 + 1)) 18 (579 + 1)) z0 (upr zi 13 (-1)) μ (mR μ14 572 18 (579 + 1)) := b14.putR
  have jt_15 : (mR μ14 572 18 (579 + 1)).2.2.1 573 = zi := jt_14
  generalize mR μ14 572 18 (579 + 1) = μ15 at b15 jt_15 ⊢
  refine T_aload_n (pc := 70) (i := 0) dX12_init_70 rfl rfl ?_
  refine T_bipush (pc := 71) (v := nI 40) dX12_init_71 (by decide) ?_
  refine T_newa (pc := 73) (at9 := .int) (t := 1) (N := 40) ac_int (Or.inl ⟨rfl, rfl⟩) (nI_pos (by omega)) (nI_clamp (by omega)) (by decide) (by rw [b15.n]; exact (show KT 580 = (1, 40) by decide)) (by rw [b15.n]; show _ < 595; omega) (Nat.le_of_ble_eq_true rfl) (Nat.le_of_ble_eq_true rfl) dX12_init_73 ?_
  rw [b15.n]
  have b16 : Bd 572 572 581 (upr (upr (upr (upr (upr (upr (upr z0 1 (573 + 1)) 2 (574 + 1)) 3 (575 + 1)) 4 (576 + 1)) 7 (577 + 1)) 14 (578 + 1)) 18 (579 + 1)) z0 (upr zi 13 (-1)) μ (mNew μ15) := b15.newp (R0_arr (t := 1) (N := 40) (show KT 580 = (1, 40) by decide) (by decide))
  have jt_16 : (mNew μ15).2.2.1 573 = zi := (new_i (by rw [b15.n]; omega)).trans jt_15
  generalize mNew μ15 = μ16 at b16 jt_16 ⊢
  refine T_putR (pc := 75) (c := 12) (j := 23) fl_X12_55 ⟨rfl, rfl⟩ ⟨rfl, rfl⟩ (fun q => ⟨rfl, rfl⟩) (show KT 572 = (0, 12) by decide) (by rw [b16.n]; omega) dX12_init_75 ?_
  have b17 : Bd 572 572 581 (upr (upr (upr (upr (upr (upr (upr (upr z0 1 (573 + 1)) 2 (574 + 1)) 3 (575 + 1)) 4 (576 + 1)) 7 (577 + 1)) 14 (578 + 1)) 18 (579 + 1)) 23 (580 + 1)) z0 (upr zi 13 (-1)) μ (mR μ16 572 23 (580 + 1)) := b16.putR
  have jt_17 : (mR μ16 572 23 (580 + 1)).2.2.1 573 = zi := jt_16
  generalize mR μ16 572 23 (580 + 1) = μ17 at b17 jt_17 ⊢
  refine T_aload_n (pc := 78) (i := 0) dX12_init_78 rfl rfl ?_
  refine T_sipush (pc := 79) (v := nI 501) dX12_init_79 (by decide) ?_
  refine T_newa (pc := 82) (at9 := .long) (t := 2) (N := 501) ac_long (Or.inr (Or.inl ⟨rfl, rfl⟩)) (nI_pos (by omega)) (nI_clamp (by omega)) (by decide) (by rw [b17.n]; exact (show KT 581 = (2, 501) by decide)) (by rw [b17.n]; show _ < 595; omega) (Nat.le_of_ble_eq_true rfl) (Nat.le_of_ble_eq_true rfl) dX12_init_82 ?_
  rw [b17.n]
  have b18 : Bd 572 572 582 (upr (upr (upr (upr (upr (upr (upr (upr z0 1 (573 + 1)) 2 (574 + 1)) 3 (575 + 1)) 4 (576 + 1)) 7 (577 + 1)) 14 (578 + 1)) 18 (579 + 1)) 23 (580 + 1)) z0 (upr zi 13 (-1)) μ (mNew μ17) := b17.newp (R0_arr (t := 2) (N := 501) (show KT 581 = (2, 501) by decide) (by decide))
  have jt_18 : (mNew μ17).2.2.1 573 = zi := (new_i (by rw [b17.n]; omega)).trans jt_17
  generalize mNew μ17 = μ18 at b18 jt_18 ⊢
  refine T_putR (pc := 84) (c := 12) (j := 25) fl_X12_58 ⟨rfl, rfl⟩ ⟨rfl, rfl⟩ (fun q => ⟨rfl, rfl⟩) (show KT 572 = (0, 12) by decide) (by rw [b18.n]; omega) dX12_init_84 ?_
  have b19 : Bd 572 572 582 (upr (upr (upr (upr (upr (upr (upr (upr (upr z0 1 (573 + 1)) 2 (574 + 1)) 3 (575 + 1)) 4 (576 + 1)) 7 (577 + 1)) 14 (578 + 1)) 18 (579 + 1)) 23 (580 + 1)) 25 (581 + 1)) z0 (upr zi 13 (-1)) μ (mR μ18 572 25 (581 + 1)) := b18.putR
  have jt_19 : (mR μ18 572 25 (581 + 1)).2.2.1 573 = zi := jt_18
  generalize mR μ18 572 25 (581 + 1) = μ19 at b19 jt_19 ⊢
  refine T_aload_n (pc := 87) (i := 0) dX12_init_87 rfl rfl ?_
  refine T_sipush (pc := 88) (v := nI 1501) dX12_init_88 (by decide) ?_
  refine T_newa (pc := 91) (at9 := .long) (t := 2) (N := 1501) ac_long (Or.inr (Or.inl ⟨rfl, rfl⟩)) (nI_pos (by omega)) (nI_clamp (by omega)) (by decide) (by rw [b19.n]; exact (show KT 582 = (2, 1501) by decide)) (by rw [b19.n]; show _ < 595; omega) (Nat.le_of_ble_eq_true rfl) (Nat.le_of_ble_eq_true rfl) dX12_init_91 ?_
  rw [b19.n]
  have b20 : Bd 572 572 583 (upr (upr (upr (upr (upr (upr (upr (upr (upr z0 1 (573 + 1)) 2 (574 + 1)) 3 (575 + 1)) 4 (576 + 1)) 7 (577 + 1)) 14 (578 + 1)) 18 (579 + 1)) 23 (580 + 1)) 25 (581 + 1)) z0 (upr zi 13 (-1)) μ (mNew μ19) := b19.newp (R0_arr (t := 2) (N := 1501) (show KT 582 = (2, 1501) by decide) (by decide))
  have jt_20 : (mNew μ19).2.2.1 573 = zi := (new_i (by rw [b19.n]; omega)).trans jt_19
  generalize mNew μ19 = μ20 at b20 jt_20 ⊢
  refine T_putR (pc := 93) (c := 12) (j := 26) fl_X12_62 ⟨rfl, rfl⟩ ⟨rfl, rfl⟩ (fun q => ⟨rfl, rfl⟩) (show KT 572 = (0, 12) by decide) (by rw [b20.n]; omega) dX12_init_93 ?_
  have b21 : Bd 572 572 583 (upr (upr (upr (upr (upr (upr (upr (upr (upr (upr z0 1 (573 + 1)) 2 (574 + 1)) 3 (575 + 1)) 4 (576 + 1)) 7 (577 + 1)) 14 (578 + 1)) 18 (579 + 1)) 23 (580 + 1)) 25 (581 + 1)) 26 (582 + 1)) z0 (upr zi 13 (-1)) μ (mR μ20 572 26 (582 + 1)) := b20.putR
  have jt_21 : (mR μ20 572 26 (582 + 1)).2.2.1 573 = zi := jt_20
  generalize mR μ20 572 26 (582 + 1) = μ21 at b21 jt_21 ⊢
  refine T_aload_n (pc := 96) (i := 0) dX12_init_96 rfl rfl ?_
  refine T_sipush (pc := 97) (v := nI 1501) dX12_init_97 (by decide) ?_
  refine T_newa (pc := 100) (at9 := .int) (t := 1) (N := 1501) ac_int (Or.inl ⟨rfl, rfl⟩) (nI_pos (by omega)) (nI_clamp (by omega)) (by decide) (by rw [b21.n]; exact (show KT 583 = (1, 1501) by decide)) (by rw [b21.n]; show _ < 595; omega) (Nat.le_of_ble_eq_true rfl) (Nat.le_of_ble_eq_true rfl) dX12_init_100 ?_
  rw [b21.n]
  have b22 : Bd 572 572 584 (upr (upr (upr (upr (upr (upr (upr (upr (upr (upr z0 1 (573 + 1)) 2 (574 + 1)) 3 (575 + 1)) 4 (576 + 1)) 7 (577 + 1)) 14 (578 + 1)) 18 (579 + 1)) 23 (580 + 1)) 25 (581 + 1)) 26 (582 + 1)) z0 (upr zi 13 (-1)) μ (mNew μ21) := b21.newp (R0_arr (t := 1) (N := 1501) (show KT 583 = (1, 1501) by decide) (by decide))
  have jt_22 : (mNew μ21).2.2.1 573 = zi := (new_i (by rw [b21.n]; omega)).trans jt_21
  generalize mNew μ21 = μ22 at b22 jt_22 ⊢
  refine T_putR (pc := 102) (c := 12) (j := 27) fl_X12_65 ⟨rfl, rfl⟩ ⟨rfl, rfl⟩ (fun q => ⟨rfl, rfl⟩) (show KT 572 = (0, 12) by decide) (by rw [b22.n]; omega) dX12_init_102 ?_
  have b23 : Bd 572 572 584 (upr (upr (upr (upr (upr (upr (upr (upr (upr (upr (upr z0 1 (573 + 1)) 2 (574 + 1)) 3 (575 + 1)) 4 (576 + 1)) 7 (577 + 1)) 14 (578 + 1)) 18 (579 + 1)) 23 (580 + 1)) 25 (581 + 1)) 26 (582 + 1)) 27 (583 + 1)) z0 (upr zi 13 (-1)) μ (mR μ22 572 27 (583 + 1)) := b22.putR
  have jt_23 : (mR μ22 572 27 (583 + 1)).2.2.1 573 = zi := jt_22
  generalize mR μ22 572 27 (583 + 1) = μ23 at b23 jt_23 ⊢
  refine T_aload_n (pc := 105) (i := 0) dX12_init_105 rfl rfl ?_
  refine T_sipush (pc := 106) (v := nI 4096) dX12_init_106 (by decide) ?_
  refine T_newa (pc := 109) (at9 := .int) (t := 1) (N := 4096) ac_int (Or.inl ⟨rfl, rfl⟩) (nI_pos (by omega)) (nI_clamp (by omega)) (by decide) (by rw [b23.n]; exact (show KT 584 = (1, 4096) by decide)) (by rw [b23.n]; show _ < 595; omega) (Nat.le_of_ble_eq_true rfl) (Nat.le_of_ble_eq_true rfl) dX12_init_109 ?_
  rw [b23.n]
  have b24 : Bd 572 572 585 (upr (upr (upr (upr (upr (upr (upr (upr (upr (upr (upr z0 1 (573 + 1)) 2 (574 + 1)) 3 (575 + 1)) 4 (576 + 1)) 7 (577 + 1)) 14 (578 + 1)) 18 (579 + 1)) 23 (580 + 1)) 25 (581 + 1)) 26 (582 + 1)) 27 (583 + 1)) z0 (upr zi 13 (-1)) μ (mNew μ23) := b23.newp (R0_arr (t := 1) (N := 4096) (show KT 584 = (1, 4096) by decide) (by decide))
  have jt_24 : (mNew μ23).2.2.1 573 = zi := (new_i (by rw [b23.n]; omega)).trans jt_23
  generalize mNew μ23 = μ24 at b24 jt_24 ⊢
  refine T_putR (pc := 111) (c := 12) (j := 28) fl_X12_68 ⟨rfl, rfl⟩ ⟨rfl, rfl⟩ (fun q => ⟨rfl, rfl⟩) (show KT 572 = (0, 12) by decide) (by rw [b24.n]; omega) dX12_init_111 ?_
  have b25 : Bd 572 572 585 (upr (upr (upr (upr (upr (upr (upr (upr (upr (upr (upr (upr z0 1 (573 + 1)) 2 (574 + 1)) 3 (575 + 1)) 4 (576 + 1)) 7 (577 + 1)) 14 (578 + 1)) 18 (579 + 1)) 23 (580 + 1)) 25 (581 + 1)) 26 (582 + 1)) 27 (583 + 1)) 28 (584 + 1)) z0 (upr zi 13 (-1)) μ (mR μ24 572 28 (584 + 1)) := b24.putR
  have jt_25 : (mR μ24 572 28 (584 + 1)).2.2.1 573 = zi := jt_24
  generalize mR μ24 572 28 (584 + 1) = μ25 at b25 jt_25 ⊢
  refine T_aload_n (pc := 114) (i := 0) dX12_init_114 rfl rfl ?_
  refine T_sipush (pc := 115) (v := nI 1501) dX12_init_115 (by decide) ?_
  refine T_newa (pc := 118) (at9 := .long) (t := 2) (N := 1501) ac_long (Or.inr (Or.inl ⟨rfl, rfl⟩)) (nI_pos (by omega)) (nI_clamp (by omega)) (by decide) (by rw [b25.n]; exact (show KT 585 = (2, 1501) by decide)) (by rw [b25.n]; show _ < 595; omega) (Nat.le_of_ble_eq_true rfl) (Nat.le_of_ble_eq_true rfl) dX12_init_118 ?_
  rw [b25.n]
  have b26 : Bd 572 572 586 (upr (upr (upr (upr (upr (upr (upr (upr (upr (upr (upr (upr z0 1 (573 + 1)) 2 (574 + 1)) 3 (575 + 1)) 4 (576 + 1)) 7 (577 + 1)) 14 (578 + 1)) 18 (579 + 1)) 23 (580 + 1)) 25 (581 + 1)) 26 (582 + 1)) 27 (583 + 1)) 28 (584 + 1)) z0 (upr zi 13 (-1)) μ (mNew μ25) := b25.newp (R0_arr (t := 2) (N := 1501) (show KT 585 = (2, 1501) by decide) (by decide))
  have jt_26 : (mNew μ25).2.2.1 573 = zi := (new_i (by rw [b25.n]; omega)).trans jt_25
  generalize mNew μ25 = μ26 at b26 jt_26 ⊢
  refine T_putR (pc := 120) (c := 12) (j := 30) fl_X12_71 ⟨rfl, rfl⟩ ⟨rfl, rfl⟩ (fun q => ⟨rfl, rfl⟩) (show KT 572 = (0, 12) by decide) (by rw [b26.n]; omega) dX12_init_120 ?_
  have b27 : Bd 572 572 586 (upr (upr (upr (upr (upr (upr (upr (upr (upr (upr (upr (upr (upr z0 1 (573 + 1)) 2 (574 + 1)) 3 (575 + 1)) 4 (576 + 1)) 7 (577 + 1)) 14 (578 + 1)) 18 (579 + 1)) 23 (580 + 1)) 25 (581 + 1)) 26 (582 + 1)) 27 (583 + 1)) 28 (584 + 1)) 30 (585 + 1)) z0 (upr zi 13 (-1)) μ (mR μ26 572 30 (585 + 1)) := b26.putR
  have jt_27 : (mR μ26 572 30 (585 + 1)).2.2.1 573 = zi := jt_26
  generalize mR μ26 572 30 (585 + 1) = μ27 at b27 jt_27 ⊢
  refine T_aload_n (pc := 123) (i := 0) dX12_init_123 rfl rfl ?_
  refine T_sipush (pc := 124) (v := nI 1501) dX12_init_124 (by decide) ?_
  refine T_newa (pc := 127) (at9 := .int) (t := 1) (N := 1501) ac_int (Or.inl ⟨rfl, rfl⟩) (nI_pos (by omega)) (nI_clamp (by omega)) (by decide) (by rw [b27.n]; exact (show KT 586 = (1, 1501) by decide)) (by rw [b27.n]; show _ < 595; omega) (Nat.le_of_ble_eq_true rfl) (Nat.le_of_ble_eq_true rfl) dX12_init_127 ?_
  rw [b27.n]
  have b28 : Bd 572 572 587 (upr (upr (upr (upr (upr (upr (upr (upr (upr (upr (upr (upr (upr z0 1 (573 + 1)) 2 (574 + 1)) 3 (575 + 1)) 4 (576 + 1)) 7 (577 + 1)) 14 (578 + 1)) 18 (579 + 1)) 23 (580 + 1)) 25 (581 + 1)) 26 (582 + 1)) 27 (583 + 1)) 28 (584 + 1)) 30 (585 + 1)) z0 (upr zi 13 (-1)) μ (mNew μ27) := b27.newp (R0_arr (t := 1) (N := 1501) (show KT 586 = (1, 1501) by decide) (by decide))
  have jt_28 : (mNew μ27).2.2.1 573 = zi := (new_i (by rw [b27.n]; omega)).trans jt_27
  generalize mNew μ27 = μ28 at b28 jt_28 ⊢
  refine T_putR (pc := 129) (c := 12) (j := 31) fl_X12_74 ⟨rfl, rfl⟩ ⟨rfl, rfl⟩ (fun q => ⟨rfl, rfl⟩) (show KT 572 = (0, 12) by decide) (by rw [b28.n]; omega) dX12_init_129 ?_
  have b29 : Bd 572 572 587 (upr (upr (upr (upr (upr (upr (upr (upr (upr (upr (upr (upr (upr (upr z0 1 (573 + 1)) 2 (574 + 1)) 3 (575 + 1)) 4 (576 + 1)) 7 (577 + 1)) 14 (578 + 1)) 18 (579 + 1)) 23 (580 + 1)) 25 (581 + 1)) 26 (582 + 1)) 27 (583 + 1)) 28 (584 + 1)) 30 (585 + 1)) 31 (586 + 1)) z0 (upr zi 13 (-1)) μ (mR μ28 572 31 (586 + 1)) := b28.putR
  have jt_29 : (mR μ28 572 31 (586 + 1)).2.2.1 573 = zi := jt_28
  generalize mR μ28 572 31 (586 + 1) = μ29 at b29 jt_29 ⊢
  refine T_aload_n (pc := 132) (i := 0) dX12_init_132 rfl rfl ?_
  refine T_bipush (pc := 133) (v := nI 8) dX12_init_133 (by decide) ?_
  refine T_newa (pc := 135) (at9 := .int) (t := 1) (N := 8) ac_int (Or.inl ⟨rfl, rfl⟩) (nI_pos (by omega)) (nI_clamp (by omega)) (by decide) (by rw [b29.n]; exact (show KT 587 = (1, 8) by decide)) (by rw [b29.n]; show _ < 595; omega) (Nat.le_of_ble_eq_true rfl) (Nat.le_of_ble_eq_true rfl) dX12_init_135 ?_
  rw [b29.n]
  have b30 : Bd 572 572 588 (upr (upr (upr (upr (upr (upr (upr (upr (upr (upr (upr (upr (upr (upr z0 1 (573 + 1)) 2 (574 + 1)) 3 (575 + 1)) 4 (576 + 1)) 7 (577 + 1)) 14 (578 + 1)) 18 (579 + 1)) 23 (580 + 1)) 25 (581 + 1)) 26 (582 + 1)) 27 (583 + 1)) 28 (584 + 1)) 30 (585 + 1)) 31 (586 + 1)) z0 (upr zi 13 (-1)) μ (mNew μ29) := b29.newp (R0_arr (t := 1) (N := 8) (show KT 587 = (1, 8) by decide) (by decide))
  have jt_30 : (mNew μ29).2.2.1 573 = zi := (new_i (by rw [b29.n]; omega)).trans jt_29
  generalize mNew μ29 = μ30 at b30 jt_30 ⊢
  refine T_putR (pc := 137) (c := 12) (j := 41) fl_X12_77 ⟨rfl, rfl⟩ ⟨rfl, rfl⟩ (fun q => ⟨rfl, rfl⟩) (show KT 572 = (0, 12) by decide) (by rw [b30.n]; omega) dX12_init_137 ?_
  have b31 : Bd 572 572 588 (upr (upr (upr (upr (upr (upr (upr (upr (upr (upr (upr (upr (upr (upr (upr z0 1 (573 + 1)) 2 (574 + 1)) 3 (575 + 1)) 4 (576 + 1)) 7 (577 + 1)) 14 (578 + 1)) 18 (579 + 1)) 23 (580 + 1)) 25 (581 + 1)) 26 (582 + 1)) 27 (583 + 1)) 28 (584 + 1)) 30 (585 + 1)) 31 (586 + 1)) 41 (587 + 1)) z0 (upr zi 13 (-1)) μ (mR μ30 572 41 (587 + 1)) := b30.putR
  have jt_31 : (mR μ30 572 41 (587 + 1)).2.2.1 573 = zi := jt_30
  generalize mR μ30 572 41 (587 + 1) = μ31 at b31 jt_31 ⊢
  refine T_aload_n (pc := 140) (i := 0) dX12_init_140 rfl rfl ?_
  refine T_bipush (pc := 141) (v := nI 8) dX12_init_141 (by decide) ?_
  refine T_newa (pc := 143) (at9 := .int) (t := 1) (N := 8) ac_int (Or.inl ⟨rfl, rfl⟩) (nI_pos (by omega)) (nI_clamp (by omega)) (by decide) (by rw [b31.n]; exact (show KT 588 = (1, 8) by decide)) (by rw [b31.n]; show _ < 595; omega) (Nat.le_of_ble_eq_true rfl) (Nat.le_of_ble_eq_true rfl) dX12_init_143 ?_
  rw [b31.n]
  have b32 : Bd 572 572 589 (upr (upr (upr (upr (upr (upr (upr (upr (upr (upr (upr (upr (upr (upr (upr z0 1 (573 + 1)) 2 (574 + 1)) 3 (575 + 1)) 4 (576 + 1)) 7 (577 + 1)) 14 (578 + 1)) 18 (579 + 1)) 23 (580 + 1)) 25 (581 + 1)) 26 (582 + 1)) 27 (583 + 1)) 28 (584 + 1)) 30 (585 + 1)) 31 (586 + 1)) 41 (587 + 1)) z0 (upr zi 13 (-1)) μ (mNew μ31) := b31.newp (R0_arr (t := 1) (N := 8) (show KT 588 = (1, 8) by decide) (by decide))
  have jt_32 : (mNew μ31).2.2.1 573 = zi := (new_i (by rw [b31.n]; omega)).trans jt_31
  generalize mNew μ31 = μ32 at b32 jt_32 ⊢
  refine T_putR (pc := 145) (c := 12) (j := 42) fl_X12_80 ⟨rfl, rfl⟩ ⟨rfl, rfl⟩ (fun q => ⟨rfl, rfl⟩) (show KT 572 = (0, 12) by decide) (by rw [b32.n]; omega) dX12_init_145 ?_
  have b33 : Bd 572 572 589 (upr (upr (upr (upr (upr (upr (upr (upr (upr (upr (upr (upr (upr (upr (upr (upr z0 1 (573 + 1)) 2 (574 + 1)) 3 (575 + 1)) 4 (576 + 1)) 7 (577 + 1)) 14 (578 + 1)) 18 (579 + 1)) 23 (580 + 1)) 25 (581 + 1)) 26 (582 + 1)) 27 (583 + 1)) 28 (584 + 1)) 30 (585 + 1)) 31 (586 + 1)) 41 (587 + 1)) 42 (588 + 1)) z0 (upr zi 13 (-1)) μ (mR μ32 572 42 (588 + 1)) := b32.putR
  have jt_33 : (mR μ32 572 42 (588 + 1)).2.2.1 573 = zi := jt_32
  generalize mR μ32 572 42 (588 + 1) = μ33 at b33 jt_33 ⊢
  refine T_aload_n (pc := 148) (i := 0) dX12_init_148 rfl rfl ?_
  refine T_bipush (pc := 149) (v := nI 10) dX12_init_149 (by decide) ?_
  refine T_newa (pc := 151) (at9 := .int) (t := 1) (N := 10) ac_int (Or.inl ⟨rfl, rfl⟩) (nI_pos (by omega)) (nI_clamp (by omega)) (by decide) (by rw [b33.n]; exact (show KT 589 = (1, 10) by decide)) (by rw [b33.n]; show _ < 595; omega) (Nat.le_of_ble_eq_true rfl) (Nat.le_of_ble_eq_true rfl) dX12_init_151 ?_
  rw [b33.n]
  have b34 : Bd 572 572 590 (upr (upr (upr (upr (upr (upr (upr (upr (upr (upr (upr (upr (upr (upr (upr (upr z0 1 (573 + 1)) 2 (574 + 1)) 3 (575 + 1)) 4 (576 + 1)) 7 (577 + 1)) 14 (578 + 1)) 18 (579 + 1)) 23 (580 + 1)) 25 (581 + 1)) 26 (582 + 1)) 27 (583 + 1)) 28 (584 + 1)) 30 (585 + 1)) 31 (586 + 1)) 41 (587 + 1)) 42 (588 + 1)) z0 (upr zi 13 (-1)) μ (mNew μ33) := b33.newp (R0_arr (t := 1) (N := 10) (show KT 589 = (1, 10) by decide) (by decide))
  have jt_34 : (mNew μ33).2.2.1 573 = zi := (new_i (by rw [b33.n]; omega)).trans jt_33
  generalize mNew μ33 = μ34 at b34 jt_34 ⊢
  refine T_putR (pc := 153) (c := 12) (j := 44) fl_X12_83 ⟨rfl, rfl⟩ ⟨rfl, rfl⟩ (fun q => ⟨rfl, rfl⟩) (show KT 572 = (0, 12) by decide) (by rw [b34.n]; omega) dX12_init_153 ?_
  have b35 : Bd 572 572 590 (upr (upr (upr (upr (upr (upr (upr (upr (upr (upr (upr (upr (upr (upr (upr (upr (upr z0 1 (573 + 1)) 2 (574 + 1)) 3 (575 + 1)) 4 (576 + 1)) 7 (577 + 1)) 14 (578 + 1)) 18 (579 + 1)) 23 (580 + 1)) 25 (581 + 1)) 26 (582 + 1)) 27 (583 + 1)) 28 (584 + 1)) 30 (585 + 1)) 31 (586 + 1)) 41 (587 + 1)) 42 (588 + 1)) 44 (589 + 1)) z0 (upr zi 13 (-1)) μ (mR μ34 572 44 (589 + 1)) := b34.putR
  have jt_35 : (mR μ34 572 44 (589 + 1)).2.2.1 573 = zi := jt_34
  generalize mR μ34 572 44 (589 + 1) = μ35 at b35 jt_35 ⊢
  refine T_aload_n (pc := 156) (i := 0) dX12_init_156 rfl rfl ?_
  refine T_bipush (pc := 157) (v := nI 100) dX12_init_157 (by decide) ?_
  refine T_newa (pc := 159) (at9 := .long) (t := 2) (N := 100) ac_long (Or.inr (Or.inl ⟨rfl, rfl⟩)) (nI_pos (by omega)) (nI_clamp (by omega)) (by decide) (by rw [b35.n]; exact (show KT 590 = (2, 100) by decide)) (by rw [b35.n]; show _ < 595; omega) (Nat.le_of_ble_eq_true rfl) (Nat.le_of_ble_eq_true rfl) dX12_init_159 ?_
  rw [b35.n]
  have b36 : Bd 572 572 591 (upr (upr (upr (upr (upr (upr (upr (upr (upr (upr (upr (upr (upr (upr (upr (upr (upr z0 1 (573 + 1)) 2 (574 + 1)) 3 (575 + 1)) 4 (576 + 1)) 7 (577 + 1)) 14 (578 + 1)) 18 (579 + 1)) 23 (580 + 1)) 25 (581 + 1)) 26 (582 + 1)) 27 (583 + 1)) 28 (584 + 1)) 30 (585 + 1)) 31 (586 + 1)) 41 (587 + 1)) 42 (588 + 1)) 44 (589 + 1)) z0 (upr zi 13 (-1)) μ (mNew μ35) := b35.newp (R0_arr (t := 2) (N := 100) (show KT 590 = (2, 100) by decide) (by decide))
  have jt_36 : (mNew μ35).2.2.1 573 = zi := (new_i (by rw [b35.n]; omega)).trans jt_35
  generalize mNew μ35 = μ36 at b36 jt_36 ⊢
  refine T_putR (pc := 161) (c := 12) (j := 45) fl_X12_86 ⟨rfl, rfl⟩ ⟨rfl, rfl⟩ (fun q => ⟨rfl, rfl⟩) (show KT 572 = (0, 12) by decide) (by rw [b36.n]; omega) dX12_init_161 ?_
  have b37 : Bd 572 572 591 (upr (upr (upr (upr (upr (upr (upr (upr (upr (upr (upr (upr (upr (upr (upr (upr (upr (upr z0 1 (573 + 1)) 2 (574 + 1)) 3 (575 + 1)) 4 (576 + 1)) 7 (577 + 1)) 14 (578 + 1)) 18 (579 + 1)) 23 (580 + 1)) 25 (581 + 1)) 26 (582 + 1)) 27 (583 + 1)) 28 (584 + 1)) 30 (585 + 1)) 31 (586 + 1)) 41 (587 + 1)) 42 (588 + 1)) 44 (589 + 1)) 45 (590 + 1)) z0 (upr zi 13 (-1)) μ (mR μ36 572 45 (590 + 1)) := b36.putR
  have jt_37 : (mR μ36 572 45 (590 + 1)).2.2.1 573 = zi := jt_36
  generalize mR μ36 572 45 (590 + 1) = μ37 at b37 jt_37 ⊢
  refine T_aload_n (pc := 164) (i := 0) dX12_init_164 rfl rfl ?_
  refine T_bipush (pc := 165) (v := nI 100) dX12_init_165 (by decide) ?_
  refine T_newa (pc := 167) (at9 := .long) (t := 2) (N := 100) ac_long (Or.inr (Or.inl ⟨rfl, rfl⟩)) (nI_pos (by omega)) (nI_clamp (by omega)) (by decide) (by rw [b37.n]; exact (show KT 591 = (2, 100) by decide)) (by rw [b37.n]; show _ < 595; omega) (Nat.le_of_ble_eq_true rfl) (Nat.le_of_ble_eq_true rfl) dX12_init_167 ?_
  rw [b37.n]
  have b38 : Bd 572 572 592 (upr (upr (upr (upr (upr (upr (upr (upr (upr (upr (upr (upr (upr (upr (upr (upr (upr (upr z0 1 (573 + 1)) 2 (574 + 1)) 3 (575 + 1)) 4 (576 + 1)) 7 (577 + 1)) 14 (578 + 1)) 18 (579 + 1)) 23 (580 + 1)) 25 (581 + 1)) 26 (582 + 1)) 27 (583 + 1)) 28 (584 + 1)) 30 (585 + 1)) 31 (586 + 1)) 41 (587 + 1)) 42 (588 + 1)) 44 (589 + 1)) 45 (590 + 1)) z0 (upr zi 13 (-1)) μ (mNew μ37) := b37.newp (R0_arr (t := 2) (N := 100) (show KT 591 = (2, 100) by decide) (by decide))
  have jt_38 : (mNew μ37).2.2.1 573 = zi := (new_i (by rw [b37.n]; omega)).trans jt_37
  generalize mNew μ37 = μ38 at b38 jt_38 ⊢
  refine T_putR (pc := 169) (c := 12) (j := 46) fl_X12_89 ⟨rfl, rfl⟩ ⟨rfl, rfl⟩ (fun q => ⟨rfl, rfl⟩) (show KT 572 = (0, 12) by decide) (by rw [b38.n]; omega) dX12_init_169 ?_
  have b39 : Bd 572 572 592 (upr (upr (upr (upr (upr (upr (upr (upr (upr (upr (upr (upr (upr (upr (upr (upr (upr (upr (upr z0 1 (573 + 1)) 2 (574 + 1)) 3 (575 + 1)) 4 (576 + 1)) 7 (577 + 1)) 14 (578 + 1)) 18 (579 + 1)) 23 (580 + 1)) 25 (581 + 1)) 26 (582 + 1)) 27 (583 + 1)) 28 (584 + 1)) 30 (585 + 1)) 31 (586 + 1)) 41 (587 + 1)) 42 (588 + 1)) 44 (589 + 1)) 45 (590 + 1)) 46 (591 + 1)) z0 (upr zi 13 (-1)) μ (mR μ38 572 46 (591 + 1)) := b38.putR
  have jt_39 : (mR μ38 572 46 (591 + 1)).2.2.1 573 = zi := jt_38
  generalize mR μ38 572 46 (591 + 1) = μ39 at b39 jt_39 ⊢
  refine T_aload_n (pc := 172) (i := 0) dX12_init_172 rfl rfl ?_
  refine T_sipush (pc := 173) (v := nI 1501) dX12_init_173 (by decide) ?_
  refine T_newa (pc := 176) (at9 := .int) (t := 1) (N := 1501) ac_int (Or.inl ⟨rfl, rfl⟩) (nI_pos (by omega)) (nI_clamp (by omega)) (by decide) (by rw [b39.n]; exact (show KT 592 = (1, 1501) by decide)) (by rw [b39.n]; show _ < 595; omega) (Nat.le_of_ble_eq_true rfl) (Nat.le_of_ble_eq_true rfl) dX12_init_176 ?_
  rw [b39.n]
  have b40 : Bd 572 572 593 (upr (upr (upr (upr (upr (upr (upr (upr (upr (upr (upr (upr (upr (upr (upr (upr (upr (upr (upr z0 1 (573 + 1)) 2 (574 + 1)) 3 (575 + 1)) 4 (576 + 1)) 7 (577 + 1)) 14 (578 + 1)) 18 (579 + 1)) 23 (580 + 1)) 25 (581 + 1)) 26 (582 + 1)) 27 (583 + 1)) 28 (584 + 1)) 30 (585 + 1)) 31 (586 + 1)) 41 (587 + 1)) 42 (588 + 1)) 44 (589 + 1)) 45 (590 + 1)) 46 (591 + 1)) z0 (upr zi 13 (-1)) μ (mNew μ39) := b39.newp (R0_arr (t := 1) (N := 1501) (show KT 592 = (1, 1501) by decide) (by decide))
  have jt_40 : (mNew μ39).2.2.1 573 = zi := (new_i (by rw [b39.n]; omega)).trans jt_39
  generalize mNew μ39 = μ40 at b40 jt_40 ⊢
  refine T_putR (pc := 178) (c := 12) (j := 48) fl_X12_92 ⟨rfl, rfl⟩ ⟨rfl, rfl⟩ (fun q => ⟨rfl, rfl⟩) (show KT 572 = (0, 12) by decide) (by rw [b40.n]; omega) dX12_init_178 ?_
  have b41 : Bd 572 572 593 (upr (upr (upr (upr (upr (upr (upr (upr (upr (upr (upr (upr (upr (upr (upr (upr (upr (upr (upr (upr z0 1 (573 + 1)) 2 (574 + 1)) 3 (575 + 1)) 4 (576 + 1)) 7 (577 + 1)) 14 (578 + 1)) 18 (579 + 1)) 23 (580 + 1)) 25 (581 + 1)) 26 (582 + 1)) 27 (583 + 1)) 28 (584 + 1)) 30 (585 + 1)) 31 (586 + 1)) 41 (587 + 1)) 42 (588 + 1)) 44 (589 + 1)) 45 (590 + 1)) 46 (591 + 1)) 48 (592 + 1)) z0 (upr zi 13 (-1)) μ (mR μ40 572 48 (592 + 1)) := b40.putR
  have jt_41 : (mR μ40 572 48 (592 + 1)).2.2.1 573 = zi := jt_40
  generalize mR μ40 572 48 (592 + 1) = μ41 at b41 jt_41 ⊢
  refine T_aload_n (pc := 181) (i := 0) dX12_init_181 rfl rfl ?_
  refine T_sipush (pc := 182) (v := nI 1501) dX12_init_182 (by decide) ?_
  refine T_newa (pc := 185) (at9 := .int) (t := 1) (N := 1501) ac_int (Or.inl ⟨rfl, rfl⟩) (nI_pos (by omega)) (nI_clamp (by omega)) (by decide) (by rw [b41.n]; exact (show KT 593 = (1, 1501) by decide)) (by rw [b41.n]; show _ < 595; omega) (Nat.le_of_ble_eq_true rfl) (Nat.le_of_ble_eq_true rfl) dX12_init_185 ?_
  rw [b41.n]
  have b42 : Bd 572 572 594 (upr (upr (upr (upr (upr (upr (upr (upr (upr (upr (upr (upr (upr (upr (upr (upr (upr (upr (upr (upr z0 1 (573 + 1)) 2 (574 + 1)) 3 (575 + 1)) 4 (576 + 1)) 7 (577 + 1)) 14 (578 + 1)) 18 (579 + 1)) 23 (580 + 1)) 25 (581 + 1)) 26 (582 + 1)) 27 (583 + 1)) 28 (584 + 1)) 30 (585 + 1)) 31 (586 + 1)) 41 (587 + 1)) 42 (588 + 1)) 44 (589 + 1)) 45 (590 + 1)) 46 (591 + 1)) 48 (592 + 1)) z0 (upr zi 13 (-1)) μ (mNew μ41) := b41.newp (R0_arr (t := 1) (N := 1501) (show KT 593 = (1, 1501) by decide) (by decide))
  have jt_42 : (mNew μ41).2.2.1 573 = zi := (new_i (by rw [b41.n]; omega)).trans jt_41
  generalize mNew μ41 = μ42 at b42 jt_42 ⊢
  refine T_putR (pc := 187) (c := 12) (j := 49) fl_X12_95 ⟨rfl, rfl⟩ ⟨rfl, rfl⟩ (fun q => ⟨rfl, rfl⟩) (show KT 572 = (0, 12) by decide) (by rw [b42.n]; omega) dX12_init_187 ?_
  have b43 : Bd 572 572 594 (upr (upr (upr (upr (upr (upr (upr (upr (upr (upr (upr (upr (upr (upr (upr (upr (upr (upr (upr (upr (upr z0 1 (573 + 1)) 2 (574 + 1)) 3 (575 + 1)) 4 (576 + 1)) 7 (577 + 1)) 14 (578 + 1)) 18 (579 + 1)) 23 (580 + 1)) 25 (581 + 1)) 26 (582 + 1)) 27 (583 + 1)) 28 (584 + 1)) 30 (585 + 1)) 31 (586 + 1)) 41 (587 + 1)) 42 (588 + 1)) 44 (589 + 1)) 45 (590 + 1)) 46 (591 + 1)) 48 (592 + 1)) 49 (593 + 1)) z0 (upr zi 13 (-1)) μ (mR μ42 572 49 (593 + 1)) := b42.putR
  have jt_43 : (mR μ42 572 49 (593 + 1)).2.2.1 573 = zi := jt_42
  generalize mR μ42 572 49 (593 + 1) = μ43 at b43 jt_43 ⊢
  refine T_aload_n (pc := 190) (i := 0) dX12_init_190 rfl rfl ?_
  refine T_getR (pc := 191) (c := 12) (j := 1) (i := 573) fl_X12_29 rfl (show KT 572 = (0, 12) by decide) (by rw [b43.n]; omega) (by rw [b43.r]; rfl) dX12_init_191 ?_
  refine T_bipush (pc := 194) (v := nI 8) dX12_init_194 (by decide) ?_
  refine T_iconst (pc := 196) (v := nI 1) dX12_init_196 (by decide) ?_
  refine T_iast (pc := 197) (n := 1989) (show KT 573 = (1, 1989) by decide) (by rw [b43.n]; omega) (vp_in_nI (n := 8) (by omega) (by omega)) dX12_init_197 ?_
  rw [nI_clamp (n := 8) (by omega)]
  have b44 : Bd 572 572 594 (upr (upr (upr (upr (upr (upr (upr (upr (upr (upr (upr (upr (upr (upr (upr (upr (upr (upr (upr (upr (upr z0 1 (573 + 1)) 2 (574 + 1)) 3 (575 + 1)) 4 (576 + 1)) 7 (577 + 1)) 14 (578 + 1)) 18 (579 + 1)) 23 (580 + 1)) 25 (581 + 1)) 26 (582 + 1)) 27 (583 + 1)) 28 (584 + 1)) 30 (585 + 1)) 31 (586 + 1)) 41 (587 + 1)) 42 (588 + 1)) 44 (589 + 1)) 45 (590 + 1)) 46 (591 + 1)) 48 (592 + 1)) 49 (593 + 1)) z0 (upr zi 13 (-1)) μ (mI μ43 573 8 (nI 1)) := b43.ist (by omega)
  have jt_44 : (mI μ43 573 8 (nI 1)).2.2.1 573 = (upr zi 8 (nI 1)) := (show up2 μ43.2.2.1 573 8 (nI 1) 573 = _ from (up2_row.trans (by rw [jt_43])))
  generalize mI μ43 573 8 (nI 1) = μ44 at b44 jt_44 ⊢
  refine T_iconst (pc := 198) (v := nI 0) dX12_init_198 (by decide) ?_
  refine T_istore_n (pc := 199) (i := 1) (ls' := [some (.ref 572), some (.int (nI 0))]) dX12_init_199 rfl (by decide) rfl ?_
  refine T_iload_n (pc := 200) (i := 1) dX12_init_200 rfl rfl ?_
  refine T_bipush (pc := 201) (v := nI 8) dX12_init_201 (by decide) ?_
  refine T_icmp_ge (pc := 203) (tgt := 222) dX12_init_203 (by decide) (fun h => absurd h (by decide)) (fun _ => ?_)
  refine T_aload_n (pc := 206) (i := 0) dX12_init_206 rfl rfl ?_
  refine T_getR (pc := 207) (c := 12) (j := 1) (i := 573) fl_X12_29 rfl (show KT 572 = (0, 12) by decide) (by rw [b44.n]; omega) (by rw [b44.r]; rfl) dX12_init_207 ?_
  refine T_bipush (pc := 210) (v := nI 9) dX12_init_210 (by decide) ?_
  refine T_iload_n (pc := 212) (i := 1) dX12_init_212 rfl rfl ?_
  refine T_iadd (pc := 213) dX12_init_213 ?_
  refine T_topi (v := nI 9) (by decide) ?_
  refine T_iconst (pc := 214) (v := nI 1) dX12_init_214 (by decide) ?_
  refine T_iast (pc := 215) (n := 1989) (show KT 573 = (1, 1989) by decide) (by rw [b44.n]; omega) (vp_in_nI (n := 9) (by omega) (by omega)) dX12_init_215 ?_
  rw [nI_clamp (n := 9) (by omega)]
  have b45 : Bd 572 572 594 (upr (upr (upr (upr (upr (upr (upr (upr (upr (upr (upr (upr (upr (upr (upr (upr (upr (upr (upr (upr (upr z0 1 (573 + 1)) 2 (574 + 1)) 3 (575 + 1)) 4 (576 + 1)) 7 (577 + 1)) 14 (578 + 1)) 18 (579 + 1)) 23 (580 + 1)) 25 (581 + 1)) 26 (582 + 1)) 27 (583 + 1)) 28 (584 + 1)) 30 (585 + 1)) 31 (586 + 1)) 41 (587 + 1)) 42 (588 + 1)) 44 (589 + 1)) 45 (590 + 1)) 46 (591 + 1)) 48 (592 + 1)) 49 (593 + 1)) z0 (upr zi 13 (-1)) μ (mI μ44 573 9 (nI 1)) := b44.ist (by omega)
  have jt_45 : (mI μ44 573 9 (nI 1)).2.2.1 573 = (upr (upr zi 8 (nI 1)) 9 (nI 1)) := (show up2 μ44.2.2.1 573 9 (nI 1) 573 = _ from (up2_row.trans (by rw [jt_44])))
  generalize mI μ44 573 9 (nI 1) = μ45 at b45 jt_45 ⊢
  refine T_iinc (pc := 216) (i := 1) (v := nI 1) (ls' := [some (.ref 572), some (.int (nI 1))]) dX12_init_216 rfl (by decide) rfl ?_
  refine T_goto (pc := 219) (tgt := 200) dX12_init_219 (by decide) ?_
  refine T_iload_n (pc := 200) (i := 1) dX12_init_200 rfl rfl ?_
  refine T_bipush (pc := 201) (v := nI 8) dX12_init_201 (by decide) ?_
  refine T_icmp_ge (pc := 203) (tgt := 222) dX12_init_203 (by decide) (fun h => absurd h (by decide)) (fun _ => ?_)
  refine T_aload_n (pc := 206) (i := 0) dX12_init_206 rfl rfl ?_
  refine T_getR (pc := 207) (c := 12) (j := 1) (i := 573) fl_X12_29 rfl (show KT 572 = (0, 12) by decide) (by rw [b45.n]; omega) (by rw [b45.r]; rfl) dX12_init_207 ?_
  refine T_bipush (pc := 210) (v := nI 9) dX12_init_210 (by decide) ?_
  refine T_iload_n (pc := 212) (i := 1) dX12_init_212 rfl rfl ?_
  refine T_iadd (pc := 213) dX12_init_213 ?_
  refine T_topi (v := nI 10) (by decide) ?_
  refine T_iconst (pc := 214) (v := nI 1) dX12_init_214 (by decide) ?_
  refine T_iast (pc := 215) (n := 1989) (show KT 573 = (1, 1989) by decide) (by rw [b45.n]; omega) (vp_in_nI (n := 10) (by omega) (by omega)) dX12_init_215 ?_
  rw [nI_clamp (n := 10) (by omega)]
  have b46 : Bd 572 572 594 (upr (upr (upr (upr (upr (upr (upr (upr (upr (upr (upr (upr (upr (upr (upr (upr (upr (upr (upr (upr (upr z0 1 (573 + 1)) 2 (574 + 1)) 3 (575 + 1)) 4 (576 + 1)) 7 (577 + 1)) 14 (578 + 1)) 18 (579 + 1)) 23 (580 + 1)) 25 (581 + 1)) 26 (582 + 1)) 27 (583 + 1)) 28 (584 + 1)) 30 (585 + 1)) 31 (586 + 1)) 41 (587 + 1)) 42 (588 + 1)) 44 (589 + 1)) 45 (590 + 1)) 46 (591 + 1)) 48 (592 + 1)) 49 (593 + 1)) z0 (upr zi 13 (-1)) μ (mI μ45 573 10 (nI 1)) := b45.ist (by omega)
  have jt_46 : (mI μ45 573 10 (nI 1)).2.2.1 573 = (upr (upr (upr zi 8 (nI 1)) 9 (nI 1)) 10 (nI 1)) := (show up2 μ45.2.2.1 573 10 (nI 1) 573 = _ from (up2_row.trans (by rw [jt_45])))
  generalize mI μ45 573 10 (nI 1) = μ46 at b46 jt_46 ⊢
  refine T_iinc (pc := 216) (i := 1) (v := nI 2) (ls' := [some (.ref 572), some (.int (nI 2))]) dX12_init_216 rfl (by decide) rfl ?_
  refine T_goto (pc := 219) (tgt := 200) dX12_init_219 (by decide) ?_
  refine T_iload_n (pc := 200) (i := 1) dX12_init_200 rfl rfl ?_
  refine T_bipush (pc := 201) (v := nI 8) dX12_init_201 (by decide) ?_
  refine T_icmp_ge (pc := 203) (tgt := 222) dX12_init_203 (by decide) (fun h => absurd h (by decide)) (fun _ => ?_)
  refine T_aload_n (pc := 206) (i := 0) dX12_init_206 rfl rfl ?_
  refine T_getR (pc := 207) (c := 12) (j := 1) (i := 573) fl_X12_29 rfl (show KT 572 = (0, 12) by decide) (by rw [b46.n]; omega) (by rw [b46.r]; rfl) dX12_init_207 ?_
  refine T_bipush (pc := 210) (v := nI 9) dX12_init_210 (by decide) ?_
  refine T_iload_n (pc := 212) (i := 1) dX12_init_212 rfl rfl ?_
  refine T_iadd (pc := 213) dX12_init_213 ?_
  refine T_topi (v := nI 11) (by decide) ?_
  refine T_iconst (pc := 214) (v := nI 1) dX12_init_214 (by decide) ?_
  refine T_iast (pc := 215) (n := 1989) (show KT 573 = (1, 1989) by decide) (by rw [b46.n]; omega) (vp_in_nI (n := 11) (by omega) (by omega)) dX12_init_215 ?_
  rw [nI_clamp (n := 11) (by omega)]
  have b47 : Bd 572 572 594 (upr (upr (upr (upr (upr (upr (upr (upr (upr (upr (upr (upr (upr (upr (upr (upr (upr (upr (upr (upr (upr z0 1 (573 + 1)) 2 (574 + 1)) 3 (575 + 1)) 4 (576 + 1)) 7 (577 + 1)) 14 (578 + 1)) 18 (579 + 1)) 23 (580 + 1)) 25 (581 + 1)) 26 (582 + 1)) 27 (583 + 1)) 28 (584 + 1)) 30 (585 + 1)) 31 (586 + 1)) 41 (587 + 1)) 42 (588 + 1)) 44 (589 + 1)) 45 (590 + 1)) 46 (591 + 1)) 48 (592 + 1)) 49 (593 + 1)) z0 (upr zi 13 (-1)) μ (mI μ46 573 11 (nI 1)) := b46.ist (by omega)
  have jt_47 : (mI μ46 573 11 (nI 1)).2.2.1 573 = (upr (upr (upr (upr zi 8 (nI 1)) 9 (nI 1)) 10 (nI 1)) 11 (nI 1)) := (show up2 μ46.2.2.1 573 11 (nI 1) 573 = _ from (up2_row.trans (by rw [jt_46])))
  generalize mI μ46 573 11 (nI 1) = μ47 at b47 jt_47 ⊢
  refine T_iinc (pc := 216) (i := 1) (v := nI 3) (ls' := [some (.ref 572), some (.int (nI 3))]) dX12_init_216 rfl (by decide) rfl ?_
  refine T_goto (pc := 219) (tgt := 200) dX12_init_219 (by decide) ?_
  refine T_iload_n (pc := 200) (i := 1) dX12_init_200 rfl rfl ?_
  refine T_bipush (pc := 201) (v := nI 8) dX12_init_201 (by decide) ?_
  refine T_icmp_ge (pc := 203) (tgt := 222) dX12_init_203 (by decide) (fun h => absurd h (by decide)) (fun _ => ?_)
  refine T_aload_n (pc := 206) (i := 0) dX12_init_206 rfl rfl ?_
  refine T_getR (pc := 207) (c := 12) (j := 1) (i := 573) fl_X12_29 rfl (show KT 572 = (0, 12) by decide) (by rw [b47.n]; omega) (by rw [b47.r]; rfl) dX12_init_207 ?_
  refine T_bipush (pc := 210) (v := nI 9) dX12_init_210 (by decide) ?_
  refine T_iload_n (pc := 212) (i := 1) dX12_init_212 rfl rfl ?_
  refine T_iadd (pc := 213) dX12_init_213 ?_
  refine T_topi (v := nI 12) (by decide) ?_
  refine T_iconst (pc := 214) (v := nI 1) dX12_init_214 (by decide) ?_
  refine T_iast (pc := 215) (n := 1989) (show KT 573 = (1, 1989) by decide) (by rw [b47.n]; omega) (vp_in_nI (n := 12) (by omega) (by omega)) dX12_init_215 ?_
  rw [nI_clamp (n := 12) (by omega)]
  have b48 : Bd 572 572 594 (upr (upr (upr (upr (upr (upr (upr (upr (upr (upr (upr (upr (upr (upr (upr (upr (upr (upr (upr (upr (upr z0 1 (573 + 1)) 2 (574 + 1)) 3 (575 + 1)) 4 (576 + 1)) 7 (577 + 1)) 14 (578 + 1)) 18 (579 + 1)) 23 (580 + 1)) 25 (581 + 1)) 26 (582 + 1)) 27 (583 + 1)) 28 (584 + 1)) 30 (585 + 1)) 31 (586 + 1)) 41 (587 + 1)) 42 (588 + 1)) 44 (589 + 1)) 45 (590 + 1)) 46 (591 + 1)) 48 (592 + 1)) 49 (593 + 1)) z0 (upr zi 13 (-1)) μ (mI μ47 573 12 (nI 1)) := b47.ist (by omega)
  have jt_48 : (mI μ47 573 12 (nI 1)).2.2.1 573 = (upr (upr (upr (upr (upr zi 8 (nI 1)) 9 (nI 1)) 10 (nI 1)) 11 (nI 1)) 12 (nI 1)) := (show up2 μ47.2.2.1 573 12 (nI 1) 573 = _ from (up2_row.trans (by rw [jt_47])))
  generalize mI μ47 573 12 (nI 1) = μ48 at b48 jt_48 ⊢
  refine T_iinc (pc := 216) (i := 1) (v := nI 4) (ls' := [some (.ref 572), some (.int (nI 4))]) dX12_init_216 rfl (by decide) rfl ?_
  refine T_goto (pc := 219) (tgt := 200) dX12_init_219 (by decide) ?_
  refine T_iload_n (pc := 200) (i := 1) dX12_init_200 rfl rfl ?_
  refine T_bipush (pc := 201) (v := nI 8) dX12_init_201 (by decide) ?_
  refine T_icmp_ge (pc := 203) (tgt := 222) dX12_init_203 (by decide) (fun h => absurd h (by decide)) (fun _ => ?_)
  refine T_aload_n (pc := 206) (i := 0) dX12_init_206 rfl rfl ?_
  refine T_getR (pc := 207) (c := 12) (j := 1) (i := 573) fl_X12_29 rfl (show KT 572 = (0, 12) by decide) (by rw [b48.n]; omega) (by rw [b48.r]; rfl) dX12_init_207 ?_
  refine T_bipush (pc := 210) (v := nI 9) dX12_init_210 (by decide) ?_
  refine T_iload_n (pc := 212) (i := 1) dX12_init_212 rfl rfl ?_
  refine T_iadd (pc := 213) dX12_init_213 ?_
  refine T_topi (v := nI 13) (by decide) ?_
  refine T_iconst (pc := 214) (v := nI 1) dX12_init_214 (by decide) ?_
  refine T_iast (pc := 215) (n := 1989) (show KT 573 = (1, 1989) by decide) (by rw [b48.n]; omega) (vp_in_nI (n := 13) (by omega) (by omega)) dX12_init_215 ?_
  rw [nI_clamp (n := 13) (by omega)]
  have b49 : Bd 572 572 594 (upr (upr (upr (upr (upr (upr (upr (upr (upr (upr (upr (upr (upr (upr (upr (upr (upr (upr (upr (upr (upr z0 1 (573 + 1)) 2 (574 + 1)) 3 (575 + 1)) 4 (576 + 1)) 7 (577 + 1)) 14 (578 + 1)) 18 (579 + 1)) 23 (580 + 1)) 25 (581 + 1)) 26 (582 + 1)) 27 (583 + 1)) 28 (584 + 1)) 30 (585 + 1)) 31 (586 + 1)) 41 (587 + 1)) 42 (588 + 1)) 44 (589 + 1)) 45 (590 + 1)) 46 (591 + 1)) 48 (592 + 1)) 49 (593 + 1)) z0 (upr zi 13 (-1)) μ (mI μ48 573 13 (nI 1)) := b48.ist (by omega)
  have jt_49 : (mI μ48 573 13 (nI 1)).2.2.1 573 = (upr (upr (upr (upr (upr (upr zi 8 (nI 1)) 9 (nI 1)) 10 (nI 1)) 11 (nI 1)) 12 (nI 1)) 13 (nI 1)) := (show up2 μ48.2.2.1 573 13 (nI 1) 573 = _ from (up2_row.trans (by rw [jt_48])))
  generalize mI μ48 573 13 (nI 1) = μ49 at b49 jt_49 ⊢
  refine T_iinc (pc := 216) (i := 1) (v := nI 5) (ls' := [some (.ref 572), some (.int (nI 5))]) dX12_init_216 rfl (by decide) rfl ?_
  refine T_goto (pc := 219) (tgt := 200) dX12_init_219 (by decide) ?_
  refine T_iload_n (pc := 200) (i := 1) dX12_init_200 rfl rfl ?_
  refine T_bipush (pc := 201) (v := nI 8) dX12_init_201 (by decide) ?_
  refine T_icmp_ge (pc := 203) (tgt := 222) dX12_init_203 (by decide) (fun h => absurd h (by decide)) (fun _ => ?_)
  refine T_aload_n (pc := 206) (i := 0) dX12_init_206 rfl rfl ?_
  refine T_getR (pc := 207) (c := 12) (j := 1) (i := 573) fl_X12_29 rfl (show KT 572 = (0, 12) by decide) (by rw [b49.n]; omega) (by rw [b49.r]; rfl) dX12_init_207 ?_
  refine T_bipush (pc := 210) (v := nI 9) dX12_init_210 (by decide) ?_
  refine T_iload_n (pc := 212) (i := 1) dX12_init_212 rfl rfl ?_
  refine T_iadd (pc := 213) dX12_init_213 ?_
  refine T_topi (v := nI 14) (by decide) ?_
  refine T_iconst (pc := 214) (v := nI 1) dX12_init_214 (by decide) ?_
  refine T_iast (pc := 215) (n := 1989) (show KT 573 = (1, 1989) by decide) (by rw [b49.n]; omega) (vp_in_nI (n := 14) (by omega) (by omega)) dX12_init_215 ?_
  rw [nI_clamp (n := 14) (by omega)]
  have b50 : Bd 572 572 594 (upr (upr (upr (upr (upr (upr (upr (upr (upr (upr (upr (upr (upr (upr (upr (upr (upr (upr (upr (upr (upr z0 1 (573 + 1)) 2 (574 + 1)) 3 (575 + 1)) 4 (576 + 1)) 7 (577 + 1)) 14 (578 + 1)) 18 (579 + 1)) 23 (580 + 1)) 25 (581 + 1)) 26 (582 + 1)) 27 (583 + 1)) 28 (584 + 1)) 30 (585 + 1)) 31 (586 + 1)) 41 (587 + 1)) 42 (588 + 1)) 44 (589 + 1)) 45 (590 + 1)) 46 (591 + 1)) 48 (592 + 1)) 49 (593 + 1)) z0 (upr zi 13 (-1)) μ (mI μ49 573 14 (nI 1)) := b49.ist (by omega)
  have jt_50 : (mI μ49 573 14 (nI 1)).2.2.1 573 = (upr (upr (upr (upr (upr (upr (upr zi 8 (nI 1)) 9 (nI 1)) 10 (nI 1)) 11 (nI 1)) 12 (nI 1)) 13 (nI 1)) 14 (nI 1)) := (show up2 μ49.2.2.1 573 14 (nI 1) 573 = _ from (up2_row.trans (by rw [jt_49])))
  generalize mI μ49 573 14 (nI 1) = μ50 at b50 jt_50 ⊢
  refine T_iinc (pc := 216) (i := 1) (v := nI 6) (ls' := [some (.ref 572), some (.int (nI 6))]) dX12_init_216 rfl (by decide) rfl ?_
  refine T_goto (pc := 219) (tgt := 200) dX12_init_219 (by decide) ?_
  refine T_iload_n (pc := 200) (i := 1) dX12_init_200 rfl rfl ?_
  refine T_bipush (pc := 201) (v := nI 8) dX12_init_201 (by decide) ?_
  refine T_icmp_ge (pc := 203) (tgt := 222) dX12_init_203 (by decide) (fun h => absurd h (by decide)) (fun _ => ?_)
  refine T_aload_n (pc := 206) (i := 0) dX12_init_206 rfl rfl ?_
  refine T_getR (pc := 207) (c := 12) (j := 1) (i := 573) fl_X12_29 rfl (show KT 572 = (0, 12) by decide) (by rw [b50.n]; omega) (by rw [b50.r]; rfl) dX12_init_207 ?_
  refine T_bipush (pc := 210) (v := nI 9) dX12_init_210 (by decide) ?_
  refine T_iload_n (pc := 212) (i := 1) dX12_init_212 rfl rfl ?_
  refine T_iadd (pc := 213) dX12_init_213 ?_
  refine T_topi (v := nI 15) (by decide) ?_
  refine T_iconst (pc := 214) (v := nI 1) dX12_init_214 (by decide) ?_
  refine T_iast (pc := 215) (n := 1989) (show KT 573 = (1, 1989) by decide) (by rw [b50.n]; omega) (vp_in_nI (n := 15) (by omega) (by omega)) dX12_init_215 ?_
  rw [nI_clamp (n := 15) (by omega)]
  have b51 : Bd 572 572 594 (upr (upr (upr (upr (upr (upr (upr (upr (upr (upr (upr (upr (upr (upr (upr (upr (upr (upr (upr (upr (upr z0 1 (573 + 1)) 2 (574 + 1)) 3 (575 + 1)) 4 (576 + 1)) 7 (577 + 1)) 14 (578 + 1)) 18 (579 + 1)) 23 (580 + 1)) 25 (581 + 1)) 26 (582 + 1)) 27 (583 + 1)) 28 (584 + 1)) 30 (585 + 1)) 31 (586 + 1)) 41 (587 + 1)) 42 (588 + 1)) 44 (589 + 1)) 45 (590 + 1)) 46 (591 + 1)) 48 (592 + 1)) 49 (593 + 1)) z0 (upr zi 13 (-1)) μ (mI μ50 573 15 (nI 1)) := b50.ist (by omega)
  have jt_51 : (mI μ50 573 15 (nI 1)).2.2.1 573 = (upr (upr (upr (upr (upr (upr (upr (upr zi 8 (nI 1)) 9 (nI 1)) 10 (nI 1)) 11 (nI 1)) 12 (nI 1)) 13 (nI 1)) 14 (nI 1)) 15 (nI 1)) := (show up2 μ50.2.2.1 573 15 (nI 1) 573 = _ from (up2_row.trans (by rw [jt_50])))
  generalize mI μ50 573 15 (nI 1) = μ51 at b51 jt_51 ⊢
  refine T_iinc (pc := 216) (i := 1) (v := nI 7) (ls' := [some (.ref 572), some (.int (nI 7))]) dX12_init_216 rfl (by decide) rfl ?_
  refine T_goto (pc := 219) (tgt := 200) dX12_init_219 (by decide) ?_
  refine T_iload_n (pc := 200) (i := 1) dX12_init_200 rfl rfl ?_
  refine T_bipush (pc := 201) (v := nI 8) dX12_init_201 (by decide) ?_
  refine T_icmp_ge (pc := 203) (tgt := 222) dX12_init_203 (by decide) (fun h => absurd h (by decide)) (fun _ => ?_)
  refine T_aload_n (pc := 206) (i := 0) dX12_init_206 rfl rfl ?_
  refine T_getR (pc := 207) (c := 12) (j := 1) (i := 573) fl_X12_29 rfl (show KT 572 = (0, 12) by decide) (by rw [b51.n]; omega) (by rw [b51.r]; rfl) dX12_init_207 ?_
  refine T_bipush (pc := 210) (v := nI 9) dX12_init_210 (by decide) ?_
  refine T_iload_n (pc := 212) (i := 1) dX12_init_212 rfl rfl ?_
  refine T_iadd (pc := 213) dX12_init_213 ?_
  refine T_topi (v := nI 16) (by decide) ?_
  refine T_iconst (pc := 214) (v := nI 1) dX12_init_214 (by decide) ?_
  refine T_iast (pc := 215) (n := 1989) (show KT 573 = (1, 1989) by decide) (by rw [b51.n]; omega) (vp_in_nI (n := 16) (by omega) (by omega)) dX12_init_215 ?_
  rw [nI_clamp (n := 16) (by omega)]
  have b52 : Bd 572 572 594 (upr (upr (upr (upr (upr (upr (upr (upr (upr (upr (upr (upr (upr (upr (upr (upr (upr (upr (upr (upr (upr z0 1 (573 + 1)) 2 (574 + 1)) 3 (575 + 1)) 4 (576 + 1)) 7 (577 + 1)) 14 (578 + 1)) 18 (579 + 1)) 23 (580 + 1)) 25 (581 + 1)) 26 (582 + 1)) 27 (583 + 1)) 28 (584 + 1)) 30 (585 + 1)) 31 (586 + 1)) 41 (587 + 1)) 42 (588 + 1)) 44 (589 + 1)) 45 (590 + 1)) 46 (591 + 1)) 48 (592 + 1)) 49 (593 + 1)) z0 (upr zi 13 (-1)) μ (mI μ51 573 16 (nI 1)) := b51.ist (by omega)
  have jt_52 : (mI μ51 573 16 (nI 1)).2.2.1 573 = (upr (upr (upr (upr (upr (upr (upr (upr (upr zi 8 (nI 1)) 9 (nI 1)) 10 (nI 1)) 11 (nI 1)) 12 (nI 1)) 13 (nI 1)) 14 (nI 1)) 15 (nI 1)) 16 (nI 1)) := (show up2 μ51.2.2.1 573 16 (nI 1) 573 = _ from (up2_row.trans (by rw [jt_51])))
  generalize mI μ51 573 16 (nI 1) = μ52 at b52 jt_52 ⊢
  refine T_iinc (pc := 216) (i := 1) (v := nI 8) (ls' := [some (.ref 572), some (.int (nI 8))]) dX12_init_216 rfl (by decide) rfl ?_
  refine T_goto (pc := 219) (tgt := 200) dX12_init_219 (by decide) ?_
  refine T_iload_n (pc := 200) (i := 1) dX12_init_200 rfl rfl ?_
  refine T_bipush (pc := 201) (v := nI 8) dX12_init_201 (by decide) ?_
  refine T_icmp_ge (pc := 203) (tgt := 222) dX12_init_203 (by decide) (fun _ => ?_) (fun h => absurd (by decide) h)
  have hr : R0 572 = (upr (upr (upr (upr (upr (upr (upr (upr (upr (upr (upr (upr (upr (upr (upr (upr (upr (upr (upr (upr (upr z0 1 (573 + 1)) 2 (574 + 1)) 3 (575 + 1)) 4 (576 + 1)) 7 (577 + 1)) 14 (578 + 1)) 18 (579 + 1)) 23 (580 + 1)) 25 (581 + 1)) 26 (582 + 1)) 27 (583 + 1)) 28 (584 + 1)) 30 (585 + 1)) 31 (586 + 1)) 41 (587 + 1)) 42 (588 + 1)) 44 (589 + 1)) 45 (590 + 1)) 46 (591 + 1)) 48 (592 + 1)) 49 (593 + 1)) := by
    funext j
    show rt (KT 572) 572 j = _
    rw [show KT 572 = (0, 12) from (show KT 572 = (0, 12) by decide)]
    match j with
    | 0 => rfl
    | 1 => rfl
    | 2 => rfl
    | 3 => rfl
    | 4 => rfl
    | 5 => rfl
    | 6 => rfl
    | 7 => rfl
    | 8 => rfl
    | 9 => rfl
    | 10 => rfl
    | 11 => rfl
    | 12 => rfl
    | 13 => rfl
    | 14 => rfl
    | 15 => rfl
    | 16 => rfl
    | 17 => rfl
    | 18 => rfl
    | 19 => rfl
    | 20 => rfl
    | 21 => rfl
    | 22 => rfl
    | 23 => rfl
    | 24 => rfl
    | 25 => rfl
    | 26 => rfl
    | 27 => rfl
    | 28 => rfl
    | 29 => rfl
    | 30 => rfl
    | 31 => rfl
    | 32 => rfl
    | 33 => rfl
    | 34 => rfl
    | 35 => rfl
    | 36 => rfl
    | 37 => rfl
    | 38 => rfl
    | 39 => rfl
    | 40 => rfl
    | 41 => rfl
    | 42 => rfl
    | 43 => rfl
    | 44 => rfl
    | 45 => rfl
    | 46 => rfl
    | 47 => rfl
    | 48 => rfl
    | 49 => rfl
    | 50 => rfl
    | q + 51 => (simp only [upr]; rw [if_neg (by omega), if_neg (by omega), if_neg (by omega), if_neg (by omega), if_neg (by omega), if_neg (by omega), if_neg (by omega), if_neg (by omega), if_neg (by omega), if_neg (by omega), if_neg (by omega), if_neg (by omega), if_neg (by omega), if_neg (by omega), if_neg (by omega), if_neg (by omega), if_neg (by omega), if_neg (by omega), if_neg (by omega), if_neg (by omega), if_neg (by omega)] <;> rfl)
  exact T_vret (pc := 222) dX12_init_222 rfl (Nat.le_of_ble_eq_true rfl) (Nat.le_of_ble_eq_true rfl) ⟨rfl, b52.done hr (fun h => absurd h (Nat.lt_irrefl _)) ⟨b52.i, jt_52⟩⟩
end CT9

