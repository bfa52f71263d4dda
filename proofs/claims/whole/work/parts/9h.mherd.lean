/-! THE MODEL: its table of MEADOWS -/
def hcW (c : Nat) : Nat := uN (lN (c * 2654435761)) / 2 ^ 20
def hcC (c : Nat) : Nat := hcW c % 4096
theorem hcW_eq (c : Nat) : lushr (lN (c * 2654435761)) (nI 20) = lN (hcW c) := by
  unfold hcW
  obtain ⟨q, hq, e⟩ := wb_of (lN (c * 2654435761))
  rw [e, show uN (lN q) = q from wb_tn hq]
  exact lushr_n hq (by decide)
def hcM (l : List Nat) : Nat := hcC (cd l)
theorem hcM_lt (l : List Nat) : hcM l < 4096 := Nat.mod_lt _ (by decide)
/-- the MEADOWS that were met, in their order, by the table tb -/
def MHT (m : SM2) (H : Hd) (tb : Nat → Nat) : Prop := (m.1 572 29 = nI H.length ∧ H.length ≤ 1500) ∧ (∀ i, i < H.length → Mw (hA H i).1 ∧ m.2 582 i = lN (cd (hA H i).1) ∧ m.1 583 i = nI (hA H i).2) ∧ (∀ j, j < 4096 → m.1 584 j = nI (tb j)) ∧ TabOk hcM tb (hKs H)
def MHd (m : SM2) (H : Hd) : Prop := ∃ tb, MHT m H tb
def Sht (k : Nat) : Prop := k = 582 ∨ k = 583 ∨ k = 584
def F29 (j : Nat) : Prop := j = 29
theorem MHd.of {F S : Nat → Prop} {μ m : SM2} {H : Hd} (g : MHd μ H) (o : OfM F S μ m) (h1 : ¬ F 29) (h2 : ∀ k, Sht k → ¬ S k) : MHd m H := by
  obtain ⟨tb, g⟩ := g
  refine ⟨tb, ⟨(o.fi h1).trans g.1.1, g.1.2⟩, fun i hi => ⟨(g.2.1 i hi).1, (o.l (by decide) (h2 582 (Or.inl rfl)) i).trans (g.2.1 i hi).2.1, (o.i (by decide) (h2 583 (Or.inr (Or.inl rfl))) i).trans (g.2.1 i hi).2.2⟩, fun j hj => (o.i (by decide) (h2 584 (Or.inr (Or.inr rfl))) j).trans (g.2.2.1 j hj), g.2.2.2⟩
theorem MHd.len {m : SM2} {H : Hd} (g : MHd m H) : H.length ≤ 1500 := by
  obtain ⟨tb, g⟩ := g
  exact g.1.2
theorem MHd.size {m : SM2} {H : Hd} (g : MHd m H) : m.1 572 29 = nI H.length := by
  obtain ⟨tb, g⟩ := g
  exact g.1.1
theorem MHd.row {m : SM2} {H : Hd} (g : MHd m H) : ∀ i, i < H.length → Mw (hA H i).1 ∧ m.2 582 i = lN (cd (hA H i).1) ∧ m.1 583 i = nI (hA H i).2 := by
  obtain ⟨tb, g⟩ := g
  exact g.2.1
section MH1
variable {γ : Ga} {μ : SM2}
theorem m_slotOf {H : Hd} {tb : Nat → Nat} {l : List Nat} (hT : MHT μ H tb) (hl : Mw l) : Ex γ 1 0 0 M_X12_slotOf [.ref 572, .long (lN (cd l))] (rm μ) (Fn (some (.int (nI (slS hcM tb (hKs H) l)))) μ) := by
  have h15 := hT.1.2
  have hbl := cd_lt hl
  have hKl : (hKs H).length = H.length := List.length_map _
  have hlt := slT_lt hT.2.2.2 (by omega) l
  have hhs := hcM_lt l
  suffices loop : ∀ f t, t + f = slT hcM tb (hKs H) l → T γ 1 0 0 M_X12_slotOf (Fn (some (.int (nI (slS hcM tb (hKs H) l)))) μ) 0 0 14 [some (.ref 572), some (.long (lN (cd l))), none, some (.int (nI ((hcM l + t) % 4096)))] [] (rm μ) by
    refine Ex.of (by decide +kernel) rfl (Nat.le_of_ble_eq_true rfl) ?_
    show T _ _ _ _ _ _ _ _ _ [some (.ref 572), some (.long (lN (cd l))), none, none] [] (rm μ)
    refine T_lload_n (pc := 0) (i := 1) dX12_slotOf_0 rfl rfl ?_
    refine T_ldc2 (pc := 1) dX12_slotOf_1 cn_X12_426 ?_
    refine T_topl (v := lN 2654435761) (fa_litL _) ?_
    refine R_lmul (pc := 4) dX12_slotOf_4 ?_
    refine T_topl (v := (lN (cd l * 2654435761))) (rfl) ?_
    refine T_bipush (pc := 5) (v := nI 20) dX12_slotOf_5 (by decide) ?_
    refine T_lushr (pc := 7) dX12_slotOf_7 ?_
    refine T_topl (v := lN (hcW (cd l))) (hcW_eq (cd l)) ?_
    refine R_l2i (pc := 8) dX12_slotOf_8 ?_
    refine T_sipush (pc := 9) (v := nI 4095) dX12_slotOf_9 (by decide) ?_
    refine R_iand (pc := 12) dX12_slotOf_12 ?_
    refine T_topi (v := nI (hcM l)) (congrArg nI (Nat.and_two_pow_sub_one_eq_mod _ 12)) ?_
    refine T_istore_n (pc := 13) (i := 3) (ls' := [some (.ref 572), some (.long (lN (cd l))), none, some (.int (nI (hcM l)))]) dX12_slotOf_13 rfl (by decide) rfl ?_
    have h9 := loop (slT hcM tb (hKs H) l) 0 (Nat.zero_add _)
    rw [Nat.add_zero, Nat.mod_eq_of_lt (by omega)] at h9
    exact h9
  intro f
  induction f with
  | zero =>
    intro t ht
    have et : slT hcM tb (hKs H) l = t := ht.symm
    have hy : prP hcM tb (hKs H) l t = true := by
      rw [← et]
      exact fa_first_yes (prP hcM tb (hKs H) l) 4096 hlt
    have hm := hT.2.2.1 ((hcM l + t) % 4096) (Nat.mod_lt _ (by decide))
    have hb := hT.2.2.2.1 ((hcM l + t) % 4096) (Nat.mod_lt _ (by decide))
    unfold prP at hy
    have e9 : slS hcM tb (hKs H) l = (hcM l + t) % 4096 := by
      unfold slS
      rw [et]
    rw [e9]
    rw [et] at hlt
    generalize (hcM l + t) % 4096 = s at *
    have hs4 : s < 4096 := by
      rw [← e9]
      exact Nat.mod_lt _ (by decide)
    by_cases e0 : tb s = 0
    · skip
      refine T_aload_n (pc := 14) (i := 0) dX12_slotOf_14 rfl rfl ?_
      refine R_getR (pc := 15) (i := 584) fl_X12_68 rfl kc_572 lc_572 rc_572_28 dX12_slotOf_15 ?_
      refine T_iload_n (pc := 18) (i := 3) dX12_slotOf_18 rfl rfl ?_
      refine R_iald (pc := 19) (x := nI (tb s)) kc_584 lc_584 (by omega) (by first | decide | assumption) hm dX12_slotOf_19 ?_
      refine R_if_eq (pc := 20) (tgt := 52) (by omega) dX12_slotOf_20 (by decide) (fun h1 => ?_) (fun h1 => ?_)
      · skip
        refine T_iload_n (pc := 52) (i := 3) dX12_slotOf_52 rfl rfl ?_
        exact T_iret (pc := 53) (ty := .int) dX12_slotOf_53 rfl rfl (Nat.le_refl _) (Nat.le_refl _) ⟨rfl, rfl⟩
      · exact absurd e0 h1
    · rw [decide_eq_false e0, Bool.false_or] at hy
      have hy2 := of_decide_eq_true hy
      have hi : tb s - 1 < H.length := by omega
      have hrow := hT.2.1 (tb s - 1) hi
      rw [hK_hA hi] at hy2
      have hb2 := cd_lt hrow.1
      refine T_aload_n (pc := 14) (i := 0) dX12_slotOf_14 rfl rfl ?_
      refine R_getR (pc := 15) (i := 584) fl_X12_68 rfl kc_572 lc_572 rc_572_28 dX12_slotOf_15 ?_
      refine T_iload_n (pc := 18) (i := 3) dX12_slotOf_18 rfl rfl ?_
      refine R_iald (pc := 19) (x := nI (tb s)) kc_584 lc_584 (by omega) (by first | decide | assumption) hm dX12_slotOf_19 ?_
      refine R_if_eq (pc := 20) (tgt := 52) (by omega) dX12_slotOf_20 (by decide) (fun h1 => ?_) (fun h1 => ?_)
      · exact absurd h1 e0
      · skip
        refine T_aload_n (pc := 23) (i := 0) dX12_slotOf_23 rfl rfl ?_
        refine R_getR (pc := 24) (i := 582) fl_X12_62 rfl kc_572 lc_572 rc_572_26 dX12_slotOf_24 ?_
        refine T_aload_n (pc := 27) (i := 0) dX12_slotOf_27 rfl rfl ?_
        refine R_getR (pc := 28) (i := 584) fl_X12_68 rfl kc_572 lc_572 rc_572_28 dX12_slotOf_28 ?_
        refine T_iload_n (pc := 31) (i := 3) dX12_slotOf_31 rfl rfl ?_
        refine R_iald (pc := 32) (x := nI (tb s)) kc_584 lc_584 (by omega) (by first | decide | assumption) hm dX12_slotOf_32 ?_
        refine T_iconst (pc := 33) (v := nI 1) dX12_slotOf_33 (by decide) ?_
        refine R_isub (pc := 34) (by omega) dX12_slotOf_34 ?_
        refine R_lald (pc := 35) (x := lN (cd (hA H (tb s - 1)).1)) kc_582 lc_582 (by omega) (by first | decide | assumption) hrow.2.1 dX12_slotOf_35 ?_
        refine T_lload_n (pc := 36) (i := 1) dX12_slotOf_36 rfl rfl ?_
        refine T_lcmp (pc := 37) dX12_slotOf_37 ?_
        refine R_ln_eq (pc := 38) (tgt := 52) (by omega) (by omega) dX12_slotOf_38 (by decide) (fun h3 => ?_) (fun h3 => ?_)
        · skip
          refine T_iload_n (pc := 52) (i := 3) dX12_slotOf_52 rfl rfl ?_
          exact T_iret (pc := 53) (ty := .int) dX12_slotOf_53 rfl rfl (Nat.le_refl _) (Nat.le_refl _) ⟨rfl, rfl⟩
        · exact absurd (by rw [hy2]) h3
  | succ f ih =>
    intro t ht
    have hno := fa_first_no (prP hcM tb (hKs H) l) 4096 t (by unfold slT at ht; omega)
    have hm := hT.2.2.1 ((hcM l + t) % 4096) (Nat.mod_lt _ (by decide))
    have hb := hT.2.2.2.1 ((hcM l + t) % 4096) (Nat.mod_lt _ (by decide))
    have h9 := ih (t + 1) (by omega)
    rw [show (hcM l + (t + 1)) % 4096 = ((hcM l + t) % 4096 + 1) % 4096 by omega] at h9
    unfold prP at hno
    have hs4 : (hcM l + t) % 4096 < 4096 := Nat.mod_lt _ (by decide)
    generalize (hcM l + t) % 4096 = s at *
    simp only [Bool.or_eq_false_iff, decide_eq_false_iff_not] at hno
    have hi : tb s - 1 < H.length := by omega
    have hrow := hT.2.1 (tb s - 1) hi
    have hn2 := hno.2
    rw [hK_hA hi] at hn2
    have hb2 := cd_lt hrow.1
    refine T_aload_n (pc := 14) (i := 0) dX12_slotOf_14 rfl rfl ?_
    refine R_getR (pc := 15) (i := 584) fl_X12_68 rfl kc_572 lc_572 rc_572_28 dX12_slotOf_15 ?_
    refine T_iload_n (pc := 18) (i := 3) dX12_slotOf_18 rfl rfl ?_
    refine R_iald (pc := 19) (x := nI (tb s)) kc_584 lc_584 (by omega) (by first | decide | assumption) hm dX12_slotOf_19 ?_
    refine R_if_eq (pc := 20) (tgt := 52) (by omega) dX12_slotOf_20 (by decide) (fun h1 => ?_) (fun h1 => ?_)
    · exact absurd h1 hno.1
    · skip
      refine T_aload_n (pc := 23) (i := 0) dX12_slotOf_23 rfl rfl ?_
      refine R_getR (pc := 24) (i := 582) fl_X12_62 rfl kc_572 lc_572 rc_572_26 dX12_slotOf_24 ?_
      refine T_aload_n (pc := 27) (i := 0) dX12_slotOf_27 rfl rfl ?_
      refine R_getR (pc := 28) (i := 584) fl_X12_68 rfl kc_572 lc_572 rc_572_28 dX12_slotOf_28 ?_
      refine T_iload_n (pc := 31) (i := 3) dX12_slotOf_31 rfl rfl ?_
      refine R_iald (pc := 32) (x := nI (tb s)) kc_584 lc_584 (by omega) (by first | decide | assumption) hm dX12_slotOf_32 ?_
      refine T_iconst (pc := 33) (v := nI 1) dX12_slotOf_33 (by decide) ?_
      refine R_isub (pc := 34) (by omega) dX12_slotOf_34 ?_
      refine R_lald (pc := 35) (x := lN (cd (hA H (tb s - 1)).1)) kc_582 lc_582 (by omega) (by first | decide | assumption) hrow.2.1 dX12_slotOf_35 ?_
      refine T_lload_n (pc := 36) (i := 1) dX12_slotOf_36 rfl rfl ?_
      refine T_lcmp (pc := 37) dX12_slotOf_37 ?_
      refine R_ln_eq (pc := 38) (tgt := 52) (by omega) (by omega) dX12_slotOf_38 (by decide) (fun h3 => ?_) (fun h3 => ?_)
      · exact absurd (cd_inj hrow.1.2 hl.2 h3) hn2
      · skip
        refine T_iload_n (pc := 41) (i := 3) dX12_slotOf_41 rfl rfl ?_
        refine T_iconst (pc := 42) (v := nI 1) dX12_slotOf_42 (by decide) ?_
        refine R_iadd (pc := 43) dX12_slotOf_43 ?_
        refine T_sipush (pc := 44) (v := nI 4095) dX12_slotOf_44 (by decide) ?_
        refine R_iand (pc := 47) dX12_slotOf_47 ?_
        refine T_topi (v := nI ((s + 1) % 4096)) (congrArg nI (Nat.and_two_pow_sub_one_eq_mod _ 12)) ?_
        refine T_istore_n (pc := 48) (i := 3) (ls' := [some (.ref 572), some (.long (lN (cd l))), none, some (.int (nI ((s + 1) % 4096)))]) dX12_slotOf_48 rfl (by decide) rfl ?_
        refine T_goto (pc := 49) (tgt := 14) dX12_slotOf_49 (by decide) ?_
        exact h9
theorem m_indexOf {H : Hd} {l : List Nat} (hT : MHd μ H) (hl : Mw l) : Ex γ 2 0 0 M_X12_indexOf [.ref 572, .long (lN (cd l))] (rm μ) (Fn (some (.int (oN (inK (hKs H) l)))) μ) := by
  obtain ⟨tb, hT⟩ := hT
  have h15 := hT.1.2
  have hKl : (hKs H).length = H.length := List.length_map _
  have hat := sl_at hT.2.2.2 (by omega) l
  have hs4 : slS hcM tb (hKs H) l < 4096 := Nat.mod_lt _ (by decide)
  refine Ex.of (by decide +kernel) rfl (Nat.le_of_ble_eq_true rfl) ?_
  show T _ _ _ _ _ _ _ _ _ [some (.ref 572), some (.long (lN (cd l))), none] [] (rm μ)
  refine T_aload_n (pc := 0) (i := 0) dX12_indexOf_0 rfl rfl ?_
  refine R_getR (pc := 1) (i := 584) fl_X12_68 rfl kc_572 lc_572 rc_572_28 dX12_indexOf_1 ?_
  refine T_aload_n (pc := 4) (i := 0) dX12_indexOf_4 rfl rfl ?_
  refine T_lload_n (pc := 5) (i := 1) dX12_indexOf_5 rfl rfl ?_
  refine R_callV1 (pc := 6) (As := [.long (lN (cd l))]) (rest := [.ref 584]) (Or.inl lk_X12_428) mk_X12_slotOf (m_slotOf hT hl) kc_572 ⟨by decide, rfl⟩ lc_572 dX12_indexOf_6 rfl rfl (Nat.le_of_ble_eq_true rfl) (by decide) rfl (Nat.le_refl _) (Nat.le_refl _) ?_
  refine R_iald (pc := 9) (x := nI (tb (slS hcM tb (hKs H) l))) kc_584 lc_584 (by omega) (by first | decide | assumption) (hT.2.2.1 _ hs4) dX12_indexOf_9 ?_
  refine T_iconst (pc := 10) (v := nI 1) dX12_indexOf_10 (by decide) ?_
  refine T_isub (pc := 11) dX12_indexOf_11 ?_
  rw [hat]
  cases ei : inK (hKs H) l with
  | none =>
    exact T_iret (pc := 12) (ty := .int) dX12_indexOf_12 rfl rfl (Nat.le_refl _) (Nat.le_refl _) ⟨rfl, rfl⟩
  | some i =>
    refine T_topi (v := nI i) (pk_sub (show 1 ≤ i + 1 by omega)) ?_
    exact T_iret (pc := 12) (ty := .int) dX12_indexOf_12 rfl rfl (Nat.le_refl _) (Nat.le_refl _) ⟨rfl, rfl⟩
theorem m_isMet {d : Nat} {H : Hd} {l : List Nat} (hT : MHd μ H) (hl : Mw l) : Ex γ 2 0 0 M_X12_isMet [.ref 572, .long (lN (cd l)), .int (nI d)] (rm μ) (Rm (some (.int (bI (tk1 H d l).isSome))) (fun m => MHd m ((tk1 H d l).getD H) ∧ OfM F29 Sht μ m)) := by
  obtain ⟨tb, hT⟩ := hT
  have h15 := hT.1.2
  have hKl : (hKs H).length = H.length := List.length_map _
  have hat := sl_at hT.2.2.2 (by omega) l
  have hs4 : slS hcM tb (hKs H) l < 4096 := Nat.mod_lt _ (by decide)
  have htb := hT.2.2.1 _ hs4
  have hbb := hT.2.2.2.1 _ hs4
  refine Ex.of (by decide +kernel) rfl (Nat.le_of_ble_eq_true rfl) ?_
  show T _ _ _ _ _ _ _ _ _ [some (.ref 572), some (.long (lN (cd l))), none, some (.int (nI d)), none] [] (rm μ)
  refine T_aload_n (pc := 0) (i := 0) dX12_isMet_0 rfl rfl ?_
  refine T_lload_n (pc := 1) (i := 1) dX12_isMet_1 rfl rfl ?_
  refine R_callV1 (pc := 2) (As := [.long (lN (cd l))]) (rest := []) (Or.inl lk_X12_428) mk_X12_slotOf (m_slotOf hT hl) kc_572 ⟨by decide, rfl⟩ lc_572 dX12_isMet_2 rfl rfl (Nat.le_of_ble_eq_true rfl) (by decide) rfl (Nat.le_refl _) (Nat.le_refl _) ?_
  refine T_istore (pc := 5) (i := 4) (ls' := [some (.ref 572), some (.long (lN (cd l))), none, some (.int (nI d)), some (.int (nI (slS hcM tb (hKs H) l)))]) dX12_isMet_5 (by decide) rfl ?_
  refine T_aload_n (pc := 7) (i := 0) dX12_isMet_7 rfl rfl ?_
  refine R_getR (pc := 8) (i := 584) fl_X12_68 rfl kc_572 lc_572 rc_572_28 dX12_isMet_8 ?_
  refine T_iload (pc := 11) (i := 4) dX12_isMet_11 rfl ?_
  refine R_iald (pc := 13) (x := nI (tb (slS hcM tb (hKs H) l))) kc_584 lc_584 (by omega) (by first | decide | assumption) htb dX12_isMet_13 ?_
  refine R_if_eq (pc := 14) (tgt := 19) (by omega) dX12_isMet_14 (by decide) (fun h1 => ?_) (fun h1 => ?_)
  · skip
    cases ei : inK (hKs H) l with
    | some i =>
      rw [ei] at hat
      have hat2 : tb (slS hcM tb (hKs H) l) = i + 1 := hat
      omega
    | none =>
      refine T_aload_n (pc := 19) (i := 0) dX12_isMet_19 rfl rfl ?_
      refine R_getI (pc := 20) (x := nI H.length) fl_X12_431 rfl kc_572 lc_572 hT.1.1 dX12_isMet_20 ?_
      refine T_sipush (pc := 23) (v := nI 1500) dX12_isMet_23 (by decide) ?_
      refine R_icmp_ne (pc := 26) (tgt := 31) (by omega) (by omega) dX12_isMet_26 (by decide) (fun h2 => ?_) (fun h2 => ?_)
      · skip
        refine T_aload_n (pc := 31) (i := 0) dX12_isMet_31 rfl rfl ?_
        refine R_getR (pc := 32) (i := 582) fl_X12_62 rfl kc_572 lc_572 rc_572_26 dX12_isMet_32 ?_
        refine T_aload_n (pc := 35) (i := 0) dX12_isMet_35 rfl rfl ?_
        refine R_getI (pc := 36) (x := nI H.length) fl_X12_431 rfl kc_572 lc_572 hT.1.1 dX12_isMet_36 ?_
        refine T_lload_n (pc := 39) (i := 1) dX12_isMet_39 rfl rfl ?_
        refine R_last (pc := 40) kc_582 lc_582 (by omega) (by first | decide | assumption) dX12_isMet_40 ?_
        refine T_aload_n (pc := 41) (i := 0) dX12_isMet_41 rfl rfl ?_
        refine R_getR (pc := 42) (i := 583) fl_X12_65 rfl kc_572 lc_572 rc_572_27 dX12_isMet_42 ?_
        refine T_aload_n (pc := 45) (i := 0) dX12_isMet_45 rfl rfl ?_
        refine R_getI (pc := 46) (x := nI H.length) fl_X12_431 rfl kc_572 lc_572 (skL.trans hT.1.1) dX12_isMet_46 ?_
        refine T_iload_n (pc := 49) (i := 3) dX12_isMet_49 rfl rfl ?_
        refine R_iast (pc := 50) kc_583 lc_583 (by omega) (by first | decide | assumption) dX12_isMet_50 ?_
        refine T_aload_n (pc := 51) (i := 0) dX12_isMet_51 rfl rfl ?_
        refine T_dup (pc := 52) dX12_isMet_52 rfl ?_
        refine R_getI (pc := 53) (x := nI H.length) fl_X12_431 rfl kc_572 lc_572 ((wI_ne (by first | omega | simp)).trans (skL.trans hT.1.1)) dX12_isMet_53 ?_
        refine T_iconst (pc := 56) (v := nI 1) dX12_isMet_56 (by decide) ?_
        refine R_iadd (pc := 57) dX12_isMet_57 ?_
        refine R_putI (pc := 58) fl_X12_431 ⟨rfl, rfl⟩ (Or.inl rfl) kc_572 lc_572 dX12_isMet_58 ?_
        refine T_aload_n (pc := 61) (i := 0) dX12_isMet_61 rfl rfl ?_
        refine R_getR (pc := 62) (i := 584) fl_X12_68 rfl kc_572 lc_572 rc_572_28 dX12_isMet_62 ?_
        refine T_iload (pc := 65) (i := 4) dX12_isMet_65 rfl ?_
        refine T_aload_n (pc := 67) (i := 0) dX12_isMet_67 rfl rfl ?_
        refine R_getI (pc := 68) (x := nI (H.length + 1)) fl_X12_431 rfl kc_572 lc_572 wI_eq dX12_isMet_68 ?_
        refine R_iast (pc := 71) kc_584 lc_584 (by omega) (by first | decide | assumption) dX12_isMet_71 ?_
        refine T_iconst (pc := 72) (v := nI 1) dX12_isMet_72 (by decide) ?_
        have h2' : H.length < 1500 := by omega
        have ek : tk1 H d l = some (H ++ [(l, d)]) := by unfold tk1; rw [ei]; exact if_pos h2'
        rw [ek, Option.getD_some, Option.isSome_some]
        have hal : (H ++ [(l, d)]).length = H.length + 1 := by rw [List.length_append]; rfl
        have hks : hKs (H ++ [(l, d)]) = hKs H ++ [l] := by unfold hKs; rw [List.map_append]; rfl
        have hp := Tab_put hT.2.2.2 (by omega) ei
        rw [hKl] at hp
        generalize slS hcM tb (hKs H) l = s at *
        refine T_iret (pc := 73) (ty := .boolean) dX12_isMet_73 rfl (by decide) (Nat.le_refl _) (Nat.le_refl _) ⟨_, rfl, rfl, ⟨(fun j => if j = s then H.length + 1 else tb j), ⟨?_, by omega⟩, fun i hi => ?_, fun j hj => ?_, by rw [hks]; exact hp⟩, OfM.sI (OfM.sF (OfM.sI (OfM.sL (OfM.refl _ _ _) (Or.inl rfl) (by decide)) (Or.inr (Or.inl rfl)) (by decide)) rfl) (Or.inr (Or.inr rfl)) (by decide)⟩
        · rw [hal]
          simp (disch := omega) only [n_wI, e_wI, n_wL, e_wL, m_wI2, m_wL1, n_wCI, e_wCI, n_wCL, e_wCL, m_wCI2, m_wCL1, n_wF, e_wF, m_wF2]
        · rw [hal] at hi
          rw [show hA (H ++ [(l, d)]) i = if i < H.length then hA H i else (l, d) from getD_snoc hi]
          by_cases hi2 : i < H.length
          · rw [if_pos hi2]
            have e3 := hT.2.1 i hi2
            refine ⟨e3.1, ?_, ?_⟩
            · skip
              simp (disch := omega) only [n_wI, e_wI, n_wL, e_wL, m_wI2, m_wL1, n_wCI, e_wCI, n_wCL, e_wCL, m_wCI2, m_wCL1, n_wF, e_wF, m_wF2]
              exact e3.2.1
            · skip
              simp (disch := omega) only [n_wI, e_wI, n_wL, e_wL, m_wI2, m_wL1, n_wCI, e_wCI, n_wCL, e_wCL, m_wCI2, m_wCL1, n_wF, e_wF, m_wF2]
              exact e3.2.2
          · rw [if_neg hi2]
            have e4 : i = H.length := by omega
            refine ⟨hl, ?_, ?_⟩
            · skip
              simp (disch := omega) only [n_wI, e_wI, n_wL, e_wL, m_wI2, m_wL1, n_wCI, e_wCI, n_wCL, e_wCL, m_wCI2, m_wCL1, n_wF, e_wF, m_wF2]
            · skip
              simp (disch := omega) only [n_wI, e_wI, n_wL, e_wL, m_wI2, m_wL1, n_wCI, e_wCI, n_wCL, e_wCL, m_wCI2, m_wCL1, n_wF, e_wF, m_wF2]
        · dsimp only
          by_cases e5 : j = s
          · rw [if_pos e5]
            simp (disch := omega) only [n_wI, e_wI, n_wL, e_wL, m_wI2, m_wL1, n_wCI, e_wCI, n_wCL, e_wCL, m_wCI2, m_wCL1, n_wF, e_wF, m_wF2]
          · rw [if_neg e5]
            have e6 := hT.2.2.1 j hj
            simp (disch := omega) only [n_wI, e_wI, n_wL, e_wL, m_wI2, m_wL1, n_wCI, e_wCI, n_wCL, e_wCL, m_wCI2, m_wCL1, n_wF, e_wF, m_wF2]
            exact e6
      · skip
        refine T_iconst (pc := 29) (v := nI 0) dX12_isMet_29 (by decide) ?_
        have ek : tk1 H d l = none := by unfold tk1; rw [ei]; exact if_neg (by omega)
        rw [ek]
        exact T_iret (pc := 30) (ty := .boolean) dX12_isMet_30 rfl (by decide) (Nat.le_refl _) (Nat.le_refl _) ⟨_, rfl, rfl, ⟨tb, hT⟩, OfM.refl _ _ _⟩
  · skip
    cases ei : inK (hKs H) l with
    | none =>
      rw [ei] at hat
      exact absurd hat h1
    | some i =>
      refine T_iconst (pc := 17) (v := nI 1) dX12_isMet_17 (by decide) ?_
      have ek : tk1 H d l = some H := by unfold tk1; rw [ei]
      rw [ek]
      exact T_iret (pc := 18) (ty := .boolean) dX12_isMet_18 rfl (by decide) (Nat.le_refl _) (Nat.le_refl _) ⟨_, rfl, rfl, ⟨tb, hT⟩, OfM.refl _ _ _⟩
theorem m_beginsAt {l : List Nat} (hl : Mw l) : Ex γ 3 0 0 M_X12_beginsAt [.ref 572, .long (lN (cd l))] (rm μ) (Rm none (fun m => MHd m [(l, 0)] ∧ OfM F29 Sht μ m)) := by
  refine Ex.of (by decide +kernel) rfl (Nat.le_of_ble_eq_true rfl) ?_
  show T _ _ _ _ _ _ _ _ _ [some (.ref 572), some (.long (lN (cd l))), none, none] [] (rm μ)
  refine T_iconst (pc := 0) (v := nI 0) dX12_beginsAt_0 (by decide) ?_
  refine T_istore_n (pc := 1) (i := 3) (ls' := [some (.ref 572), some (.long (lN (cd l))), none, some (.int (nI 0))]) dX12_beginsAt_1 rfl (by decide) rfl ?_
  suffices loop : ∀ (f k : Nat) (m : SM2), k + f = 4096 → (∀ j, j < k → m.1 584 j = nI 0) → OfM F29 Sht μ m → T γ 3 0 0 M_X12_beginsAt (Rm none (fun m => MHd m [(l, 0)] ∧ OfM F29 Sht μ m)) 0 0 2 [some (.ref 572), some (.long (lN (cd l))), none, some (.int (nI k))] [] (rm m) by
    exact loop 4096 0 μ rfl (fun j hj => absurd hj (Nat.not_lt_zero _)) (OfM.refl _ _ _)
  intro f
  induction f with
  | zero =>
    intro k m hk hz hO
    refine T_iload_n (pc := 2) (i := 3) dX12_beginsAt_2 rfl rfl ?_
    refine T_sipush (pc := 3) (v := nI 4096) dX12_beginsAt_3 (by decide) ?_
    refine R_icmp_ge (pc := 6) (tgt := 22) (by omega) (by omega) dX12_beginsAt_6 (by decide) (fun h1 => ?_) (fun h1 => ?_)
    · skip
      have hT : MHd (wI m 572 29 (nI 0)) [] := by
        refine ⟨fun _ => 0, ⟨e_wI ⟨rfl, rfl⟩, by decide⟩, fun i hi => absurd hi (Nat.not_lt_zero _), fun j hj => ?_, fun j hj => Nat.le_refl _, fun i j _ _ h1 _ => absurd rfl h1, fun i hi => absurd hi (Nat.not_lt_zero _), fun i j hi => absurd hi (Nat.not_lt_zero _)⟩
        rw [n_wI (by omega)]
        exact hz j (by omega)
      refine T_aload_n (pc := 22) (i := 0) dX12_beginsAt_22 rfl rfl ?_
      refine T_iconst (pc := 23) (v := nI 0) dX12_beginsAt_23 (by decide) ?_
      refine R_putI (pc := 24) fl_X12_431 ⟨rfl, rfl⟩ (Or.inl rfl) kc_572 lc_572 dX12_beginsAt_24 ?_
      refine T_aload_n (pc := 27) (i := 0) dX12_beginsAt_27 rfl rfl ?_
      refine T_lload_n (pc := 28) (i := 1) dX12_beginsAt_28 rfl rfl ?_
      refine T_iconst (pc := 29) (v := nI 0) dX12_beginsAt_29 (by decide) ?_
      refine R_callVm1 (pc := 30) (As := [.long (lN (cd l)), .int (nI 0)]) (rest := []) (Or.inl lk_X12_434) mk_X12_isMet (m_isMet hT hl) kc_572 ⟨by decide, rfl⟩ lc_572 dX12_beginsAt_30 rfl rfl (Nat.le_of_ble_eq_true rfl) (by decide) rfl (Nat.le_refl _) (Nat.le_refl _) (fun m2 h2 => ?_)
      refine T_pop (pc := 33) dX12_beginsAt_33 rfl ?_
      exact T_vret dX12_beginsAt_34 rfl (Nat.le_refl _) (Nat.le_refl _) ⟨_, rfl, rfl, h2.1, (OfM.sF hO rfl).trans h2.2⟩
    · exact absurd h1 (by omega)
  | succ f ih =>
    intro k m hk hz hO
    refine T_iload_n (pc := 2) (i := 3) dX12_beginsAt_2 rfl rfl ?_
    refine T_sipush (pc := 3) (v := nI 4096) dX12_beginsAt_3 (by decide) ?_
    refine R_icmp_ge (pc := 6) (tgt := 22) (by omega) (by omega) dX12_beginsAt_6 (by decide) (fun h1 => ?_) (fun h1 => ?_)
    · exact absurd h1 (by omega)
    · skip
      refine T_aload_n (pc := 9) (i := 0) dX12_beginsAt_9 rfl rfl ?_
      refine R_getR (pc := 10) (i := 584) fl_X12_68 rfl kc_572 lc_572 rc_572_28 dX12_beginsAt_10 ?_
      refine T_iload_n (pc := 13) (i := 3) dX12_beginsAt_13 rfl rfl ?_
      refine T_iconst (pc := 14) (v := nI 0) dX12_beginsAt_14 (by decide) ?_
      refine R_iast (pc := 15) kc_584 lc_584 (by omega) (by first | decide | assumption) dX12_beginsAt_15 ?_
      refine R_iinc (pc := 16) (i := 3) (n := 1) (ls' := [some (.ref 572), some (.long (lN (cd l))), none, some (.int (nI (k + 1)))]) dX12_beginsAt_16 rfl rfl ?_
      refine T_goto (pc := 19) (tgt := 2) dX12_beginsAt_19 (by decide) ?_
      refine ih (k + 1) _ (by omega) (fun j hj => ?_) (OfM.sI hO (Or.inr (Or.inr rfl)) (by decide))
      by_cases e : j = k
      · rw [e]
        exact e_wI ⟨rfl, rfl⟩
      · rw [n_wI (by omega)]
        exact hz j (by omega)
end MH1

