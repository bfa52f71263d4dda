/-! a text of THE VALLEY: the other LINES, all of it -/
theorem ToldAt.fieldA {μ m : SM2} {b : Nat} {X : Td} {f : Fld} {v : SM2} (h : ToldAt μ b X) (h6 : X.F.length < 6) (g : Off (b + 10 + 3 * X.F.length) 3 μ v) (hf : FieldAt v (b + 10 + 3 * X.F.length) f) (hm : m = wI v b 2 (nI (X.F.length + 1))) : ToldAt m b (X.1, X.2.1 ++ [f], X.2.2) := by
  subst hm
  have hl : (X.2.1 ++ [f]).length = X.F.length + 1 := by rw [List.length_append]; rfl
  have oo : Off b 1 v (wI v b 2 (nI (X.F.length + 1))) := Off.sI (Off.refl _ _ _) (by omega)
  refine ⟨(h.1.off g (by omega)).off oo (by omega), ⟨(e_wI ⟨rfl, rfl⟩).trans (by rw [hl]), by show (X.2.1 ++ [f]).length ≤ 6; omega, fun i hi => ?_⟩, ⟨(n_wI (by omega)).trans ((g.i (by omega) 5).trans h.2.2.1.1), h.2.2.1.2.1, fun i hi => ⟨(h.2.2.1.2.2 i hi).1, (g.l (by omega) i).trans (h.2.2.1.2.2 i hi).2.1, (g.l (by omega) i).trans (h.2.2.1.2.2 i hi).2.2⟩⟩, ⟨h.2.2.2.1.1, fun i hi => ⟨(h.2.2.2.1.2 i hi).1, (n_wI (by omega)).trans ((g.i (by omega) i).trans (h.2.2.2.1.2 i hi).2)⟩⟩, h.2.2.2.2.1, (n_wI (by omega)).trans ((g.i (by omega) 7).trans h.2.2.2.2.2.1), (n_wI (by omega)).trans ((g.i (by omega) 8).trans h.2.2.2.2.2.2.1), (n_wI (by omega)).trans ((g.i (by omega) 9).trans h.2.2.2.2.2.2.2.1), (n_wI (by omega)).trans ((g.i (by omega) 10).trans h.2.2.2.2.2.2.2.2.1), (n_wI (by omega)).trans ((g.i (by omega) 11).trans h.2.2.2.2.2.2.2.2.2)⟩
  rw [hl] at hi
  have ef : fAt (X.2.1 ++ [f]) i = if i < X.F.length then fAt X.F i else f := getD_snoc hi
  rw [ef]
  by_cases hi2 : i < X.F.length
  · rw [if_pos hi2]
    exact ((h.2.1.2.2 i hi2).off g (by omega)).off oo (by omega)
  · have e : i = X.F.length := by omega
    rw [if_neg hi2, e]
    exact hf.off oo (by omega)
theorem ToldAt.seenA {μ : SM2} {b : Nat} {X : Td} {y : List Nat × List Nat} (h : ToldAt μ b X) (h6 : X.S.length < 10) (hy : Mw y.1 ∧ Mw y.2) : ToldAt (wI (wL (wL μ (b + 7) X.S.length (lN (cd y.1))) (b + 8) X.S.length (lN (cd y.2))) b 5 (nI (X.S.length + 1))) b (tdSa X y) := by
  have hl : (X.2.2.1 ++ [y]).length = X.S.length + 1 := by rw [List.length_append]; rfl
  have o1 : OfS (fun k => k = b + 7 ∨ k = b + 8 ∨ k = b) μ (wI (wL (wL μ (b + 7) X.S.length (lN (cd y.1))) (b + 8) X.S.length (lN (cd y.2))) b 5 (nI (X.S.length + 1))) := OfS.sI (OfS.sL (OfS.sL (OfS.refl _ _) (Or.inl rfl)) (Or.inr (Or.inl rfl))) (Or.inr (Or.inr rfl))
  refine ⟨h.1.ofs o1 (fun k h1 h2 => by omega), ⟨(n_wI (by omega)).trans h.2.1.1, h.2.1.2.1, fun i hi => (h.2.1.2.2 i hi).ofs o1 (fun k h1 h2 => by omega)⟩, ⟨(e_wI ⟨rfl, rfl⟩).trans (by rw [show (tdSa X y).S.length = X.S.length + 1 from hl]), by rw [show (tdSa X y).S.length = X.S.length + 1 from hl]; omega, fun i hi => ?_⟩, ⟨h.2.2.2.1.1, fun i hi => ⟨(h.2.2.2.1.2 i hi).1, (o1.i (by omega) i).trans (h.2.2.2.1.2 i hi).2⟩⟩, h.2.2.2.2.1, (n_wI (by omega)).trans h.2.2.2.2.2.1, (n_wI (by omega)).trans h.2.2.2.2.2.2.1, (n_wI (by omega)).trans h.2.2.2.2.2.2.2.1, (n_wI (by omega)).trans h.2.2.2.2.2.2.2.2.1, (n_wI (by omega)).trans h.2.2.2.2.2.2.2.2.2⟩
  have hi' : i < X.S.length + 1 := by rw [← hl]; exact hi
  have es : sAt (tdSa X y).S i = if i < X.S.length then sAt X.S i else y := getD_snoc hi'
  rw [es]
  by_cases hi2 : i < X.S.length
  · rw [if_pos hi2]
    have e := h.2.2.1.2.2 i hi2
    refine ⟨e.1, ?_, ?_⟩
    · skip
      simp (disch := omega) only [n_wI, e_wI, n_wL, e_wL, m_wI2, m_wL1, n_wCI, e_wCI, n_wCL, e_wCL, m_wCI2, m_wCL1, n_wF, e_wF, m_wF2]
      exact e.2.1
    · skip
      simp (disch := omega) only [n_wI, e_wI, n_wL, e_wL, m_wI2, m_wL1, n_wCI, e_wCI, n_wCL, e_wCL, m_wCI2, m_wCL1, n_wF, e_wF, m_wF2]
      exact e.2.2
  · have e : i = X.S.length := by omega
    rw [if_neg hi2]
    refine ⟨hy, ?_, ?_⟩
    · skip
      simp (disch := omega) only [n_wI, e_wI, n_wL, e_wL, m_wI2, m_wL1, n_wCI, e_wCI, n_wCL, e_wCL, m_wCI2, m_wCL1, n_wF, e_wF, m_wF2]
    · skip
      simp (disch := omega) only [n_wI, e_wI, n_wL, e_wL, m_wI2, m_wL1, n_wCI, e_wCI, n_wCL, e_wCL, m_wCI2, m_wCL1, n_wF, e_wF, m_wF2]
theorem ToldAt.weightW {μ : SM2} {b d v : Nat} {X : Td} (h : ToldAt μ b X) (hd : d < 8) (hv : v ≤ 99) : ToldAt (wI μ (b + 9) d (nI v)) b (tdW X d v) := by
  have o1 : OfS (fun k => k = b + 9) μ (wI μ (b + 9) d (nI v)) := OfS.sI (OfS.refl _ _) rfl
  have h8 : X.W.length = 8 := h.2.2.2.1.1
  refine ⟨h.1.ofs o1 (fun k h1 h2 => by omega), ⟨(n_wI (by omega)).trans h.2.1.1, h.2.1.2.1, fun i hi => (h.2.1.2.2 i hi).ofs o1 (fun k h1 h2 => by have := h.2.1.2.1; omega)⟩, ⟨(n_wI (by omega)).trans h.2.2.1.1, h.2.2.1.2.1, fun i hi => h.2.2.1.2.2 i hi⟩, ⟨by show (X.W.set d v).length = 8; rw [List.length_set]; exact h8, fun i hi => ?_⟩, h.2.2.2.2.1, (n_wI (by omega)).trans h.2.2.2.2.2.1, (n_wI (by omega)).trans h.2.2.2.2.2.2.1, (n_wI (by omega)).trans h.2.2.2.2.2.2.2.1, (n_wI (by omega)).trans h.2.2.2.2.2.2.2.2.1, (n_wI (by omega)).trans h.2.2.2.2.2.2.2.2.2⟩
  have e := h.2.2.2.1.2 i hi
  have ew : (tdW X d v).W.getD i 0 = if i = d then v else X.W.getD i 0 := by
    show (X.W.set d v).getD i 0 = _
    rw [List.getD_eq_getElem?_getD, List.getElem?_set]
    by_cases e1 : d = i
    · rw [if_pos e1, if_pos e1.symm, if_pos (by omega)]
      rfl
    · rw [if_neg e1, if_neg (fun z => e1 z.symm), List.getD_eq_getElem?_getD]
  rw [ew]
  by_cases e1 : i = d
  · rw [if_pos e1]
    exact ⟨hv, e_wI ⟨rfl, e1⟩⟩
  · rw [if_neg e1]
    exact ⟨e.1, (n_wI (by omega)).trans e.2⟩
section VB
variable {γ : Ga} {μ : SM2}
theorem c_readField {B : List Nat} {X : Td} {p : Nat} (hT : TokAt μ B p) (hX : ToldAt μ 31 X) (h6 : X.F.length < 6) : Ex γ 7 0 0 M_X9_readField [.ref 31, .ref 1] (rm μ) (Vq B μ (vField B X (tE B p))) := by
  have hse := tE_le hT.1.2
  refine Ex.of (by decide +kernel) rfl (Nat.le_of_ble_eq_true rfl) ?_
  show T _ _ _ _ _ _ _ _ _ [some (.ref 31), some (.ref 1), none, none] [] (rm μ)
  refine T_aload_n (pc := 0) (i := 1) dX9_readField_0 rfl rfl ?_
  refine R_callVm0 (pc := 1) (As := []) (rest := []) (Or.inl lk_X9_164) mk_X8_advance (c_advance hT.1.1 hT.2.2.1 hse.2) kc_1 ⟨by decide, rfl⟩ lc_1 dX9_readField_1 rfl rfl (Nat.le_of_ble_eq_true rfl) (by decide) rfl (Nat.le_refl _) (Nat.le_refl _) (fun m1 h1 => ?_)
  obtain ⟨t1, f1, o1⟩ := h1
  refine T_aload_n (pc := 4) (i := 1) dX9_readField_4 rfl rfl ?_
  refine T_iconst (pc := 5) (v := nI 0) dX9_readField_5 (by decide) ?_
  refine T_bipush (pc := 6) (v := nI 20) dX9_readField_6 (by decide) ?_
  refine R_callVm1 (pc := 8) (As := [.int (nI 0), .int (nI 20)]) (rest := []) (Or.inl lk_X9_167) mk_X8_readBeasts (c_readBeasts t1 (by decide) (by decide)) kc_1 ⟨by decide, rfl⟩ lc_1 dX9_readField_8 rfl rfl (Nat.le_of_ble_eq_true rfl) (by decide) rfl (Nat.le_refl _) (Nat.le_refl _) (fun m2 h2 => ?_)
  obtain ⟨w2, o2⟩ := h2
  have O2 : OfS SV μ m2 := (o1.trans o2).mono (fun k => S1_SV)
  cases e : rdB B (tE B p) 0 20 with
  | none =>
    rw [e] at w2
    have w3 := w2.2 rfl
    have ev : vField B X (tE B p) = .inl (tS B (tE B p)) := by unfold vField; rw [e]
    rw [ev]
    refine T_lstore_n (pc := 11) (i := 2) (ls' := [some (.ref 31), some (.ref 1), some (.long ((-1))), none]) dX9_readField_11 rfl (by decide) rfl ?_
    refine T_lload_n (pc := 12) (i := 2) dX9_readField_12 rfl rfl ?_
    refine T_ldc2 (pc := 13) dX9_readField_13 cn_X9_171 ?_
    refine T_lcmp (pc := 16) dX9_readField_16 ?_
    refine R_lx_ne (pc := 17) (tgt := 22) dX9_readField_17 (by decide) (fun h3 => ?_) (fun h3 => ?_)
    · exact absurd rfl h3
    · skip
      refine T_iconst (pc := 20) (v := nI 0) dX9_readField_20 (by decide) ?_
      exact T_iret (pc := 21) (ty := .boolean) dX9_readField_21 rfl (by decide) (Nat.le_refl _) (Nat.le_refl _) (Vq.bad w3.1 w3.2 O2)
  | some l =>
    rw [e] at w2
    have w3 := w2.1 rfl
    have ml := rdB_mw (by decide) e
    have bl := cd_lt ml.1
    have ev : vField B X (tE B p) = .inr (tE B (tE B p), tdFa X l) := by unfold vField; rw [e]
    rw [ev]
    have hX2 := hX.s1 (o1.trans o2)
    refine T_lstore_n (pc := 11) (i := 2) (ls' := [some (.ref 31), some (.ref 1), some (.long (lN (cd l))), none]) dX9_readField_11 rfl (by decide) rfl ?_
    refine T_lload_n (pc := 12) (i := 2) dX9_readField_12 rfl rfl ?_
    refine T_ldc2 (pc := 13) dX9_readField_13 cn_X9_171 ?_
    refine T_lcmp (pc := 16) dX9_readField_16 ?_
    refine R_lx_ne (pc := 17) (tgt := 22) dX9_readField_17 (by decide) (fun h3 => ?_) (fun h3 => ?_)
    · skip
      refine T_aload_n (pc := 22) (i := 0) dX9_readField_22 rfl rfl ?_
      refine R_getR (pc := 23) (i := 37) fl_X9_20 rfl (kt_told told31) (lt_told told31) (rt_told_fields told31) dX9_readField_23 ?_
      refine T_aload_n (pc := 26) (i := 0) dX9_readField_26 rfl rfl ?_
      refine R_getI (pc := 27) (x := nI X.F.length) fl_X9_53 rfl (kt_told told31) (lt_told told31) hX2.2.1.1 dX9_readField_27 ?_
      refine R_aald (pc := 30) (t := 0) (j := (31 + 10 + 3 * X.F.length)) (kt_told_fields told31) (by decide) (lt_told_fields told31) (by omega) (by decide) (rt_told_el told31 (by omega)) dX9_readField_30 ?_
      refine T_lload_n (pc := 31) (i := 2) dX9_readField_31 rfl rfl ?_
      refine R_callVm0 (pc := 32) (As := [.long (lN (cd l))]) (rest := []) (Or.inl lk_X9_182) mk_X1_tell (c_Field_tell (told_field told31 h6) ml.1) (kt_field (told_field told31 (by omega))) ⟨by decide, rfl⟩ (lt_field (told_field told31 (by omega))) dX9_readField_32 rfl rfl (Nat.le_of_ble_eq_true rfl) (by decide) rfl (Nat.le_refl _) (Nat.le_refl _) (fun m3 h4 => ?_)
      obtain ⟨a1, a2⟩ := h4
      refine T_aload_n (pc := 35) (i := 0) dX9_readField_35 rfl rfl ?_
      refine T_dup (pc := 36) dX9_readField_36 rfl ?_
      refine R_getI (pc := 37) (x := nI X.F.length) fl_X9_53 rfl (kt_told told31) (lt_told told31) ((a2.i (by omega) 2).trans hX2.2.1.1) dX9_readField_37 ?_
      refine T_iconst (pc := 40) (v := nI 1) dX9_readField_40 (by decide) ?_
      refine R_iadd (pc := 41) dX9_readField_41 ?_
      refine R_putI (pc := 42) fl_X9_53 ⟨rfl, rfl⟩ (Or.inl rfl) (kt_told told31) (lt_told told31) dX9_readField_42 ?_
      refine T_iconst (pc := 45) (v := nI 1) dX9_readField_45 (by decide) ?_
      have oo : OfS (fun k => 31 ≤ k ∧ k < 59) m2 (wI m3 31 2 (nI (X.F.length + 1))) := OfS.sI (a2.ofs (fun k h1 h2 => by omega)) (by omega)
      exact T_iret (pc := 46) (ty := .boolean) dX9_readField_46 rfl (by decide) (Nat.le_refl _) (Nat.le_refl _) (Vq.ok (w3.1.ofs oo (by omega) (by omega)) (hX2.fieldA h6 a2 a1 rfl) ((oo.i (by omega) 6).trans (w3.2.trans f1)) (O2.trans (oo.mono (fun k hk => Or.inr hk))))
    · exact absurd h3 (lN_ne (by omega))
theorem c_readSeen {B : List Nat} {X : Td} {p : Nat} (hT : TokAt μ B p) (hX : ToldAt μ 31 X) (h10 : X.S.length < 10) : Ex γ 7 0 0 M_X9_readSeen [.ref 31, .ref 1] (rm μ) (Vq B μ (vSeen B X (tE B p))) := by
  have hse := tE_le hT.1.2
  refine Ex.of (by decide +kernel) rfl (Nat.le_of_ble_eq_true rfl) ?_
  show T _ _ _ _ _ _ _ _ _ [some (.ref 31), some (.ref 1), none, none, none, none] [] (rm μ)
  refine T_aload_n (pc := 0) (i := 1) dX9_readSeen_0 rfl rfl ?_
  refine R_callVm0 (pc := 1) (As := []) (rest := []) (Or.inl lk_X9_164) mk_X8_advance (c_advance hT.1.1 hT.2.2.1 hse.2) kc_1 ⟨by decide, rfl⟩ lc_1 dX9_readSeen_1 rfl rfl (Nat.le_of_ble_eq_true rfl) (by decide) rfl (Nat.le_refl _) (Nat.le_refl _) (fun m1 h1 => ?_)
  obtain ⟨t1, f1, o1⟩ := h1
  refine T_aload_n (pc := 4) (i := 1) dX9_readSeen_4 rfl rfl ?_
  refine T_iconst (pc := 5) (v := nI 0) dX9_readSeen_5 (by decide) ?_
  refine T_bipush (pc := 6) (v := nI 20) dX9_readSeen_6 (by decide) ?_
  refine R_callVm1 (pc := 8) (As := [.int (nI 0), .int (nI 20)]) (rest := []) (Or.inl lk_X9_167) mk_X8_readBeasts (c_readBeasts t1 (by decide) (by decide)) kc_1 ⟨by decide, rfl⟩ lc_1 dX9_readSeen_8 rfl rfl (Nat.le_of_ble_eq_true rfl) (by decide) rfl (Nat.le_refl _) (Nat.le_refl _) (fun m2 h2 => ?_)
  obtain ⟨w2, o2⟩ := h2
  have O2 : OfS SV μ m2 := (o1.trans o2).mono (fun k => S1_SV)
  cases e : rdB B (tE B p) 0 20 with
  | none =>
    rw [e] at w2
    have w3 := w2.2 rfl
    have ev : vSeen B X (tE B p) = .inl (tS B (tE B p)) := by unfold vSeen; rw [e]
    rw [ev]
    refine T_lstore_n (pc := 11) (i := 2) (ls' := [some (.ref 31), some (.ref 1), some (.long ((-1))), none, none, none]) dX9_readSeen_11 rfl (by decide) rfl ?_
    refine T_lload_n (pc := 12) (i := 2) dX9_readSeen_12 rfl rfl ?_
    refine T_ldc2 (pc := 13) dX9_readSeen_13 cn_X9_171 ?_
    refine T_lcmp (pc := 16) dX9_readSeen_16 ?_
    refine R_lx_eq (pc := 17) (tgt := 29) dX9_readSeen_17 (by decide) (fun h3 => ?_) (fun h3 => ?_)
    · skip
      refine T_iconst (pc := 29) (v := nI 0) dX9_readSeen_29 (by decide) ?_
      exact T_iret (pc := 30) (ty := .boolean) dX9_readSeen_30 rfl (by decide) (Nat.le_refl _) (Nat.le_refl _) (Vq.bad w3.1 w3.2 O2)
    · exact absurd rfl h3
  | some l =>
    rw [e] at w2
    have w3 := w2.1 rfl
    have ml := rdB_mw (by decide) e
    have bl := cd_lt ml.1
    have ev : vSeen B X (tE B p) = if wdB B (tE B (tE B p)) wTo = true then (match rdB B (tE B (tE B (tE B p))) 0 20 with | none => .inl (tS B (tE B (tE B (tE B p)))) | some r => .inr (tE B (tE B (tE B (tE B p))), tdSa X (l, r))) else .inl (tS B (tE B (tE B p))) := by unfold vSeen; rw [e]; rfl
    rw [ev]
    refine T_lstore_n (pc := 11) (i := 2) (ls' := [some (.ref 31), some (.ref 1), some (.long (lN (cd l))), none, none, none]) dX9_readSeen_11 rfl (by decide) rfl ?_
    refine T_lload_n (pc := 12) (i := 2) dX9_readSeen_12 rfl rfl ?_
    refine T_ldc2 (pc := 13) dX9_readSeen_13 cn_X9_171 ?_
    refine T_lcmp (pc := 16) dX9_readSeen_16 ?_
    refine R_lx_eq (pc := 17) (tgt := 29) dX9_readSeen_17 (by decide) (fun h3 => ?_) (fun h3 => ?_)
    · exact absurd h3 (lN_ne (by omega))
    · skip
      refine T_aload_n (pc := 20) (i := 1) dX9_readSeen_20 rfl rfl ?_
      refine T_ldcS (pc := 21) (i := 1) rfl dX9_readSeen_21 ?_
      refine R_callVm1 (pc := 23) (As := [.ref (XB + (1 + 1))]) (rest := []) (Or.inl lk_X9_175) mk_X8_skipWord (c_skipWord w3.1 st1) kc_1 ⟨by decide, rfl⟩ lc_1 dX9_readSeen_23 rfl rfl (Nat.le_of_ble_eq_true rfl) (by decide) rfl (Nat.le_refl _) (Nat.le_refl _) (fun m3 h4 => ?_)
      obtain ⟨w4, o3⟩ := h4
      have O3 : OfS SV μ m3 := O2.trans (o3.mono (fun k => S1_SV))
      refine R_ifb_ne (pc := 26) (tgt := 31) dX9_readSeen_26 (by decide) (fun h5 => ?_) (fun h5 => ?_)
      · skip
        have w5 := w4.1 h5
        have h5' : wdB B (tE B (tE B p)) wTo = true := h5
        rw [if_pos h5']
        refine T_aload_n (pc := 31) (i := 1) dX9_readSeen_31 rfl rfl ?_
        refine T_iconst (pc := 32) (v := nI 0) dX9_readSeen_32 (by decide) ?_
        refine T_bipush (pc := 33) (v := nI 20) dX9_readSeen_33 (by decide) ?_
        refine R_callVm1 (pc := 35) (As := [.int (nI 0), .int (nI 20)]) (rest := []) (Or.inl lk_X9_167) mk_X8_readBeasts (c_readBeasts w5.1 (by decide) (by decide)) kc_1 ⟨by decide, rfl⟩ lc_1 dX9_readSeen_35 rfl rfl (Nat.le_of_ble_eq_true rfl) (by decide) rfl (Nat.le_refl _) (Nat.le_refl _) (fun m4 h6 => ?_)
        obtain ⟨w6, o4⟩ := h6
        have O4 : OfS SV μ m4 := O3.trans (o4.mono (fun k => S1_SV))
        cases e2 : rdB B (tE B (tE B (tE B p))) 0 20 with
        | none =>
          rw [e2] at w6
          have w7 := w6.2 rfl
          refine T_lstore (pc := 38) (i := 4) (ls' := [some (.ref 31), some (.ref 1), some (.long (lN (cd l))), none, some (.long ((-1))), none]) dX9_readSeen_38 (by decide) rfl ?_
          refine T_lload (pc := 40) (i := 4) dX9_readSeen_40 rfl ?_
          refine T_ldc2 (pc := 42) dX9_readSeen_42 cn_X9_171 ?_
          refine T_lcmp (pc := 45) dX9_readSeen_45 ?_
          refine R_lx_ne (pc := 46) (tgt := 51) dX9_readSeen_46 (by decide) (fun h7 => ?_) (fun h7 => ?_)
          · exact absurd rfl h7
          · skip
            refine T_iconst (pc := 49) (v := nI 0) dX9_readSeen_49 (by decide) ?_
            exact T_iret (pc := 50) (ty := .boolean) dX9_readSeen_50 rfl (by decide) (Nat.le_refl _) (Nat.le_refl _) (Vq.bad w7.1 w7.2 O4)
        | some r =>
          rw [e2] at w6
          have w7 := w6.1 rfl
          have mr := rdB_mw (by decide) e2
          have br := cd_lt mr.1
          have hX4 := hX.s1 (o1.trans (o2.trans (o3.trans o4)))
          refine T_lstore (pc := 38) (i := 4) (ls' := [some (.ref 31), some (.ref 1), some (.long (lN (cd l))), none, some (.long (lN (cd r))), none]) dX9_readSeen_38 (by decide) rfl ?_
          refine T_lload (pc := 40) (i := 4) dX9_readSeen_40 rfl ?_
          refine T_ldc2 (pc := 42) dX9_readSeen_42 cn_X9_171 ?_
          refine T_lcmp (pc := 45) dX9_readSeen_45 ?_
          refine R_lx_ne (pc := 46) (tgt := 51) dX9_readSeen_46 (by decide) (fun h7 => ?_) (fun h7 => ?_)
          · skip
            refine T_aload_n (pc := 51) (i := 0) dX9_readSeen_51 rfl rfl ?_
            refine R_getR (pc := 52) (i := 38) fl_X9_24 rfl (kt_told told31) (lt_told told31) (rt_told_seenFirst told31) dX9_readSeen_52 ?_
            refine T_aload_n (pc := 55) (i := 0) dX9_readSeen_55 rfl rfl ?_
            refine R_getI (pc := 56) (x := nI X.S.length) fl_X9_65 rfl (kt_told told31) (lt_told told31) hX4.2.2.1.1 dX9_readSeen_56 ?_
            refine T_lload_n (pc := 59) (i := 2) dX9_readSeen_59 rfl rfl ?_
            refine R_last (pc := 60) (kt_told_seenFirst told31) (lt_told_seenFirst told31) (by omega) (by first | decide | assumption) dX9_readSeen_60 ?_
            refine T_aload_n (pc := 61) (i := 0) dX9_readSeen_61 rfl rfl ?_
            refine R_getR (pc := 62) (i := 39) fl_X9_28 rfl (kt_told told31) (lt_told told31) (rt_told_seenThen told31) dX9_readSeen_62 ?_
            refine T_aload_n (pc := 65) (i := 0) dX9_readSeen_65 rfl rfl ?_
            refine R_getI (pc := 66) (x := nI X.S.length) fl_X9_65 rfl (kt_told told31) (lt_told told31) (skL.trans hX4.2.2.1.1) dX9_readSeen_66 ?_
            refine T_lload (pc := 69) (i := 4) dX9_readSeen_69 rfl ?_
            refine R_last (pc := 71) (kt_told_seenThen told31) (lt_told_seenThen told31) (by omega) (by first | decide | assumption) dX9_readSeen_71 ?_
            refine T_aload_n (pc := 72) (i := 0) dX9_readSeen_72 rfl rfl ?_
            refine T_dup (pc := 73) dX9_readSeen_73 rfl ?_
            refine R_getI (pc := 74) (x := nI X.S.length) fl_X9_65 rfl (kt_told told31) (lt_told told31) (skL.trans (skL.trans hX4.2.2.1.1)) dX9_readSeen_74 ?_
            refine T_iconst (pc := 77) (v := nI 1) dX9_readSeen_77 (by decide) ?_
            refine R_iadd (pc := 78) dX9_readSeen_78 ?_
            refine R_putI (pc := 79) fl_X9_65 ⟨rfl, rfl⟩ (Or.inl rfl) (kt_told told31) (lt_told told31) dX9_readSeen_79 ?_
            refine T_iconst (pc := 82) (v := nI 1) dX9_readSeen_82 (by decide) ?_
            have oo : OfS (fun k => 31 ≤ k ∧ k < 59) m4 (wI (wL (wL m4 38 X.S.length (lN (cd l))) 39 X.S.length (lN (cd r))) 31 5 (nI (X.S.length + 1))) := OfS.sI (OfS.sL (OfS.sL (OfS.refl _ _) (by omega)) (by omega)) (by omega)
            exact T_iret (pc := 83) (ty := .boolean) dX9_readSeen_83 rfl (by decide) (Nat.le_refl _) (Nat.le_refl _) (Vq.ok (w7.1.ofs oo (by omega) (by omega)) (hX4.seenA (y := (l, r)) h10 ⟨ml.1, mr.1⟩) ((oo.i (by omega) 6).trans (w7.2.trans (w5.2.trans (w3.2.trans f1)))) (O4.trans (oo.mono (fun k hk => Or.inr hk))))
          · exact absurd h7 (lN_ne (by omega))
      · skip
        have w5 := w4.2 h5
        have h5' : wdB B (tE B (tE B p)) wTo = false := h5
        rw [if_neg (by rw [h5']; decide)]
        refine T_iconst (pc := 29) (v := nI 0) dX9_readSeen_29 (by decide) ?_
        exact T_iret (pc := 30) (ty := .boolean) dX9_readSeen_30 rfl (by decide) (Nat.le_refl _) (Nat.le_refl _) (Vq.bad w5.1 w5.2 O3)
theorem c_readFirst {B : List Nat} {X : Td} {p : Nat} (hT : TokAt μ B p) (hX : ToldAt μ 31 X) : Ex γ 7 0 0 M_X9_readFirst [.ref 31, .ref 1] (rm μ) (Vq B μ (vFirst B X (tE B p))) := by
  have hse := tE_le hT.1.2
  refine Ex.of (by decide +kernel) rfl (Nat.le_of_ble_eq_true rfl) ?_
  show T _ _ _ _ _ _ _ _ _ [some (.ref 31), some (.ref 1), none] [] (rm μ)
  refine T_aload_n (pc := 0) (i := 1) dX9_readFirst_0 rfl rfl ?_
  refine R_callVm0 (pc := 1) (As := []) (rest := []) (Or.inl lk_X9_164) mk_X8_advance (c_advance hT.1.1 hT.2.2.1 hse.2) kc_1 ⟨by decide, rfl⟩ lc_1 dX9_readFirst_1 rfl rfl (Nat.le_of_ble_eq_true rfl) (by decide) rfl (Nat.le_refl _) (Nat.le_refl _) (fun m1 h1 => ?_)
  obtain ⟨t1, f1, o1⟩ := h1
  have hX1 := hX.s1 o1
  have rq := hX1.2.2.2.2
  have O1 : OfS SV μ m1 := o1.mono (fun k => S1_SV)
  have hse2 := tE_le hse.2
  have ok : ∀ w : Nat, w < 4 → vWay B (tE B p) = some w → T γ 7 0 0 M_X9_readFirst (Vq B μ (vFirst B X (tE B p))) 0 0 57 [some (.ref 31), some (.ref 1), none] [.int (nI w)] (rm m1) := fun w hw ew => by
    have ev : vFirst B X (tE B p) = .inr (tE B (tE B p), tdQ X (X.texts, w, X.fog)) := by unfold vFirst; rw [ew]
    rw [ev]
    refine T_istore_n (pc := 57) (i := 2) (ls' := [some (.ref 31), some (.ref 1), some (.int (nI w))]) dX9_readFirst_57 rfl (by decide) rfl ?_
    refine T_iload_n (pc := 58) (i := 2) dX9_readFirst_58 rfl rfl ?_
    refine T_iconst (pc := 59) (v := (-1)) dX9_readFirst_59 (by decide) ?_
    refine T_icmp_ne (pc := 60) (tgt := 68) dX9_readFirst_60 (by decide) (fun h3 => ?_) (fun h3 => ?_)
    · skip
      refine T_aload_n (pc := 68) (i := 0) dX9_readFirst_68 rfl rfl ?_
      refine T_iload_n (pc := 69) (i := 2) dX9_readFirst_69 rfl rfl ?_
      refine R_putI (pc := 70) fl_X9_35 ⟨rfl, rfl⟩ (Or.inl rfl) (kt_told told31) (lt_told told31) dX9_readFirst_70 ?_
      refine T_aload_n (pc := 73) (i := 1) dX9_readFirst_73 rfl rfl ?_
      have oo : OfS (fun k => k = 31) m1 (wI m1 31 8 (nI w)) := OfS.sI (OfS.refl _ _) rfl
      have hX2 : ToldAt (wI m1 31 8 (nI w)) 31 (tdQ X (X.texts, w, X.fog)) := hX1.rest (fun k hk => up2_ne hk) rfl (fun j hj => n_wI (by omega)) ⟨rq.1.1, hw, rq.1.2.2⟩ ((n_wI (by omega)).trans rq.2.1) (e_wI ⟨rfl, rfl⟩) ((n_wI (by omega)).trans rq.2.2.2.1)
      have t2 := t1.ofs oo (by omega) (by omega)
      refine R_callVm0 (pc := 74) (As := []) (rest := []) (Or.inl lk_X9_164) mk_X8_advance (c_advance t2.1.1 t2.2.2.1 hse2.2) kc_1 ⟨by decide, rfl⟩ lc_1 dX9_readFirst_74 rfl rfl (Nat.le_of_ble_eq_true rfl) (by decide) rfl (Nat.le_refl _) (Nat.le_refl _) (fun m2 h2 => ?_)
      obtain ⟨t3, f3, o3⟩ := h2
      refine T_iconst (pc := 77) (v := nI 1) dX9_readFirst_77 (by decide) ?_
      exact T_iret (pc := 78) (ty := .boolean) dX9_readFirst_78 rfl (by decide) (Nat.le_refl _) (Nat.le_refl _) (Vq.ok t3 (hX2.s1 o3) (f3.trans ((n_wI (by omega)).trans f1)) (O1.trans ((oo.mono (fun k hk => by unfold SV; omega)).trans (o3.mono (fun k => S1_SV)))))
    · exact absurd h3 (nI_ne (by omega))
  refine T_aload_n (pc := 4) (i := 1) dX9_readFirst_4 rfl rfl ?_
  refine T_ldcS (pc := 5) (i := 5) rfl dX9_readFirst_5 ?_
  refine R_callV1 (pc := 7) (As := [.ref (XB + (5 + 1))]) (rest := []) (Or.inl lk_X9_128) mk_X8_isWord (c_isWord t1 st5) kc_1 ⟨by decide, rfl⟩ lc_1 dX9_readFirst_7 rfl rfl (Nat.le_of_ble_eq_true rfl) (by decide) rfl (Nat.le_refl _) (Nat.le_refl _) ?_
  refine R_ifb_eq (pc := 10) (tgt := 17) dX9_readFirst_10 (by decide) (fun k1 => ?_) (fun k1 => ?_)
  · skip
    have k1' : wdB B (tE B p) wLeft = false := k1
    refine T_aload_n (pc := 17) (i := 1) dX9_readFirst_17 rfl rfl ?_
    refine T_ldcS (pc := 18) (i := 6) rfl dX9_readFirst_18 ?_
    refine R_callV1 (pc := 20) (As := [.ref (XB + (6 + 1))]) (rest := []) (Or.inl lk_X9_128) mk_X8_isWord (c_isWord t1 st6) kc_1 ⟨by decide, rfl⟩ lc_1 dX9_readFirst_20 rfl rfl (Nat.le_of_ble_eq_true rfl) (by decide) rfl (Nat.le_refl _) (Nat.le_refl _) ?_
    refine R_ifb_eq (pc := 23) (tgt := 30) dX9_readFirst_23 (by decide) (fun k2 => ?_) (fun k2 => ?_)
    · skip
      have k2' : wdB B (tE B p) wRight = false := k2
      refine T_aload_n (pc := 30) (i := 1) dX9_readFirst_30 rfl rfl ?_
      refine T_ldcS (pc := 31) (i := 0) rfl dX9_readFirst_31 ?_
      refine R_callV1 (pc := 33) (As := [.ref (XB + (0 + 1))]) (rest := []) (Or.inl lk_X9_128) mk_X8_isWord (c_isWord t1 st0) kc_1 ⟨by decide, rfl⟩ lc_1 dX9_readFirst_33 rfl rfl (Nat.le_of_ble_eq_true rfl) (by decide) rfl (Nat.le_refl _) (Nat.le_refl _) ?_
      refine R_ifb_eq (pc := 36) (tgt := 43) dX9_readFirst_36 (by decide) (fun k3 => ?_) (fun k3 => ?_)
      · skip
        have k3' : wdB B (tE B p) wRule = false := k3
        refine T_aload_n (pc := 43) (i := 1) dX9_readFirst_43 rfl rfl ?_
        refine T_ldcS (pc := 44) (i := 7) rfl dX9_readFirst_44 ?_
        refine R_callV1 (pc := 46) (As := [.ref (XB + (7 + 1))]) (rest := []) (Or.inl lk_X9_128) mk_X8_isWord (c_isWord t1 st7) kc_1 ⟨by decide, rfl⟩ lc_1 dX9_readFirst_46 rfl rfl (Nat.le_of_ble_eq_true rfl) (by decide) rfl (Nat.le_refl _) (Nat.le_refl _) ?_
        refine R_ifb_eq (pc := 49) (tgt := 56) dX9_readFirst_49 (by decide) (fun k4 => ?_) (fun k4 => ?_)
        · skip
          have k4' : wdB B (tE B p) wAll = false := k4
          have ew : vWay B (tE B p) = none := by unfold vWay; rw [k1', k2', k3', k4']; rfl
          have ev : vFirst B X (tE B p) = .inl (tS B (tE B p)) := by unfold vFirst; rw [ew]
          rw [ev]
          refine T_iconst (pc := 56) (v := (-1)) dX9_readFirst_56 (by decide) ?_
          refine T_istore_n (pc := 57) (i := 2) (ls' := [some (.ref 31), some (.ref 1), some (.int ((-1)))]) dX9_readFirst_57 rfl (by decide) rfl ?_
          refine T_iload_n (pc := 58) (i := 2) dX9_readFirst_58 rfl rfl ?_
          refine T_iconst (pc := 59) (v := (-1)) dX9_readFirst_59 (by decide) ?_
          refine T_icmp_ne (pc := 60) (tgt := 68) dX9_readFirst_60 (by decide) (fun k5 => ?_) (fun k5 => ?_)
          · exact absurd rfl k5
          · skip
            refine T_aload_n (pc := 63) (i := 1) dX9_readFirst_63 rfl rfl ?_
            refine R_callVm1 (pc := 64) (As := []) (rest := []) (Or.inl lk_X9_122) mk_X8_isWrong (c_isWrong t1) kc_1 ⟨by decide, rfl⟩ lc_1 dX9_readFirst_64 rfl rfl (Nat.le_of_ble_eq_true rfl) (by decide) rfl (Nat.le_refl _) (Nat.le_refl _) (fun m2 h2 => ?_)
            exact T_iret (pc := 67) (ty := .boolean) dX9_readFirst_67 rfl (nar_b _) (Nat.le_refl _) (Nat.le_refl _) (Vq.bad h2.1 h2.2.1 (O1.trans (h2.2.2.mono (fun k => S1_SV))))
        · skip
          have k4' : wdB B (tE B p) wAll = true := k4
          refine T_iconst (pc := 52) (v := nI 3) dX9_readFirst_52 (by decide) ?_
          refine T_goto (pc := 53) (tgt := 57) dX9_readFirst_53 (by decide) ?_
          exact ok 3 (by decide) (by unfold vWay; rw [k1', k2', k3', k4']; rfl)
      · skip
        have k3' : wdB B (tE B p) wRule = true := k3
        refine T_iconst (pc := 39) (v := nI 2) dX9_readFirst_39 (by decide) ?_
        refine T_goto (pc := 40) (tgt := 57) dX9_readFirst_40 (by decide) ?_
        exact ok 2 (by decide) (by unfold vWay; rw [k1', k2', k3']; rfl)
    · skip
      have k2' : wdB B (tE B p) wRight = true := k2
      refine T_iconst (pc := 26) (v := nI 1) dX9_readFirst_26 (by decide) ?_
      refine T_goto (pc := 27) (tgt := 57) dX9_readFirst_27 (by decide) ?_
      exact ok 1 (by decide) (by unfold vWay; rw [k1', k2']; rfl)
  · skip
    have k1' : wdB B (tE B p) wLeft = true := k1
    refine T_iconst (pc := 13) (v := nI 0) dX9_readFirst_13 (by decide) ?_
    refine T_goto (pc := 14) (tgt := 57) dX9_readFirst_14 (by decide) ?_
    exact ok 0 (by decide) (by unfold vWay; rw [k1']; rfl)
theorem c_readWeight {B : List Nat} {X : Td} {p : Nat} (hT : TokAt μ B p) (hX : ToldAt μ 31 X) : Ex γ 7 0 0 M_X9_readWeight [.ref 31, .ref 1] (rm μ) (Vq B μ (vWeight B X (tE B p))) := by
  have hse := tE_le hT.1.2
  refine Ex.of (by decide +kernel) rfl (Nat.le_of_ble_eq_true rfl) ?_
  show T _ _ _ _ _ _ _ _ _ [some (.ref 31), some (.ref 1), none, none, none] [] (rm μ)
  refine T_aload_n (pc := 0) (i := 1) dX9_readWeight_0 rfl rfl ?_
  refine R_callVm0 (pc := 1) (As := []) (rest := []) (Or.inl lk_X9_164) mk_X8_advance (c_advance hT.1.1 hT.2.2.1 hse.2) kc_1 ⟨by decide, rfl⟩ lc_1 dX9_readWeight_1 rfl rfl (Nat.le_of_ble_eq_true rfl) (by decide) rfl (Nat.le_refl _) (Nat.le_refl _) (fun m1 h1 => ?_)
  obtain ⟨t1, f1, o1⟩ := h1
  refine T_aload_n (pc := 4) (i := 1) dX9_readWeight_4 rfl rfl ?_
  refine T_iconst (pc := 5) (v := nI 1) dX9_readWeight_5 (by decide) ?_
  refine T_iconst (pc := 6) (v := nI 1) dX9_readWeight_6 (by decide) ?_
  refine R_callVm1 (pc := 7) (As := [.int (nI 1), .int (nI 1)]) (rest := []) (Or.inl lk_X9_167) mk_X8_readBeasts (c_readBeasts t1 (by decide) (by decide)) kc_1 ⟨by decide, rfl⟩ lc_1 dX9_readWeight_7 rfl rfl (Nat.le_of_ble_eq_true rfl) (by decide) rfl (Nat.le_refl _) (Nat.le_refl _) (fun m2 h2 => ?_)
  obtain ⟨w2, o2⟩ := h2
  have O2 : OfS SV μ m2 := (o1.trans o2).mono (fun k => S1_SV)
  cases e : rdB B (tE B p) 1 1 with
  | none =>
    rw [e] at w2
    have w3 := w2.2 rfl
    have ev : vWeight B X (tE B p) = .inl (tS B (tE B p)) := by unfold vWeight; rw [e]
    rw [ev]
    refine T_lstore_n (pc := 10) (i := 2) (ls' := [some (.ref 31), some (.ref 1), some (.long ((-1))), none, none]) dX9_readWeight_10 rfl (by decide) rfl ?_
    refine T_lload_n (pc := 11) (i := 2) dX9_readWeight_11 rfl rfl ?_
    refine T_ldc2 (pc := 12) dX9_readWeight_12 cn_X9_171 ?_
    refine T_lcmp (pc := 15) dX9_readWeight_15 ?_
    refine R_lx_ne (pc := 16) (tgt := 21) dX9_readWeight_16 (by decide) (fun h3 => ?_) (fun h3 => ?_)
    · exact absurd rfl h3
    · skip
      refine T_iconst (pc := 19) (v := nI 0) dX9_readWeight_19 (by decide) ?_
      exact T_iret (pc := 20) (ty := .boolean) dX9_readWeight_20 rfl (by decide) (Nat.le_refl _) (Nat.le_refl _) (Vq.bad w3.1 w3.2 O2)
  | some l =>
    rw [e] at w2
    have w3 := w2.1 rfl
    have ml := rdB_mw (by decide) e
    have bl := cd_lt ml.1
    have hl1 : 1 ≤ l.length := by
      unfold rdB at e
      rw [if_neg (fun z => absurd z.1 (by decide))] at e
      split at e
      · next g =>
        cases e
        obtain ⟨q1, q2, q3⟩ := tok_word (fun i hi => (hT.1.1.2 i hi).1) g.1
        have q4 := tE_le hse.2
        have q5 : tS B (tE B p) + 1 ≤ tE B (tE B p) := by
          rw [q3, spn_y q1 q2]
          exact (spn_le (by omega)).1
        unfold bsN
        rw [List.length_map, List.length_take, List.length_drop]
        omega
      · cases e
    have hl2 : l.length = 1 := by have := ml.2.1; omega
    have hd8 := getD_lt ml.1.2 0
    have ev : vWeight B X (tE B p) = match rdN B (tE B (tE B p)) (nI 99) with | none => .inl (tS B (tE B (tE B p))) | some v => .inr (tE B (tE B (tE B p)), tdW X (l.getD 0 0) v.toNatClampNeg) := by unfold vWeight; rw [e]; rfl
    rw [ev]
    refine T_lstore_n (pc := 10) (i := 2) (ls' := [some (.ref 31), some (.ref 1), some (.long (lN (cd l))), none, none]) dX9_readWeight_10 rfl (by decide) rfl ?_
    refine T_lload_n (pc := 11) (i := 2) dX9_readWeight_11 rfl rfl ?_
    refine T_ldc2 (pc := 12) dX9_readWeight_12 cn_X9_171 ?_
    refine T_lcmp (pc := 15) dX9_readWeight_15 ?_
    refine R_lx_ne (pc := 16) (tgt := 21) dX9_readWeight_16 (by decide) (fun h3 => ?_) (fun h3 => ?_)
    · skip
      refine T_aload_n (pc := 21) (i := 1) dX9_readWeight_21 rfl rfl ?_
      refine T_bipush (pc := 22) (v := nI 99) dX9_readWeight_22 (by decide) ?_
      refine R_callVm1 (pc := 24) (As := [.int (nI 99)]) (rest := []) (Or.inl lk_X9_190) mk_X8_readNumber (c_readNumber w3.1) kc_1 ⟨by decide, rfl⟩ lc_1 dX9_readWeight_24 rfl rfl (Nat.le_of_ble_eq_true rfl) (by decide) rfl (Nat.le_refl _) (Nat.le_refl _) (fun m3 h4 => ?_)
      obtain ⟨w4, o3⟩ := h4
      have O3 : OfS SV μ m3 := O2.trans (o3.mono (fun k => S1_SV))
      cases e2 : rdN B (tE B (tE B p)) (nI 99) with
      | none =>
        rw [e2] at w4
        have w5 := w4.2 rfl
        refine T_istore (pc := 27) (i := 4) (ls' := [some (.ref 31), some (.ref 1), some (.long (lN (cd l))), none, some (.int ((-1)))]) dX9_readWeight_27 (by decide) rfl ?_
        refine T_iload (pc := 29) (i := 4) dX9_readWeight_29 rfl ?_
        refine T_iconst (pc := 31) (v := (-1)) dX9_readWeight_31 (by decide) ?_
        refine T_icmp_ne (pc := 32) (tgt := 37) dX9_readWeight_32 (by decide) (fun h5 => ?_) (fun h5 => ?_)
        · exact absurd rfl h5
        · skip
          refine T_iconst (pc := 35) (v := nI 0) dX9_readWeight_35 (by decide) ?_
          exact T_iret (pc := 36) (ty := .boolean) dX9_readWeight_36 rfl (by decide) (Nat.le_refl _) (Nat.le_refl _) (Vq.bad w5.1 w5.2 O3)
      | some v =>
        rw [e2] at w4
        have w5 := w4.1 rfl
        obtain ⟨n, n1, rfl, n2⟩ := rdN_get (fun i hi => (hT.1.1.2 i hi).1) e2
        have n3 : n ≤ 99 := by rw [fa_le, nI_toInt (by omega), nI_toInt (by decide)] at n2; omega
        have hX3 := hX.s1 (o1.trans (o2.trans o3))
        dsimp only
        rw [nI_clamp (n := n) (by omega)]
        have hbe := c_beastAt (γ := γ) (μ := m3) ml.1 (i := 0) (by omega)
        rw [hl2] at hbe
        refine T_istore (pc := 27) (i := 4) (ls' := [some (.ref 31), some (.ref 1), some (.long (lN (cd l))), none, some (.int (nI n))]) dX9_readWeight_27 (by decide) rfl ?_
        refine T_iload (pc := 29) (i := 4) dX9_readWeight_29 rfl ?_
        refine T_iconst (pc := 31) (v := (-1)) dX9_readWeight_31 (by decide) ?_
        refine T_icmp_ne (pc := 32) (tgt := 37) dX9_readWeight_32 (by decide) (fun h5 => ?_) (fun h5 => ?_)
        · skip
          refine T_aload_n (pc := 37) (i := 0) dX9_readWeight_37 rfl rfl ?_
          refine R_getR (pc := 38) (i := 40) fl_X9_31 rfl (kt_told told31) (lt_told told31) (rt_told_weights told31) dX9_readWeight_38 ?_
          refine T_lload_n (pc := 41) (i := 2) dX9_readWeight_41 rfl rfl ?_
          refine T_iconst (pc := 42) (v := nI 1) dX9_readWeight_42 (by decide) ?_
          refine T_iconst (pc := 43) (v := nI 0) dX9_readWeight_43 (by decide) ?_
          refine R_callS1 (pc := 44) (av := [.long (lN (cd l)), .int (nI 1), .int (nI 0)]) (rest := [.ref 40]) (Or.inr lk_X9_82) mk_X11_beastAt hbe dX9_readWeight_44 rfl rfl (Nat.le_of_ble_eq_true rfl) (by decide) rfl (Nat.le_refl _) (Nat.le_refl _) ?_
          refine T_iload (pc := 47) (i := 4) dX9_readWeight_47 rfl ?_
          refine R_iast (pc := 49) (kt_told_weights told31) (lt_told_weights told31) hd8 (by first | decide | assumption) dX9_readWeight_49 ?_
          refine T_iconst (pc := 50) (v := nI 1) dX9_readWeight_50 (by decide) ?_
          have oo : OfS (fun k => 31 ≤ k ∧ k < 59) m3 (wI m3 40 (l.getD 0 0) (nI n)) := OfS.sI (OfS.refl _ _) (by omega)
          exact T_iret (pc := 51) (ty := .boolean) dX9_readWeight_51 rfl (by decide) (Nat.le_refl _) (Nat.le_refl _) (Vq.ok (w5.1.ofs oo (by omega) (by omega)) (hX3.weightW hd8 n3) ((oo.i (by omega) 6).trans (w5.2.trans (w3.2.trans f1))) (O3.trans (oo.mono (fun k hk => Or.inr hk))))
        · exact absurd h5 (nI_ne (by omega))
    · exact absurd h3 (lN_ne (by omega))
theorem c_vLine {B : List Nat} {X : Td} {p : Nat} (hT : TokAt μ B p) (hX : ToldAt μ 31 X) : Ex γ 8 0 0 M_X9_readLine [.ref 31, .ref 1] (rm μ) (Vq B μ (vLine B X p)) := by
  have h12 := hX.1.len
  have h6 := hX.2.1.2.1
  have h10 := hX.2.2.1.2.1
  refine Ex.of (by decide +kernel) rfl (Nat.le_of_ble_eq_true rfl) ?_
  show T _ _ _ _ _ _ _ _ _ [some (.ref 31), some (.ref 1)] [] (rm μ)
  refine T_aload_n (pc := 0) (i := 1) dX9_readLine_0 rfl rfl ?_
  refine T_ldcS (pc := 1) (i := 0) rfl dX9_readLine_1 ?_
  refine R_callV1 (pc := 3) (As := [.ref (XB + (0 + 1))]) (rest := []) (Or.inl lk_X9_128) mk_X8_isWord (c_isWord hT st0) kc_1 ⟨by decide, rfl⟩ lc_1 dX9_readLine_3 rfl rfl (Nat.le_of_ble_eq_true rfl) (by decide) rfl (Nat.le_refl _) (Nat.le_refl _) ?_
  refine R_ifb_eq (pc := 6) (tgt := 34) dX9_readLine_6 (by decide) (fun k0 => ?_) (fun k0 => ?_)
  · skip
    have k0' : wdB B p wRule = false := k0
    refine T_aload_n (pc := 34) (i := 1) dX9_readLine_34 rfl rfl ?_
    refine T_ldcS (pc := 35) (i := 2) rfl dX9_readLine_35 ?_
    refine R_callV1 (pc := 37) (As := [.ref (XB + (2 + 1))]) (rest := []) (Or.inl lk_X9_128) mk_X8_isWord (c_isWord hT st2) kc_1 ⟨by decide, rfl⟩ lc_1 dX9_readLine_37 rfl rfl (Nat.le_of_ble_eq_true rfl) (by decide) rfl (Nat.le_refl _) (Nat.le_refl _) ?_
    refine R_ifb_eq (pc := 40) (tgt := 65) dX9_readLine_40 (by decide) (fun k1 => ?_) (fun k1 => ?_)
    · skip
      have k1' : wdB B p wField = false := k1
      refine T_aload_n (pc := 65) (i := 1) dX9_readLine_65 rfl rfl ?_
      refine T_ldcS (pc := 66) (i := 3) rfl dX9_readLine_66 ?_
      refine R_callV1 (pc := 68) (As := [.ref (XB + (3 + 1))]) (rest := []) (Or.inl lk_X9_128) mk_X8_isWord (c_isWord hT st3) kc_1 ⟨by decide, rfl⟩ lc_1 dX9_readLine_68 rfl rfl (Nat.le_of_ble_eq_true rfl) (by decide) rfl (Nat.le_refl _) (Nat.le_refl _) ?_
      refine R_ifb_eq (pc := 71) (tgt := 96) dX9_readLine_71 (by decide) (fun k2 => ?_) (fun k2 => ?_)
      · skip
        have k2' : wdB B p wSeen = false := k2
        refine T_aload_n (pc := 96) (i := 1) dX9_readLine_96 rfl rfl ?_
        refine T_ldcS (pc := 97) (i := 4) rfl dX9_readLine_97 ?_
        refine R_callV1 (pc := 99) (As := [.ref (XB + (4 + 1))]) (rest := []) (Or.inl lk_X9_128) mk_X8_isWord (c_isWord hT st4) kc_1 ⟨by decide, rfl⟩ lc_1 dX9_readLine_99 rfl rfl (Nat.le_of_ble_eq_true rfl) (by decide) rfl (Nat.le_refl _) (Nat.le_refl _) ?_
        refine R_ifb_eq (pc := 102) (tgt := 111) dX9_readLine_102 (by decide) (fun k3 => ?_) (fun k3 => ?_)
        · skip
          have k3' : wdB B p wFirst = false := k3
          refine T_aload_n (pc := 111) (i := 1) dX9_readLine_111 rfl rfl ?_
          refine T_ldcS (pc := 112) (i := 8) rfl dX9_readLine_112 ?_
          refine R_callV1 (pc := 114) (As := [.ref (XB + (8 + 1))]) (rest := []) (Or.inl lk_X9_128) mk_X8_isWord (c_isWord hT st8) kc_1 ⟨by decide, rfl⟩ lc_1 dX9_readLine_114 rfl rfl (Nat.le_of_ble_eq_true rfl) (by decide) rfl (Nat.le_refl _) (Nat.le_refl _) ?_
          refine R_ifb_eq (pc := 117) (tgt := 126) dX9_readLine_117 (by decide) (fun k4 => ?_) (fun k4 => ?_)
          · skip
            have k4' : wdB B p wFog = false := k4
            refine T_aload_n (pc := 126) (i := 1) dX9_readLine_126 rfl rfl ?_
            refine T_ldcS (pc := 127) (i := 9) rfl dX9_readLine_127 ?_
            refine R_callV1 (pc := 129) (As := [.ref (XB + (9 + 1))]) (rest := []) (Or.inl lk_X9_128) mk_X8_isWord (c_isWord hT st9) kc_1 ⟨by decide, rfl⟩ lc_1 dX9_readLine_129 rfl rfl (Nat.le_of_ble_eq_true rfl) (by decide) rfl (Nat.le_refl _) (Nat.le_refl _) ?_
            refine R_ifb_eq (pc := 132) (tgt := 141) dX9_readLine_132 (by decide) (fun k5 => ?_) (fun k5 => ?_)
            · skip
              have k5' : wdB B p wWeight = false := k5
              refine T_aload_n (pc := 141) (i := 1) dX9_readLine_141 rfl rfl ?_
              refine T_ldcS (pc := 142) (i := 10) rfl dX9_readLine_142 ?_
              refine R_callV1 (pc := 144) (As := [.ref (XB + (10 + 1))]) (rest := []) (Or.inl lk_X9_128) mk_X8_isWord (c_isWord hT st10) kc_1 ⟨by decide, rfl⟩ lc_1 dX9_readLine_144 rfl rfl (Nat.le_of_ble_eq_true rfl) (by decide) rfl (Nat.le_refl _) (Nat.le_refl _) ?_
              refine R_ifb_eq (pc := 147) (tgt := 158) dX9_readLine_147 (by decide) (fun k6 => ?_) (fun k6 => ?_)
              · skip
                have k6' : wdB B p wDrop = false := k6
                have ev : vLine B X p = .inl (tS B p) := by unfold vLine; rw [k0', k1', k2', k3', k4', k5', k6']; rfl
                rw [ev]
                refine T_aload_n (pc := 158) (i := 1) dX9_readLine_158 rfl rfl ?_
                refine R_callVm1 (pc := 159) (As := []) (rest := []) (Or.inl lk_X9_122) mk_X8_isWrong (c_isWrong hT) kc_1 ⟨by decide, rfl⟩ lc_1 dX9_readLine_159 rfl rfl (Nat.le_of_ble_eq_true rfl) (by decide) rfl (Nat.le_refl _) (Nat.le_refl _) (fun m2 h2 => ?_)
                exact T_iret (pc := 162) (ty := .boolean) dX9_readLine_162 rfl (nar_b _) (Nat.le_refl _) (Nat.le_refl _) (Vq.bad h2.1 h2.2.1 (h2.2.2.mono (fun k => S1_SV)))
              · skip
                have k6' : wdB B p wDrop = true := k6
                have ev : vLine B X p = vDrop B X (tE B p) := by unfold vLine; rw [k0', k1', k2', k3', k4', k5', k6']; rfl
                rw [ev]
                refine T_aload_n (pc := 150) (i := 0) dX9_readLine_150 rfl rfl ?_
                refine T_aload_n (pc := 151) (i := 1) dX9_readLine_151 rfl rfl ?_
                refine R_callVm1 (pc := 152) (As := [.ref 1]) (rest := []) (Or.inl lk_X9_161) mk_X9_readDrop (c_readDrop hT hX) (kt_told told31) ⟨by decide, rfl⟩ (lt_told told31) dX9_readLine_152 rfl rfl (Nat.le_of_ble_eq_true rfl) (by decide) rfl (Nat.le_refl _) (Nat.le_refl _) (fun m2 h2 => ?_)
                refine T_goto (pc := 155) (tgt := 162) dX9_readLine_155 (by decide) ?_
                exact T_iret (pc := 162) (ty := .boolean) dX9_readLine_162 rfl (nar_b _) (Nat.le_refl _) (Nat.le_refl _) ⟨_, rfl, rfl, h2⟩
            · skip
              have k5' : wdB B p wWeight = true := k5
              have ev : vLine B X p = vWeight B X (tE B p) := by unfold vLine; rw [k0', k1', k2', k3', k4', k5']; rfl
              rw [ev]
              refine T_aload_n (pc := 135) (i := 0) dX9_readLine_135 rfl rfl ?_
              refine T_aload_n (pc := 136) (i := 1) dX9_readLine_136 rfl rfl ?_
              refine R_callVm1 (pc := 137) (As := [.ref 1]) (rest := []) (Or.inl lk_X9_156) mk_X9_readWeight (c_readWeight hT hX) (kt_told told31) ⟨by decide, rfl⟩ (lt_told told31) dX9_readLine_137 rfl rfl (Nat.le_of_ble_eq_true rfl) (by decide) rfl (Nat.le_refl _) (Nat.le_refl _) (fun m2 h2 => ?_)
              exact T_iret (pc := 140) (ty := .boolean) dX9_readLine_140 rfl (nar_b _) (Nat.le_refl _) (Nat.le_refl _) ⟨_, rfl, rfl, h2⟩
          · skip
            have k4' : wdB B p wFog = true := k4
            have ev : vLine B X p = vFog B X (tE B p) := by unfold vLine; rw [k0', k1', k2', k3', k4']; rfl
            rw [ev]
            refine T_aload_n (pc := 120) (i := 0) dX9_readLine_120 rfl rfl ?_
            refine T_aload_n (pc := 121) (i := 1) dX9_readLine_121 rfl rfl ?_
            refine R_callVm1 (pc := 122) (As := [.ref 1]) (rest := []) (Or.inl lk_X9_151) mk_X9_readFog (c_readFog hT hX) (kt_told told31) ⟨by decide, rfl⟩ (lt_told told31) dX9_readLine_122 rfl rfl (Nat.le_of_ble_eq_true rfl) (by decide) rfl (Nat.le_refl _) (Nat.le_refl _) (fun m2 h2 => ?_)
            exact T_iret (pc := 125) (ty := .boolean) dX9_readLine_125 rfl (nar_b _) (Nat.le_refl _) (Nat.le_refl _) ⟨_, rfl, rfl, h2⟩
        · skip
          have k3' : wdB B p wFirst = true := k3
          have ev : vLine B X p = vFirst B X (tE B p) := by unfold vLine; rw [k0', k1', k2', k3']; rfl
          rw [ev]
          refine T_aload_n (pc := 105) (i := 0) dX9_readLine_105 rfl rfl ?_
          refine T_aload_n (pc := 106) (i := 1) dX9_readLine_106 rfl rfl ?_
          refine R_callVm1 (pc := 107) (As := [.ref 1]) (rest := []) (Or.inl lk_X9_147) mk_X9_readFirst (c_readFirst hT hX) (kt_told told31) ⟨by decide, rfl⟩ (lt_told told31) dX9_readLine_107 rfl rfl (Nat.le_of_ble_eq_true rfl) (by decide) rfl (Nat.le_refl _) (Nat.le_refl _) (fun m2 h2 => ?_)
          exact T_iret (pc := 110) (ty := .boolean) dX9_readLine_110 rfl (nar_b _) (Nat.le_refl _) (Nat.le_refl _) ⟨_, rfl, rfl, h2⟩
      · skip
        have k2' : wdB B p wSeen = true := k2
        have ev : vLine B X p = if X.S.length < 10 then vSeen B X (tE B p) else .inl (tS B p) := by unfold vLine; rw [k0', k1', k2']; rfl
        rw [ev]
        refine T_aload_n (pc := 74) (i := 0) dX9_readLine_74 rfl rfl ?_
        refine R_getI (pc := 75) (x := nI X.S.length) fl_X9_65 rfl (kt_told told31) (lt_told told31) hX.2.2.1.1 dX9_readLine_75 ?_
        refine T_bipush (pc := 78) (v := nI 10) dX9_readLine_78 (by decide) ?_
        refine R_icmp_ge (pc := 80) (tgt := 91) (by omega) (by omega) dX9_readLine_80 (by decide) (fun k9 => ?_) (fun k9 => ?_)
        · skip
          rw [if_neg (by omega)]
          refine T_aload_n (pc := 91) (i := 1) dX9_readLine_91 rfl rfl ?_
          refine R_callVm1 (pc := 92) (As := []) (rest := []) (Or.inl lk_X9_122) mk_X8_isWrong (c_isWrong hT) kc_1 ⟨by decide, rfl⟩ lc_1 dX9_readLine_92 rfl rfl (Nat.le_of_ble_eq_true rfl) (by decide) rfl (Nat.le_refl _) (Nat.le_refl _) (fun m2 h2 => ?_)
          exact T_iret (pc := 95) (ty := .boolean) dX9_readLine_95 rfl (nar_b _) (Nat.le_refl _) (Nat.le_refl _) (Vq.bad h2.1 h2.2.1 (h2.2.2.mono (fun k => S1_SV)))
        · skip
          rw [if_pos k9]
          refine T_aload_n (pc := 83) (i := 0) dX9_readLine_83 rfl rfl ?_
          refine T_aload_n (pc := 84) (i := 1) dX9_readLine_84 rfl rfl ?_
          refine R_callVm1 (pc := 85) (As := [.ref 1]) (rest := []) (Or.inl lk_X9_142) mk_X9_readSeen (c_readSeen hT hX k9) (kt_told told31) ⟨by decide, rfl⟩ (lt_told told31) dX9_readLine_85 rfl rfl (Nat.le_of_ble_eq_true rfl) (by decide) rfl (Nat.le_refl _) (Nat.le_refl _) (fun m2 h2 => ?_)
          refine T_goto (pc := 88) (tgt := 95) dX9_readLine_88 (by decide) ?_
          exact T_iret (pc := 95) (ty := .boolean) dX9_readLine_95 rfl (nar_b _) (Nat.le_refl _) (Nat.le_refl _) ⟨_, rfl, rfl, h2⟩
    · skip
      have k1' : wdB B p wField = true := k1
      have ev : vLine B X p = if X.F.length < 6 then vField B X (tE B p) else .inl (tS B p) := by unfold vLine; rw [k0', k1']; rfl
      rw [ev]
      refine T_aload_n (pc := 43) (i := 0) dX9_readLine_43 rfl rfl ?_
      refine R_getI (pc := 44) (x := nI X.F.length) fl_X9_53 rfl (kt_told told31) (lt_told told31) hX.2.1.1 dX9_readLine_44 ?_
      refine T_bipush (pc := 47) (v := nI 6) dX9_readLine_47 (by decide) ?_
      refine R_icmp_ge (pc := 49) (tgt := 60) (by omega) (by omega) dX9_readLine_49 (by decide) (fun k9 => ?_) (fun k9 => ?_)
      · skip
        rw [if_neg (by omega)]
        refine T_aload_n (pc := 60) (i := 1) dX9_readLine_60 rfl rfl ?_
        refine R_callVm1 (pc := 61) (As := []) (rest := []) (Or.inl lk_X9_122) mk_X8_isWrong (c_isWrong hT) kc_1 ⟨by decide, rfl⟩ lc_1 dX9_readLine_61 rfl rfl (Nat.le_of_ble_eq_true rfl) (by decide) rfl (Nat.le_refl _) (Nat.le_refl _) (fun m2 h2 => ?_)
        exact T_iret (pc := 64) (ty := .boolean) dX9_readLine_64 rfl (nar_b _) (Nat.le_refl _) (Nat.le_refl _) (Vq.bad h2.1 h2.2.1 (h2.2.2.mono (fun k => S1_SV)))
      · skip
        rw [if_pos k9]
        refine T_aload_n (pc := 52) (i := 0) dX9_readLine_52 rfl rfl ?_
        refine T_aload_n (pc := 53) (i := 1) dX9_readLine_53 rfl rfl ?_
        refine R_callVm1 (pc := 54) (As := [.ref 1]) (rest := []) (Or.inl lk_X9_137) mk_X9_readField (c_readField hT hX k9) (kt_told told31) ⟨by decide, rfl⟩ (lt_told told31) dX9_readLine_54 rfl rfl (Nat.le_of_ble_eq_true rfl) (by decide) rfl (Nat.le_refl _) (Nat.le_refl _) (fun m2 h2 => ?_)
        refine T_goto (pc := 57) (tgt := 64) dX9_readLine_57 (by decide) ?_
        exact T_iret (pc := 64) (ty := .boolean) dX9_readLine_64 rfl (nar_b _) (Nat.le_refl _) (Nat.le_refl _) ⟨_, rfl, rfl, h2⟩
  · skip
    have k0' : wdB B p wRule = true := k0
    have ev : vLine B X p = if X.R.length < 12 then vRule B X (tE B p) else .inl (tS B p) := by unfold vLine; rw [k0']; rfl
    rw [ev]
    refine T_aload_n (pc := 9) (i := 0) dX9_readLine_9 rfl rfl ?_
    refine R_getR (pc := 10) (i := 32) fl_X9_12 rfl (kt_told told31) (lt_told told31) (rt_told_rules told31) dX9_readLine_10 ?_
    refine R_getI (pc := 13) (x := nI X.R.length) fl_X9_86 rfl (kt_rules (told_rules told31)) (lt_rules (told_rules told31)) hX.1.size dX9_readLine_13 ?_
    refine T_bipush (pc := 16) (v := nI 12) dX9_readLine_16 (by decide) ?_
    refine R_icmp_ge (pc := 18) (tgt := 29) (by omega) (by omega) dX9_readLine_18 (by decide) (fun k9 => ?_) (fun k9 => ?_)
    · skip
      rw [if_neg (by omega)]
      refine T_aload_n (pc := 29) (i := 1) dX9_readLine_29 rfl rfl ?_
      refine R_callVm1 (pc := 30) (As := []) (rest := []) (Or.inl lk_X9_122) mk_X8_isWrong (c_isWrong hT) kc_1 ⟨by decide, rfl⟩ lc_1 dX9_readLine_30 rfl rfl (Nat.le_of_ble_eq_true rfl) (by decide) rfl (Nat.le_refl _) (Nat.le_refl _) (fun m2 h2 => ?_)
      exact T_iret (pc := 33) (ty := .boolean) dX9_readLine_33 rfl (nar_b _) (Nat.le_refl _) (Nat.le_refl _) (Vq.bad h2.1 h2.2.1 (h2.2.2.mono (fun k => S1_SV)))
    · skip
      rw [if_pos k9]
      refine T_aload_n (pc := 21) (i := 0) dX9_readLine_21 rfl rfl ?_
      refine T_aload_n (pc := 22) (i := 1) dX9_readLine_22 rfl rfl ?_
      refine R_callVm1 (pc := 23) (As := [.ref 1]) (rest := []) (Or.inl lk_X9_132) mk_X9_readRule (c_readRule hT hX k9) (kt_told told31) ⟨by decide, rfl⟩ (lt_told told31) dX9_readLine_23 rfl rfl (Nat.le_of_ble_eq_true rfl) (by decide) rfl (Nat.le_refl _) (Nat.le_refl _) (fun m2 h2 => ?_)
      refine T_goto (pc := 26) (tgt := 33) dX9_readLine_26 (by decide) ?_
      exact T_iret (pc := 33) (ty := .boolean) dX9_readLine_33 rfl (nar_b _) (Nat.le_refl _) (Nat.le_refl _) ⟨_, rfl, rfl, h2⟩
end VB

