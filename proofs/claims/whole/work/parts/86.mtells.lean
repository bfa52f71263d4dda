/-! THE MODEL: a FIELD told, RULES added and dropped -/
def S573 (k : Nat) : Prop := k = 573
/-- the row of ints is another, but behind 339 -/
def Wo (μ m : SM2) : Prop := OfS S573 μ m ∧ ∀ j, (j = 4 ∨ 339 ≤ j) → m.1 573 j = μ.1 573 j
theorem Wo.trans {a b c : SM2} (h : Wo a b) (g : Wo b c) : Wo a c := ⟨h.1.trans g.1, fun j hj => (g.2 j hj).trans (h.2 j hj)⟩
theorem Wo.refl (a : SM2) : Wo a a := ⟨OfS.refl _ _, fun _ _ => rfl⟩
theorem mdF_set {g g' : Nat → Int32} {F : List Fld} {k : Nat} {f : Fld} (h : mdF g F) (hk : k < F.length) (hf : mdM g' (41 + 43 * k) f) (e : ∀ j, j < 299 → (j < 41 + 43 * k ∨ 41 + 43 * k + 43 ≤ j) → g' j = g j) : mdF g' (F.set k f) := by
  have h6 := h.1.2
  refine ⟨⟨by rw [List.length_set, e 1 (by omega) (by omega)]; exact h.1.1, by rw [List.length_set]; exact h6⟩, fun i hi => ?_⟩
  rw [List.length_set] at hi
  by_cases q : i = k
  · subst q
    have e9 : fAt (F.set i f) i = f := by
      show (F.set i f).getD i _ = f
      rw [List.getD_eq_getElem?_getD, List.getElem?_set_self hi]
      rfl
    rw [e9]
    exact hf
  · have e9 : fAt (F.set k f) i = fAt F i := by
      show (F.set k f).getD i _ = F.getD i _
      rw [List.getD_eq_getElem?_getD, List.getElem?_set_ne (fun z => q z.symm), ← List.getD_eq_getElem?_getD]
    rw [e9]
    have hf2 := h.2 i hi
    have h20 := hf2.1.1.1
    refine ⟨hf2.1, ⟨(e _ (by omega) (by omega)).trans hf2.2.1.1, (e _ (by omega) (by omega)).trans hf2.2.1.2⟩, (e _ (by omega) (by omega)).trans hf2.2.2.1, fun p hp => ⟨(e _ (by omega) (by omega)).trans (hf2.2.2.2 p hp).1, (e _ (by omega) (by omega)).trans (hf2.2.2.2 p hp).2⟩⟩
theorem mdR.some {g g' : Nat → Int32} {R : List Ru} (h : mdR g R) (e : ∀ k, k < 41 → (k = 0 ∨ 17 ≤ k) → g' k = g k) : mdR g' R := by
  have hl := h.1.2
  exact ⟨⟨(e 0 (by omega) (by omega)).trans h.1.1, h.1.2⟩, h.2.1, fun i hi => ⟨(e _ (by omega) (by omega)).trans (h.2.2 i hi).1, (e _ (by omega) (by omega)).trans (h.2.2 i hi).2⟩⟩
theorem mdS.some {g g' : Nat → Int32} {S : List (List Nat × List Nat)} (h : mdS g S) (e2 : g' 2 = g 2) (e : ∀ k, 299 ≤ k → k < 339 → g' k = g k) : mdS g' S := by
  have hS := h.1.2
  exact ⟨⟨e2.trans h.1.1, hS⟩, fun i hi => ⟨(h.2 i hi).1, ⟨(e _ (by omega) (by omega)).trans (h.2 i hi).2.1.1, (e _ (by omega) (by omega)).trans (h.2 i hi).2.1.2⟩, ⟨(e _ (by omega) (by omega)).trans (h.2 i hi).2.2.1, (e _ (by omega) (by omega)).trans (h.2 i hi).2.2.2⟩⟩⟩
theorem mdW.some {g g' : Nat → Int32} {W : List Nat} (h : mdW g W) (e : ∀ k, 9 ≤ k → k < 17 → g' k = g k) : mdW g' W := ⟨h.1, fun i hi => ⟨(h.2 i hi).1, (e _ (by omega) (by omega)).trans (h.2 i hi).2⟩⟩
theorem mdZ.some {g g' : Nat → Int32} {t : Td} (h : mdZ g t) (e : ∀ k, 3 ≤ k → k < 9 → g' k = g k) : mdZ g' t := ⟨h.1, (e _ (by omega) (by omega)).trans h.2.1, (e _ (by omega) (by omega)).trans h.2.2.1, (e _ (by omega) (by omega)).trans h.2.2.2.1, (e _ (by omega) (by omega)).trans h.2.2.2.2.1, (e _ (by omega) (by omega)).trans h.2.2.2.2.2⟩
theorem mdF.some {g g' : Nat → Int32} {F : List Fld} (h : mdF g F) (e1 : g' 1 = g 1) (e : ∀ k, 41 ≤ k → k < 299 → g' k = g k) : mdF g' F := by
  have h6 := h.1.2
  refine ⟨⟨e1.trans h.1.1, h6⟩, fun i hi => ?_⟩
  have hf2 := h.2 i hi
  have h20 := hf2.1.1.1
  exact ⟨hf2.1, ⟨(e _ (by omega) (by omega)).trans hf2.2.1.1, (e _ (by omega) (by omega)).trans hf2.2.1.2⟩, (e _ (by omega) (by omega)).trans hf2.2.2.1, fun p hp => ⟨(e _ (by omega) (by omega)).trans (hf2.2.2.2 p hp).1, (e _ (by omega) (by omega)).trans (hf2.2.2.2 p hp).2⟩⟩
/-- one FIELD is another -/
theorem mdT.fld {g g' : Nat → Int32} {X : Td} {k : Nat} {f : Fld} (h : mdT g X) (hk : k < X.F.length) (hf : mdM g' (41 + 43 * k) f) (e : ∀ j, j < 339 → (j < 41 + 43 * k ∨ 41 + 43 * k + 43 ≤ j) → g' j = g j) : mdT g' (tdF X k f) := by
  have h6 := h.2.1.1.2
  exact ⟨h.1.some (fun j h1 h2 => e j (by omega) (by omega)), mdF_set h.2.1 hk hf (fun j h1 h2 => e j (by omega) h2), h.2.2.1.some (e 2 (by omega) (by omega)) (fun j h1 h2 => e j h2 (by omega)), h.2.2.2.1.some (fun j h1 h2 => e j (by omega) (by omega)), h.2.2.2.2.some (fun j h1 h2 => e j (by omega) (by omega))⟩
theorem mdT.rul {g g' : Nat → Int32} {X : Td} {R : List Ru} (h : mdT g X) (hR : mdR g' R) (e : ∀ j, j < 339 → (0 < j ∧ j < 17 ∨ 41 ≤ j) → g' j = g j) : mdT g' (R, X.2) :=
  ⟨hR, h.2.1.some (e 1 (by omega) (by omega)) (fun j h1 h2 => e j (by omega) (by omega)), h.2.2.1.some (e 2 (by omega) (by omega)) (fun j h1 h2 => e j h2 (by omega)), h.2.2.2.1.some (fun j h1 h2 => e j (by omega) (by omega)), h.2.2.2.2.some (fun j h1 h2 => e j (by omega) (by omega))⟩
section MT1
variable {γ : Ga} {μ : SM2}
theorem m_tells {k : Nat} {l : List Nat} (hl : Mw l) (hk : k < 6) : Ex γ 3 0 0 M_X12_tells [.ref 572, .int (nI k), .long (lN (cd l))] (rm μ) (Rm none (fun m => (mdM (m.1 573) (41 + 43 * k) (l, 0, List.replicate l.length (-1, -1)) ∧ ∀ j, (j < 41 + 43 * k ∨ 41 + 43 * k + 43 ≤ j) → m.1 573 j = μ.1 573 j) ∧ OfS S573 μ m)) := by
  have h20 := hl.1
  refine Ex.of (by decide +kernel) rfl (Nat.le_of_ble_eq_true rfl) ?_
  show T _ _ _ _ _ _ _ _ _ [some (.ref 572), some (.int (nI k)), some (.long (lN (cd l))), none, none] [] (rm μ)
  refine T_aload_n (pc := 0) (i := 0) dX12_tells_0 rfl rfl ?_
  refine T_iload_n (pc := 1) (i := 1) dX12_tells_1 rfl rfl ?_
  refine R_callS1 (pc := 2) (av := [.int (nI k)]) (rest := [.ref 572]) (Or.inl lk_X12_114) mk_X12_at m_at dX12_tells_2 rfl rfl (Nat.le_of_ble_eq_true rfl) (by decide) rfl (Nat.le_refl _) (Nat.le_refl _) ?_
  refine T_lload_n (pc := 5) (i := 2) dX12_tells_5 rfl rfl ?_
  refine R_callV0 (pc := 6) (As := [.int (nI (41 + 43 * k)), .long (lN (cd l))]) (rest := []) (Or.inl lk_X12_132) mk_X12_putsCode (m_putsCode hl (by omega)) kc_572 ⟨by decide, rfl⟩ lc_572 dX12_tells_6 rfl rfl (Nat.le_of_ble_eq_true rfl) (by decide) rfl (Nat.le_refl _) (Nat.le_refl _) ?_
  refine T_aload_n (pc := 9) (i := 0) dX12_tells_9 rfl rfl ?_
  refine R_getR (pc := 10) (i := 573) fl_X12_29 rfl kc_572 lc_572 rc_572_1 dX12_tells_10 ?_
  refine T_iload_n (pc := 13) (i := 1) dX12_tells_13 rfl rfl ?_
  refine R_callS1 (pc := 14) (av := [.int (nI k)]) (rest := [.ref 573]) (Or.inl lk_X12_114) mk_X12_at m_at dX12_tells_14 rfl rfl (Nat.le_of_ble_eq_true rfl) (by decide) rfl (Nat.le_refl _) (Nat.le_refl _) ?_
  refine T_iconst (pc := 17) (v := nI 2) dX12_tells_17 (by decide) ?_
  refine R_iadd (pc := 18) dX12_tells_18 ?_
  refine T_iconst (pc := 19) (v := nI 0) dX12_tells_19 (by decide) ?_
  refine R_iast (pc := 20) kc_573 lc_573 (by omega) (by first | decide | assumption) dX12_tells_20 ?_
  refine T_iconst (pc := 21) (v := nI 0) dX12_tells_21 (by decide) ?_
  refine T_istore (pc := 22) (i := 4) (ls' := [some (.ref 572), some (.int (nI k)), some (.long (lN (cd l))), none, some (.int (nI 0))]) dX12_tells_22 (by decide) rfl ?_
  suffices loop : ∀ (f q : Nat) (m : SM2), q + f = 40 → (mdC (m.1 573) (41 + 43 * k) l ∧ m.1 573 (41 + 43 * k + 2) = 0) → (∀ j, j < q → m.1 573 (41 + 43 * k + 3 + j) = -1) → (∀ j, (j < 41 + 43 * k ∨ 41 + 43 * k + 43 ≤ j) → m.1 573 j = μ.1 573 j) → OfS S573 μ m → T γ 3 0 0 M_X12_tells (Rm none (fun m => (mdM (m.1 573) (41 + 43 * k) (l, 0, List.replicate l.length (-1, -1)) ∧ ∀ j, (j < 41 + 43 * k ∨ 41 + 43 * k + 43 ≤ j) → m.1 573 j = μ.1 573 j) ∧ OfS S573 μ m)) 0 0 24 [some (.ref 572), some (.int (nI k)), some (.long (lN (cd l))), none, some (.int (nI q))] [] (rm m) by
    refine loop 40 0 _ rfl ⟨⟨?_, ?_⟩, ?_⟩ (fun j hj => absurd hj (Nat.not_lt_zero _)) (fun j hj => ?_) ?_
    · rw [n_wI (by omega), n_wI (by omega)]
      exact e_wI ⟨rfl, rfl⟩
    · rw [n_wI (by omega)]
      exact e_wI ⟨rfl, rfl⟩
    · exact e_wI ⟨rfl, rfl⟩
    · rw [n_wI (by omega), n_wI (by omega), n_wI (by omega)]
    · exact OfS.sI (OfS.sI (OfS.sI (OfS.refl _ _) rfl) rfl) rfl
  intro f
  induction f with
  | zero =>
    intro q m hq hc hm ho hO
    refine T_iload (pc := 24) (i := 4) dX12_tells_24 rfl ?_
    refine T_bipush (pc := 26) (v := nI 40) dX12_tells_26 (by decide) ?_
    refine R_icmp_ge (pc := 28) (tgt := 52) (by omega) (by omega) dX12_tells_28 (by decide) (fun h1 => ?_) (fun h1 => ?_)
    · skip
      refine T_vret dX12_tells_52 rfl (Nat.le_refl _) (Nat.le_refl _) ⟨_, rfl, rfl, ⟨⟨⟨hl, List.length_replicate⟩, hc.1, hc.2, fun p hp => ?_⟩, ho⟩, hO⟩
      have hp2 : p < l.length := hp
      have e9 : mAt (List.replicate l.length (-1, -1)) p = (-1, -1) := by
        show (List.replicate l.length _).getD p _ = _
        rw [List.getD_eq_getElem?_getD, List.getElem?_replicate, if_pos hp2]
        rfl
      refine ⟨?_, ?_⟩
      · show m.1 573 (41 + 43 * k + 3 + 2 * p) = (mAt (List.replicate l.length (-1, -1)) p).1
        rw [e9, hm (2 * p) (by omega)]
      · show m.1 573 (41 + 43 * k + 3 + 2 * p + 1) = (mAt (List.replicate l.length (-1, -1)) p).2
        rw [e9, Nat.add_assoc (41 + 43 * k + 3), hm (2 * p + 1) (by omega)]
    · exact absurd h1 (by omega)
  | succ f ih =>
    intro q m hq hc hm ho hO
    refine T_iload (pc := 24) (i := 4) dX12_tells_24 rfl ?_
    refine T_bipush (pc := 26) (v := nI 40) dX12_tells_26 (by decide) ?_
    refine R_icmp_ge (pc := 28) (tgt := 52) (by omega) (by omega) dX12_tells_28 (by decide) (fun h1 => ?_) (fun h1 => ?_)
    · exact absurd h1 (by omega)
    · skip
      refine T_aload_n (pc := 31) (i := 0) dX12_tells_31 rfl rfl ?_
      refine R_getR (pc := 32) (i := 573) fl_X12_29 rfl kc_572 lc_572 rc_572_1 dX12_tells_32 ?_
      refine T_iload_n (pc := 35) (i := 1) dX12_tells_35 rfl rfl ?_
      refine R_callS1 (pc := 36) (av := [.int (nI k)]) (rest := [.ref 573]) (Or.inl lk_X12_114) mk_X12_at m_at dX12_tells_36 rfl rfl (Nat.le_of_ble_eq_true rfl) (by decide) rfl (Nat.le_refl _) (Nat.le_refl _) ?_
      refine T_iconst (pc := 39) (v := nI 3) dX12_tells_39 (by decide) ?_
      refine R_iadd (pc := 40) dX12_tells_40 ?_
      refine T_iload (pc := 41) (i := 4) dX12_tells_41 rfl ?_
      refine R_iadd (pc := 43) dX12_tells_43 ?_
      refine T_iconst (pc := 44) (v := (-1)) dX12_tells_44 (by decide) ?_
      refine R_iast (pc := 45) kc_573 lc_573 (by omega) (by first | decide | assumption) dX12_tells_45 ?_
      refine R_iinc (pc := 46) (i := 4) (n := 1) (ls' := [some (.ref 572), some (.int (nI k)), some (.long (lN (cd l))), none, some (.int (nI (q + 1)))]) dX12_tells_46 rfl rfl ?_
      refine T_goto (pc := 49) (tgt := 24) dX12_tells_49 (by decide) ?_
      refine ih (q + 1) _ (by omega) ⟨⟨(n_wI (by omega)).trans hc.1.1, (n_wI (by omega)).trans hc.1.2⟩, (n_wI (by omega)).trans hc.2⟩ (fun j hj => ?_) (fun j hj => (n_wI (by omega)).trans (ho j hj)) (OfS.sI hO rfl)
      by_cases e : j = q
      · rw [e]
        exact e_wI ⟨rfl, rfl⟩
      · rw [n_wI (by omega)]
        exact hm j (by omega)
theorem m_rulesN {n : Nat} (h : μ.1 573 0 = nI n) : Ex γ 1 0 0 M_X12_rules [.ref 572] (rm μ) (Fn (some (.int (nI n))) μ) := by
  refine Ex.of (by decide +kernel) rfl (Nat.le_of_ble_eq_true rfl) ?_
  show T _ _ _ _ _ _ _ _ _ [some (.ref 572)] [] (rm μ)
  refine T_aload_n (pc := 0) (i := 0) dX12_rules_0 rfl rfl ?_
  refine R_getR (pc := 1) (i := 573) fl_X12_29 rfl kc_572 lc_572 rc_572_1 dX12_rules_1 ?_
  refine T_iconst (pc := 4) (v := nI 0) dX12_rules_4 (by decide) ?_
  refine R_iald (pc := 5) (x := nI n) kc_573 lc_573 (by omega) (by first | decide | assumption) h dX12_rules_5 ?_
  exact T_iret (pc := 6) (ty := .int) dX12_rules_6 rfl rfl (Nat.le_refl _) (Nat.le_refl _) ⟨rfl, rfl⟩
theorem m_adds {y : Ru} {X : Td} (hX : mdT (μ.1 573) X) (hy : okR y) (hn : X.R.length < 12) : Ex γ 2 0 0 M_X12_adds [.ref 572, .long (lN (cd y.1)), .long (lN (cd y.2))] (rm μ) (Rm none (fun m => mdT (m.1 573) (X.R ++ [y], X.2) ∧ Wo μ m)) := by
  have hR := hX.1
  refine Ex.of (by decide +kernel) rfl (Nat.le_of_ble_eq_true rfl) ?_
  show T _ _ _ _ _ _ _ _ _ [some (.ref 572), some (.long (lN (cd y.1))), none, some (.long (lN (cd y.2))), none] [] (rm μ)
  refine T_aload_n (pc := 0) (i := 0) dX12_adds_0 rfl rfl ?_
  refine R_getR (pc := 1) (i := 573) fl_X12_29 rfl kc_572 lc_572 rc_572_1 dX12_adds_1 ?_
  refine T_bipush (pc := 4) (v := nI 17) dX12_adds_4 (by decide) ?_
  refine T_iconst (pc := 6) (v := nI 2) dX12_adds_6 (by decide) ?_
  refine T_aload_n (pc := 7) (i := 0) dX12_adds_7 rfl rfl ?_
  refine R_callV1 (pc := 8) (As := []) (rest := [.int (nI 2), .int (nI 17), .ref 573]) (Or.inl lk_X12_121) mk_X12_rules (m_rulesN hR.1.1) kc_572 ⟨by decide, rfl⟩ lc_572 dX12_adds_8 rfl rfl (Nat.le_of_ble_eq_true rfl) (by decide) rfl (Nat.le_refl _) (Nat.le_refl _) ?_
  refine R_imul (pc := 11) dX12_adds_11 ?_
  refine R_iadd (pc := 12) dX12_adds_12 ?_
  refine T_lload_n (pc := 13) (i := 1) dX12_adds_13 rfl rfl ?_
  refine R_l2i (pc := 14) dX12_adds_14 ?_
  refine R_iast (pc := 15) kc_573 lc_573 (by omega) (by first | decide | assumption) dX12_adds_15 ?_
  refine T_aload_n (pc := 16) (i := 0) dX12_adds_16 rfl rfl ?_
  refine R_getR (pc := 17) (i := 573) fl_X12_29 rfl kc_572 lc_572 rc_572_1 dX12_adds_17 ?_
  refine T_bipush (pc := 20) (v := nI 17) dX12_adds_20 (by decide) ?_
  refine T_iconst (pc := 22) (v := nI 2) dX12_adds_22 (by decide) ?_
  refine T_aload_n (pc := 23) (i := 0) dX12_adds_23 rfl rfl ?_
  refine R_callV1 (pc := 24) (As := []) (rest := [.int (nI 2), .int (nI 17), .ref 573]) (Or.inl lk_X12_121) mk_X12_rules (m_rulesN ((n_wI (by omega)).trans hR.1.1)) kc_572 ⟨by decide, rfl⟩ lc_572 dX12_adds_24 rfl rfl (Nat.le_of_ble_eq_true rfl) (by decide) rfl (Nat.le_refl _) (Nat.le_refl _) ?_
  refine R_imul (pc := 27) dX12_adds_27 ?_
  refine R_iadd (pc := 28) dX12_adds_28 ?_
  refine T_iconst (pc := 29) (v := nI 1) dX12_adds_29 (by decide) ?_
  refine R_iadd (pc := 30) dX12_adds_30 ?_
  refine T_lload_n (pc := 31) (i := 3) dX12_adds_31 rfl rfl ?_
  refine R_l2i (pc := 32) dX12_adds_32 ?_
  refine R_iast (pc := 33) kc_573 lc_573 (by omega) (by first | decide | assumption) dX12_adds_33 ?_
  refine T_aload_n (pc := 34) (i := 0) dX12_adds_34 rfl rfl ?_
  refine R_getR (pc := 35) (i := 573) fl_X12_29 rfl kc_572 lc_572 rc_572_1 dX12_adds_35 ?_
  refine T_iconst (pc := 38) (v := nI 0) dX12_adds_38 (by decide) ?_
  refine T_dup2 (pc := 39) dX12_adds_39 rfl rfl ?_
  refine R_iald (pc := 40) (x := ((wI (wI μ 573 (17 + (2 * X.R.length)) (nI (cd y.1))) 573 ((17 + (2 * X.R.length)) + 1) (nI (cd y.2))).1 573 0)) kc_573 lc_573 (by omega) (by first | decide | assumption) rfl dX12_adds_40 ?_
  refine T_topi (v := nI X.R.length) ((n_wI (by omega)).trans ((n_wI (by omega)).trans hR.1.1)) ?_
  refine T_iconst (pc := 41) (v := nI 1) dX12_adds_41 (by decide) ?_
  refine R_iadd (pc := 42) dX12_adds_42 ?_
  refine R_iast (pc := 43) kc_573 lc_573 (by omega) (by first | decide | assumption) dX12_adds_43 ?_
  have e0 : ∀ j, j ≠ 0 → j ≠ 17 + 2 * X.R.length → j ≠ 17 + 2 * X.R.length + 1 → (wI (wI (wI μ 573 (17 + 2 * X.R.length) (nI (cd y.1))) 573 (17 + 2 * X.R.length + 1) (nI (cd y.2))) 573 0 (nI (X.R.length + 1))).1 573 j = μ.1 573 j := fun j h0 h1 h2 => by rw [n_wI (by omega), n_wI (by omega), n_wI (by omega)]
  refine T_vret dX12_adds_44 rfl (Nat.le_refl _) (Nat.le_refl _) ⟨_, rfl, rfl, hX.rul ⟨⟨?_, ?_⟩, fun i hi => ?_, fun i hi => ?_⟩ (fun j h1 h2 => e0 j (by omega) (by omega) (by omega)), OfS.sI (OfS.sI (OfS.sI (OfS.refl _ _) rfl) rfl) rfl, fun j hj => e0 j (by omega) (by omega) (by omega)⟩
  · rw [List.length_append]
    exact e_wI ⟨rfl, rfl⟩
  · rw [List.length_append]
    exact hn
  · rw [List.length_append] at hi
    have hi2 : i < X.R.length + 1 := hi
    show okR ((X.R ++ [y]).getD i _)
    rw [getD_snoc hi2]
    split
    · next q => exact hR.2.1 i q
    · exact hy
  · rw [List.length_append] at hi
    have hi2 : i < X.R.length + 1 := hi
    have e1 : rAt (X.R ++ [y]) i = if i < X.R.length then rAt X.R i else y := getD_snoc hi2
    rw [e1]
    by_cases q : i < X.R.length
    · rw [if_pos q, e0 _ (by omega) (by omega) (by omega), e0 _ (by omega) (by omega) (by omega)]
      exact hR.2.2 i q
    · have q2 : i = X.R.length := by omega
      rw [if_neg q, q2]
      refine ⟨?_, ?_⟩
      · rw [n_wI (by omega), n_wI (by omega)]
        exact e_wI ⟨rfl, rfl⟩
      · rw [n_wI (by omega)]
        exact e_wI ⟨rfl, rfl⟩
theorem m_drops {k : Nat} {X : Td} (hX : mdT (μ.1 573) X) (hk : k < X.R.length) : Ex γ 2 0 0 M_X12_drops [.ref 572, .int (nI k)] (rm μ) (Rm none (fun m => mdT (m.1 573) (X.R.eraseIdx k, X.2) ∧ Wo μ m)) := by
  have hR := hX.1
  have h12 := hR.1.2
  refine Ex.of (by decide +kernel) rfl (Nat.le_of_ble_eq_true rfl) ?_
  show T _ _ _ _ _ _ _ _ _ [some (.ref 572), some (.int (nI k)), none] [] (rm μ)
  refine T_iconst (pc := 0) (v := nI 2) dX12_drops_0 (by decide) ?_
  refine T_iload_n (pc := 1) (i := 1) dX12_drops_1 rfl rfl ?_
  refine R_imul (pc := 2) dX12_drops_2 ?_
  refine T_istore_n (pc := 3) (i := 2) (ls' := [some (.ref 572), some (.int (nI k)), some (.int (nI (2 * k)))]) dX12_drops_3 rfl (by decide) rfl ?_
  suffices loop : ∀ (f q : Nat) (m : SM2), q + f = 2 * X.R.length - 2 → 2 * k ≤ q → (∀ j, m.1 573 j = if 17 + 2 * k ≤ j ∧ j < 17 + q then μ.1 573 (j + 2) else μ.1 573 j) → OfS S573 μ m → T γ 2 0 0 M_X12_drops (Rm none (fun m => mdT (m.1 573) (X.R.eraseIdx k, X.2) ∧ Wo μ m)) 0 0 4 [some (.ref 572), some (.int (nI k)), some (.int (nI q))] [] (rm m) by
    exact loop (2 * X.R.length - 2 - 2 * k) (2 * k) μ (by omega) (Nat.le_refl _) (fun j => by rw [if_neg (by omega)]) (OfS.refl _ _)
  intro f
  induction f with
  | zero =>
    intro q m hq hk2 hc hO
    have eq : q = 2 * X.R.length - 2 := by omega
    subst eq
    have hm0 : m.1 573 0 = nI X.R.length := (hc 0).trans (by rw [if_neg (by omega)]; exact hR.1.1)
    refine T_iload_n (pc := 4) (i := 2) dX12_drops_4 rfl rfl ?_
    refine T_iconst (pc := 5) (v := nI 2) dX12_drops_5 (by decide) ?_
    refine T_aload_n (pc := 6) (i := 0) dX12_drops_6 rfl rfl ?_
    refine R_callV1 (pc := 7) (As := []) (rest := [.int (nI 2), .int (nI (2 * X.R.length - 2))]) (Or.inl lk_X12_121) mk_X12_rules (m_rulesN hm0) kc_572 ⟨by decide, rfl⟩ lc_572 dX12_drops_7 rfl rfl (Nat.le_of_ble_eq_true rfl) (by decide) rfl (Nat.le_refl _) (Nat.le_refl _) ?_
    refine R_imul (pc := 10) dX12_drops_10 ?_
    refine T_iconst (pc := 11) (v := nI 2) dX12_drops_11 (by decide) ?_
    refine R_isub (pc := 12) (by omega) dX12_drops_12 ?_
    refine R_icmp_ge (pc := 13) (tgt := 42) (by omega) (by omega) dX12_drops_13 (by decide) (fun h1 => ?_) (fun h1 => ?_)
    · skip
      refine T_aload_n (pc := 42) (i := 0) dX12_drops_42 rfl rfl ?_
      refine R_getR (pc := 43) (i := 573) fl_X12_29 rfl kc_572 lc_572 rc_572_1 dX12_drops_43 ?_
      refine T_iconst (pc := 46) (v := nI 0) dX12_drops_46 (by decide) ?_
      refine T_dup2 (pc := 47) dX12_drops_47 rfl rfl ?_
      refine R_iald (pc := 48) (x := nI X.R.length) kc_573 lc_573 (by omega) (by first | decide | assumption) hm0 dX12_drops_48 ?_
      refine T_iconst (pc := 49) (v := nI 1) dX12_drops_49 (by decide) ?_
      refine R_isub (pc := 50) (by omega) dX12_drops_50 ?_
      refine R_iast (pc := 51) kc_573 lc_573 (by omega) (by first | decide | assumption) dX12_drops_51 ?_
      have hl : (X.R.eraseIdx k).length = X.R.length - 1 := by rw [List.length_eraseIdx, if_pos hk]
      refine T_vret dX12_drops_52 rfl (Nat.le_refl _) (Nat.le_refl _) ⟨_, rfl, rfl, hX.rul ⟨⟨?_, by omega⟩, fun i hi => ?_, fun i hi => ?_⟩ (fun j h1 h2 => ?_), OfS.sI hO rfl, fun j hj => ?_⟩
      · rw [hl]
        exact e_wI ⟨rfl, rfl⟩
      · rw [rAt_erase]
        split
        · next z => exact hR.2.1 i (by omega)
        · exact hR.2.1 (i + 1) (by omega)
      · rw [rAt_erase, n_wI (by omega), n_wI (by omega), hc, hc]
        by_cases z : i < k
        · rw [if_pos z, if_neg (by omega), if_neg (by omega)]
          exact hR.2.2 i (by omega)
        · rw [if_neg z, if_pos (by omega), if_pos (by omega)]
          have := hR.2.2 (i + 1) (by omega)
          rw [show 17 + 2 * i + 2 = 17 + 2 * (i + 1) by omega, show 17 + 2 * i + 1 + 2 = 17 + 2 * (i + 1) + 1 by omega]
          exact this
      · rw [n_wI (by omega), hc, if_neg (by omega)]
      · rw [n_wI (by omega), hc, if_neg (by omega)]
    · exact absurd h1 (by omega)
  | succ f ih =>
    intro q m hq hk2 hc hO
    have hm0 : m.1 573 0 = nI X.R.length := (hc 0).trans (by rw [if_neg (by omega)]; exact hR.1.1)
    have hm2 : m.1 573 (17 + q + 2) = μ.1 573 (17 + q + 2) := (hc _).trans (by rw [if_neg (by omega)])
    refine T_iload_n (pc := 4) (i := 2) dX12_drops_4 rfl rfl ?_
    refine T_iconst (pc := 5) (v := nI 2) dX12_drops_5 (by decide) ?_
    refine T_aload_n (pc := 6) (i := 0) dX12_drops_6 rfl rfl ?_
    refine R_callV1 (pc := 7) (As := []) (rest := [.int (nI 2), .int (nI q)]) (Or.inl lk_X12_121) mk_X12_rules (m_rulesN hm0) kc_572 ⟨by decide, rfl⟩ lc_572 dX12_drops_7 rfl rfl (Nat.le_of_ble_eq_true rfl) (by decide) rfl (Nat.le_refl _) (Nat.le_refl _) ?_
    refine R_imul (pc := 10) dX12_drops_10 ?_
    refine T_iconst (pc := 11) (v := nI 2) dX12_drops_11 (by decide) ?_
    refine R_isub (pc := 12) (by omega) dX12_drops_12 ?_
    refine R_icmp_ge (pc := 13) (tgt := 42) (by omega) (by omega) dX12_drops_13 (by decide) (fun h1 => ?_) (fun h1 => ?_)
    · exact absurd h1 (by omega)
    · skip
      refine T_aload_n (pc := 16) (i := 0) dX12_drops_16 rfl rfl ?_
      refine R_getR (pc := 17) (i := 573) fl_X12_29 rfl kc_572 lc_572 rc_572_1 dX12_drops_17 ?_
      refine T_bipush (pc := 20) (v := nI 17) dX12_drops_20 (by decide) ?_
      refine T_iload_n (pc := 22) (i := 2) dX12_drops_22 rfl rfl ?_
      refine R_iadd (pc := 23) dX12_drops_23 ?_
      refine T_aload_n (pc := 24) (i := 0) dX12_drops_24 rfl rfl ?_
      refine R_getR (pc := 25) (i := 573) fl_X12_29 rfl kc_572 lc_572 rc_572_1 dX12_drops_25 ?_
      refine T_bipush (pc := 28) (v := nI 17) dX12_drops_28 (by decide) ?_
      refine T_iload_n (pc := 30) (i := 2) dX12_drops_30 rfl rfl ?_
      refine R_iadd (pc := 31) dX12_drops_31 ?_
      refine T_iconst (pc := 32) (v := nI 2) dX12_drops_32 (by decide) ?_
      refine R_iadd (pc := 33) dX12_drops_33 ?_
      refine R_iald (pc := 34) (x := (μ.1 573 (17 + q + 2))) kc_573 lc_573 (by omega) (by first | decide | assumption) hm2 dX12_drops_34 ?_
      refine R_iast (pc := 35) kc_573 lc_573 (by omega) (by first | decide | assumption) dX12_drops_35 ?_
      refine R_iinc (pc := 36) (i := 2) (n := 1) (ls' := [some (.ref 572), some (.int (nI k)), some (.int (nI (q + 1)))]) dX12_drops_36 rfl rfl ?_
      refine T_goto (pc := 39) (tgt := 4) dX12_drops_39 (by decide) ?_
      refine ih (q + 1) _ (by omega) (by omega) (fun j => ?_) (OfS.sI hO rfl)
      by_cases e : j = 17 + q
      · rw [e, e_wI ⟨rfl, rfl⟩, if_pos (by omega)]
      · rw [n_wI (by omega), hc j]
        by_cases g : 17 + 2 * k ≤ j ∧ j < 17 + q
        · rw [if_pos g, if_pos (by omega)]
        · rw [if_neg g, if_neg (by omega)]
end MT1

