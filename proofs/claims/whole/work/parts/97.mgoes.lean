/-! THE MODEL: makers; a FIELD goes a STEP -/
def MadeAt (m : SM2) (N : List (Int32 × Int32)) : Prop := (m.1 572 24 = nI N.length ∧ N.length ≤ 20) ∧ ∀ i, i < N.length → m.1 580 (2 * i) = (mAt N i).1 ∧ m.1 580 (2 * i + 1) = (mAt N i).2
def F24 (j : Nat) : Prop := j = 24
def S580 (k : Nat) : Prop := k = 580
theorem MadeAt.of {F S : Nat → Prop} {μ m : SM2} {N : List (Int32 × Int32)} (h : MadeAt μ N) (g : OfM F S μ m) (h1 : ¬ F 24) (h2 : ¬ S 580) : MadeAt m N :=
  ⟨⟨(g.fi h1).trans h.1.1, h.1.2⟩, fun i hi => ⟨(g.i (by decide) h2 _).trans (h.2 i hi).1, (g.i (by decide) h2 _).trans (h.2 i hi).2⟩⟩
theorem mdM.sm {g g' : Nat → Int32} {k : Nat} {f : Fld} (h : mdM g k f) (e : ∀ j, k ≤ j → j < k + 43 → g' j = g j) : mdM g' k f := by
  have hl := h.1.1.1
  exact ⟨h.1, ⟨(e _ (by omega) (by omega)).trans h.2.1.1, (e _ (by omega) (by omega)).trans h.2.1.2⟩, (e _ (by omega) (by omega)).trans h.2.2.1, fun p hp => ⟨(e _ (by omega) (by omega)).trans (h.2.2.2 p hp).1, (e _ (by omega) (by omega)).trans (h.2.2.2 p hp).2⟩⟩
section MQ1
variable {γ : Ga} {μ : SM2}
theorem m_makes {a b : Int32} {N : List (Int32 × Int32)} (h : MadeAt μ N) (hn : N.length < 20) : Ex γ 1 0 0 M_X12_makes [.ref 572, .int a, .int b] (rm μ) (Rm none (fun m => MadeAt m (N ++ [(a, b)]) ∧ OfM F24 S580 μ m)) := by
  refine Ex.of (by decide +kernel) rfl (Nat.le_of_ble_eq_true rfl) ?_
  show T _ _ _ _ _ _ _ _ _ [some (.ref 572), some (.int (a)), some (.int (b))] [] (rm μ)
  refine T_aload_n (pc := 0) (i := 0) dX12_makes_0 rfl rfl ?_
  refine R_getR (pc := 1) (i := 580) fl_X12_55 rfl kc_572 lc_572 rc_572_23 dX12_makes_1 ?_
  refine T_iconst (pc := 4) (v := nI 2) dX12_makes_4 (by decide) ?_
  refine T_aload_n (pc := 5) (i := 0) dX12_makes_5 rfl rfl ?_
  refine R_getI (pc := 6) (x := nI N.length) fl_X12_389 rfl kc_572 lc_572 h.1.1 dX12_makes_6 ?_
  refine R_imul (pc := 9) dX12_makes_9 ?_
  refine T_iload_n (pc := 10) (i := 1) dX12_makes_10 rfl rfl ?_
  refine R_iast (pc := 11) kc_580 lc_580 (by omega) (by first | decide | assumption) dX12_makes_11 ?_
  refine T_aload_n (pc := 12) (i := 0) dX12_makes_12 rfl rfl ?_
  refine R_getR (pc := 13) (i := 580) fl_X12_55 rfl kc_572 lc_572 rc_572_23 dX12_makes_13 ?_
  refine T_iconst (pc := 16) (v := nI 2) dX12_makes_16 (by decide) ?_
  refine T_aload_n (pc := 17) (i := 0) dX12_makes_17 rfl rfl ?_
  refine R_getI (pc := 18) (x := nI N.length) fl_X12_389 rfl kc_572 lc_572 ((wI_ne (by first | omega | simp)).trans h.1.1) dX12_makes_18 ?_
  refine R_imul (pc := 21) dX12_makes_21 ?_
  refine T_iconst (pc := 22) (v := nI 1) dX12_makes_22 (by decide) ?_
  refine R_iadd (pc := 23) dX12_makes_23 ?_
  refine T_iload_n (pc := 24) (i := 2) dX12_makes_24 rfl rfl ?_
  refine R_iast (pc := 25) kc_580 lc_580 (by omega) (by first | decide | assumption) dX12_makes_25 ?_
  refine T_aload_n (pc := 26) (i := 0) dX12_makes_26 rfl rfl ?_
  refine T_dup (pc := 27) dX12_makes_27 rfl ?_
  refine R_getI (pc := 28) (x := nI N.length) fl_X12_389 rfl kc_572 lc_572 ((wI_ne (by first | omega | simp)).trans ((wI_ne (by first | omega | simp)).trans h.1.1)) dX12_makes_28 ?_
  refine T_iconst (pc := 31) (v := nI 1) dX12_makes_31 (by decide) ?_
  refine R_iadd (pc := 32) dX12_makes_32 ?_
  refine R_putI (pc := 33) fl_X12_389 ⟨rfl, rfl⟩ (Or.inl rfl) kc_572 lc_572 dX12_makes_33 ?_
  refine T_vret dX12_makes_36 rfl (Nat.le_refl _) (Nat.le_refl _) ⟨_, rfl, rfl, ⟨⟨?_, ?_⟩, fun i hi => ?_⟩, OfM.sF (OfM.sI (OfM.sI (OfM.refl _ _ _) rfl (by decide)) rfl (by decide)) rfl⟩
  · rw [List.length_append]
    exact e_wI ⟨rfl, rfl⟩
  · rw [List.length_append]
    exact hn
  · rw [List.length_append] at hi
    have hi2 : i < N.length + 1 := hi
    rw [mAt_app]
    by_cases q : i < N.length
    · rw [if_pos q, n_wI (by omega), n_wI (by omega), n_wI (by omega), n_wI (by omega), n_wI (by omega), n_wI (by omega)]
      exact h.2 i q
    · have q2 : i = N.length := by omega
      rw [if_neg q, q2, Nat.sub_self]
      refine ⟨?_, ?_⟩
      · rw [n_wI (by omega), n_wI (by omega)]
        exact e_wI ⟨rfl, rfl⟩
      · rw [n_wI (by omega)]
        exact e_wI ⟨rfl, rfl⟩
theorem m_keepsMakers {k a n : Nat} {f : Fld} {N : List (Int32 × Int32)} (hk : k < 6) (hf : mdM (μ.1 573) (41 + 43 * k) f) (h : MadeAt μ N) (han : a + n ≤ f.1.length) (hn : N.length + n ≤ 20) : Ex γ 2 0 0 M_X12_keepsMakers [.ref 572, .int (nI k), .int (nI a), .int (nI n)] (rm μ) (Rm none (fun m => MadeAt m (N ++ (f.2.2.drop a).take n) ∧ OfM F24 S580 μ m)) := by
  have h20 := hf.1.1.1
  have hlen := hf.1.2
  refine Ex.of (by decide +kernel) rfl (Nat.le_of_ble_eq_true rfl) ?_
  show T _ _ _ _ _ _ _ _ _ [some (.ref 572), some (.int (nI k)), some (.int (nI a)), some (.int (nI n)), none] [] (rm μ)
  refine T_iload_n (pc := 0) (i := 2) dX12_keepsMakers_0 rfl rfl ?_
  refine T_istore (pc := 1) (i := 4) (ls' := [some (.ref 572), some (.int (nI k)), some (.int (nI a)), some (.int (nI n)), some (.int (nI a))]) dX12_keepsMakers_1 (by decide) rfl ?_
  suffices loop : ∀ (g i : Nat) (m : SM2), i + g = n → MadeAt m (N ++ (f.2.2.drop a).take i) → OfM F24 S580 μ m → T γ 2 0 0 M_X12_keepsMakers (Rm none (fun m => MadeAt m (N ++ (f.2.2.drop a).take n) ∧ OfM F24 S580 μ m)) 0 0 3 [some (.ref 572), some (.int (nI k)), some (.int (nI a)), some (.int (nI n)), some (.int (nI (a + i)))] [] (rm m) by
    exact loop n 0 μ (Nat.zero_add _) (by rw [List.take_zero, List.append_nil]; exact h) (OfM.refl _ _ _)
  intro g
  induction g with
  | zero =>
    intro i m hi hM hO
    obtain rfl : i = n := by omega
    refine T_iload (pc := 3) (i := 4) dX12_keepsMakers_3 rfl ?_
    refine T_iload_n (pc := 5) (i := 2) dX12_keepsMakers_5 rfl rfl ?_
    refine T_iload_n (pc := 6) (i := 3) dX12_keepsMakers_6 rfl rfl ?_
    refine R_iadd (pc := 7) dX12_keepsMakers_7 ?_
    refine R_icmp_ge (pc := 8) (tgt := 55) (by omega) (by omega) dX12_keepsMakers_8 (by decide) (fun h1 => ?_) (fun h1 => ?_)
    · skip
      exact T_vret dX12_keepsMakers_55 rfl (Nat.le_refl _) (Nat.le_refl _) ⟨_, rfl, rfl, hM, hO⟩
    · exact absurd h1 (by omega)
  | succ g ih =>
    intro i m hi hM hO
    have hfm := hf.2.2.2 (a + i) (by omega)
    have hl : (N ++ (f.2.2.drop a).take i).length = N.length + i := by rw [List.length_append, List.length_take, List.length_drop]; omega
    have ed : (f.2.2.drop a).getD i (0, 0) = mAt f.2.2 (a + i) := by
      show _ = f.2.2.getD (a + i) _
      rw [List.getD_eq_getElem?_getD, List.getD_eq_getElem?_getD, List.getElem?_drop]
    refine T_iload (pc := 3) (i := 4) dX12_keepsMakers_3 rfl ?_
    refine T_iload_n (pc := 5) (i := 2) dX12_keepsMakers_5 rfl rfl ?_
    refine T_iload_n (pc := 6) (i := 3) dX12_keepsMakers_6 rfl rfl ?_
    refine R_iadd (pc := 7) dX12_keepsMakers_7 ?_
    refine R_icmp_ge (pc := 8) (tgt := 55) (by omega) (by omega) dX12_keepsMakers_8 (by decide) (fun h1 => ?_) (fun h1 => ?_)
    · exact absurd h1 (by omega)
    · skip
      refine T_aload_n (pc := 11) (i := 0) dX12_keepsMakers_11 rfl rfl ?_
      refine T_aload_n (pc := 12) (i := 0) dX12_keepsMakers_12 rfl rfl ?_
      refine R_getR (pc := 13) (i := 573) fl_X12_29 rfl kc_572 lc_572 rc_572_1 dX12_keepsMakers_13 ?_
      refine T_iload_n (pc := 16) (i := 1) dX12_keepsMakers_16 rfl rfl ?_
      refine R_callS1 (pc := 17) (av := [.int (nI k)]) (rest := [.ref 573, .ref 572]) (Or.inl lk_X12_114) mk_X12_at m_at dX12_keepsMakers_17 rfl rfl (Nat.le_of_ble_eq_true rfl) (by decide) rfl (Nat.le_refl _) (Nat.le_refl _) ?_
      refine T_iconst (pc := 20) (v := nI 3) dX12_keepsMakers_20 (by decide) ?_
      refine R_iadd (pc := 21) dX12_keepsMakers_21 ?_
      refine T_iconst (pc := 22) (v := nI 2) dX12_keepsMakers_22 (by decide) ?_
      refine T_iload (pc := 23) (i := 4) dX12_keepsMakers_23 rfl ?_
      refine R_imul (pc := 25) dX12_keepsMakers_25 ?_
      refine R_iadd (pc := 26) dX12_keepsMakers_26 ?_
      refine R_iald (pc := 27) (x := ((mAt f.2.2 (a + i)).1)) kc_573 lc_573 (by omega) (by first | decide | assumption) ((hO.i (by decide) (by unfold S580; omega) _).trans hfm.1) dX12_keepsMakers_27 ?_
      refine T_aload_n (pc := 28) (i := 0) dX12_keepsMakers_28 rfl rfl ?_
      refine R_getR (pc := 29) (i := 573) fl_X12_29 rfl kc_572 lc_572 rc_572_1 dX12_keepsMakers_29 ?_
      refine T_iload_n (pc := 32) (i := 1) dX12_keepsMakers_32 rfl rfl ?_
      refine R_callS1 (pc := 33) (av := [.int (nI k)]) (rest := [.ref 573, .int (((mAt f.2.2 (a + i)).1)), .ref 572]) (Or.inl lk_X12_114) mk_X12_at m_at dX12_keepsMakers_33 rfl rfl (Nat.le_of_ble_eq_true rfl) (by decide) rfl (Nat.le_refl _) (Nat.le_refl _) ?_
      refine T_iconst (pc := 36) (v := nI 3) dX12_keepsMakers_36 (by decide) ?_
      refine R_iadd (pc := 37) dX12_keepsMakers_37 ?_
      refine T_iconst (pc := 38) (v := nI 2) dX12_keepsMakers_38 (by decide) ?_
      refine T_iload (pc := 39) (i := 4) dX12_keepsMakers_39 rfl ?_
      refine R_imul (pc := 41) dX12_keepsMakers_41 ?_
      refine R_iadd (pc := 42) dX12_keepsMakers_42 ?_
      refine T_iconst (pc := 43) (v := nI 1) dX12_keepsMakers_43 (by decide) ?_
      refine R_iadd (pc := 44) dX12_keepsMakers_44 ?_
      refine R_iald (pc := 45) (x := ((mAt f.2.2 (a + i)).2)) kc_573 lc_573 (by omega) (by first | decide | assumption) ((hO.i (by decide) (by unfold S580; omega) _).trans hfm.2) dX12_keepsMakers_45 ?_
      refine R_callVm0 (pc := 46) (As := [.int (((mAt f.2.2 (a + i)).1)), .int (((mAt f.2.2 (a + i)).2))]) (rest := []) (Or.inl lk_X12_392) mk_X12_makes (m_makes hM (by rw [hl]; omega)) kc_572 ⟨by decide, rfl⟩ lc_572 dX12_keepsMakers_46 rfl rfl (Nat.le_of_ble_eq_true rfl) (by decide) rfl (Nat.le_refl _) (Nat.le_refl _) (fun m2 h2 => ?_)
      refine R_iinc (pc := 49) (i := 4) (n := 1) (ls' := [some (.ref 572), some (.int (nI k)), some (.int (nI a)), some (.int (nI n)), some (.int (nI (a + i + 1)))]) dX12_keepsMakers_49 rfl rfl ?_
      refine T_goto (pc := 52) (tgt := 3) dX12_keepsMakers_52 (by decide) ?_
      refine ih (i + 1) m2 (by omega) ?_ (hO.trans h2.2)
      have h9 := h2.1
      rw [List.append_assoc] at h9
      rw [take_s (0, 0) (by rw [List.length_drop]; omega), ed]
      exact h9
theorem m_comes {k : Nat} {f : Fld} {l : List Nat} {N : List (Int32 × Int32)} (hk : k < 6) (hf : mdM (μ.1 573) (41 + 43 * k) f) (hl : Mw l) (h : MadeAt μ N) (hn : N.length = l.length) : Ex γ 3 0 0 M_X12_comes [.ref 572, .int (nI k), .long (lN (cd l))] (rm μ) (Rm none (fun m => (mdM (m.1 573) (41 + 43 * k) (l, f.2.1 + 1, N) ∧ ∀ j, (j < 41 + 43 * k ∨ 41 + 43 * k + 43 ≤ j) → m.1 573 j = μ.1 573 j) ∧ OfS S573 μ m)) := by
  have h20 := hl.1
  have hN := h.1.2
  refine Ex.of (by decide +kernel) rfl (Nat.le_of_ble_eq_true rfl) ?_
  show T _ _ _ _ _ _ _ _ _ [some (.ref 572), some (.int (nI k)), some (.long (lN (cd l))), none, none] [] (rm μ)
  refine T_aload_n (pc := 0) (i := 0) dX12_comes_0 rfl rfl ?_
  refine T_iload_n (pc := 1) (i := 1) dX12_comes_1 rfl rfl ?_
  refine R_callS1 (pc := 2) (av := [.int (nI k)]) (rest := [.ref 572]) (Or.inl lk_X12_114) mk_X12_at m_at dX12_comes_2 rfl rfl (Nat.le_of_ble_eq_true rfl) (by decide) rfl (Nat.le_refl _) (Nat.le_refl _) ?_
  refine T_lload_n (pc := 5) (i := 2) dX12_comes_5 rfl rfl ?_
  refine R_callV0 (pc := 6) (As := [.int (nI (41 + 43 * k)), .long (lN (cd l))]) (rest := []) (Or.inl lk_X12_132) mk_X12_putsCode (m_putsCode hl (by omega)) kc_572 ⟨by decide, rfl⟩ lc_572 dX12_comes_6 rfl rfl (Nat.le_of_ble_eq_true rfl) (by decide) rfl (Nat.le_refl _) (Nat.le_refl _) ?_
  refine T_aload_n (pc := 9) (i := 0) dX12_comes_9 rfl rfl ?_
  refine R_getR (pc := 10) (i := 573) fl_X12_29 rfl kc_572 lc_572 rc_572_1 dX12_comes_10 ?_
  refine T_iload_n (pc := 13) (i := 1) dX12_comes_13 rfl rfl ?_
  refine R_callS1 (pc := 14) (av := [.int (nI k)]) (rest := [.ref 573]) (Or.inl lk_X12_114) mk_X12_at m_at dX12_comes_14 rfl rfl (Nat.le_of_ble_eq_true rfl) (by decide) rfl (Nat.le_refl _) (Nat.le_refl _) ?_
  refine T_iconst (pc := 17) (v := nI 2) dX12_comes_17 (by decide) ?_
  refine R_iadd (pc := 18) dX12_comes_18 ?_
  refine T_dup2 (pc := 19) dX12_comes_19 rfl rfl ?_
  refine R_iald (pc := 20) (x := ((wI (wI μ 573 (41 + 43 * k) (nI (cd l / 2 ^ 32))) 573 (41 + 43 * k + 1) (nI (cd l))).1 573 ((41 + 43 * k) + 2))) kc_573 lc_573 (by omega) (by first | decide | assumption) rfl dX12_comes_20 ?_
  refine T_topi (v := f.2.1) ((n_wI (by omega)).trans ((n_wI (by omega)).trans hf.2.2.1)) ?_
  refine T_iconst (pc := 21) (v := nI 1) dX12_comes_21 (by decide) ?_
  refine T_iadd (pc := 22) dX12_comes_22 ?_
  refine R_iast (pc := 23) kc_573 lc_573 (by omega) (by first | decide | assumption) dX12_comes_23 ?_
  refine T_iconst (pc := 24) (v := nI 0) dX12_comes_24 (by decide) ?_
  refine T_istore (pc := 25) (i := 4) (ls' := [some (.ref 572), some (.int (nI k)), some (.long (lN (cd l))), none, some (.int (nI 0))]) dX12_comes_25 (by decide) rfl ?_
  suffices loop : ∀ (g q : Nat) (m : SM2), q + g = 40 → (mdC (m.1 573) (41 + 43 * k) l ∧ m.1 573 (41 + 43 * k + 2) = f.2.1 + 1) → (∀ j, j < q → m.1 573 (41 + 43 * k + 3 + j) = if j < 2 * N.length then μ.1 580 j else -1) → (∀ j, (j < 41 + 43 * k ∨ 41 + 43 * k + 43 ≤ j) → m.1 573 j = μ.1 573 j) → OfS S573 μ m → T γ 3 0 0 M_X12_comes (Rm none (fun m => (mdM (m.1 573) (41 + 43 * k) (l, f.2.1 + 1, N) ∧ ∀ j, (j < 41 + 43 * k ∨ 41 + 43 * k + 43 ≤ j) → m.1 573 j = μ.1 573 j) ∧ OfS S573 μ m)) 0 0 27 [some (.ref 572), some (.int (nI k)), some (.long (lN (cd l))), none, some (.int (nI q))] [] (rm m) by
    refine loop 40 0 _ rfl ⟨⟨?_, ?_⟩, ?_⟩ (fun j hj => absurd hj (Nat.not_lt_zero _)) (fun j hj => ?_) ?_
    · rw [n_wI (by omega), n_wI (by omega)]
      exact e_wI ⟨rfl, rfl⟩
    · rw [n_wI (by omega)]
      exact e_wI ⟨rfl, rfl⟩
    · exact e_wI ⟨rfl, rfl⟩
    · rw [n_wI (by omega), n_wI (by omega), n_wI (by omega)]
    · exact OfS.sI (OfS.sI (OfS.sI (OfS.refl _ _) rfl) rfl) rfl
  intro g
  induction g with
  | zero =>
    intro q m hq hc hm ho hO
    refine T_iload (pc := 27) (i := 4) dX12_comes_27 rfl ?_
    refine T_bipush (pc := 29) (v := nI 40) dX12_comes_29 (by decide) ?_
    refine R_icmp_ge (pc := 31) (tgt := 76) (by omega) (by omega) dX12_comes_31 (by decide) (fun h1 => ?_) (fun h1 => ?_)
    · skip
      refine T_vret dX12_comes_76 rfl (Nat.le_refl _) (Nat.le_refl _) ⟨_, rfl, rfl, ⟨⟨⟨hl, hn⟩, hc.1, hc.2, fun p hp => ?_⟩, ho⟩, hO⟩
      have hp2 : p < l.length := hp
      have e9 := h.2 p (by omega)
      refine ⟨?_, ?_⟩
      · show m.1 573 (41 + 43 * k + 3 + 2 * p) = (mAt N p).1
        rw [hm (2 * p) (by omega), if_pos (by omega)]
        exact e9.1
      · show m.1 573 (41 + 43 * k + 3 + 2 * p + 1) = (mAt N p).2
        rw [Nat.add_assoc (41 + 43 * k + 3), hm (2 * p + 1) (by omega), if_pos (by omega)]
        exact e9.2
    · exact absurd h1 (by omega)
  | succ g ih =>
    intro q m hq hc hm ho hO
    have st : ∀ v : Int32, v = (if q < 2 * N.length then μ.1 580 q else -1) → T γ 3 0 0 M_X12_comes (Rm none (fun m => (mdM (m.1 573) (41 + 43 * k) (l, f.2.1 + 1, N) ∧ ∀ j, (j < 41 + 43 * k ∨ 41 + 43 * k + 43 ≤ j) → m.1 573 j = μ.1 573 j) ∧ OfS S573 μ m)) 0 0 69 [some (.ref 572), some (.int (nI k)), some (.long (lN (cd l))), none, some (.int (nI q))] [.int v, .int (nI (41 + 43 * k + 3 + q)), .ref 573] (rm m) := fun v hv => by
      refine R_iast (pc := 69) kc_573 lc_573 (by omega) (by first | decide | assumption) dX12_comes_69 ?_
      refine R_iinc (pc := 70) (i := 4) (n := 1) (ls' := [some (.ref 572), some (.int (nI k)), some (.long (lN (cd l))), none, some (.int (nI (q + 1)))]) dX12_comes_70 rfl rfl ?_
      refine T_goto (pc := 73) (tgt := 27) dX12_comes_73 (by decide) ?_
      refine ih (q + 1) _ (by omega) ⟨⟨(n_wI (by omega)).trans hc.1.1, (n_wI (by omega)).trans hc.1.2⟩, (n_wI (by omega)).trans hc.2⟩ (fun j hj => ?_) (fun j hj => (n_wI (by omega)).trans (ho j hj)) (OfS.sI hO rfl)
      by_cases e : j = q
      · rw [e]
        exact (e_wI ⟨rfl, rfl⟩).trans hv
      · rw [n_wI (by omega)]
        exact hm j (by omega)
    refine T_iload (pc := 27) (i := 4) dX12_comes_27 rfl ?_
    refine T_bipush (pc := 29) (v := nI 40) dX12_comes_29 (by decide) ?_
    refine R_icmp_ge (pc := 31) (tgt := 76) (by omega) (by omega) dX12_comes_31 (by decide) (fun h1 => ?_) (fun h1 => ?_)
    · exact absurd h1 (by omega)
    · skip
      refine T_aload_n (pc := 34) (i := 0) dX12_comes_34 rfl rfl ?_
      refine R_getR (pc := 35) (i := 573) fl_X12_29 rfl kc_572 lc_572 rc_572_1 dX12_comes_35 ?_
      refine T_iload_n (pc := 38) (i := 1) dX12_comes_38 rfl rfl ?_
      refine R_callS1 (pc := 39) (av := [.int (nI k)]) (rest := [.ref 573]) (Or.inl lk_X12_114) mk_X12_at m_at dX12_comes_39 rfl rfl (Nat.le_of_ble_eq_true rfl) (by decide) rfl (Nat.le_refl _) (Nat.le_refl _) ?_
      refine T_iconst (pc := 42) (v := nI 3) dX12_comes_42 (by decide) ?_
      refine R_iadd (pc := 43) dX12_comes_43 ?_
      refine T_iload (pc := 44) (i := 4) dX12_comes_44 rfl ?_
      refine R_iadd (pc := 46) dX12_comes_46 ?_
      refine T_iload (pc := 47) (i := 4) dX12_comes_47 rfl ?_
      refine T_iconst (pc := 49) (v := nI 2) dX12_comes_49 (by decide) ?_
      refine T_aload_n (pc := 50) (i := 0) dX12_comes_50 rfl rfl ?_
      refine R_getI (pc := 51) (x := nI N.length) fl_X12_389 rfl kc_572 lc_572 ((hO.i (by unfold S573; omega) 24).trans h.1.1) dX12_comes_51 ?_
      refine R_imul (pc := 54) dX12_comes_54 ?_
      refine R_icmp_ge (pc := 55) (tgt := 68) (by omega) (by omega) dX12_comes_55 (by decide) (fun h2 => ?_) (fun h2 => ?_)
      · skip
        refine T_iconst (pc := 68) (v := (-1)) dX12_comes_68 (by decide) ?_
        exact st (-1) (by rw [if_neg (by omega)])
      · skip
        refine T_aload_n (pc := 58) (i := 0) dX12_comes_58 rfl rfl ?_
        refine R_getR (pc := 59) (i := 580) fl_X12_55 rfl kc_572 lc_572 rc_572_23 dX12_comes_59 ?_
        refine T_iload (pc := 62) (i := 4) dX12_comes_62 rfl ?_
        refine R_iald (pc := 64) (x := (μ.1 580 q)) kc_580 lc_580 (by omega) (by first | decide | assumption) (hO.i (by unfold S573; omega) q) dX12_comes_64 ?_
        refine T_goto (pc := 65) (tgt := 69) dX12_comes_65 (by decide) ?_
        exact st _ (by rw [if_pos h2])
def Fgo (j : Nat) : Prop := j = 24
def Sgo (k : Nat) : Prop := k = 573 ∨ k = 580
/-- of the world only a FIELD's own cells are others -/
def Wk1 (k : Nat) (μ m : SM2) : Prop := ∀ j, (j < 41 + 43 * k ∨ 41 + 43 * k + 43 ≤ j) → m.1 573 j = μ.1 573 j
theorem m_goes {k r p : Nat} {X : Td} (hX : mdT (μ.1 573) X) (hk : k < X.F.length) (hr : r < X.R.length) (hp : p + (rAt X.R r).1.length ≤ (fAt X.F k).1.length) (hs : (fAt X.F k).1.length - (rAt X.R r).1.length + (rAt X.R r).2.length ≤ 20) : Ex γ 6 0 0 M_X12_goes [.ref 572, .int (nI k), .int (nI r), .int (nI p)] (rm μ) (Rm none (fun m => (mdM (m.1 573) (41 + 43 * k) (chF X.R (fAt X.F k) [(p, r)]) ∧ Wk1 k μ m) ∧ OfM Fgo Sgo μ m)) := by
  have h6 := hX.2.1.1.2
  have hR := hX.1
  have hf := hX.2.1.2 k hk
  have ok := hR.2.1 r hr
  have h20 := hf.1.1.1
  have hlen := hf.1.2
  obtain ⟨f, ef⟩ : ∃ f, fAt X.F k = f := ⟨_, rfl⟩
  have hcode := m_meadow (γ := γ) (μ := μ) hX.2.1 hk
  rw [ef] at hf hp hs h20 hlen hcode ⊢
  refine Ex.of (by decide +kernel) rfl (Nat.le_of_ble_eq_true rfl) ?_
  show T _ _ _ _ _ _ _ _ _ [some (.ref 572), some (.int (nI k)), some (.int (nI r)), some (.int (nI p)), none, none, none, none] [] (rm μ)
  refine T_aload_n (pc := 0) (i := 0) dX12_goes_0 rfl rfl ?_
  refine T_iload_n (pc := 1) (i := 1) dX12_goes_1 rfl rfl ?_
  refine R_callV1 (pc := 2) (As := [.int (nI k)]) (rest := []) (Or.inl lk_X12_379) mk_X12_meadow hcode kc_572 ⟨by decide, rfl⟩ lc_572 dX12_goes_2 rfl rfl (Nat.le_of_ble_eq_true rfl) (by decide) rfl (Nat.le_refl _) (Nat.le_refl _) ?_
  refine T_lstore (pc := 5) (i := 4) (ls' := [some (.ref 572), some (.int (nI k)), some (.int (nI r)), some (.int (nI p)), some (.long (lN (cd f.1))), none, none, none]) dX12_goes_5 (by decide) rfl ?_
  refine T_aload_n (pc := 7) (i := 0) dX12_goes_7 rfl rfl ?_
  refine R_getR (pc := 8) (i := 573) fl_X12_29 rfl kc_572 lc_572 rc_572_1 dX12_goes_8 ?_
  refine T_iload_n (pc := 11) (i := 1) dX12_goes_11 rfl rfl ?_
  refine R_callS1 (pc := 12) (av := [.int (nI k)]) (rest := [.ref 573]) (Or.inl lk_X12_114) mk_X12_at m_at dX12_goes_12 rfl rfl (Nat.le_of_ble_eq_true rfl) (by decide) rfl (Nat.le_refl _) (Nat.le_refl _) ?_
  refine T_iconst (pc := 15) (v := nI 2) dX12_goes_15 (by decide) ?_
  refine R_iadd (pc := 16) dX12_goes_16 ?_
  refine R_iald (pc := 17) (x := f.2.1) kc_573 lc_573 (by omega) (by first | decide | assumption) hf.2.2.1 dX12_goes_17 ?_
  refine T_iconst (pc := 18) (v := nI 1) dX12_goes_18 (by decide) ?_
  refine T_iadd (pc := 19) dX12_goes_19 ?_
  refine T_istore (pc := 20) (i := 6) (ls' := [some (.ref 572), some (.int (nI k)), some (.int (nI r)), some (.int (nI p)), some (.long (lN (cd f.1))), none, some (.int (((f.2.1) + (nI 1)))), none]) dX12_goes_20 (by decide) rfl ?_
  refine T_aload_n (pc := 22) (i := 0) dX12_goes_22 rfl rfl ?_
  refine T_iconst (pc := 23) (v := nI 0) dX12_goes_23 (by decide) ?_
  refine R_putI (pc := 24) fl_X12_389 ⟨rfl, rfl⟩ (Or.inl rfl) kc_572 lc_572 dX12_goes_24 ?_
  refine T_aload_n (pc := 27) (i := 0) dX12_goes_27 rfl rfl ?_
  refine T_iload_n (pc := 28) (i := 1) dX12_goes_28 rfl rfl ?_
  refine T_iconst (pc := 29) (v := nI 0) dX12_goes_29 (by decide) ?_
  refine T_iload_n (pc := 30) (i := 3) dX12_goes_30 rfl rfl ?_
  have hM0 : MadeAt (wI μ 572 24 (nI 0)) [] := ⟨⟨e_wI ⟨rfl, rfl⟩, Nat.zero_le _⟩, fun i hi => absurd hi (Nat.not_lt_zero _)⟩
  have w1 : (wI μ 572 24 (nI 0)).1 573 = μ.1 573 := ((OfM.sF (OfM.refl F24 S580 μ) rfl : OfM F24 S580 μ (wI μ 572 24 (nI 0))).c (by decide) (by unfold S580; omega)).1
  refine R_callVm0 (pc := 31) (As := [.int (nI k), .int (nI 0), .int (nI p)]) (rest := []) (Or.inl lk_X12_395) mk_X12_keepsMakers (m_keepsMakers (by omega) (by rw [w1]; exact hf) hM0 (by omega) (by show 0 + p ≤ 20; omega)) kc_572 ⟨by decide, rfl⟩ lc_572 dX12_goes_31 rfl rfl (Nat.le_of_ble_eq_true rfl) (by decide) rfl (Nat.le_refl _) (Nat.le_refl _) (fun m1 h1 => ?_)
  have hO1 : OfM F24 S580 μ m1 := (OfM.sF (OfM.refl F24 S580 μ) rfl).trans h1.2
  have hM1 : MadeAt m1 (f.2.2.take p) := h1.1
  refine T_iconst (pc := 34) (v := nI 0) dX12_goes_34 (by decide) ?_
  refine T_istore (pc := 35) (i := 7) (ls' := [some (.ref 572), some (.int (nI k)), some (.int (nI r)), some (.int (nI p)), some (.long (lN (cd f.1))), none, some (.int (((f.2.1) + (nI 1)))), some (.int (nI 0))]) dX12_goes_35 (by decide) rfl ?_
  suffices loop : ∀ (g i : Nat) (m : SM2), i + g = (rAt X.R r).2.length → MadeAt m (f.2.2.take p ++ List.replicate i (nI r, f.2.1 + 1)) → OfM F24 S580 μ m → T γ 6 0 0 M_X12_goes (Rm none (fun m => (mdM (m.1 573) (41 + 43 * k) (chF X.R f [(p, r)]) ∧ Wk1 k μ m) ∧ OfM Fgo Sgo μ m)) 0 0 37 [some (.ref 572), some (.int (nI k)), some (.int (nI r)), some (.int (nI p)), some (.long (lN (cd f.1))), none, some (.int (f.2.1 + 1)), some (.int (nI i))] [] (rm m) by
    exact loop (rAt X.R r).2.length 0 m1 (Nat.zero_add _) (by rw [List.replicate_zero, List.append_nil]; exact hM1) hO1
  intro g
  induction g with
  | zero =>
    intro i m hi hM hO
    obtain rfl : i = (rAt X.R r).2.length := by omega
    have hRm : mdR (m.1 573) X.R := by rw [(hO.c (by decide) (by unfold S580; omega)).1]; exact hR
    have hfm : mdM (m.1 573) (41 + 43 * k) f := by rw [(hO.c (by decide) (by unfold S580; omega)).1]; exact hf
    have hll : (f.2.2.take p ++ List.replicate (rAt X.R r).2.length (nI r, f.2.1 + 1)).length = p + (rAt X.R r).2.length := by rw [List.length_append, List.length_take, List.length_replicate]; omega
    refine T_iload (pc := 37) (i := 7) dX12_goes_37 rfl ?_
    refine T_aload_n (pc := 39) (i := 0) dX12_goes_39 rfl rfl ?_
    refine T_iload_n (pc := 40) (i := 2) dX12_goes_40 rfl rfl ?_
    refine R_callV1 (pc := 41) (As := [.int (nI r)]) (rest := [.int (nI ((rAt X.R r).2.length))]) (Or.inl lk_X12_322) mk_X12_rights (m_rights hRm hr) kc_572 ⟨by decide, rfl⟩ lc_572 dX12_goes_41 rfl rfl (Nat.le_of_ble_eq_true rfl) (by decide) rfl (Nat.le_refl _) (Nat.le_refl _) ?_
    refine R_icmp_ge (pc := 44) (tgt := 60) (by omega) (by omega) dX12_goes_44 (by decide) (fun h9 => ?_) (fun h9 => ?_)
    · skip
      refine T_aload_n (pc := 60) (i := 0) dX12_goes_60 rfl rfl ?_
      refine T_iload_n (pc := 61) (i := 1) dX12_goes_61 rfl rfl ?_
      refine T_iload_n (pc := 62) (i := 3) dX12_goes_62 rfl rfl ?_
      refine T_aload_n (pc := 63) (i := 0) dX12_goes_63 rfl rfl ?_
      refine T_iload_n (pc := 64) (i := 2) dX12_goes_64 rfl rfl ?_
      refine R_callV1 (pc := 65) (As := [.int (nI r)]) (rest := [.int (nI p), .int (nI k), .ref 572]) (Or.inl lk_X12_311) mk_X12_lefts (m_lefts hRm hr) kc_572 ⟨by decide, rfl⟩ lc_572 dX12_goes_65 rfl rfl (Nat.le_of_ble_eq_true rfl) (by decide) rfl (Nat.le_refl _) (Nat.le_refl _) ?_
      refine R_iadd (pc := 68) dX12_goes_68 ?_
      refine T_lload (pc := 69) (i := 4) dX12_goes_69 rfl ?_
      refine R_callS1 (pc := 71) (av := [.long (lN (cd f.1))]) (rest := [.int (nI (p + ((rAt X.R r).1.length))), .int (nI k), .ref 572]) (Or.inl lk_X12_13) mk_X12_size (m_size hf.1.1) dX12_goes_71 rfl rfl (Nat.le_of_ble_eq_true rfl) (by decide) rfl (Nat.le_refl _) (Nat.le_refl _) ?_
      refine T_iload_n (pc := 74) (i := 3) dX12_goes_74 rfl rfl ?_
      refine R_isub (pc := 75) (by omega) dX12_goes_75 ?_
      refine T_aload_n (pc := 76) (i := 0) dX12_goes_76 rfl rfl ?_
      refine T_iload_n (pc := 77) (i := 2) dX12_goes_77 rfl rfl ?_
      refine R_callV1 (pc := 78) (As := [.int (nI r)]) (rest := [.int (nI (f.1.length - p)), .int (nI (p + ((rAt X.R r).1.length))), .int (nI k), .ref 572]) (Or.inl lk_X12_311) mk_X12_lefts (m_lefts hRm hr) kc_572 ⟨by decide, rfl⟩ lc_572 dX12_goes_78 rfl rfl (Nat.le_of_ble_eq_true rfl) (by decide) rfl (Nat.le_refl _) (Nat.le_refl _) ?_
      refine R_isub (pc := 81) (by omega) dX12_goes_81 ?_
      refine R_callVm0 (pc := 82) (As := [.int (nI k), .int (nI (p + ((rAt X.R r).1.length))), .int (nI ((f.1.length - p) - ((rAt X.R r).1.length)))]) (rest := []) (Or.inl lk_X12_395) mk_X12_keepsMakers (m_keepsMakers (by omega) hfm hM (by omega) (by rw [hll]; omega)) kc_572 ⟨by decide, rfl⟩ lc_572 dX12_goes_82 rfl rfl (Nat.le_of_ble_eq_true rfl) (by decide) rfl (Nat.le_refl _) (Nat.le_refl _) (fun m2 h2 => ?_)
      have hO2 := hO.trans h2.2
      have hRm2 : mdR (m2.1 573) X.R := by rw [(hO2.c (by decide) (by unfold S580; omega)).1]; exact hR
      have hfm2 : mdM (m2.1 573) (41 + 43 * k) f := by rw [(hO2.c (by decide) (by unfold S580; omega)).1]; exact hf
      have hMe : MadeAt m2 (f.2.2.take p ++ List.replicate (rAt X.R r).2.length (nI r, f.2.1 + 1) ++ f.2.2.drop (p + (rAt X.R r).1.length)) := by
        have := h2.1
        rw [List.take_of_length_le (l := f.2.2.drop (p + (rAt X.R r).1.length)) (by rw [List.length_drop]; omega)] at this
        exact this
      have hus : Mw (usd f.1 p (rAt X.R r).1 (rAt X.R r).2) := usd_Mw hf.1.1.2 ok.2.2.2.1 hp (by omega)
      refine T_aload_n (pc := 85) (i := 0) dX12_goes_85 rfl rfl ?_
      refine T_iload_n (pc := 86) (i := 1) dX12_goes_86 rfl rfl ?_
      refine T_aload_n (pc := 87) (i := 0) dX12_goes_87 rfl rfl ?_
      refine T_lload (pc := 88) (i := 4) dX12_goes_88 rfl ?_
      refine T_iload_n (pc := 90) (i := 2) dX12_goes_90 rfl rfl ?_
      refine T_iload_n (pc := 91) (i := 3) dX12_goes_91 rfl rfl ?_
      refine R_callV1 (pc := 92) (As := [.long (lN (cd f.1)), .int (nI r), .int (nI p)]) (rest := [.int (nI k), .ref 572]) (Or.inl lk_X12_360) mk_X12_used (m_used hRm2 hf.1.1 hr hp) kc_572 ⟨by decide, rfl⟩ lc_572 dX12_goes_92 rfl rfl (Nat.le_of_ble_eq_true rfl) (by decide) rfl (Nat.le_refl _) (Nat.le_refl _) ?_
      refine R_callVm0 (pc := 95) (As := [.int (nI k), .long (lN (cd (usd f.1 p (rAt X.R r).1 (rAt X.R r).2)))]) (rest := []) (Or.inl lk_X12_399) mk_X12_comes (m_comes (by omega) hfm2 hus hMe (by have := usd_len (l := f.1) (L := (rAt X.R r).1) (R := (rAt X.R r).2) hp; rw [List.length_append, hll, List.length_drop]; omega)) kc_572 ⟨by decide, rfl⟩ lc_572 dX12_goes_95 rfl rfl (Nat.le_of_ble_eq_true rfl) (by decide) rfl (Nat.le_refl _) (Nat.le_refl _) (fun m3 h3 => ?_)
      exact T_vret dX12_goes_98 rfl (Nat.le_refl _) (Nat.le_refl _) ⟨_, rfl, rfl, ⟨h3.1.1, fun j hj => (h3.1.2 j hj).trans (congrFun (hO2.c (by decide) (by unfold S580; omega)).1 j)⟩, (hO2.mono (fun j hj => hj) (fun k hk => Or.inr hk)).trans (h3.2.m (fun k hk => ⟨by unfold S573 at hk; omega, Or.inl hk⟩))⟩
    · exact absurd h9 (by omega)
  | succ g ih =>
    intro i m hi hM hO
    have hRm : mdR (m.1 573) X.R := by rw [(hO.c (by decide) (by unfold S580; omega)).1]; exact hR
    have hll : (f.2.2.take p ++ List.replicate i (nI r, f.2.1 + 1)).length = p + i := by rw [List.length_append, List.length_take, List.length_replicate]; omega
    refine T_iload (pc := 37) (i := 7) dX12_goes_37 rfl ?_
    refine T_aload_n (pc := 39) (i := 0) dX12_goes_39 rfl rfl ?_
    refine T_iload_n (pc := 40) (i := 2) dX12_goes_40 rfl rfl ?_
    refine R_callV1 (pc := 41) (As := [.int (nI r)]) (rest := [.int (nI i)]) (Or.inl lk_X12_322) mk_X12_rights (m_rights hRm hr) kc_572 ⟨by decide, rfl⟩ lc_572 dX12_goes_41 rfl rfl (Nat.le_of_ble_eq_true rfl) (by decide) rfl (Nat.le_refl _) (Nat.le_refl _) ?_
    refine R_icmp_ge (pc := 44) (tgt := 60) (by omega) (by omega) dX12_goes_44 (by decide) (fun h9 => ?_) (fun h9 => ?_)
    · exact absurd h9 (by omega)
    · skip
      refine T_aload_n (pc := 47) (i := 0) dX12_goes_47 rfl rfl ?_
      refine T_iload_n (pc := 48) (i := 2) dX12_goes_48 rfl rfl ?_
      refine T_iload (pc := 49) (i := 6) dX12_goes_49 rfl ?_
      refine R_callVm0 (pc := 51) (As := [.int (nI r), .int ((f.2.1 + 1))]) (rest := []) (Or.inl lk_X12_392) mk_X12_makes (m_makes hM (by rw [hll]; omega)) kc_572 ⟨by decide, rfl⟩ lc_572 dX12_goes_51 rfl rfl (Nat.le_of_ble_eq_true rfl) (by decide) rfl (Nat.le_refl _) (Nat.le_refl _) (fun m2 h2 => ?_)
      refine R_iinc (pc := 54) (i := 7) (n := 1) (ls' := [some (.ref 572), some (.int (nI k)), some (.int (nI r)), some (.int (nI p)), some (.long (lN (cd f.1))), none, some (.int ((f.2.1 + 1))), some (.int (nI (i + 1)))]) dX12_goes_54 rfl rfl ?_
      refine T_goto (pc := 57) (tgt := 37) dX12_goes_57 (by decide) ?_
      refine ih (i + 1) m2 (by omega) ?_ (hO.trans h2.2)
      have h8 := h2.1
      rw [List.append_assoc, ← List.replicate_succ'] at h8
      exact h8
end MQ1

