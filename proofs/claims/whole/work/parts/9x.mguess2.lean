/-! THE MODEL: guessed -/
theorem sAt_lt {l : List (List Nat × List Nat)} {x : List Nat × List Nat} {i : Nat} (h : i < l.length) : sAt (l ++ [x]) i = sAt l i := by
  show (l ++ [x]).getD i _ = l.getD i _
  rw [List.getD_eq_getElem?_getD, List.getElem?_append_left h, ← List.getD_eq_getElem?_getD]
theorem sAt_end {l : List (List Nat × List Nat)} {x : List Nat × List Nat} : sAt (l ++ [x]) l.length = x := by
  show (l ++ [x]).getD l.length _ = x
  rw [List.getD_eq_getElem?_getD, List.getElem?_append_right (Nat.le_refl _), Nat.sub_self]
  rfl
theorem sAt_get {l : List (List Nat × List Nat)} {i : Nat} (h : i < l.length) : sAt l i = l[i] := by
  show l.getD i _ = _
  rw [List.getD_eq_getElem?_getD, List.getElem?_eq_getElem h]
  rfl
theorem sAt_mem {l : List (List Nat × List Nat)} {i : Nat} (h : i < l.length) : sAt l i ∈ l := by
  rw [sAt_get h]
  exact List.getElem_mem h
theorem alN_al {P : Nat → Bool} : ∀ {n : Nat}, (∀ i, i < n → P i = true) → alN P n = true
  | 0, _ => rfl
  | n + 1, h => by
    show (alN P n && P n) = true
    rw [alN_al (n := n) (fun i hi => h i (by omega)), h n (Nat.lt_succ_self _)]
    rfl
theorem alN_mem {l : List (List Nat × List Nat)} {x : List Nat × List Nat} : alN (fun k => !decide (sAt l k = x)) l.length = !decide (x ∈ l) := by
  by_cases h : x ∈ l
  · obtain ⟨i, hi, e⟩ := List.mem_iff_getElem.mp h
    rw [decide_eq_true h]
    refine alN_no (i := i) ?_ hi
    show (!decide (sAt l i = x)) = false
    rw [sAt_get hi, decide_eq_true e]
    rfl
  · rw [decide_eq_false h]
    refine alN_al (fun i hi => ?_)
    show (!decide (sAt l i = x)) = true
    rw [decide_eq_false (fun z => h (by rw [← z]; exact sAt_mem hi))]
    rfl
def MGs (m : SM2) (l : List (List Nat × List Nat)) : Prop := m.1 572 47 = nI l.length ∧ ∀ i, i < l.length → m.2 590 i = lN (cd (sAt l i).1) ∧ m.2 591 i = lN (cd (sAt l i).2)
def MGk (l : List (List Nat × List Nat)) : Prop := ∀ x, x ∈ l → Mw x.1 ∧ Mw x.2
def S591 (k : Nat) : Prop := k = 590 ∨ k = 591
theorem MGs_snoc {m : SM2} {l : List (List Nat × List Nat)} {L R : List Nat} (h : MGs m l) : MGs (wI (wL (wL m 590 l.length (lN (cd L))) 591 l.length (lN (cd R))) 572 47 (nI (l.length + 1))) (l ++ [(L, R)]) := by
  refine ⟨?_, fun i hi => ?_⟩
  · rw [List.length_append, List.length_singleton]
    exact e_wI ⟨rfl, rfl⟩
  · rw [List.length_append, List.length_singleton] at hi
    have e1 : (wI (wL (wL m 590 l.length (lN (cd L))) 591 l.length (lN (cd R))) 572 47 (nI (l.length + 1))).2 = (wL (wL m 590 l.length (lN (cd L))) 591 l.length (lN (cd R))).2 := rfl
    rw [e1]
    by_cases e : i = l.length
    · rw [e, sAt_end]
      exact ⟨(n_wL (by omega)).trans (e_wL ⟨rfl, rfl⟩), e_wL ⟨rfl, rfl⟩⟩
    · have g := h.2 i (by omega)
      rw [sAt_lt (by omega)]
      exact ⟨((n_wL (by omega)).trans (n_wL (by omega))).trans g.1, ((n_wL (by omega)).trans (n_wL (by omega))).trans g.2⟩
theorem mgN_ok {S l : List (List Nat × List Nat)} {x : List Nat × List Nat} (h : MGk l) (hx : Mw x.1 ∧ Mw x.2) : MGk (mgN S l x) := by
  unfold mgN
  split
  · intro y hy
    rcases List.mem_append.mp hy with g | g
    · exact h y g
    · rw [List.mem_singleton.mp g]
      exact hx
  · exact h
theorem mgS_ok {S : List (List Nat × List Nat)} {n r : Nat} {l : List (List Nat × List Nat)} (h : MGk l) (ha : Mw (sAt S 0).1) (ht : Mw (sAt S 0).2) (hr : (sAt S 0).1.length + r = n + (sAt S 0).2.length) : ∀ {p : Nat}, p + n ≤ (sAt S 0).1.length + 1 → MGk (mgS S n r l p)
  | 0, _ => h
  | p + 1, hp => mgN_ok (mgS_ok h ha ht hr (p := p) (by omega)) ⟨(gL_ok ha (by omega)).1, (gL_ok ht (by omega)).1⟩
section MGG
variable {γ : Ga} {μ : SM2}
theorem m_isAhead {l : List (List Nat × List Nat)} {i k : Nat} (hl : MGs μ l) (hk : MGk l) (h99 : l.length ≤ 100) (hi : i < l.length) (hj : k < l.length) : Ex γ 4 0 0 M_X12_isAhead [.ref 572, .int (nI i), .int (nI k)] (rm μ) (Fn (some (.int (bI (gaB (sAt l i) (sAt l k))))) μ) := by
  have hx := hk _ (sAt_mem hi)
  have hy := hk _ (sAt_mem hj)
  have fi := hl.2 i hi
  have fk := hl.2 k hj
  unfold gaB
  generalize sAt l i = a at *
  generalize sAt l k = c at *
  have x1 := hx.1.1
  have x2 := hx.2.1
  have y1 := hy.1.1
  have y2 := hy.2.1
  have bx1 := cd_lt hx.1
  have bx2 := cd_lt hx.2
  have by1 := cd_lt hy.1
  have by2 := cd_lt hy.2
  refine Ex.of (by decide +kernel) rfl (Nat.le_of_ble_eq_true rfl) ?_
  show T _ _ _ _ _ _ _ _ _ [some (.ref 572), some (.int (nI i)), some (.int (nI k))] [] (rm μ)
  refine T_aload_n (pc := 0) (i := 0) dX12_isAhead_0 rfl rfl ?_
  refine R_getR (pc := 1) (i := 590) fl_X12_86 rfl kc_572 lc_572 rc_572_45 dX12_isAhead_1 ?_
  refine T_iload_n (pc := 4) (i := 1) dX12_isAhead_4 rfl rfl ?_
  refine R_lald (pc := 5) (x := lN (cd a.1)) kc_590 lc_590 (by omega) (by first | decide | assumption) fi.1 dX12_isAhead_5 ?_
  refine R_callS1 (pc := 6) (av := [.long (lN (cd a.1))]) (rest := []) (Or.inl lk_X12_13) mk_X12_size (m_size hx.1) dX12_isAhead_6 rfl rfl (Nat.le_of_ble_eq_true rfl) (by decide) rfl (Nat.le_refl _) (Nat.le_refl _) ?_
  refine T_aload_n (pc := 9) (i := 0) dX12_isAhead_9 rfl rfl ?_
  refine R_getR (pc := 10) (i := 590) fl_X12_86 rfl kc_572 lc_572 rc_572_45 dX12_isAhead_10 ?_
  refine T_iload_n (pc := 13) (i := 2) dX12_isAhead_13 rfl rfl ?_
  refine R_lald (pc := 14) (x := lN (cd c.1)) kc_590 lc_590 (by omega) (by first | decide | assumption) fk.1 dX12_isAhead_14 ?_
  refine R_callS1 (pc := 15) (av := [.long (lN (cd c.1))]) (rest := [.int (nI a.1.length)]) (Or.inl lk_X12_13) mk_X12_size (m_size hy.1) dX12_isAhead_15 rfl rfl (Nat.le_of_ble_eq_true rfl) (by decide) rfl (Nat.le_refl _) (Nat.le_refl _) ?_
  refine R_icmp_eq (pc := 18) (tgt := 48) (by omega) (by omega) dX12_isAhead_18 (by decide) (fun g1 => ?_) (fun g1 => ?_)
  · skip
    rw [if_neg (fun z => z g1)]
    refine T_aload_n (pc := 48) (i := 0) dX12_isAhead_48 rfl rfl ?_
    refine R_getR (pc := 49) (i := 591) fl_X12_89 rfl kc_572 lc_572 rc_572_46 dX12_isAhead_49 ?_
    refine T_iload_n (pc := 52) (i := 1) dX12_isAhead_52 rfl rfl ?_
    refine R_lald (pc := 53) (x := lN (cd a.2)) kc_591 lc_591 (by omega) (by first | decide | assumption) fi.2 dX12_isAhead_53 ?_
    refine R_callS1 (pc := 54) (av := [.long (lN (cd a.2))]) (rest := []) (Or.inl lk_X12_13) mk_X12_size (m_size hx.2) dX12_isAhead_54 rfl rfl (Nat.le_of_ble_eq_true rfl) (by decide) rfl (Nat.le_refl _) (Nat.le_refl _) ?_
    refine T_aload_n (pc := 57) (i := 0) dX12_isAhead_57 rfl rfl ?_
    refine R_getR (pc := 58) (i := 591) fl_X12_89 rfl kc_572 lc_572 rc_572_46 dX12_isAhead_58 ?_
    refine T_iload_n (pc := 61) (i := 2) dX12_isAhead_61 rfl rfl ?_
    refine R_lald (pc := 62) (x := lN (cd c.2)) kc_591 lc_591 (by omega) (by first | decide | assumption) fk.2 dX12_isAhead_62 ?_
    refine R_callS1 (pc := 63) (av := [.long (lN (cd c.2))]) (rest := [.int (nI a.2.length)]) (Or.inl lk_X12_13) mk_X12_size (m_size hy.2) dX12_isAhead_63 rfl rfl (Nat.le_of_ble_eq_true rfl) (by decide) rfl (Nat.le_refl _) (Nat.le_refl _) ?_
    refine R_icmp_eq (pc := 66) (tgt := 96) (by omega) (by omega) dX12_isAhead_66 (by decide) (fun g2 => ?_) (fun g2 => ?_)
    · skip
      rw [if_neg (fun z => z g2)]
      refine T_aload_n (pc := 96) (i := 0) dX12_isAhead_96 rfl rfl ?_
      refine R_getR (pc := 97) (i := 590) fl_X12_86 rfl kc_572 lc_572 rc_572_45 dX12_isAhead_97 ?_
      refine T_iload_n (pc := 100) (i := 1) dX12_isAhead_100 rfl rfl ?_
      refine R_lald (pc := 101) (x := lN (cd a.1)) kc_590 lc_590 (by omega) (by first | decide | assumption) fi.1 dX12_isAhead_101 ?_
      refine T_aload_n (pc := 102) (i := 0) dX12_isAhead_102 rfl rfl ?_
      refine R_getR (pc := 103) (i := 590) fl_X12_86 rfl kc_572 lc_572 rc_572_45 dX12_isAhead_103 ?_
      refine T_iload_n (pc := 106) (i := 2) dX12_isAhead_106 rfl rfl ?_
      refine R_lald (pc := 107) (x := lN (cd c.1)) kc_590 lc_590 (by omega) (by first | decide | assumption) fk.1 dX12_isAhead_107 ?_
      refine T_lcmp (pc := 108) dX12_isAhead_108 ?_
      refine R_ln_eq (pc := 109) (tgt := 136) (by omega) (by omega) dX12_isAhead_109 (by decide) (fun g3 => ?_) (fun g3 => ?_)
      · skip
        rw [if_neg (fun z => z g3)]
        refine T_aload_n (pc := 136) (i := 0) dX12_isAhead_136 rfl rfl ?_
        refine R_getR (pc := 137) (i := 591) fl_X12_89 rfl kc_572 lc_572 rc_572_46 dX12_isAhead_137 ?_
        refine T_iload_n (pc := 140) (i := 1) dX12_isAhead_140 rfl rfl ?_
        refine R_lald (pc := 141) (x := lN (cd a.2)) kc_591 lc_591 (by omega) (by first | decide | assumption) fi.2 dX12_isAhead_141 ?_
        refine T_aload_n (pc := 142) (i := 0) dX12_isAhead_142 rfl rfl ?_
        refine R_getR (pc := 143) (i := 591) fl_X12_89 rfl kc_572 lc_572 rc_572_46 dX12_isAhead_143 ?_
        refine T_iload_n (pc := 146) (i := 2) dX12_isAhead_146 rfl rfl ?_
        refine R_lald (pc := 147) (x := lN (cd c.2)) kc_591 lc_591 (by omega) (by first | decide | assumption) fk.2 dX12_isAhead_147 ?_
        refine T_lcmp (pc := 148) dX12_isAhead_148 ?_
        refine R_ln_ge (pc := 149) (tgt := 156) (by omega) (by omega) dX12_isAhead_149 (by decide) (fun g4 => ?_) (fun g4 => ?_)
        · skip
          rw [decide_eq_false (by omega)]
          refine T_iconst (pc := 156) (v := nI 0) dX12_isAhead_156 (by decide) ?_
          exact T_iret (pc := 157) (ty := .boolean) dX12_isAhead_157 rfl (by decide) (Nat.le_refl _) (Nat.le_refl _) ⟨rfl, rfl⟩
        · skip
          rw [decide_eq_true (by omega)]
          refine T_iconst (pc := 152) (v := nI 1) dX12_isAhead_152 (by decide) ?_
          refine T_goto (pc := 153) (tgt := 157) dX12_isAhead_153 (by decide) ?_
          exact T_iret (pc := 157) (ty := .boolean) dX12_isAhead_157 rfl (by decide) (Nat.le_refl _) (Nat.le_refl _) ⟨rfl, rfl⟩
      · skip
        rw [if_pos g3]
        refine T_aload_n (pc := 112) (i := 0) dX12_isAhead_112 rfl rfl ?_
        refine R_getR (pc := 113) (i := 590) fl_X12_86 rfl kc_572 lc_572 rc_572_45 dX12_isAhead_113 ?_
        refine T_iload_n (pc := 116) (i := 1) dX12_isAhead_116 rfl rfl ?_
        refine R_lald (pc := 117) (x := lN (cd a.1)) kc_590 lc_590 (by omega) (by first | decide | assumption) fi.1 dX12_isAhead_117 ?_
        refine T_aload_n (pc := 118) (i := 0) dX12_isAhead_118 rfl rfl ?_
        refine R_getR (pc := 119) (i := 590) fl_X12_86 rfl kc_572 lc_572 rc_572_45 dX12_isAhead_119 ?_
        refine T_iload_n (pc := 122) (i := 2) dX12_isAhead_122 rfl rfl ?_
        refine R_lald (pc := 123) (x := lN (cd c.1)) kc_590 lc_590 (by omega) (by first | decide | assumption) fk.1 dX12_isAhead_123 ?_
        refine T_lcmp (pc := 124) dX12_isAhead_124 ?_
        refine R_ln_ge (pc := 125) (tgt := 132) (by omega) (by omega) dX12_isAhead_125 (by decide) (fun g4 => ?_) (fun g4 => ?_)
        · skip
          rw [decide_eq_false (by omega)]
          refine T_iconst (pc := 132) (v := nI 0) dX12_isAhead_132 (by decide) ?_
          refine T_goto (pc := 133) (tgt := 157) dX12_isAhead_133 (by decide) ?_
          exact T_iret (pc := 157) (ty := .boolean) dX12_isAhead_157 rfl (by decide) (Nat.le_refl _) (Nat.le_refl _) ⟨rfl, rfl⟩
        · skip
          rw [decide_eq_true (by omega)]
          refine T_iconst (pc := 128) (v := nI 1) dX12_isAhead_128 (by decide) ?_
          refine T_goto (pc := 129) (tgt := 157) dX12_isAhead_129 (by decide) ?_
          exact T_iret (pc := 157) (ty := .boolean) dX12_isAhead_157 rfl (by decide) (Nat.le_refl _) (Nat.le_refl _) ⟨rfl, rfl⟩
    · skip
      rw [if_pos g2]
      refine T_aload_n (pc := 69) (i := 0) dX12_isAhead_69 rfl rfl ?_
      refine R_getR (pc := 70) (i := 591) fl_X12_89 rfl kc_572 lc_572 rc_572_46 dX12_isAhead_70 ?_
      refine T_iload_n (pc := 73) (i := 1) dX12_isAhead_73 rfl rfl ?_
      refine R_lald (pc := 74) (x := lN (cd a.2)) kc_591 lc_591 (by omega) (by first | decide | assumption) fi.2 dX12_isAhead_74 ?_
      refine R_callS1 (pc := 75) (av := [.long (lN (cd a.2))]) (rest := []) (Or.inl lk_X12_13) mk_X12_size (m_size hx.2) dX12_isAhead_75 rfl rfl (Nat.le_of_ble_eq_true rfl) (by decide) rfl (Nat.le_refl _) (Nat.le_refl _) ?_
      refine T_aload_n (pc := 78) (i := 0) dX12_isAhead_78 rfl rfl ?_
      refine R_getR (pc := 79) (i := 591) fl_X12_89 rfl kc_572 lc_572 rc_572_46 dX12_isAhead_79 ?_
      refine T_iload_n (pc := 82) (i := 2) dX12_isAhead_82 rfl rfl ?_
      refine R_lald (pc := 83) (x := lN (cd c.2)) kc_591 lc_591 (by omega) (by first | decide | assumption) fk.2 dX12_isAhead_83 ?_
      refine R_callS1 (pc := 84) (av := [.long (lN (cd c.2))]) (rest := [.int (nI a.2.length)]) (Or.inl lk_X12_13) mk_X12_size (m_size hy.2) dX12_isAhead_84 rfl rfl (Nat.le_of_ble_eq_true rfl) (by decide) rfl (Nat.le_refl _) (Nat.le_refl _) ?_
      refine R_icmp_ge (pc := 87) (tgt := 94) (by omega) (by omega) dX12_isAhead_87 (by decide) (fun g3 => ?_) (fun g3 => ?_)
      · skip
        rw [decide_eq_false (by omega)]
        refine T_iconst (pc := 94) (v := nI 0) dX12_isAhead_94 (by decide) ?_
        exact T_iret (pc := 95) (ty := .boolean) dX12_isAhead_95 rfl (by decide) (Nat.le_refl _) (Nat.le_refl _) ⟨rfl, rfl⟩
      · skip
        rw [decide_eq_true (by omega)]
        refine T_iconst (pc := 90) (v := nI 1) dX12_isAhead_90 (by decide) ?_
        refine T_goto (pc := 91) (tgt := 95) dX12_isAhead_91 (by decide) ?_
        exact T_iret (pc := 95) (ty := .boolean) dX12_isAhead_95 rfl (by decide) (Nat.le_refl _) (Nat.le_refl _) ⟨rfl, rfl⟩
  · skip
    rw [if_pos g1]
    refine T_aload_n (pc := 21) (i := 0) dX12_isAhead_21 rfl rfl ?_
    refine R_getR (pc := 22) (i := 590) fl_X12_86 rfl kc_572 lc_572 rc_572_45 dX12_isAhead_22 ?_
    refine T_iload_n (pc := 25) (i := 1) dX12_isAhead_25 rfl rfl ?_
    refine R_lald (pc := 26) (x := lN (cd a.1)) kc_590 lc_590 (by omega) (by first | decide | assumption) fi.1 dX12_isAhead_26 ?_
    refine R_callS1 (pc := 27) (av := [.long (lN (cd a.1))]) (rest := []) (Or.inl lk_X12_13) mk_X12_size (m_size hx.1) dX12_isAhead_27 rfl rfl (Nat.le_of_ble_eq_true rfl) (by decide) rfl (Nat.le_refl _) (Nat.le_refl _) ?_
    refine T_aload_n (pc := 30) (i := 0) dX12_isAhead_30 rfl rfl ?_
    refine R_getR (pc := 31) (i := 590) fl_X12_86 rfl kc_572 lc_572 rc_572_45 dX12_isAhead_31 ?_
    refine T_iload_n (pc := 34) (i := 2) dX12_isAhead_34 rfl rfl ?_
    refine R_lald (pc := 35) (x := lN (cd c.1)) kc_590 lc_590 (by omega) (by first | decide | assumption) fk.1 dX12_isAhead_35 ?_
    refine R_callS1 (pc := 36) (av := [.long (lN (cd c.1))]) (rest := [.int (nI a.1.length)]) (Or.inl lk_X12_13) mk_X12_size (m_size hy.1) dX12_isAhead_36 rfl rfl (Nat.le_of_ble_eq_true rfl) (by decide) rfl (Nat.le_refl _) (Nat.le_refl _) ?_
    refine R_icmp_ge (pc := 39) (tgt := 46) (by omega) (by omega) dX12_isAhead_39 (by decide) (fun g3 => ?_) (fun g3 => ?_)
    · skip
      rw [decide_eq_false (by omega)]
      refine T_iconst (pc := 46) (v := nI 0) dX12_isAhead_46 (by decide) ?_
      exact T_iret (pc := 47) (ty := .boolean) dX12_isAhead_47 rfl (by decide) (Nat.le_refl _) (Nat.le_refl _) ⟨rfl, rfl⟩
    · skip
      rw [decide_eq_true (by omega)]
      refine T_iconst (pc := 42) (v := nI 1) dX12_isAhead_42 (by decide) ?_
      refine T_goto (pc := 43) (tgt := 47) dX12_isAhead_43 (by decide) ?_
      exact T_iret (pc := 47) (ty := .boolean) dX12_isAhead_47 rfl (by decide) (Nat.le_refl _) (Nat.le_refl _) ⟨rfl, rfl⟩
theorem m_guess {S l : List (List Nat × List Nat)} {L R : List Nat} (hS : mdS (μ.1 573) S) (hl : MGs μ l) (hk : MGk l) (h99 : l.length ≤ 99) (hL : Mw L) (hR : Mw R) (h1 : 1 ≤ L.length) : Ex γ 8 0 0 M_X12_guess [.ref 572, .long (lN (cd L)), .long (lN (cd R))] (rm μ) (Rm none (fun m => MGs m (mgN S l (L, R)) ∧ OfM (fun j => j = 47) S591 μ m)) := by
  have h10 := hS.1.2
  have bL := cd_lt hL
  have bR := cd_lt hR
  obtain ⟨Q, hQ⟩ : ∃ Q, Q = Rm none (fun m => MGs m (mgN S l (L, R)) ∧ OfM (fun j => j = 47) S591 μ m) := ⟨_, rfl⟩
  rw [← hQ]
  have t110 : T γ 8 0 0 M_X12_guess Q 0 0 110 [some (.ref 572), some (.long (lN (cd L))), none, some (.long (lN (cd R))), none, some (.int (bI (gOk S (L, R) && alN (fun k => !decide (sAt l k = (L, R))) l.length))), some (.int (nI l.length))] [] (rm μ) := by
    rw [alN_mem]
    cases eb : (gOk S (L, R) && !decide ((L, R) ∈ l)) with
    | false =>
      have e9 : mgN S l (L, R) = l := if_neg (by rw [eb]; exact Bool.false_ne_true)
      rw [hQ, e9]
      refine T_iload (pc := 110) (i := 5) dX12_guess_110 rfl ?_
      refine R_ifb_ne (pc := 112) (tgt := 116) dX12_guess_112 (by decide) (fun g1 => ?_) (fun g1 => ?_)
      · exact absurd g1 (by decide)
      · skip
        exact T_vret dX12_guess_115 rfl (Nat.le_refl _) (Nat.le_refl _) ⟨_, rfl, rfl, hl, OfM.refl _ _ _⟩
    | true =>
      have e9 : mgN S l (L, R) = l ++ [(L, R)] := if_pos eb
      rw [hQ, e9]
      have o1 : OfM (fun j => j = 47) S591 μ (wI (wL (wL μ 590 l.length (lN (cd L))) 591 l.length (lN (cd R))) 572 47 (nI (l.length + 1))) := OfM.sF (OfM.sL (OfM.sL (OfM.refl _ _ _) (Or.inl rfl) (by decide)) (Or.inr rfl) (by decide)) rfl
      refine T_iload (pc := 110) (i := 5) dX12_guess_110 rfl ?_
      refine R_ifb_ne (pc := 112) (tgt := 116) dX12_guess_112 (by decide) (fun g1 => ?_) (fun g1 => ?_)
      · skip
        refine T_aload_n (pc := 116) (i := 0) dX12_guess_116 rfl rfl ?_
        refine R_getR (pc := 117) (i := 590) fl_X12_86 rfl kc_572 lc_572 rc_572_45 dX12_guess_117 ?_
        refine T_aload_n (pc := 120) (i := 0) dX12_guess_120 rfl rfl ?_
        refine R_getI (pc := 121) (x := nI l.length) fl_X12_579 rfl kc_572 lc_572 hl.1 dX12_guess_121 ?_
        refine T_lload_n (pc := 124) (i := 1) dX12_guess_124 rfl rfl ?_
        refine R_last (pc := 125) kc_590 lc_590 (by omega) (by first | decide | assumption) dX12_guess_125 ?_
        refine T_aload_n (pc := 126) (i := 0) dX12_guess_126 rfl rfl ?_
        refine R_getR (pc := 127) (i := 591) fl_X12_89 rfl kc_572 lc_572 rc_572_46 dX12_guess_127 ?_
        refine T_aload_n (pc := 130) (i := 0) dX12_guess_130 rfl rfl ?_
        refine R_getI (pc := 131) (x := nI l.length) fl_X12_579 rfl kc_572 lc_572 (skL.trans hl.1) dX12_guess_131 ?_
        refine T_lload_n (pc := 134) (i := 3) dX12_guess_134 rfl rfl ?_
        refine R_last (pc := 135) kc_591 lc_591 (by omega) (by first | decide | assumption) dX12_guess_135 ?_
        refine T_aload_n (pc := 136) (i := 0) dX12_guess_136 rfl rfl ?_
        refine T_dup (pc := 137) dX12_guess_137 rfl ?_
        refine R_getI (pc := 138) (x := nI l.length) fl_X12_579 rfl kc_572 lc_572 (skL.trans (skL.trans hl.1)) dX12_guess_138 ?_
        refine T_iconst (pc := 141) (v := nI 1) dX12_guess_141 (by decide) ?_
        refine R_iadd (pc := 142) dX12_guess_142 ?_
        refine R_putI (pc := 143) fl_X12_579 ⟨rfl, rfl⟩ (Or.inl rfl) kc_572 lc_572 dX12_guess_143 ?_
        exact T_vret dX12_guess_146 rfl (Nat.le_refl _) (Nat.le_refl _) ⟨_, rfl, rfl, MGs_snoc hl, o1⟩
      · exact absurd g1 (by decide)
  have second : ∀ (g k : Nat), k + g = l.length → T γ 8 0 0 M_X12_guess Q 0 0 59 [some (.ref 572), some (.long (lN (cd L))), none, some (.long (lN (cd R))), none, some (.int (bI (gOk S (L, R) && alN (fun k => !decide (sAt l k = (L, R))) k))), some (.int (nI k))] [] (rm μ) := by
    intro g
    induction g with
    | zero =>
      intro k hj
      obtain rfl : k = l.length := by omega
      refine T_iload (pc := 59) (i := 6) dX12_guess_59 rfl ?_
      refine T_aload_n (pc := 61) (i := 0) dX12_guess_61 rfl rfl ?_
      refine R_getI (pc := 62) (x := nI l.length) fl_X12_579 rfl kc_572 lc_572 hl.1 dX12_guess_62 ?_
      refine R_icmp_ge (pc := 65) (tgt := 110) (by omega) (by omega) dX12_guess_65 (by decide) (fun g1 => ?_) (fun g1 => ?_)
      · exact t110
      · exact absurd g1 (by omega)
    | succ g ih =>
      intro k hj
      have hk2 : k < l.length := by omega
      have hn := ih (k + 1) (by omega)
      have ea : (gOk S (L, R) && alN (fun k => !decide (sAt l k = (L, R))) (k + 1)) = ((gOk S (L, R) && alN (fun k => !decide (sAt l k = (L, R))) k) && !decide (sAt l k = (L, R))) := by rw [Bool.and_assoc]; rfl
      rw [ea] at hn
      obtain ⟨is, his⟩ : ∃ is, (gOk S (L, R) && alN (fun k => !decide (sAt l k = (L, R))) k) = is := ⟨_, rfl⟩
      rw [his] at hn ⊢
      have hx := hk _ (sAt_mem hk2)
      have f := hl.2 k hk2
      generalize sAt l k = a at *
      have bx1 := cd_lt hx.1
      have bx2 := cd_lt hx.2
      have t102 : ∀ b : Bool, b = (is && !decide (a = (L, R))) → T γ 8 0 0 M_X12_guess Q 0 0 102 [some (.ref 572), some (.long (lN (cd L))), none, some (.long (lN (cd R))), none, some (.int (bI is)), some (.int (nI k))] [.int (bI b)] (rm μ) := fun b hb => by
        refine T_istore (pc := 102) (i := 5) (ls' := [some (.ref 572), some (.long (lN (cd L))), none, some (.long (lN (cd R))), none, some (.int (bI b)), some (.int (nI k))]) dX12_guess_102 (by decide) rfl ?_
        refine R_iinc (pc := 104) (i := 6) (n := 1) (ls' := [some (.ref 572), some (.long (lN (cd L))), none, some (.long (lN (cd R))), none, some (.int (bI b)), some (.int (nI (k + 1)))]) dX12_guess_104 rfl rfl ?_
        refine T_goto (pc := 107) (tgt := 59) dX12_guess_107 (by decide) ?_
        rw [hb]
        exact hn
      refine T_iload (pc := 59) (i := 6) dX12_guess_59 rfl ?_
      refine T_aload_n (pc := 61) (i := 0) dX12_guess_61 rfl rfl ?_
      refine R_getI (pc := 62) (x := nI l.length) fl_X12_579 rfl kc_572 lc_572 hl.1 dX12_guess_62 ?_
      refine R_icmp_ge (pc := 65) (tgt := 110) (by omega) (by omega) dX12_guess_65 (by decide) (fun g1 => ?_) (fun g1 => ?_)
      · exact absurd g1 (by omega)
      · skip
        refine T_iload (pc := 68) (i := 5) dX12_guess_68 rfl ?_
        refine R_ifb_eq (pc := 70) (tgt := 101) dX12_guess_70 (by decide) (fun g2 => ?_) (fun g2 => ?_)
        · skip
          refine T_iconst (pc := 101) (v := nI 0) dX12_guess_101 (by decide) ?_
          exact t102 false (by rw [g2]; rfl)
        · skip
          refine T_aload_n (pc := 73) (i := 0) dX12_guess_73 rfl rfl ?_
          refine R_getR (pc := 74) (i := 590) fl_X12_86 rfl kc_572 lc_572 rc_572_45 dX12_guess_74 ?_
          refine T_iload (pc := 77) (i := 6) dX12_guess_77 rfl ?_
          refine R_lald (pc := 79) (x := lN (cd a.1)) kc_590 lc_590 (by omega) (by first | decide | assumption) f.1 dX12_guess_79 ?_
          refine T_lload_n (pc := 80) (i := 1) dX12_guess_80 rfl rfl ?_
          refine T_lcmp (pc := 81) dX12_guess_81 ?_
          refine R_ln_ne (pc := 82) (tgt := 97) (by omega) (by omega) dX12_guess_82 (by decide) (fun g3 => ?_) (fun g3 => ?_)
          · skip
            refine T_iconst (pc := 97) (v := nI 1) dX12_guess_97 (by decide) ?_
            refine T_goto (pc := 98) (tgt := 102) dX12_guess_98 (by decide) ?_
            exact t102 true (by rw [g2, decide_eq_false (fun z => g3 (by rw [z]))]; rfl)
          · skip
            have e1 := cd_inj hx.1.2 hL.2 g3
            refine T_aload_n (pc := 85) (i := 0) dX12_guess_85 rfl rfl ?_
            refine R_getR (pc := 86) (i := 591) fl_X12_89 rfl kc_572 lc_572 rc_572_46 dX12_guess_86 ?_
            refine T_iload (pc := 89) (i := 6) dX12_guess_89 rfl ?_
            refine R_lald (pc := 91) (x := lN (cd a.2)) kc_591 lc_591 (by omega) (by first | decide | assumption) f.2 dX12_guess_91 ?_
            refine T_lload_n (pc := 92) (i := 3) dX12_guess_92 rfl rfl ?_
            refine T_lcmp (pc := 93) dX12_guess_93 ?_
            refine R_ln_eq (pc := 94) (tgt := 101) (by omega) (by omega) dX12_guess_94 (by decide) (fun g4 => ?_) (fun g4 => ?_)
            · skip
              have e2 := cd_inj hx.2.2 hR.2 g4
              refine T_iconst (pc := 101) (v := nI 0) dX12_guess_101 (by decide) ?_
              exact t102 false (by rw [g2, decide_eq_true (show a = (L, R) from Prod.ext e1 e2)]; rfl)
            · skip
              refine T_iconst (pc := 97) (v := nI 1) dX12_guess_97 (by decide) ?_
              refine T_goto (pc := 98) (tgt := 102) dX12_guess_98 (by decide) ?_
              exact t102 true (by rw [g2, decide_eq_false (fun z => g4 (by rw [z]))]; rfl)
  have first : ∀ (g i : Nat), i + g = S.length → T γ 8 0 0 M_X12_guess Q 0 0 16 [some (.ref 572), some (.long (lN (cd L))), none, some (.long (lN (cd R))), none, some (.int (bI (decide (L ≠ R) && alN (fun i => cbB (sAt S i).1 (sAt S i).2 L R) i))), some (.int (nI i))] [] (rm μ) := by
    intro g
    induction g with
    | zero =>
      intro i hi
      obtain rfl : i = S.length := by omega
      refine T_iload (pc := 16) (i := 6) dX12_guess_16 rfl ?_
      refine T_aload_n (pc := 18) (i := 0) dX12_guess_18 rfl rfl ?_
      refine R_getR (pc := 19) (i := 573) fl_X12_29 rfl kc_572 lc_572 rc_572_1 dX12_guess_19 ?_
      refine T_iconst (pc := 22) (v := nI 2) dX12_guess_22 (by decide) ?_
      refine R_iald (pc := 23) (x := nI S.length) kc_573 lc_573 (by omega) (by first | decide | assumption) hS.1.1 dX12_guess_23 ?_
      refine R_icmp_ge (pc := 24) (tgt := 56) (by omega) (by omega) dX12_guess_24 (by decide) (fun g1 => ?_) (fun g1 => ?_)
      · skip
        refine T_iconst (pc := 56) (v := nI 0) dX12_guess_56 (by decide) ?_
        refine T_istore (pc := 57) (i := 6) (ls' := [some (.ref 572), some (.long (lN (cd L))), none, some (.long (lN (cd R))), none, some (.int (bI (decide (L ≠ R) && alN (fun i => cbB (sAt S i).1 (sAt S i).2 L R) S.length))), some (.int (nI 0))]) dX12_guess_57 (by decide) rfl ?_
        have h9 := second _ 0 (Nat.zero_add _)
        rw [show (gOk S (L, R) && alN (fun k => !decide (sAt l k = (L, R))) 0) = (decide (L ≠ R) && alN (fun i => cbB (sAt S i).1 (sAt S i).2 L R) S.length) from Bool.and_true _] at h9
        exact h9
      · exact absurd g1 (by omega)
    | succ g ih =>
      intro i hi
      have hi2 : i < S.length := by omega
      have hn := ih (i + 1) (by omega)
      have ea : (decide (L ≠ R) && alN (fun i => cbB (sAt S i).1 (sAt S i).2 L R) (i + 1)) = ((decide (L ≠ R) && alN (fun i => cbB (sAt S i).1 (sAt S i).2 L R) i) && cbB (sAt S i).1 (sAt S i).2 L R) := by rw [Bool.and_assoc]; rfl
      rw [ea] at hn
      obtain ⟨is, his⟩ : ∃ is, (decide (L ≠ R) && alN (fun i => cbB (sAt S i).1 (sAt S i).2 L R) i) = is := ⟨_, rfl⟩
      rw [his] at hn ⊢
      refine T_iload (pc := 16) (i := 6) dX12_guess_16 rfl ?_
      refine T_aload_n (pc := 18) (i := 0) dX12_guess_18 rfl rfl ?_
      refine R_getR (pc := 19) (i := 573) fl_X12_29 rfl kc_572 lc_572 rc_572_1 dX12_guess_19 ?_
      refine T_iconst (pc := 22) (v := nI 2) dX12_guess_22 (by decide) ?_
      refine R_iald (pc := 23) (x := nI S.length) kc_573 lc_573 (by omega) (by first | decide | assumption) hS.1.1 dX12_guess_23 ?_
      refine R_icmp_ge (pc := 24) (tgt := 56) (by omega) (by omega) dX12_guess_24 (by decide) (fun g1 => ?_) (fun g1 => ?_)
      · exact absurd g1 (by omega)
      · skip
        refine T_iload (pc := 27) (i := 5) dX12_guess_27 rfl ?_
        refine R_ifb_eq (pc := 29) (tgt := 47) dX12_guess_29 (by decide) (fun g2 => ?_) (fun g2 => ?_)
        · skip
          refine T_iconst (pc := 47) (v := nI 0) dX12_guess_47 (by decide) ?_
          refine T_istore (pc := 48) (i := 5) (ls' := [some (.ref 572), some (.long (lN (cd L))), none, some (.long (lN (cd R))), none, some (.int (nI 0)), some (.int (nI i))]) dX12_guess_48 (by decide) rfl ?_
          refine R_iinc (pc := 50) (i := 6) (n := 1) (ls' := [some (.ref 572), some (.long (lN (cd L))), none, some (.long (lN (cd R))), none, some (.int (nI 0)), some (.int (nI (i + 1)))]) dX12_guess_50 rfl rfl ?_
          refine T_goto (pc := 53) (tgt := 16) dX12_guess_53 (by decide) ?_
          rw [g2, Bool.false_and] at hn
          exact hn
        · skip
          rw [g2, Bool.true_and] at hn
          refine T_aload_n (pc := 32) (i := 0) dX12_guess_32 rfl rfl ?_
          refine T_lload_n (pc := 33) (i := 1) dX12_guess_33 rfl rfl ?_
          refine T_lload_n (pc := 34) (i := 3) dX12_guess_34 rfl rfl ?_
          refine T_iload (pc := 35) (i := 6) dX12_guess_35 rfl ?_
          refine R_callV1 (pc := 37) (As := [.long (lN (cd L)), .long (lN (cd R)), .int (nI i)]) (rest := []) (Or.inl lk_X12_573) mk_X12_explainsAt (m_explainsAt hS hi2 hL hR h1) kc_572 ⟨by decide, rfl⟩ lc_572 dX12_guess_37 rfl rfl (Nat.le_of_ble_eq_true rfl) (by decide) rfl (Nat.le_refl _) (Nat.le_refl _) ?_
          refine R_ifb_eq (pc := 40) (tgt := 47) dX12_guess_40 (by decide) (fun g3 => ?_) (fun g3 => ?_)
          · skip
            refine T_iconst (pc := 47) (v := nI 0) dX12_guess_47 (by decide) ?_
            refine T_istore (pc := 48) (i := 5) (ls' := [some (.ref 572), some (.long (lN (cd L))), none, some (.long (lN (cd R))), none, some (.int (nI 0)), some (.int (nI i))]) dX12_guess_48 (by decide) rfl ?_
            refine R_iinc (pc := 50) (i := 6) (n := 1) (ls' := [some (.ref 572), some (.long (lN (cd L))), none, some (.long (lN (cd R))), none, some (.int (nI 0)), some (.int (nI (i + 1)))]) dX12_guess_50 rfl rfl ?_
            refine T_goto (pc := 53) (tgt := 16) dX12_guess_53 (by decide) ?_
            rw [g3] at hn
            exact hn
          · skip
            refine T_iconst (pc := 43) (v := nI 1) dX12_guess_43 (by decide) ?_
            refine T_goto (pc := 44) (tgt := 48) dX12_guess_44 (by decide) ?_
            refine T_istore (pc := 48) (i := 5) (ls' := [some (.ref 572), some (.long (lN (cd L))), none, some (.long (lN (cd R))), none, some (.int (nI 1)), some (.int (nI i))]) dX12_guess_48 (by decide) rfl ?_
            refine R_iinc (pc := 50) (i := 6) (n := 1) (ls' := [some (.ref 572), some (.long (lN (cd L))), none, some (.long (lN (cd R))), none, some (.int (nI 1)), some (.int (nI (i + 1)))]) dX12_guess_50 rfl rfl ?_
            refine T_goto (pc := 53) (tgt := 16) dX12_guess_53 (by decide) ?_
            rw [g3] at hn
            exact hn
  refine Ex.of (by decide +kernel) rfl (Nat.le_of_ble_eq_true rfl) ?_
  show T _ _ _ _ _ _ _ _ _ [some (.ref 572), some (.long (lN (cd L))), none, some (.long (lN (cd R))), none, none, none] [] (rm μ)
  refine T_lload_n (pc := 0) (i := 1) dX12_guess_0 rfl rfl ?_
  refine T_lload_n (pc := 1) (i := 3) dX12_guess_1 rfl rfl ?_
  refine T_lcmp (pc := 2) dX12_guess_2 ?_
  refine R_ln_eq (pc := 3) (tgt := 10) (by omega) (by omega) dX12_guess_3 (by decide) (fun g1 => ?_) (fun g1 => ?_)
  · skip
    have e : L = R := cd_inj hL.2 hR.2 g1
    have h9 := first _ 0 (Nat.zero_add _)
    rw [show (decide (L ≠ R) && alN (fun i => cbB (sAt S i).1 (sAt S i).2 L R) 0) = false by rw [decide_eq_false (fun z => z e)]; rfl] at h9
    refine T_iconst (pc := 10) (v := nI 0) dX12_guess_10 (by decide) ?_
    refine T_istore (pc := 11) (i := 5) (ls' := [some (.ref 572), some (.long (lN (cd L))), none, some (.long (lN (cd R))), none, some (.int (nI 0)), none]) dX12_guess_11 (by decide) rfl ?_
    refine T_iconst (pc := 13) (v := nI 0) dX12_guess_13 (by decide) ?_
    refine T_istore (pc := 14) (i := 6) (ls' := [some (.ref 572), some (.long (lN (cd L))), none, some (.long (lN (cd R))), none, some (.int (nI 0)), some (.int (nI 0))]) dX12_guess_14 (by decide) rfl ?_
    exact h9
  · skip
    have e : L ≠ R := fun z => g1 (by rw [z])
    have h9 := first _ 0 (Nat.zero_add _)
    rw [show (decide (L ≠ R) && alN (fun i => cbB (sAt S i).1 (sAt S i).2 L R) 0) = true by rw [decide_eq_true e]; rfl] at h9
    refine T_iconst (pc := 6) (v := nI 1) dX12_guess_6 (by decide) ?_
    refine T_goto (pc := 7) (tgt := 11) dX12_guess_7 (by decide) ?_
    refine T_istore (pc := 11) (i := 5) (ls' := [some (.ref 572), some (.long (lN (cd L))), none, some (.long (lN (cd R))), none, some (.int (nI 1)), none]) dX12_guess_11 (by decide) rfl ?_
    refine T_iconst (pc := 13) (v := nI 0) dX12_guess_13 (by decide) ?_
    refine T_istore (pc := 14) (i := 6) (ls' := [some (.ref 572), some (.long (lN (cd L))), none, some (.long (lN (cd R))), none, some (.int (nI 1)), some (.int (nI 0))]) dX12_guess_14 (by decide) rfl ?_
    exact h9
end MGG

