/-! THE MODEL's codes -/
theorem cd_2 {l : List Nat} (h : okb l) : 2 ^ (3 * l.length) ≤ cd l ∧ cd l < 2 ^ (3 * l.length + 1) := by
  rw [Nat.pow_succ, p8]
  have h1 := cd_lo l
  have h2 := cd_hi h
  omega
section MC
variable {γ : Ga} {μ : SM2}
theorem m_size {l : List Nat} (hl : Mw l) : Ex γ 3 0 0 M_X12_size [.long (lN (cd l))] (rm μ) (Fn (some (.int (nI l.length))) μ) := by
  have hn := hl.1
  refine Ex.of (by decide +kernel) rfl (Nat.le_of_ble_eq_true rfl) ?_
  show T _ _ _ _ _ _ _ _ _ [some (.long (lN (cd l))), none] [] (rm μ)
  refine T_bipush (pc := 0) (v := nI 63) dX12_size_0 (by decide) ?_
  refine T_lload_n (pc := 2) (i := 0) dX12_size_2 rfl rfl ?_
  refine R_callS1 (pc := 3) (av := [.long (lN (cd l))]) (rest := [.int (nI 63)]) (Or.inl lk_X12_7) mk_J13_numberOfLeadingZeros_95d88 (c_nlz64 (cd_2 hl.2) (by omega)) dX12_size_3 rfl rfl (Nat.le_of_ble_eq_true rfl) (by decide) rfl (Nat.le_refl _) (Nat.le_refl _) ?_
  refine R_isub (pc := 6) (by omega) dX12_size_6 ?_
  refine T_iconst (pc := 7) (v := nI 3) dX12_size_7 (by decide) ?_
  refine R_idiv (pc := 8) ⟨by omega, by omega, by omega⟩ dX12_size_8 ?_
  exact T_iret (pc := 9) (ty := .int) dX12_size_9 rfl rfl (Nat.le_refl _) (Nat.le_refl _) ⟨by rw [show (63 - (63 - 3 * l.length)) / 3 = l.length by omega], rfl⟩
theorem m_has {K i : Nat} (hK : K < 2 ^ 31) (hi : i < 32) : Ex γ 1 0 0 M_X12_has [.int (nI K), .int (nI i)] (rm μ) (Fn (some (.int (bI (decide (K / 2 ^ i % 2 = 1))))) μ) := by
  have h2 : K / 2 ^ i % 2 < 2 := Nat.mod_lt _ (by decide)
  refine Ex.of (by decide +kernel) rfl (Nat.le_of_ble_eq_true rfl) ?_
  show T _ _ _ _ _ _ _ _ _ [some (.int (nI K)), some (.int (nI i))] [] (rm μ)
  refine T_iload_n (pc := 0) (i := 0) dX12_has_0 rfl rfl ?_
  refine T_iload_n (pc := 1) (i := 1) dX12_has_1 rfl rfl ?_
  refine R_ishr (pc := 2) ⟨by omega, by omega⟩ dX12_has_2 ?_
  refine T_iconst (pc := 3) (v := nI 1) dX12_has_3 (by decide) ?_
  refine R_iand (pc := 4) dX12_has_4 ?_
  refine T_topi (v := nI (K / 2 ^ i % 2)) (congrArg nI (Nat.and_one_is_mod _)) ?_
  refine T_iconst (pc := 5) (v := nI 1) dX12_has_5 (by decide) ?_
  refine R_icmp_ne (pc := 6) (tgt := 13) (by omega) (by omega) dX12_has_6 (by decide) (fun h1 => ?_) (fun h1 => ?_)
  · skip
    rw [decide_eq_false h1]
    refine T_iconst (pc := 13) (v := nI 0) dX12_has_13 (by decide) ?_
    exact T_iret (pc := 14) (ty := .boolean) dX12_has_14 rfl (by decide) (Nat.le_refl _) (Nat.le_refl _) ⟨rfl, rfl⟩
  · skip
    rw [decide_eq_true (by omega)]
    refine T_iconst (pc := 9) (v := nI 1) dX12_has_9 (by decide) ?_
    refine T_goto (pc := 10) (tgt := 14) dX12_has_10 (by decide) ?_
    exact T_iret (pc := 14) (ty := .boolean) dX12_has_14 rfl (by decide) (Nat.le_refl _) (Nat.le_refl _) ⟨rfl, rfl⟩
theorem m_ahead {l : List Nat} (hl : Mw l) {n : Nat} (hi : n ≤ l.length) : Ex γ 4 0 0 M_X12_ahead [.long (lN (cd l)), .int (nI n)] (rm μ) (Fn (some (.long (lN (cd (l.take n))))) μ) := by
  have hn := hl.1
  have hc := cd_lt hl
  refine Ex.of (by decide +kernel) rfl (Nat.le_of_ble_eq_true rfl) ?_
  show T _ _ _ _ _ _ _ _ _ [some (.long (lN (cd l))), none, some (.int (nI n))] [] (rm μ)
  refine T_lload_n (pc := 0) (i := 0) dX12_ahead_0 rfl rfl ?_
  refine T_iconst (pc := 1) (v := nI 3) dX12_ahead_1 (by decide) ?_
  refine T_lload_n (pc := 2) (i := 0) dX12_ahead_2 rfl rfl ?_
  refine R_callS1 (pc := 3) (av := [.long (lN (cd l))]) (rest := [.int (nI 3), .long (lN (cd l))]) (Or.inl lk_X12_13) mk_X12_size (m_size hl) dX12_ahead_3 rfl rfl (Nat.le_of_ble_eq_true rfl) (by decide) rfl (Nat.le_refl _) (Nat.le_refl _) ?_
  refine T_iload_n (pc := 6) (i := 2) dX12_ahead_6 rfl rfl ?_
  refine R_isub (pc := 7) (by omega) dX12_ahead_7 ?_
  refine R_imul (pc := 8) dX12_ahead_8 ?_
  refine R_lshr (pc := 9) ⟨by omega, by omega⟩ dX12_ahead_9 ?_
  exact T_lret dX12_ahead_10 rfl (Nat.le_refl _) (Nat.le_refl _) ⟨by rw [p8, cd_div hl.2 (by omega), show l.length - (l.length - n) = n by omega], rfl⟩
theorem m_behind {l : List Nat} (hl : Mw l) {i : Nat} (hi : i ≤ l.length) : Ex γ 4 0 0 M_X12_behind [.long (lN (cd l)), .int (nI i)] (rm μ) (Fn (some (.long (lN (cd (l.drop i))))) μ) := by
  have hn := hl.1
  have h1 : 1 ≤ 1 * 2 ^ (3 * (l.length - i)) := by rw [Nat.one_mul]; exact Nat.pow_pos (by decide)
  have h2 := cd_mod hl.2 (k := l.length - i) (by omega)
  rw [show l.length - (l.length - i) = i by omega] at h2
  have h3 : vl (l.drop i) < 8 ^ (l.length - i) := by rw [← h2]; exact Nat.mod_lt _ (Nat.pow_pos (by decide))
  refine Ex.of (by decide +kernel) rfl (Nat.le_of_ble_eq_true rfl) ?_
  show T _ _ _ _ _ _ _ _ _ [some (.long (lN (cd l))), none, some (.int (nI i)), none, none] [] (rm μ)
  refine T_lconst (pc := 0) (v := lN 1) dX12_behind_0 rfl ?_
  refine T_iconst (pc := 1) (v := nI 3) dX12_behind_1 (by decide) ?_
  refine T_lload_n (pc := 2) (i := 0) dX12_behind_2 rfl rfl ?_
  refine R_callS1 (pc := 3) (av := [.long (lN (cd l))]) (rest := [.int (nI 3), .long (lN 1)]) (Or.inl lk_X12_13) mk_X12_size (m_size hl) dX12_behind_3 rfl rfl (Nat.le_of_ble_eq_true rfl) (by decide) rfl (Nat.le_refl _) (Nat.le_refl _) ?_
  refine T_iload_n (pc := 6) (i := 2) dX12_behind_6 rfl rfl ?_
  refine R_isub (pc := 7) (by omega) dX12_behind_7 ?_
  refine R_imul (pc := 8) dX12_behind_8 ?_
  refine R_lshl (pc := 9) (by omega) dX12_behind_9 ?_
  refine T_lstore_n (pc := 10) (i := 3) (ls' := [some (.long (lN (cd l))), none, some (.int (nI i)), some (.long (lN (1 * 2 ^ (3 * (l.length - i))))), none]) dX12_behind_10 rfl (by decide) rfl ?_
  refine T_lload_n (pc := 11) (i := 3) dX12_behind_11 rfl rfl ?_
  refine T_lload_n (pc := 12) (i := 0) dX12_behind_12 rfl rfl ?_
  refine T_lload_n (pc := 13) (i := 3) dX12_behind_13 rfl rfl ?_
  refine T_lconst (pc := 14) (v := lN 1) dX12_behind_14 rfl ?_
  refine R_lsub (pc := 15) h1 dX12_behind_15 ?_
  refine R_land (pc := 16) dX12_behind_16 ?_
  refine R_lor (pc := 17) dX12_behind_17 ?_
  exact T_lret dX12_behind_18 rfl (Nat.le_refl _) (Nat.le_refl _) ⟨by rw [p8, Nat.one_mul, and_mask, h2, show 8 ^ (l.length - i) ||| vl (l.drop i) = 8 ^ (l.length - i) + vl (l.drop i) by have := or_add 1 h3; rw [Nat.one_mul] at this; exact this, cd_eq (l.drop i), List.length_drop], rfl⟩
theorem m_part {l : List Nat} (hl : Mw l) {i n : Nat} (hi : i + n ≤ l.length) : Ex γ 5 0 0 M_X12_part [.long (lN (cd l)), .int (nI i), .int (nI n)] (rm μ) (Fn (some (.long (lN (cd ((l.drop i).take n))))) μ) := by
  have hl2 : Mw (l.drop i) := ⟨by rw [List.length_drop]; have := hl.1; omega, okb_drop hl.2⟩
  refine Ex.of (by decide +kernel) rfl (Nat.le_of_ble_eq_true rfl) ?_
  show T _ _ _ _ _ _ _ _ _ [some (.long (lN (cd l))), none, some (.int (nI i)), some (.int (nI n))] [] (rm μ)
  refine T_lload_n (pc := 0) (i := 0) dX12_part_0 rfl rfl ?_
  refine T_iload_n (pc := 1) (i := 2) dX12_part_1 rfl rfl ?_
  refine R_callS1 (pc := 2) (av := [.long (lN (cd l)), .int (nI i)]) (rest := []) (Or.inl lk_X12_16) mk_X12_behind (m_behind hl (by omega)) dX12_part_2 rfl rfl (Nat.le_of_ble_eq_true rfl) (by decide) rfl (Nat.le_refl _) (Nat.le_refl _) ?_
  refine T_iload_n (pc := 5) (i := 3) dX12_part_5 rfl rfl ?_
  refine R_callS1 (pc := 6) (av := [.long (lN (cd (l.drop i))), .int (nI n)]) (rest := []) (Or.inl lk_X12_20) mk_X12_ahead (m_ahead hl2 (by rw [List.length_drop]; omega)) dX12_part_6 rfl rfl (Nat.le_of_ble_eq_true rfl) (by decide) rfl (Nat.le_refl _) (Nat.le_refl _) ?_
  exact T_lret dX12_part_9 rfl (Nat.le_refl _) (Nat.le_refl _) ⟨rfl, rfl⟩
theorem m_join {a b : List Nat} (hb : Mw b) : Ex γ 4 0 0 M_X12_join [.long (lN (cd a)), .long (lN (cd b))] (rm μ) (Fn (some (.long (lN (cd (a ++ b))))) μ) := by
  have hn := hb.1
  have h1 : 1 ≤ 1 * 2 ^ (3 * b.length) := by rw [Nat.one_mul]; exact Nat.pow_pos (by decide)
  have h2 := cd_mod hb.2 (k := b.length) (Nat.le_refl _)
  rw [Nat.sub_self, List.drop_zero] at h2
  have h3 : vl b < 8 ^ b.length := by rw [← h2]; exact Nat.mod_lt _ (Nat.pow_pos (by decide))
  refine Ex.of (by decide +kernel) rfl (Nat.le_of_ble_eq_true rfl) ?_
  show T _ _ _ _ _ _ _ _ _ [some (.long (lN (cd a))), none, some (.long (lN (cd b))), none, none] [] (rm μ)
  refine T_iconst (pc := 0) (v := nI 3) dX12_join_0 (by decide) ?_
  refine T_lload_n (pc := 1) (i := 2) dX12_join_1 rfl rfl ?_
  refine R_callS1 (pc := 2) (av := [.long (lN (cd b))]) (rest := [.int (nI 3)]) (Or.inl lk_X12_13) mk_X12_size (m_size hb) dX12_join_2 rfl rfl (Nat.le_of_ble_eq_true rfl) (by decide) rfl (Nat.le_refl _) (Nat.le_refl _) ?_
  refine R_imul (pc := 5) dX12_join_5 ?_
  refine T_istore (pc := 6) (i := 4) (ls' := [some (.long (lN (cd a))), none, some (.long (lN (cd b))), none, some (.int (nI (3 * b.length)))]) dX12_join_6 (by decide) rfl ?_
  refine T_lload_n (pc := 8) (i := 0) dX12_join_8 rfl rfl ?_
  refine T_iload (pc := 9) (i := 4) dX12_join_9 rfl ?_
  refine R_lshl (pc := 11) (by omega) dX12_join_11 ?_
  refine T_lload_n (pc := 12) (i := 2) dX12_join_12 rfl rfl ?_
  refine T_lconst (pc := 13) (v := lN 1) dX12_join_13 rfl ?_
  refine T_iload (pc := 14) (i := 4) dX12_join_14 rfl ?_
  refine R_lshl (pc := 16) (by omega) dX12_join_16 ?_
  refine T_lconst (pc := 17) (v := lN 1) dX12_join_17 rfl ?_
  refine R_lsub (pc := 18) h1 dX12_join_18 ?_
  refine R_land (pc := 19) dX12_join_19 ?_
  refine R_lor (pc := 20) dX12_join_20 ?_
  exact T_lret dX12_join_21 rfl (Nat.le_refl _) (Nat.le_refl _) ⟨by rw [p8, Nat.one_mul, and_mask, h2, or_add (cd a) h3, cd_app], rfl⟩
theorem m_beastOf {l : List Nat} (hl : Mw l) {i : Nat} (hi : i < l.length) : Ex γ 4 0 0 M_X12_beastOf [.long (lN (cd l)), .int (nI i)] (rm μ) (Fn (some (.int (nI (l.getD i 0)))) μ) := by
  have hn := hl.1
  have hc := cd_lt hl
  refine Ex.of (by decide +kernel) rfl (Nat.le_of_ble_eq_true rfl) ?_
  show T _ _ _ _ _ _ _ _ _ [some (.long (lN (cd l))), none, some (.int (nI i))] [] (rm μ)
  refine T_lload_n (pc := 0) (i := 0) dX12_beastOf_0 rfl rfl ?_
  refine T_iconst (pc := 1) (v := nI 3) dX12_beastOf_1 (by decide) ?_
  refine T_lload_n (pc := 2) (i := 0) dX12_beastOf_2 rfl rfl ?_
  refine R_callS1 (pc := 3) (av := [.long (lN (cd l))]) (rest := [.int (nI 3), .long (lN (cd l))]) (Or.inl lk_X12_13) mk_X12_size (m_size hl) dX12_beastOf_3 rfl rfl (Nat.le_of_ble_eq_true rfl) (by decide) rfl (Nat.le_refl _) (Nat.le_refl _) ?_
  refine T_iconst (pc := 6) (v := nI 1) dX12_beastOf_6 (by decide) ?_
  refine R_isub (pc := 7) (by omega) dX12_beastOf_7 ?_
  refine T_iload_n (pc := 8) (i := 2) dX12_beastOf_8 rfl rfl ?_
  refine R_isub (pc := 9) (by omega) dX12_beastOf_9 ?_
  refine R_imul (pc := 10) dX12_beastOf_10 ?_
  refine R_lshr (pc := 11) ⟨by omega, by omega⟩ dX12_beastOf_11 ?_
  refine R_l2i (pc := 12) dX12_beastOf_12 ?_
  refine T_bipush (pc := 13) (v := nI 7) dX12_beastOf_13 (by decide) ?_
  refine R_iand (pc := 15) dX12_beastOf_15 ?_
  exact T_iret (pc := 16) (ty := .int) dX12_beastOf_16 rfl rfl (Nat.le_refl _) (Nat.le_refl _) ⟨by rw [show (7 : Nat) = 8 ^ 1 - 1 by decide, and_mask, p8, Nat.pow_one, cd_digD hl.2 hi], rfl⟩
theorem m_in {x a b : Int32} : Ex γ 1 0 0 M_X12_in [.int x, .int a, .int b] (rm μ) (Fn (some (.int (bI (!decide (x < a) && !decide (b < x))))) μ) := by
  refine Ex.of (by decide +kernel) rfl (Nat.le_of_ble_eq_true rfl) ?_
  show T _ _ _ _ _ _ _ _ _ [some (.int (x)), some (.int (a)), some (.int (b))] [] (rm μ)
  refine T_iload_n (pc := 0) (i := 0) dX12_in_0 rfl rfl ?_
  refine T_iload_n (pc := 1) (i := 1) dX12_in_1 rfl rfl ?_
  refine T_icmp_lt (pc := 2) (tgt := 14) dX12_in_2 (by decide) (fun h1 => ?_) (fun h1 => ?_)
  · skip
    rw [decide_eq_true h1]
    refine T_iconst (pc := 14) (v := nI 0) dX12_in_14 (by decide) ?_
    exact T_iret (pc := 15) (ty := .boolean) dX12_in_15 rfl (by decide) (Nat.le_refl _) (Nat.le_refl _) ⟨rfl, rfl⟩
  · skip
    rw [decide_eq_false h1]
    refine T_iload_n (pc := 5) (i := 0) dX12_in_5 rfl rfl ?_
    refine T_iload_n (pc := 6) (i := 2) dX12_in_6 rfl rfl ?_
    refine T_icmp_gt (pc := 7) (tgt := 14) dX12_in_7 (by decide) (fun h2 => ?_) (fun h2 => ?_)
    · skip
      rw [decide_eq_true (p := b < x) h2]
      refine T_iconst (pc := 14) (v := nI 0) dX12_in_14 (by decide) ?_
      exact T_iret (pc := 15) (ty := .boolean) dX12_in_15 rfl (by decide) (Nat.le_refl _) (Nat.le_refl _) ⟨rfl, rfl⟩
    · skip
      rw [decide_eq_false (p := b < x) h2]
      refine T_iconst (pc := 10) (v := nI 1) dX12_in_10 (by decide) ?_
      refine T_goto (pc := 11) (tgt := 15) dX12_in_11 (by decide) ?_
      exact T_iret (pc := 15) (ty := .boolean) dX12_in_15 rfl (by decide) (Nat.le_refl _) (Nat.le_refl _) ⟨rfl, rfl⟩
end MC

