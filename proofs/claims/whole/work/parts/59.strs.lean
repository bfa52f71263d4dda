/-! String constants: how long, what stands at a place -/
set_option maxRecDepth 10000 in
theorem fs_J0_9 : Cond.fieldLink RJ0 9 "java/lang/String" "value" "[B" ∈ tbw := in_tb (in_t10 (List.mem_of_getElem? (i := 162) rfl)) rfl
set_option maxRecDepth 10000 in
theorem fs_J0_15 : Cond.fieldLink RJ0 15 "java/lang/String" "coder" "B" ∈ tbw := in_tb (in_t10 (List.mem_of_getElem? (i := 163) rfl)) rfl
set_option maxRecDepth 10000 in
theorem fs_J0_38 : Cond.fieldLink RJ0 38 "java/lang/String" "COMPACT_STRINGS" "Z" ∈ tbw := in_tb (in_t3 (List.mem_of_getElem? (i := 222) rfl)) rfl
set_option maxRecDepth 10000 in
theorem fs_J0_1053 : Cond.fieldLink RJ0 1053 "jdk/internal/util/Preconditions" "SIOOBE_FORMATTER" "Ljava/util/function/BiFunction;" ∈ tbw := in_tb (in_t3 (List.mem_of_getElem? (i := 238) rfl)) rfl
theorem str_ok : ∀ q ∈ strs, q.2.2.2.length ≤ 6 ∧ ∀ b ∈ q.2.2.2, ((b &&& 255).toUInt32 % 65536).toInt32 = b ∧ narrow .char (.int b) = .int b := by decide +kernel
theorem str_at {i : Nat} {q : String × Nat × String × List Int32} (hs : strs[i]? = some q) : q.2.2.2.length ≤ 6 := (str_ok q (List.mem_of_getElem? hs)).1
theorem str_b {i j : Nat} {q : String × Nat × String × List Int32} (hs : strs[i]? = some q) (hj : j < q.2.2.2.length) : ((q.2.2.2.getD j 0 &&& 255).toUInt32 % 65536).toInt32 = q.2.2.2.getD j 0 ∧ narrow .char (.int (q.2.2.2.getD j 0)) = .int (q.2.2.2.getD j 0) := (str_ok q (List.mem_of_getElem? hs)).2 _ (getD_mem hj)
section STC
variable {γ : Ga} {μ : SM2}
theorem c_coder {i : Nat} {q : String × Nat × String × List Int32} (hs : strs[i]? = some q) : Ex γ 1 0 0 M_J0_coder_7d493 [.ref (XB + (i + 1))] (rm μ) (Fn (some (.int 0)) μ) := by
  refine Ex.of (by decide +kernel) rfl (Nat.le_of_ble_eq_true rfl) ?_
  show T _ _ _ _ _ _ _ _ _ [some (.ref (XB + (i + 1)))] [] (rm μ)
  refine T_getsC (pc := 0) fs_J0_38 dJ0_coder_7d493_0 ?_
  refine T_if_eq (pc := 3) (tgt := 13) dJ0_coder_7d493_3 (by decide) (fun h => absurd h (by decide)) (fun _ => ?_)
  refine T_aload_n (pc := 6) (i := 0) dJ0_coder_7d493_6 rfl rfl ?_
  refine T_strC (pc := 7) hs fs_J0_15 dJ0_coder_7d493_7 ?_
  refine T_goto (pc := 10) (tgt := 14) dJ0_coder_7d493_10 (by decide) ?_
  exact T_iret (pc := 14) (ty := .byte) dJ0_coder_7d493_14 rfl (by decide) (Nat.le_refl _) (Nat.le_refl _) ⟨rfl, rfl⟩
theorem c_isLatin1 {i : Nat} {q : String × Nat × String × List Int32} (hs : strs[i]? = some q) : Ex γ 1 0 0 M_J0_isLatin1_aae02 [.ref (XB + (i + 1))] (rm μ) (Fn (some (.int 1)) μ) := by
  refine Ex.of (by decide +kernel) rfl (Nat.le_of_ble_eq_true rfl) ?_
  show T _ _ _ _ _ _ _ _ _ [some (.ref (XB + (i + 1)))] [] (rm μ)
  refine T_getsC (pc := 0) fs_J0_38 dJ0_isLatin1_aae02_0 ?_
  refine T_if_eq (pc := 3) (tgt := 17) dJ0_isLatin1_aae02_3 (by decide) (fun h => absurd h (by decide)) (fun _ => ?_)
  refine T_aload_n (pc := 6) (i := 0) dJ0_isLatin1_aae02_6 rfl rfl ?_
  refine T_strC (pc := 7) hs fs_J0_15 dJ0_isLatin1_aae02_7 ?_
  refine T_if_ne (pc := 10) (tgt := 17) dJ0_isLatin1_aae02_10 (by decide) (fun h => absurd rfl h) (fun _ => ?_)
  refine T_iconst (pc := 13) (v := nI 1) dJ0_isLatin1_aae02_13 (by decide) ?_
  refine T_goto (pc := 14) (tgt := 18) dJ0_isLatin1_aae02_14 (by decide) ?_
  exact T_iret (pc := 18) (ty := .boolean) dJ0_isLatin1_aae02_18 rfl (by decide) (Nat.le_refl _) (Nat.le_refl _) ⟨rfl, rfl⟩
theorem c_strLen {i : Nat} {q : String × Nat × String × List Int32} (hs : strs[i]? = some q) : Ex γ 2 0 0 M_J0_length_8abf5 [.ref (XB + (i + 1))] (rm μ) (Fn (some (.int (nI q.2.2.2.length))) μ) := by
  have hl := str_at hs
  refine Ex.of (by decide +kernel) rfl (Nat.le_of_ble_eq_true rfl) ?_
  show T _ _ _ _ _ _ _ _ _ [some (.ref (XB + (i + 1)))] [] (rm μ)
  refine T_aload_n (pc := 0) (i := 0) dJ0_length_8abf5_0 rfl rfl ?_
  refine T_strV (pc := 1) hs fs_J0_9 dJ0_length_8abf5_1 ?_
  refine T_strL (pc := 4) hs dJ0_length_8abf5_4 ?_
  refine T_aload_n (pc := 5) (i := 0) dJ0_length_8abf5_5 rfl rfl ?_
  refine T_callVs (pc := 6) (As := []) (rest := [.int (nI q.2.2.2.length)]) hs lk_J0_335 mk_J0_coder_7d493 (c_coder hs) rfl dJ0_length_8abf5_6 rfl rfl (Nat.le_of_ble_eq_true rfl) (by decide) rfl (Nat.le_refl _) (Nat.le_refl _) (fun E m' h => absurd h.1 (fun z => by cases z)) (fun v' m' h => ?_)
  obtain ⟨h3, rfl⟩ := h
  cases h3
  refine T_ishr (pc := 9) dJ0_length_8abf5_9 ?_
  refine T_topi (v := nI q.2.2.2.length) (by have h9 := ishr_n (a := q.2.2.2.length) (k := 0) (by omega) (by decide); rw [Nat.pow_zero, Nat.div_one] at h9; exact h9) ?_
  exact T_iret (pc := 10) (ty := .int) dJ0_length_8abf5_10 rfl rfl (Nat.le_refl _) (Nat.le_refl _) ⟨rfl, rfl⟩
theorem c_prec {j n : Nat} {v : Value} (hv : v = .null ∨ ∃ k, v = .ref k) (hj : j < n) (hn : n < 2 ^ 31) : Ex γ 1 0 0 M_J3_checkIndex_8e157 [.int (nI j), .int (nI n), v] (rm μ) (Fn (some (.int (nI j))) μ) := by
  have body : T γ 1 0 0 M_J3_checkIndex_8e157 (Fn (some (.int (nI j))) μ) 0 0 0 [some (.int (nI j)), some (.int (nI n)), none] [] (rm μ) := by
    refine T_iload_n (pc := 0) (i := 0) dJ3_checkIndex_8e157_0 rfl rfl ?_
    refine R_if_lt (pc := 1) (tgt := 9) (by omega) dJ3_checkIndex_8e157_1 (by decide) (fun h1 => ?_) (fun h1 => ?_)
    · exact h1.elim
    · skip
      refine T_iload_n (pc := 4) (i := 0) dJ3_checkIndex_8e157_4 rfl rfl ?_
      refine T_iload_n (pc := 5) (i := 1) dJ3_checkIndex_8e157_5 rfl rfl ?_
      refine R_icmp_lt (pc := 6) (tgt := 16) (by omega) (by omega) dJ3_checkIndex_8e157_6 (by decide) (fun h2 => ?_) (fun h2 => ?_)
      · skip
        refine T_iload_n (pc := 16) (i := 0) dJ3_checkIndex_8e157_16 rfl rfl ?_
        exact T_iret (pc := 17) (ty := .int) dJ3_checkIndex_8e157_17 rfl rfl (Nat.le_refl _) (Nat.le_refl _) ⟨rfl, rfl⟩
      · exact absurd hj (by omega)
  rcases hv with rfl | ⟨k, rfl⟩
  · refine Ex.of (by decide +kernel) rfl (Nat.le_of_ble_eq_true rfl) ?_
    show T _ _ _ _ _ _ _ _ _ [some (.int (nI j)), some (.int (nI n)), some .null] [] (rm μ)
    exact T_ls (ls' := [some (.int (nI j)), some (.int (nI n)), none]) (And.intro rfl (And.intro rfl True.intro)) body
  · refine Ex.of (by decide +kernel) rfl (Nat.le_of_ble_eq_true rfl) ?_
    show T _ _ _ _ _ _ _ _ _ [some (.int (nI j)), some (.int (nI n)), some (.ref k)] [] (rm μ)
    exact T_ls (ls' := [some (.int (nI j)), some (.int (nI n)), none]) (And.intro rfl (And.intro rfl True.intro)) body
theorem c_checkIndex {j n : Nat} (hj : j < n) (hn : n < 2 ^ 31) : Ex γ 2 0 0 M_J0_checkIndex_df160 [.int (nI j), .int (nI n)] (rm μ) (Fn none μ) := by
  have tail : ∀ v : Value, (v = .null ∨ ∃ k, v = .ref k) → T γ 2 0 0 M_J0_checkIndex_df160 (Fn none μ) 0 0 5 [some (.int (nI j)), some (.int (nI n))] [v, .int (nI n), .int (nI j)] (rm μ) := fun v hv => by
    refine R_callS1 (av := [.int (nI j), .int (nI n), v]) (rest := []) (pc := 5) (Or.inl lk_J0_1059) mk_J3_checkIndex_8e157 (c_prec hv hj hn) dJ0_checkIndex_df160_5 rfl rfl (Nat.le_of_ble_eq_true rfl) (by decide) rfl (Nat.le_refl _) (Nat.le_refl _) ?_
    refine T_pop (pc := 8) dJ0_checkIndex_df160_8 rfl ?_
    exact T_vret dJ0_checkIndex_df160_9 rfl (Nat.le_refl _) (Nat.le_refl _) ⟨rfl, rfl⟩
  refine Ex.of (by decide +kernel) rfl (Nat.le_of_ble_eq_true rfl) ?_
  show T _ _ _ _ _ _ _ _ _ [some (.int (nI j)), some (.int (nI n))] [] (rm μ)
  refine T_iload_n (pc := 0) (i := 0) dJ0_checkIndex_df160_0 rfl rfl ?_
  refine T_iload_n (pc := 1) (i := 1) dJ0_checkIndex_df160_1 rfl rfl ?_
  refine T_getsS (pc := 2) fs_J0_1053 dJ0_checkIndex_df160_2 (tail _ (Or.inl rfl)) (tail _ (Or.inr ⟨_, rfl⟩))
theorem c_latin {i j : Nat} {q : String × Nat × String × List Int32} (hs : strs[i]? = some q) (hj : j < q.2.2.2.length) : Ex γ 3 0 0 M_J1_charAt_3b067 [.ref (XB + (i + 100)), .int (nI j)] (rm μ) (Fn (some (.int (q.2.2.2.getD j 0))) μ) := by
  have hl := str_at hs
  have hb := str_b hs hj
  refine Ex.of (by decide +kernel) rfl (Nat.le_of_ble_eq_true rfl) ?_
  show T _ _ _ _ _ _ _ _ _ [some (.ref (XB + (i + 100))), some (.int (nI j))] [] (rm μ)
  refine T_iload_n (pc := 0) (i := 1) dJ1_charAt_3b067_0 rfl rfl ?_
  refine T_aload_n (pc := 1) (i := 0) dJ1_charAt_3b067_1 rfl rfl ?_
  refine T_strL (pc := 2) hs dJ1_charAt_3b067_2 ?_
  refine R_callS0 (av := [.int (nI j), .int (nI q.2.2.2.length)]) (rest := []) (pc := 3) (Or.inl lk_J1_9) mk_J0_checkIndex_df160 (c_checkIndex hj (by omega)) dJ1_charAt_3b067_3 rfl rfl (Nat.le_of_ble_eq_true rfl) (by decide) rfl (Nat.le_refl _) (Nat.le_refl _) ?_
  refine T_aload_n (pc := 6) (i := 0) dJ1_charAt_3b067_6 rfl rfl ?_
  refine T_iload_n (pc := 7) (i := 1) dJ1_charAt_3b067_7 rfl rfl ?_
  refine T_strB (pc := 8) hs (nI_cl hj (by omega)).1 dJ1_charAt_3b067_8 ?_
  rw [(nI_cl hj (by omega)).2]
  refine T_sipush (pc := 9) (v := nI 255) dJ1_charAt_3b067_9 (by decide) ?_
  refine T_iand (pc := 12) dJ1_charAt_3b067_12 ?_
  refine T_i2c (pc := 13) dJ1_charAt_3b067_13 ?_
  refine T_topi (v := q.2.2.2.getD j 0) hb.1 ?_
  exact T_iret (pc := 14) (ty := .char) dJ1_charAt_3b067_14 rfl hb.2 (Nat.le_refl _) (Nat.le_refl _) ⟨rfl, rfl⟩
theorem c_charAt {i j : Nat} {q : String × Nat × String × List Int32} (hs : strs[i]? = some q) (hj : j < q.2.2.2.length) : Ex γ 4 0 0 M_J0_charAt_5068e [.ref (XB + (i + 1)), .int (nI j)] (rm μ) (Fn (some (.int (q.2.2.2.getD j 0))) μ) := by
  have hb := str_b hs hj
  refine Ex.of (by decide +kernel) rfl (Nat.le_of_ble_eq_true rfl) ?_
  show T _ _ _ _ _ _ _ _ _ [some (.ref (XB + (i + 1))), some (.int (nI j))] [] (rm μ)
  refine T_aload_n (pc := 0) (i := 0) dJ0_charAt_5068e_0 rfl rfl ?_
  refine T_callVs (pc := 1) (As := []) (rest := []) hs lk_J0_492 mk_J0_isLatin1_aae02 (c_isLatin1 hs) rfl dJ0_charAt_5068e_1 rfl rfl (Nat.le_of_ble_eq_true rfl) (by decide) rfl (Nat.le_refl _) (Nat.le_refl _) (fun E m' h => absurd h.1 (fun z => by cases z)) (fun v' m' h => ?_)
  obtain ⟨h3, rfl⟩ := h
  cases h3
  refine T_if_eq (pc := 4) (tgt := 16) dJ0_charAt_5068e_4 (by decide) (fun h => absurd h (by decide)) (fun _ => ?_)
  refine T_aload_n (pc := 7) (i := 0) dJ0_charAt_5068e_7 rfl rfl ?_
  refine T_strV (pc := 8) hs fs_J0_9 dJ0_charAt_5068e_8 ?_
  refine T_iload_n (pc := 11) (i := 1) dJ0_charAt_5068e_11 rfl rfl ?_
  refine R_callS1 (av := [.ref (XB + (i + 100)), .int (nI j)]) (rest := []) (pc := 12) (Or.inl lk_J0_495) mk_J1_charAt_3b067 (c_latin hs hj) dJ0_charAt_5068e_12 rfl rfl (Nat.le_of_ble_eq_true rfl) (by decide) rfl (Nat.le_refl _) (Nat.le_refl _) ?_
  exact T_iret (pc := 15) (ty := .char) dJ0_charAt_5068e_15 rfl hb.2 (Nat.le_refl _) (Nat.le_refl _) ⟨rfl, rfl⟩
end STC

