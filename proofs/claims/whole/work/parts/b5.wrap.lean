/-! the law's wrappers -/
section WR
variable {γ : Ga} {μ : SM2}
theorem w_valley  {s : Sta} (hs : CAll μ s) : Ex γ 11 1 6 M_L_valley [.ref 0, .ref 594] (rm μ) (WQ μ (vyT s.2.2.2.2.1 s.1) (((vyV s.2.2.2.2.1 s.1)).toInt64) (vyX s.2.2.2.2.1 s.1, s.2.1, vyU s.2.2.2.2.1 s.1 s.2.2.1, s.2.2.2.1, [], vyF s.2.2.2.2.1 s.1)) := by
  refine Ex.ofH (by decide +kernel) (by decide) mk_L_valley.1 (Nat.le_of_ble_eq_true rfl) ?_
  show T _ _ _ _ _ _ _ _ 0 [some (.ref 0), some (.ref 594), none] [] (rm μ)
  refine T_aload_n (pc := 0) (i := 1) dL_valley_0 rfl rfl ?_
  refine T_iconst (pc := 1) (v := nI 0) dL_valley_1 (by decide) ?_
  refine T_aload_n (pc := 2) (i := 0) dL_valley_2 rfl rfl ?_
  refine T_callVH (pc := 3) (As := []) (rest := [.int (nI 0), .ref 594]) (Or.inl lk_L_7) mk_X11_valley (k_valley hs) kc_0 ⟨by decide, rfl⟩ lc_0 dL_valley_3 rfl rfl (Nat.le_of_ble_eq_true rfl) (by decide) (Nat.le_refl _) (Nat.le_refl _) (fun E μ' h => ?_) (fun v μ' h => ?_)
  · obtain ⟨m1, rfl, h1, ht, rfl⟩ := h.no
    have ht2 : vyT s.2.2.2.2.1 s.1 = 1 ∨ vyT s.2.2.2.2.1 s.1 = 2 := by have h9 : vyT s.2.2.2.2.1 s.1 ≤ 2 := vyT_le _ _; omega
    rcases ht2 with e | e
    · have hq := WQ.no (ov := ((vyV s.2.2.2.2.1 s.1)).toInt64) h1 ht
      rw [e] at hq ⊢
      show Xk _ _ _ _ _ _ _ _ _ _ "java/lang/IllegalArgumentException" _
      exact X_catch (pre := []) (a := 0) (b := 8) (h := 11) (ct := 13) (name := "java/lang/IllegalArgumentException") (n1 := 12) _ rfl (by decide) (by decide) cl_L_13 ca_A (fun z hz => absurd hz List.not_mem_nil) (Or.inl ⟨2, dL_valley_11, by decide, rfl⟩) dL_valley_12 (by decide) dL_valley_13 rfl (Nat.le_refl _) (Nat.le_refl _) hq
    · have hq := WQ.no (ov := ((vyV s.2.2.2.2.1 s.1)).toInt64) h1 ht
      rw [e] at hq ⊢
      show Xk _ _ _ _ _ _ _ _ _ _ "java/lang/UnsupportedOperationException" _
      exact X_catch (pre := [(0, 8, 11, 13)]) (a := 0) (b := 8) (h := 14) (ct := 15) (name := "java/lang/UnsupportedOperationException") (n1 := 15) _ rfl (by decide) (by decide) cl_L_15 ca_U (fun z hz => by rw [List.mem_singleton.mp hz]; exact ⟨by decide, "java/lang/IllegalArgumentException", cl_L_13, by decide +kernel⟩) (Or.inl ⟨2, dL_valley_14, by decide, rfl⟩) dL_valley_15 (by decide) dL_valley_16 rfl (Nat.le_refl _) (Nat.le_refl _) hq
  · obtain ⟨m1, rfl, h1, ht, rfl⟩ := h.ok
    have hq := WQ.ok (ov := ((vyV s.2.2.2.2.1 s.1)).toInt64) h1 ht
    show T _ _ _ _ _ _ _ _ 6 [some (.ref 0), some (.ref 594), none] [.int ((vyV s.2.2.2.2.1 s.1)), .int (nI 0), .ref 594] (rm m1)
    refine T_i2l (pc := 6) dL_valley_6 ?_
    refine R_last (pc := 7) kc_594 lc_594 (by omega) (by first | decide | assumption) dL_valley_7 ?_
    refine T_goto (pc := 8) (tgt := 17) dL_valley_8 (by decide) ?_
    refine T_iconst (pc := 17) (v := nI 0) dL_valley_17 (by decide) ?_
    exact T_iret (pc := 18) (ty := .int) dL_valley_18 rfl rfl (Nat.le_refl _) (Nat.le_refl _) hq
theorem w_law  {s : Sta} (hs : CAll μ s) : Ex γ 31 1 6 M_L_law [.ref 0, .ref 594] (rm μ) (WQ μ (lyT s.2.2.2.2.1) (((lyV s.2.2.2.2.1)).toInt64) (s.1, (lyC s.2.2.2.2.1 s.2.1.1, lyX s.2.2.2.2.1 s.2.1.2), lyU s.2.2.2.2.1 s.2.2.1, s.2.2.2.1, [], lyF s.2.2.2.2.1)) := by
  refine Ex.ofH (by decide +kernel) (by decide) mk_L_law.1 (Nat.le_of_ble_eq_true rfl) ?_
  show T _ _ _ _ _ _ _ _ 0 [some (.ref 0), some (.ref 594), none] [] (rm μ)
  refine T_aload_n (pc := 0) (i := 1) dL_law_0 rfl rfl ?_
  refine T_iconst (pc := 1) (v := nI 0) dL_law_1 (by decide) ?_
  refine T_aload_n (pc := 2) (i := 0) dL_law_2 rfl rfl ?_
  refine T_callVH (pc := 3) (As := []) (rest := [.int (nI 0), .ref 594]) (Or.inl lk_L_17) mk_X11_law (k_law hs) kc_0 ⟨by decide, rfl⟩ lc_0 dL_law_3 rfl rfl (Nat.le_of_ble_eq_true rfl) (by decide) (Nat.le_refl _) (Nat.le_refl _) (fun E μ' h => ?_) (fun v μ' h => ?_)
  · obtain ⟨m1, rfl, h1, ht, rfl⟩ := h.no
    have ht2 : lyT s.2.2.2.2.1 = 1 := by have h9 : lyT s.2.2.2.2.1 ≤ 1 := lyT_le _; omega
    rcases Or.inl (b := False) ht2 with e | e
    · have hq := WQ.no (ov := ((lyV s.2.2.2.2.1)).toInt64) h1 ht
      rw [e] at hq ⊢
      show Xk _ _ _ _ _ _ _ _ _ _ "java/lang/IllegalArgumentException" _
      exact X_catch (pre := []) (a := 0) (b := 8) (h := 11) (ct := 13) (name := "java/lang/IllegalArgumentException") (n1 := 12) _ rfl (by decide) (by decide) cl_L_13 ca_A (fun z hz => absurd hz List.not_mem_nil) (Or.inl ⟨2, dL_law_11, by decide, rfl⟩) dL_law_12 (by decide) dL_law_13 rfl (Nat.le_refl _) (Nat.le_refl _) hq
    · exact e.elim
  · obtain ⟨m1, rfl, h1, ht, rfl⟩ := h.ok
    have hq := WQ.ok (ov := ((lyV s.2.2.2.2.1)).toInt64) h1 ht
    show T _ _ _ _ _ _ _ _ 6 [some (.ref 0), some (.ref 594), none] [.int ((lyV s.2.2.2.2.1)), .int (nI 0), .ref 594] (rm m1)
    refine T_i2l (pc := 6) dL_law_6 ?_
    refine R_last (pc := 7) kc_594 lc_594 (by omega) (by first | decide | assumption) dL_law_7 ?_
    refine T_goto (pc := 8) (tgt := 14) dL_law_8 (by decide) ?_
    refine T_iconst (pc := 14) (v := nI 0) dL_law_14 (by decide) ?_
    exact T_iret (pc := 15) (ty := .int) dL_law_15 rfl rfl (Nat.le_refl _) (Nat.le_refl _) hq
theorem w_rule {x : Int32} {b : Bool} {s : Sta} (hs : CAll μ s) : Ex γ 5 1 6 M_L_rule [.ref 0, .int x, .int (bI b), .ref 594] (rm μ) (WQ μ (if inB x s.1.R.length = true then 0 else 1) ((if inB x s.1.R.length = true then lN (cd (if b = true then (rAt s.1.R x.toNatClampNeg).2 else (rAt s.1.R x.toNatClampNeg).1)) else lN 0)) s) := by
  refine Ex.ofH (by decide +kernel) (by decide) mk_L_rule.1 (Nat.le_of_ble_eq_true rfl) ?_
  show T _ _ _ _ _ _ _ _ 0 [some (.ref 0), some (.int (x)), some (.int (bI b)), some (.ref 594), none] [] (rm μ)
  refine T_aload_n (pc := 0) (i := 3) dL_rule_0 rfl rfl ?_
  refine T_iconst (pc := 1) (v := nI 0) dL_rule_1 (by decide) ?_
  refine T_aload_n (pc := 2) (i := 0) dL_rule_2 rfl rfl ?_
  refine T_iload_n (pc := 3) (i := 1) dL_rule_3 rfl rfl ?_
  refine T_iload_n (pc := 4) (i := 2) dL_rule_4 rfl rfl ?_
  refine T_callVH (pc := 5) (As := [.int (x), .int (bI b)]) (rest := [.int (nI 0), .ref 594]) (Or.inl lk_L_20) mk_X11_rule (k_rule hs) kc_0 ⟨by decide, rfl⟩ lc_0 dL_rule_5 rfl rfl (Nat.le_of_ble_eq_true rfl) (by decide) (Nat.le_refl _) (Nat.le_refl _) (fun E μ' h => ?_) (fun v μ' h => ?_)
  · obtain ⟨m1, rfl, h1, ht, rfl⟩ := h.no
    have ht2 : (if inB x s.1.R.length = true then 0 else 1) = 1 := by have h9 : (if inB x s.1.R.length = true then 0 else 1) ≤ 1 := mI_le _; omega
    rcases Or.inl (b := False) ht2 with e | e
    · have hq := WQ.no (ov := (if inB x s.1.R.length = true then lN (cd (if b = true then (rAt s.1.R x.toNatClampNeg).2 else (rAt s.1.R x.toNatClampNeg).1)) else lN 0)) h1 ht
      rw [e] at hq ⊢
      show Xk _ _ _ _ _ _ _ _ _ _ "java/lang/IndexOutOfBoundsException" _
      exact X_catch (pre := []) (a := 0) (b := 9) (h := 12) (ct := 24) (name := "java/lang/IndexOutOfBoundsException") (n1 := 14) _ rfl (by decide) (by decide) cl_L_24 ca_I (fun z hz => absurd hz List.not_mem_nil) (Or.inr ⟨4, dL_rule_12, by decide, rfl⟩) dL_rule_14 (by decide) dL_rule_15 rfl (Nat.le_refl _) (Nat.le_refl _) hq
    · exact e.elim
  · obtain ⟨m1, rfl, h1, ht, rfl⟩ := h.ok
    have hq := WQ.ok (ov := (if inB x s.1.R.length = true then lN (cd (if b = true then (rAt s.1.R x.toNatClampNeg).2 else (rAt s.1.R x.toNatClampNeg).1)) else lN 0)) h1 ht
    show T _ _ _ _ _ _ _ _ 8 [some (.ref 0), some (.int (x)), some (.int (bI b)), some (.ref 594), none] [.long ((if inB x s.1.R.length = true then lN (cd (if b = true then (rAt s.1.R x.toNatClampNeg).2 else (rAt s.1.R x.toNatClampNeg).1)) else lN 0)), .int (nI 0), .ref 594] (rm m1)
    refine R_last (pc := 8) kc_594 lc_594 (by omega) (by first | decide | assumption) dL_rule_8 ?_
    refine T_goto (pc := 9) (tgt := 16) dL_rule_9 (by decide) ?_
    refine T_iconst (pc := 16) (v := nI 0) dL_rule_16 (by decide) ?_
    exact T_iret (pc := 17) (ty := .int) dL_rule_17 rfl rfl (Nat.le_refl _) (Nat.le_refl _) hq
theorem w_field {x : Int32} {s : Sta} (hs : CAll μ s) : Ex γ 5 1 6 M_L_field [.ref 0, .int x, .ref 594] (rm μ) (WQ μ (if inB x s.1.F.length = true then 0 else 1) ((if inB x s.1.F.length = true then lN (cd (fAt s.1.F x.toNatClampNeg).1) else lN 0)) s) := by
  refine Ex.ofH (by decide +kernel) (by decide) mk_L_field.1 (Nat.le_of_ble_eq_true rfl) ?_
  show T _ _ _ _ _ _ _ _ 0 [some (.ref 0), some (.int (x)), some (.ref 594), none] [] (rm μ)
  refine T_aload_n (pc := 0) (i := 2) dL_field_0 rfl rfl ?_
  refine T_iconst (pc := 1) (v := nI 0) dL_field_1 (by decide) ?_
  refine T_aload_n (pc := 2) (i := 0) dL_field_2 rfl rfl ?_
  refine T_iload_n (pc := 3) (i := 1) dL_field_3 rfl rfl ?_
  refine T_callVH (pc := 4) (As := [.int (x)]) (rest := [.int (nI 0), .ref 594]) (Or.inl lk_L_26) mk_X11_field (k_field hs) kc_0 ⟨by decide, rfl⟩ lc_0 dL_field_4 rfl rfl (Nat.le_of_ble_eq_true rfl) (by decide) (Nat.le_refl _) (Nat.le_refl _) (fun E μ' h => ?_) (fun v μ' h => ?_)
  · obtain ⟨m1, rfl, h1, ht, rfl⟩ := h.no
    have ht2 : (if inB x s.1.F.length = true then 0 else 1) = 1 := by have h9 : (if inB x s.1.F.length = true then 0 else 1) ≤ 1 := mI_le _; omega
    rcases Or.inl (b := False) ht2 with e | e
    · have hq := WQ.no (ov := (if inB x s.1.F.length = true then lN (cd (fAt s.1.F x.toNatClampNeg).1) else lN 0)) h1 ht
      rw [e] at hq ⊢
      show Xk _ _ _ _ _ _ _ _ _ _ "java/lang/IndexOutOfBoundsException" _
      exact X_catch (pre := []) (a := 0) (b := 8) (h := 11) (ct := 24) (name := "java/lang/IndexOutOfBoundsException") (n1 := 12) _ rfl (by decide) (by decide) cl_L_24 ca_I (fun z hz => absurd hz List.not_mem_nil) (Or.inl ⟨3, dL_field_11, by decide, rfl⟩) dL_field_12 (by decide) dL_field_13 rfl (Nat.le_refl _) (Nat.le_refl _) hq
    · exact e.elim
  · obtain ⟨m1, rfl, h1, ht, rfl⟩ := h.ok
    have hq := WQ.ok (ov := (if inB x s.1.F.length = true then lN (cd (fAt s.1.F x.toNatClampNeg).1) else lN 0)) h1 ht
    show T _ _ _ _ _ _ _ _ 7 [some (.ref 0), some (.int (x)), some (.ref 594), none] [.long ((if inB x s.1.F.length = true then lN (cd (fAt s.1.F x.toNatClampNeg).1) else lN 0)), .int (nI 0), .ref 594] (rm m1)
    refine R_last (pc := 7) kc_594 lc_594 (by omega) (by first | decide | assumption) dL_field_7 ?_
    refine T_goto (pc := 8) (tgt := 14) dL_field_8 (by decide) ?_
    refine T_iconst (pc := 14) (v := nI 0) dL_field_14 (by decide) ?_
    exact T_iret (pc := 15) (ty := .int) dL_field_15 rfl rfl (Nat.le_refl _) (Nat.le_refl _) hq
theorem w_seen {x : Int32} {b : Bool} {s : Sta} (hs : CAll μ s) : Ex γ 5 1 6 M_L_seen [.ref 0, .int x, .int (bI b), .ref 594] (rm μ) (WQ μ (if inB x s.1.S.length = true then 0 else 1) ((if inB x s.1.S.length = true then lN (cd (if b = true then (sAt s.1.S x.toNatClampNeg).2 else (sAt s.1.S x.toNatClampNeg).1)) else lN 0)) s) := by
  refine Ex.ofH (by decide +kernel) (by decide) mk_L_seen.1 (Nat.le_of_ble_eq_true rfl) ?_
  show T _ _ _ _ _ _ _ _ 0 [some (.ref 0), some (.int (x)), some (.int (bI b)), some (.ref 594), none] [] (rm μ)
  refine T_aload_n (pc := 0) (i := 3) dL_seen_0 rfl rfl ?_
  refine T_iconst (pc := 1) (v := nI 0) dL_seen_1 (by decide) ?_
  refine T_aload_n (pc := 2) (i := 0) dL_seen_2 rfl rfl ?_
  refine T_iload_n (pc := 3) (i := 1) dL_seen_3 rfl rfl ?_
  refine T_iload_n (pc := 4) (i := 2) dL_seen_4 rfl rfl ?_
  refine T_callVH (pc := 5) (As := [.int (x), .int (bI b)]) (rest := [.int (nI 0), .ref 594]) (Or.inl lk_L_30) mk_X11_seen (k_seen hs) kc_0 ⟨by decide, rfl⟩ lc_0 dL_seen_5 rfl rfl (Nat.le_of_ble_eq_true rfl) (by decide) (Nat.le_refl _) (Nat.le_refl _) (fun E μ' h => ?_) (fun v μ' h => ?_)
  · obtain ⟨m1, rfl, h1, ht, rfl⟩ := h.no
    have ht2 : (if inB x s.1.S.length = true then 0 else 1) = 1 := by have h9 : (if inB x s.1.S.length = true then 0 else 1) ≤ 1 := mI_le _; omega
    rcases Or.inl (b := False) ht2 with e | e
    · have hq := WQ.no (ov := (if inB x s.1.S.length = true then lN (cd (if b = true then (sAt s.1.S x.toNatClampNeg).2 else (sAt s.1.S x.toNatClampNeg).1)) else lN 0)) h1 ht
      rw [e] at hq ⊢
      show Xk _ _ _ _ _ _ _ _ _ _ "java/lang/IndexOutOfBoundsException" _
      exact X_catch (pre := []) (a := 0) (b := 9) (h := 12) (ct := 24) (name := "java/lang/IndexOutOfBoundsException") (n1 := 14) _ rfl (by decide) (by decide) cl_L_24 ca_I (fun z hz => absurd hz List.not_mem_nil) (Or.inr ⟨4, dL_seen_12, by decide, rfl⟩) dL_seen_14 (by decide) dL_seen_15 rfl (Nat.le_refl _) (Nat.le_refl _) hq
    · exact e.elim
  · obtain ⟨m1, rfl, h1, ht, rfl⟩ := h.ok
    have hq := WQ.ok (ov := (if inB x s.1.S.length = true then lN (cd (if b = true then (sAt s.1.S x.toNatClampNeg).2 else (sAt s.1.S x.toNatClampNeg).1)) else lN 0)) h1 ht
    show T _ _ _ _ _ _ _ _ 8 [some (.ref 0), some (.int (x)), some (.int (bI b)), some (.ref 594), none] [.long ((if inB x s.1.S.length = true then lN (cd (if b = true then (sAt s.1.S x.toNatClampNeg).2 else (sAt s.1.S x.toNatClampNeg).1)) else lN 0)), .int (nI 0), .ref 594] (rm m1)
    refine R_last (pc := 8) kc_594 lc_594 (by omega) (by first | decide | assumption) dL_seen_8 ?_
    refine T_goto (pc := 9) (tgt := 16) dL_seen_9 (by decide) ?_
    refine T_iconst (pc := 16) (v := nI 0) dL_seen_16 (by decide) ?_
    exact T_iret (pc := 17) (ty := .int) dL_seen_17 rfl rfl (Nat.le_refl _) (Nat.le_refl _) hq
theorem w_beast {x : Int64} {y : Int32} {s : Sta} (hs : CAll μ s) : Ex γ 5 1 6 M_L_beast [.ref 0, .long x, .int y, .ref 594] (rm μ) (WQ μ (if codeB x = true then 0 else 1) (((if codeB x = true then (if inB y (ml x).length = true then nI ((ml x).getD y.toNatClampNeg 0) else -1) else nI 0)).toInt64) s) := by
  refine Ex.ofH (by decide +kernel) (by decide) mk_L_beast.1 (Nat.le_of_ble_eq_true rfl) ?_
  show T _ _ _ _ _ _ _ _ 0 [some (.ref 0), some (.long (x)), none, some (.int (y)), some (.ref 594), none] [] (rm μ)
  refine T_aload (pc := 0) (i := 4) dL_beast_0 rfl ?_
  refine T_iconst (pc := 2) (v := nI 0) dL_beast_2 (by decide) ?_
  refine T_aload_n (pc := 3) (i := 0) dL_beast_3 rfl rfl ?_
  refine T_lload_n (pc := 4) (i := 1) dL_beast_4 rfl rfl ?_
  refine T_iload_n (pc := 5) (i := 3) dL_beast_5 rfl rfl ?_
  refine T_callVH (pc := 6) (As := [.long (x), .int (y)]) (rest := [.int (nI 0), .ref 594]) (Or.inl lk_L_33) mk_X11_beast (k_beast hs) kc_0 ⟨by decide, rfl⟩ lc_0 dL_beast_6 rfl rfl (Nat.le_of_ble_eq_true rfl) (by decide) (Nat.le_refl _) (Nat.le_refl _) (fun E μ' h => ?_) (fun v μ' h => ?_)
  · obtain ⟨m1, rfl, h1, ht, rfl⟩ := h.no
    have ht2 : (if codeB x = true then 0 else 1) = 1 := by have h9 : (if codeB x = true then 0 else 1) ≤ 1 := mI_le _; omega
    rcases Or.inl (b := False) ht2 with e | e
    · have hq := WQ.no (ov := ((if codeB x = true then (if inB y (ml x).length = true then nI ((ml x).getD y.toNatClampNeg 0) else -1) else nI 0)).toInt64) h1 ht
      rw [e] at hq ⊢
      show Xk _ _ _ _ _ _ _ _ _ _ "java/lang/IllegalArgumentException" _
      exact X_catch (pre := []) (a := 0) (b := 11) (h := 14) (ct := 13) (name := "java/lang/IllegalArgumentException") (n1 := 16) _ rfl (by decide) (by decide) cl_L_13 ca_A (fun z hz => absurd hz List.not_mem_nil) (Or.inr ⟨5, dL_beast_14, by decide, rfl⟩) dL_beast_16 (by decide) dL_beast_17 rfl (Nat.le_refl _) (Nat.le_refl _) hq
    · exact e.elim
  · obtain ⟨m1, rfl, h1, ht, rfl⟩ := h.ok
    have hq := WQ.ok (ov := ((if codeB x = true then (if inB y (ml x).length = true then nI ((ml x).getD y.toNatClampNeg 0) else -1) else nI 0)).toInt64) h1 ht
    show T _ _ _ _ _ _ _ _ 9 [some (.ref 0), some (.long (x)), none, some (.int (y)), some (.ref 594), none] [.int ((if codeB x = true then (if inB y (ml x).length = true then nI ((ml x).getD y.toNatClampNeg 0) else -1) else nI 0)), .int (nI 0), .ref 594] (rm m1)
    refine T_i2l (pc := 9) dL_beast_9 ?_
    refine R_last (pc := 10) kc_594 lc_594 (by omega) (by first | decide | assumption) dL_beast_10 ?_
    refine T_goto (pc := 11) (tgt := 18) dL_beast_11 (by decide) ?_
    refine T_iconst (pc := 18) (v := nI 0) dL_beast_18 (by decide) ?_
    exact T_iret (pc := 19) (ty := .int) dL_beast_19 rfl rfl (Nat.le_refl _) (Nat.le_refl _) hq
theorem w_steps {x : Int32} {s : Sta} (hs : CAll μ s) : Ex γ 5 1 6 M_L_steps [.ref 0, .int x, .ref 594] (rm μ) (WQ μ (if inB x s.1.F.length = true then 0 else 1) (((if inB x s.1.F.length = true then (fAt s.1.F x.toNatClampNeg).2.1 else nI 0)).toInt64) s) := by
  refine Ex.ofH (by decide +kernel) (by decide) mk_L_steps.1 (Nat.le_of_ble_eq_true rfl) ?_
  show T _ _ _ _ _ _ _ _ 0 [some (.ref 0), some (.int (x)), some (.ref 594), none] [] (rm μ)
  refine T_aload_n (pc := 0) (i := 2) dL_steps_0 rfl rfl ?_
  refine T_iconst (pc := 1) (v := nI 0) dL_steps_1 (by decide) ?_
  refine T_aload_n (pc := 2) (i := 0) dL_steps_2 rfl rfl ?_
  refine T_iload_n (pc := 3) (i := 1) dL_steps_3 rfl rfl ?_
  refine T_callVH (pc := 4) (As := [.int (x)]) (rest := [.int (nI 0), .ref 594]) (Or.inl lk_L_37) mk_X11_steps (k_steps hs) kc_0 ⟨by decide, rfl⟩ lc_0 dL_steps_4 rfl rfl (Nat.le_of_ble_eq_true rfl) (by decide) (Nat.le_refl _) (Nat.le_refl _) (fun E μ' h => ?_) (fun v μ' h => ?_)
  · obtain ⟨m1, rfl, h1, ht, rfl⟩ := h.no
    have ht2 : (if inB x s.1.F.length = true then 0 else 1) = 1 := by have h9 : (if inB x s.1.F.length = true then 0 else 1) ≤ 1 := mI_le _; omega
    rcases Or.inl (b := False) ht2 with e | e
    · have hq := WQ.no (ov := ((if inB x s.1.F.length = true then (fAt s.1.F x.toNatClampNeg).2.1 else nI 0)).toInt64) h1 ht
      rw [e] at hq ⊢
      show Xk _ _ _ _ _ _ _ _ _ _ "java/lang/IndexOutOfBoundsException" _
      exact X_catch (pre := []) (a := 0) (b := 9) (h := 12) (ct := 24) (name := "java/lang/IndexOutOfBoundsException") (n1 := 13) _ rfl (by decide) (by decide) cl_L_24 ca_I (fun z hz => absurd hz List.not_mem_nil) (Or.inl ⟨3, dL_steps_12, by decide, rfl⟩) dL_steps_13 (by decide) dL_steps_14 rfl (Nat.le_refl _) (Nat.le_refl _) hq
    · exact e.elim
  · obtain ⟨m1, rfl, h1, ht, rfl⟩ := h.ok
    have hq := WQ.ok (ov := ((if inB x s.1.F.length = true then (fAt s.1.F x.toNatClampNeg).2.1 else nI 0)).toInt64) h1 ht
    show T _ _ _ _ _ _ _ _ 7 [some (.ref 0), some (.int (x)), some (.ref 594), none] [.int ((if inB x s.1.F.length = true then (fAt s.1.F x.toNatClampNeg).2.1 else nI 0)), .int (nI 0), .ref 594] (rm m1)
    refine T_i2l (pc := 7) dL_steps_7 ?_
    refine R_last (pc := 8) kc_594 lc_594 (by omega) (by first | decide | assumption) dL_steps_8 ?_
    refine T_goto (pc := 9) (tgt := 15) dL_steps_9 (by decide) ?_
    refine T_iconst (pc := 15) (v := nI 0) dL_steps_15 (by decide) ?_
    exact T_iret (pc := 16) (ty := .int) dL_steps_16 rfl rfl (Nat.le_refl _) (Nat.le_refl _) hq
theorem w_maker {x : Int32} {y : Int32} {z : Int32} {s : Sta} (hs : CAll μ s) : Ex γ 5 2 12 M_L_maker [.ref 0, .int x, .int y, .int z, .ref 594] (rm μ) (WQ μ (mkT s.1.F x y z) (((mkI s.1.F x y z)).toInt64) s) := by
  refine Ex.ofH (by decide +kernel) (by decide) mk_L_maker.1 (Nat.le_of_ble_eq_true rfl) ?_
  show T _ _ _ _ _ _ _ _ 0 [some (.ref 0), some (.int (x)), some (.int (y)), some (.int (z)), some (.ref 594), none] [] (rm μ)
  refine T_aload (pc := 0) (i := 4) dL_maker_0 rfl ?_
  refine T_iconst (pc := 2) (v := nI 0) dL_maker_2 (by decide) ?_
  refine T_aload_n (pc := 3) (i := 0) dL_maker_3 rfl rfl ?_
  refine T_iload_n (pc := 4) (i := 1) dL_maker_4 rfl rfl ?_
  refine T_iload_n (pc := 5) (i := 2) dL_maker_5 rfl rfl ?_
  refine T_iload_n (pc := 6) (i := 3) dL_maker_6 rfl rfl ?_
  refine T_callVH (pc := 7) (As := [.int (x), .int (y), .int (z)]) (rest := [.int (nI 0), .ref 594]) (Or.inl lk_L_41) mk_X11_maker (k_maker hs) kc_0 ⟨by decide, rfl⟩ lc_0 dL_maker_7 rfl rfl (Nat.le_of_ble_eq_true rfl) (by decide) (Nat.le_refl _) (Nat.le_refl _) (fun E μ' h => ?_) (fun v μ' h => ?_)
  · obtain ⟨m1, rfl, h1, ht, rfl⟩ := h.no
    have ht2 : mkT s.1.F x y z = 1 ∨ mkT s.1.F x y z = 2 := by have h9 : mkT s.1.F x y z ≤ 2 := mkT_le _ _ _ _; omega
    rcases ht2 with e | e
    · have hq := WQ.no (ov := ((mkI s.1.F x y z)).toInt64) h1 ht
      rw [e] at hq ⊢
      show Xk _ _ _ _ _ _ _ _ _ _ "java/lang/IndexOutOfBoundsException" _
      exact X_catch (pre := []) (a := 0) (b := 12) (h := 15) (ct := 24) (name := "java/lang/IndexOutOfBoundsException") (n1 := 17) _ rfl (by decide) (by decide) cl_L_24 ca_I (fun z hz => absurd hz List.not_mem_nil) (Or.inr ⟨5, dL_maker_15, by decide, rfl⟩) dL_maker_17 (by decide) dL_maker_18 rfl (Nat.le_refl _) (Nat.le_refl _) hq
    · have hq := WQ.no (ov := ((mkI s.1.F x y z)).toInt64) h1 ht
      rw [e] at hq ⊢
      show Xk _ _ _ _ _ _ _ _ _ _ "java/util/NoSuchElementException" _
      exact X_catch (pre := [(0, 12, 15, 24)]) (a := 0) (b := 12) (h := 19) (ct := 45) (name := "java/util/NoSuchElementException") (n1 := 21) _ rfl (by decide) (by decide) cl_L_45 ca_N (fun z hz => by rw [List.mem_singleton.mp hz]; exact ⟨by decide, "java/lang/IndexOutOfBoundsException", cl_L_24, by decide +kernel⟩) (Or.inr ⟨5, dL_maker_19, by decide, rfl⟩) dL_maker_21 (by decide) dL_maker_22 rfl (Nat.le_refl _) (Nat.le_refl _) hq
  · obtain ⟨m1, rfl, h1, ht, rfl⟩ := h.ok
    have hq := WQ.ok (ov := ((mkI s.1.F x y z)).toInt64) h1 ht
    show T _ _ _ _ _ _ _ _ 10 [some (.ref 0), some (.int (x)), some (.int (y)), some (.int (z)), some (.ref 594), none] [.int ((mkI s.1.F x y z)), .int (nI 0), .ref 594] (rm m1)
    refine T_i2l (pc := 10) dL_maker_10 ?_
    refine R_last (pc := 11) kc_594 lc_594 (by omega) (by first | decide | assumption) dL_maker_11 ?_
    refine T_goto (pc := 12) (tgt := 23) dL_maker_12 (by decide) ?_
    refine T_iconst (pc := 23) (v := nI 0) dL_maker_23 (by decide) ?_
    exact T_iret (pc := 24) (ty := .int) dL_maker_24 rfl rfl (Nat.le_refl _) (Nat.le_refl _) hq
theorem w_fits {x : Int64} {y : Int32} {z : Int32} {s : Sta} (hs : CAll μ s) : Ex γ 7 2 12 M_L_fits [.ref 0, .long x, .int y, .int z, .ref 594] (rm μ) (WQ μ (mT2 (inB y s.1.R.length) (codeB x)) ((if (inB y s.1.R.length && (codeB x && fitZ s.1.R (wOf s.1 s.2.1.2) (ml x) y.toNatClampNeg z)) = true then lN 1 else lN 0)) s) := by
  refine Ex.ofH (by decide +kernel) (by decide) mk_L_fits.1 (Nat.le_of_ble_eq_true rfl) ?_
  show T _ _ _ _ _ _ _ _ 0 [some (.ref 0), some (.long (x)), none, some (.int (y)), some (.int (z)), some (.ref 594), none] [] (rm μ)
  refine T_aload (pc := 0) (i := 5) dL_fits_0 rfl ?_
  refine T_iconst (pc := 2) (v := nI 0) dL_fits_2 (by decide) ?_
  refine T_aload_n (pc := 3) (i := 0) dL_fits_3 rfl rfl ?_
  refine T_lload_n (pc := 4) (i := 1) dL_fits_4 rfl rfl ?_
  refine T_iload_n (pc := 5) (i := 3) dL_fits_5 rfl rfl ?_
  refine T_iload (pc := 6) (i := 4) dL_fits_6 rfl ?_
  refine T_callVH (pc := 8) (As := [.long (x), .int (y), .int (z)]) (rest := [.int (nI 0), .ref 594]) (Or.inl lk_L_47) mk_X11_fits (k_fits hs) kc_0 ⟨by decide, rfl⟩ lc_0 dL_fits_8 rfl rfl (Nat.le_of_ble_eq_true rfl) (by decide) (Nat.le_refl _) (Nat.le_refl _) (fun E μ' h => ?_) (fun v μ' h => ?_)
  · obtain ⟨m1, rfl, h1, ht, rfl⟩ := h.no
    have ht2 : mT2 (inB y s.1.R.length) (codeB x) = 1 ∨ mT2 (inB y s.1.R.length) (codeB x) = 2 := by have h9 : mT2 (inB y s.1.R.length) (codeB x) ≤ 2 := mT2_le _ _; omega
    rcases ht2 with e | e
    · have hq := WQ.no (ov := (if (inB y s.1.R.length && (codeB x && fitZ s.1.R (wOf s.1 s.2.1.2) (ml x) y.toNatClampNeg z)) = true then lN 1 else lN 0)) h1 ht
      rw [e] at hq ⊢
      show Xk _ _ _ _ _ _ _ _ _ _ "java/lang/IndexOutOfBoundsException" _
      exact X_catch (pre := []) (a := 0) (b := 20) (h := 23) (ct := 24) (name := "java/lang/IndexOutOfBoundsException") (n1 := 25) _ rfl (by decide) (by decide) cl_L_24 ca_I (fun z hz => absurd hz List.not_mem_nil) (Or.inr ⟨6, dL_fits_23, by decide, rfl⟩) dL_fits_25 (by decide) dL_fits_26 rfl (Nat.le_refl _) (Nat.le_refl _) hq
    · have hq := WQ.no (ov := (if (inB y s.1.R.length && (codeB x && fitZ s.1.R (wOf s.1 s.2.1.2) (ml x) y.toNatClampNeg z)) = true then lN 1 else lN 0)) h1 ht
      rw [e] at hq ⊢
      show Xk _ _ _ _ _ _ _ _ _ _ "java/lang/IllegalArgumentException" _
      exact X_catch (pre := [(0, 20, 23, 24)]) (a := 0) (b := 20) (h := 27) (ct := 13) (name := "java/lang/IllegalArgumentException") (n1 := 29) _ rfl (by decide) (by decide) cl_L_13 ca_A (fun z hz => by rw [List.mem_singleton.mp hz]; exact ⟨by decide, "java/lang/IndexOutOfBoundsException", cl_L_24, by decide +kernel⟩) (Or.inr ⟨6, dL_fits_27, by decide, rfl⟩) dL_fits_29 (by decide) dL_fits_30 rfl (Nat.le_refl _) (Nat.le_refl _) hq
  · obtain ⟨m1, rfl, h1, ht, rfl⟩ := h.ok
    have hq := WQ.ok (ov := (if (inB y s.1.R.length && (codeB x && fitZ s.1.R (wOf s.1 s.2.1.2) (ml x) y.toNatClampNeg z)) = true then lN 1 else lN 0)) h1 ht
    cases e : ((inB y s.1.R.length && (codeB x && fitZ s.1.R (wOf s.1 s.2.1.2) (ml x) y.toNatClampNeg z))) with
    | false =>
      rw [e] at hq
      show T _ _ _ _ _ _ _ _ 11 [some (.ref 0), some (.long (x)), none, some (.int (y)), some (.int (z)), some (.ref 594), none] [.int (bI false), .int (nI 0), .ref 594] (rm m1)
      refine R_ifb_eq (pc := 11) (tgt := 18) dL_fits_11 (by decide) (fun g1 => ?_) (fun g1 => ?_)
      · skip
        refine T_lconst (pc := 18) (v := lN 0) dL_fits_18 rfl ?_
        refine R_last (pc := 19) kc_594 lc_594 (by omega) (by first | decide | assumption) dL_fits_19 ?_
        refine T_goto (pc := 20) (tgt := 31) dL_fits_20 (by decide) ?_
        refine T_iconst (pc := 31) (v := nI 0) dL_fits_31 (by decide) ?_
        exact T_iret (pc := 32) (ty := .int) dL_fits_32 rfl rfl (Nat.le_refl _) (Nat.le_refl _) hq
      · exact absurd g1 (by decide)
    | true =>
      rw [e] at hq
      show T _ _ _ _ _ _ _ _ 11 [some (.ref 0), some (.long (x)), none, some (.int (y)), some (.int (z)), some (.ref 594), none] [.int (bI true), .int (nI 0), .ref 594] (rm m1)
      refine R_ifb_eq (pc := 11) (tgt := 18) dL_fits_11 (by decide) (fun g1 => ?_) (fun g1 => ?_)
      · exact absurd g1 (by decide)
      · skip
        refine T_lconst (pc := 14) (v := lN 1) dL_fits_14 rfl ?_
        refine T_goto (pc := 15) (tgt := 19) dL_fits_15 (by decide) ?_
        refine R_last (pc := 19) kc_594 lc_594 (by omega) (by first | decide | assumption) dL_fits_19 ?_
        refine T_goto (pc := 20) (tgt := 31) dL_fits_20 (by decide) ?_
        refine T_iconst (pc := 31) (v := nI 0) dL_fits_31 (by decide) ?_
        exact T_iret (pc := 32) (ty := .int) dL_fits_32 rfl rfl (Nat.le_refl _) (Nat.le_refl _) hq
theorem w_use {x : Int32} {y : Int32} {z : Int32} {s : Sta} (hs : CAll μ s) : Ex γ 7 3 18 M_L_use [.ref 0, .int x, .int y, .int z, .ref 594] (rm μ) (WQ μ (useT s.1 s.2.1.2 x y z) ((if useC s.1 s.2.1.2 x y z = true then lN (cd (useF s.1 x y z).1) else lN 0)) (useX s.1 s.2.1.2 x y z, s.2.1, useU s.1 s.2.2.1 s.2.1.2 x y z, s.2.2.2)) := by
  refine Ex.ofH (by decide +kernel) (by decide) mk_L_use.1 (Nat.le_of_ble_eq_true rfl) ?_
  show T _ _ _ _ _ _ _ _ 0 [some (.ref 0), some (.int (x)), some (.int (y)), some (.int (z)), some (.ref 594), none] [] (rm μ)
  refine T_aload (pc := 0) (i := 4) dL_use_0 rfl ?_
  refine T_iconst (pc := 2) (v := nI 0) dL_use_2 (by decide) ?_
  refine T_aload_n (pc := 3) (i := 0) dL_use_3 rfl rfl ?_
  refine T_iload_n (pc := 4) (i := 1) dL_use_4 rfl rfl ?_
  refine T_iload_n (pc := 5) (i := 2) dL_use_5 rfl rfl ?_
  refine T_iload_n (pc := 6) (i := 3) dL_use_6 rfl rfl ?_
  refine T_callVH (pc := 7) (As := [.int (x), .int (y), .int (z)]) (rest := [.int (nI 0), .ref 594]) (Or.inl lk_L_51) mk_X11_use (k_use hs) kc_0 ⟨by decide, rfl⟩ lc_0 dL_use_7 rfl rfl (Nat.le_of_ble_eq_true rfl) (by decide) (Nat.le_refl _) (Nat.le_refl _) (fun E μ' h => ?_) (fun v μ' h => ?_)
  · obtain ⟨m1, rfl, h1, ht, rfl⟩ := h.no
    have ht2 : useT s.1 s.2.1.2 x y z = 1 ∨ useT s.1 s.2.1.2 x y z = 2 := by have h9 : useT s.1 s.2.1.2 x y z ≤ 2 := useT_le _ _ _ _ _; omega
    rcases ht2 with e | e
    · have hq := WQ.no (ov := (if useC s.1 s.2.1.2 x y z = true then lN (cd (useF s.1 x y z).1) else lN 0)) h1 ht
      rw [e] at hq ⊢
      show Xk _ _ _ _ _ _ _ _ _ _ "java/lang/IndexOutOfBoundsException" _
      exact X_catch (pre := []) (a := 0) (b := 11) (h := 14) (ct := 24) (name := "java/lang/IndexOutOfBoundsException") (n1 := 16) _ rfl (by decide) (by decide) cl_L_24 ca_I (fun z hz => absurd hz List.not_mem_nil) (Or.inr ⟨5, dL_use_14, by decide, rfl⟩) dL_use_16 (by decide) dL_use_17 rfl (Nat.le_refl _) (Nat.le_refl _) hq
    · have hq := WQ.no (ov := (if useC s.1 s.2.1.2 x y z = true then lN (cd (useF s.1 x y z).1) else lN 0)) h1 ht
      rw [e] at hq ⊢
      show Xk _ _ _ _ _ _ _ _ _ _ "java/lang/IllegalStateException" _
      exact X_catch (pre := [(0, 11, 14, 24)]) (a := 0) (b := 11) (h := 18) (ct := 55) (name := "java/lang/IllegalStateException") (n1 := 20) _ rfl (by decide) (by decide) cl_L_55 ca_S (fun z hz => by rw [List.mem_singleton.mp hz]; exact ⟨by decide, "java/lang/IndexOutOfBoundsException", cl_L_24, by decide +kernel⟩) (Or.inr ⟨5, dL_use_18, by decide, rfl⟩) dL_use_20 (by decide) dL_use_21 rfl (Nat.le_refl _) (Nat.le_refl _) hq
  · obtain ⟨m1, rfl, h1, ht, rfl⟩ := h.ok
    have hq := WQ.ok (ov := (if useC s.1 s.2.1.2 x y z = true then lN (cd (useF s.1 x y z).1) else lN 0)) h1 ht
    show T _ _ _ _ _ _ _ _ 10 [some (.ref 0), some (.int (x)), some (.int (y)), some (.int (z)), some (.ref 594), none] [.long ((if useC s.1 s.2.1.2 x y z = true then lN (cd (useF s.1 x y z).1) else lN 0)), .int (nI 0), .ref 594] (rm m1)
    refine R_last (pc := 10) kc_594 lc_594 (by omega) (by first | decide | assumption) dL_use_10 ?_
    refine T_goto (pc := 11) (tgt := 22) dL_use_11 (by decide) ?_
    refine T_iconst (pc := 22) (v := nI 0) dL_use_22 (by decide) ?_
    exact T_iret (pc := 23) (ty := .int) dL_use_23 rfl rfl (Nat.le_refl _) (Nat.le_refl _) hq
theorem w_run {x : Int32} {y : Int32} {s : Sta} (hs : CAll μ s) : Ex γ 7 2 12 M_L_run [.ref 0, .int x, .int y, .ref 594] (rm μ) (WQ μ (mT2 (inB x s.1.F.length) (chkN y 1 200)) (((if (inB x s.1.F.length && chkN y 1 200) = true then nI (runN s.1 s.2.1.2 x y).1 else nI 0)).toInt64) ((if (inB x s.1.F.length && chkN y 1 200) = true then tdF s.1 x.toNatClampNeg (runN s.1 s.2.1.2 x y).2 else s.1), s.2.1, (if (inB x s.1.F.length && chkN y 1 200) = true then (s.1 :: s.2.2.1).take 16 else s.2.2.1), s.2.2.2)) := by
  refine Ex.ofH (by decide +kernel) (by decide) mk_L_run.1 (Nat.le_of_ble_eq_true rfl) ?_
  show T _ _ _ _ _ _ _ _ 0 [some (.ref 0), some (.int (x)), some (.int (y)), some (.ref 594), none] [] (rm μ)
  refine T_aload_n (pc := 0) (i := 3) dL_run_0 rfl rfl ?_
  refine T_iconst (pc := 1) (v := nI 0) dL_run_1 (by decide) ?_
  refine T_aload_n (pc := 2) (i := 0) dL_run_2 rfl rfl ?_
  refine T_iload_n (pc := 3) (i := 1) dL_run_3 rfl rfl ?_
  refine T_iload_n (pc := 4) (i := 2) dL_run_4 rfl rfl ?_
  refine T_callVH (pc := 5) (As := [.int (x), .int (y)]) (rest := [.int (nI 0), .ref 594]) (Or.inl lk_L_57) mk_X11_run (k_run hs) kc_0 ⟨by decide, rfl⟩ lc_0 dL_run_5 rfl rfl (Nat.le_of_ble_eq_true rfl) (by decide) (Nat.le_refl _) (Nat.le_refl _) (fun E μ' h => ?_) (fun v μ' h => ?_)
  · obtain ⟨m1, rfl, h1, ht, rfl⟩ := h.no
    have ht2 : mT2 (inB x s.1.F.length) (chkN y 1 200) = 1 ∨ mT2 (inB x s.1.F.length) (chkN y 1 200) = 2 := by have h9 : mT2 (inB x s.1.F.length) (chkN y 1 200) ≤ 2 := mT2_le _ _; omega
    rcases ht2 with e | e
    · have hq := WQ.no (ov := ((if (inB x s.1.F.length && chkN y 1 200) = true then nI (runN s.1 s.2.1.2 x y).1 else nI 0)).toInt64) h1 ht
      rw [e] at hq ⊢
      show Xk _ _ _ _ _ _ _ _ _ _ "java/lang/IndexOutOfBoundsException" _
      exact X_catch (pre := []) (a := 0) (b := 10) (h := 13) (ct := 24) (name := "java/lang/IndexOutOfBoundsException") (n1 := 15) _ rfl (by decide) (by decide) cl_L_24 ca_I (fun z hz => absurd hz List.not_mem_nil) (Or.inr ⟨4, dL_run_13, by decide, rfl⟩) dL_run_15 (by decide) dL_run_16 rfl (Nat.le_refl _) (Nat.le_refl _) hq
    · have hq := WQ.no (ov := ((if (inB x s.1.F.length && chkN y 1 200) = true then nI (runN s.1 s.2.1.2 x y).1 else nI 0)).toInt64) h1 ht
      rw [e] at hq ⊢
      show Xk _ _ _ _ _ _ _ _ _ _ "java/lang/IllegalArgumentException" _
      exact X_catch (pre := [(0, 10, 13, 24)]) (a := 0) (b := 10) (h := 17) (ct := 13) (name := "java/lang/IllegalArgumentException") (n1 := 19) _ rfl (by decide) (by decide) cl_L_13 ca_A (fun z hz => by rw [List.mem_singleton.mp hz]; exact ⟨by decide, "java/lang/IndexOutOfBoundsException", cl_L_24, by decide +kernel⟩) (Or.inr ⟨4, dL_run_17, by decide, rfl⟩) dL_run_19 (by decide) dL_run_20 rfl (Nat.le_refl _) (Nat.le_refl _) hq
  · obtain ⟨m1, rfl, h1, ht, rfl⟩ := h.ok
    have hq := WQ.ok (ov := ((if (inB x s.1.F.length && chkN y 1 200) = true then nI (runN s.1 s.2.1.2 x y).1 else nI 0)).toInt64) h1 ht
    show T _ _ _ _ _ _ _ _ 8 [some (.ref 0), some (.int (x)), some (.int (y)), some (.ref 594), none] [.int ((if (inB x s.1.F.length && chkN y 1 200) = true then nI (runN s.1 s.2.1.2 x y).1 else nI 0)), .int (nI 0), .ref 594] (rm m1)
    refine T_i2l (pc := 8) dL_run_8 ?_
    refine R_last (pc := 9) kc_594 lc_594 (by omega) (by first | decide | assumption) dL_run_9 ?_
    refine T_goto (pc := 10) (tgt := 21) dL_run_10 (by decide) ?_
    refine T_iconst (pc := 21) (v := nI 0) dL_run_21 (by decide) ?_
    exact T_iret (pc := 22) (ty := .int) dL_run_22 rfl rfl (Nat.le_refl _) (Nat.le_refl _) hq
theorem w_put {x : Int32} {y : Int64} {s : Sta} (hs : CAll μ s) : Ex γ 6 2 12 M_L_put [.ref 0, .int x, .long y, .ref 594] (rm μ) (WQ μ (mT2 (inB x s.1.F.length) (codeB y)) ((if (inB x s.1.F.length && codeB y) = true then lN (cd (fAt s.1.F x.toNatClampNeg).1) else lN 0)) ((if (inB x s.1.F.length && codeB y) = true then tdF s.1 x.toNatClampNeg (ml y, 0, List.replicate (ml y).length (-1, -1)) else s.1), s.2.1, (if (inB x s.1.F.length && codeB y) = true then (s.1 :: s.2.2.1).take 16 else s.2.2.1), s.2.2.2)) := by
  refine Ex.ofH (by decide +kernel) (by decide) mk_L_put.1 (Nat.le_of_ble_eq_true rfl) ?_
  show T _ _ _ _ _ _ _ _ 0 [some (.ref 0), some (.int (x)), some (.long (y)), none, some (.ref 594), none] [] (rm μ)
  refine T_aload (pc := 0) (i := 4) dL_put_0 rfl ?_
  refine T_iconst (pc := 2) (v := nI 0) dL_put_2 (by decide) ?_
  refine T_aload_n (pc := 3) (i := 0) dL_put_3 rfl rfl ?_
  refine T_iload_n (pc := 4) (i := 1) dL_put_4 rfl rfl ?_
  refine T_lload_n (pc := 5) (i := 2) dL_put_5 rfl rfl ?_
  refine T_callVH (pc := 6) (As := [.int (x), .long (y)]) (rest := [.int (nI 0), .ref 594]) (Or.inl lk_L_61) mk_X11_put (k_put hs) kc_0 ⟨by decide, rfl⟩ lc_0 dL_put_6 rfl rfl (Nat.le_of_ble_eq_true rfl) (by decide) (Nat.le_refl _) (Nat.le_refl _) (fun E μ' h => ?_) (fun v μ' h => ?_)
  · obtain ⟨m1, rfl, h1, ht, rfl⟩ := h.no
    have ht2 : mT2 (inB x s.1.F.length) (codeB y) = 1 ∨ mT2 (inB x s.1.F.length) (codeB y) = 2 := by have h9 : mT2 (inB x s.1.F.length) (codeB y) ≤ 2 := mT2_le _ _; omega
    rcases ht2 with e | e
    · have hq := WQ.no (ov := (if (inB x s.1.F.length && codeB y) = true then lN (cd (fAt s.1.F x.toNatClampNeg).1) else lN 0)) h1 ht
      rw [e] at hq ⊢
      show Xk _ _ _ _ _ _ _ _ _ _ "java/lang/IndexOutOfBoundsException" _
      exact X_catch (pre := []) (a := 0) (b := 10) (h := 13) (ct := 24) (name := "java/lang/IndexOutOfBoundsException") (n1 := 15) _ rfl (by decide) (by decide) cl_L_24 ca_I (fun z hz => absurd hz List.not_mem_nil) (Or.inr ⟨5, dL_put_13, by decide, rfl⟩) dL_put_15 (by decide) dL_put_16 rfl (Nat.le_refl _) (Nat.le_refl _) hq
    · have hq := WQ.no (ov := (if (inB x s.1.F.length && codeB y) = true then lN (cd (fAt s.1.F x.toNatClampNeg).1) else lN 0)) h1 ht
      rw [e] at hq ⊢
      show Xk _ _ _ _ _ _ _ _ _ _ "java/lang/IllegalArgumentException" _
      exact X_catch (pre := [(0, 10, 13, 24)]) (a := 0) (b := 10) (h := 17) (ct := 13) (name := "java/lang/IllegalArgumentException") (n1 := 19) _ rfl (by decide) (by decide) cl_L_13 ca_A (fun z hz => by rw [List.mem_singleton.mp hz]; exact ⟨by decide, "java/lang/IndexOutOfBoundsException", cl_L_24, by decide +kernel⟩) (Or.inr ⟨5, dL_put_17, by decide, rfl⟩) dL_put_19 (by decide) dL_put_20 rfl (Nat.le_refl _) (Nat.le_refl _) hq
  · obtain ⟨m1, rfl, h1, ht, rfl⟩ := h.ok
    have hq := WQ.ok (ov := (if (inB x s.1.F.length && codeB y) = true then lN (cd (fAt s.1.F x.toNatClampNeg).1) else lN 0)) h1 ht
    show T _ _ _ _ _ _ _ _ 9 [some (.ref 0), some (.int (x)), some (.long (y)), none, some (.ref 594), none] [.long ((if (inB x s.1.F.length && codeB y) = true then lN (cd (fAt s.1.F x.toNatClampNeg).1) else lN 0)), .int (nI 0), .ref 594] (rm m1)
    refine R_last (pc := 9) kc_594 lc_594 (by omega) (by first | decide | assumption) dL_put_9 ?_
    refine T_goto (pc := 10) (tgt := 21) dL_put_10 (by decide) ?_
    refine T_iconst (pc := 21) (v := nI 0) dL_put_21 (by decide) ?_
    exact T_iret (pc := 22) (ty := .int) dL_put_22 rfl rfl (Nat.le_refl _) (Nat.le_refl _) hq
theorem w_add {a : Int64} {b : Int64} {s : Sta} (hs : CAll μ s) : Ex γ 7 5 30 M_L_add [.ref 0, .long a, .long b, .ref 594] (rm μ) (WQ μ (mT2 (addB a b) (decide (s.1.R.length < 12))) (((if (addB a b && decide (s.1.R.length < 12)) = true then nI s.1.R.length else nI 0)).toInt64) ((if (addB a b && decide (s.1.R.length < 12)) = true then (s.1.R ++ [(ml a, ml b)], s.1.2) else s.1), s.2.1, (if (addB a b && decide (s.1.R.length < 12)) = true then (s.1 :: s.2.2.1).take 16 else s.2.2.1), s.2.2.2)) := by
  refine Ex.ofH (by decide +kernel) (by decide) mk_L_add.1 (Nat.le_of_ble_eq_true rfl) ?_
  show T _ _ _ _ _ _ _ _ 0 [some (.ref 0), some (.long (a)), none, some (.long (b)), none, some (.ref 594), none] [] (rm μ)
  refine T_aload (pc := 0) (i := 5) dL_add_0 rfl ?_
  refine T_iconst (pc := 2) (v := nI 0) dL_add_2 (by decide) ?_
  refine T_aload_n (pc := 3) (i := 0) dL_add_3 rfl rfl ?_
  refine T_lload_n (pc := 4) (i := 1) dL_add_4 rfl rfl ?_
  refine T_lload_n (pc := 5) (i := 3) dL_add_5 rfl rfl ?_
  refine T_callVH (pc := 6) (As := [.long (a), .long (b)]) (rest := [.int (nI 0), .ref 594]) (Or.inl lk_L_65) mk_X11_add (k_add hs) kc_0 ⟨by decide, rfl⟩ lc_0 dL_add_6 rfl rfl (Nat.le_of_ble_eq_true rfl) (by decide) (Nat.le_refl _) (Nat.le_refl _) (fun E μ' h => ?_) (fun v μ' h => ?_)
  · obtain ⟨m1, rfl, h1, ht, rfl⟩ := h.no
    have ht2 : mT2 (addB a b) (decide (s.1.R.length < 12)) = 1 ∨ mT2 (addB a b) (decide (s.1.R.length < 12)) = 2 := by have h9 : mT2 (addB a b) (decide (s.1.R.length < 12)) ≤ 2 := mT2_le _ _; omega
    rcases ht2 with e | e
    · have hq := WQ.no (ov := ((if (addB a b && decide (s.1.R.length < 12)) = true then nI s.1.R.length else nI 0)).toInt64) h1 ht
      rw [e] at hq ⊢
      show Xk _ _ _ _ _ _ _ _ _ _ "java/lang/IllegalArgumentException" _
      exact X_catch (pre := []) (a := 0) (b := 11) (h := 14) (ct := 13) (name := "java/lang/IllegalArgumentException") (n1 := 16) _ rfl (by decide) (by decide) cl_L_13 ca_A (fun z hz => absurd hz List.not_mem_nil) (Or.inr ⟨6, dL_add_14, by decide, rfl⟩) dL_add_16 (by decide) dL_add_17 rfl (Nat.le_refl _) (Nat.le_refl _) hq
    · have hq := WQ.no (ov := ((if (addB a b && decide (s.1.R.length < 12)) = true then nI s.1.R.length else nI 0)).toInt64) h1 ht
      rw [e] at hq ⊢
      show Xk _ _ _ _ _ _ _ _ _ _ "java/lang/UnsupportedOperationException" _
      exact X_catch (pre := [(0, 11, 14, 13)]) (a := 0) (b := 11) (h := 18) (ct := 15) (name := "java/lang/UnsupportedOperationException") (n1 := 20) _ rfl (by decide) (by decide) cl_L_15 ca_U (fun z hz => by rw [List.mem_singleton.mp hz]; exact ⟨by decide, "java/lang/IllegalArgumentException", cl_L_13, by decide +kernel⟩) (Or.inr ⟨6, dL_add_18, by decide, rfl⟩) dL_add_20 (by decide) dL_add_21 rfl (Nat.le_refl _) (Nat.le_refl _) hq
  · obtain ⟨m1, rfl, h1, ht, rfl⟩ := h.ok
    have hq := WQ.ok (ov := ((if (addB a b && decide (s.1.R.length < 12)) = true then nI s.1.R.length else nI 0)).toInt64) h1 ht
    show T _ _ _ _ _ _ _ _ 9 [some (.ref 0), some (.long (a)), none, some (.long (b)), none, some (.ref 594), none] [.int ((if (addB a b && decide (s.1.R.length < 12)) = true then nI s.1.R.length else nI 0)), .int (nI 0), .ref 594] (rm m1)
    refine T_i2l (pc := 9) dL_add_9 ?_
    refine R_last (pc := 10) kc_594 lc_594 (by omega) (by first | decide | assumption) dL_add_10 ?_
    refine T_goto (pc := 11) (tgt := 22) dL_add_11 (by decide) ?_
    refine T_iconst (pc := 22) (v := nI 0) dL_add_22 (by decide) ?_
    exact T_iret (pc := 23) (ty := .int) dL_add_23 rfl rfl (Nat.le_refl _) (Nat.le_refl _) hq
theorem w_drop {x : Int32} {s : Sta} (hs : CAll μ s) : Ex γ 6 1 6 M_L_drop [.ref 0, .int x, .ref 594] (rm μ) (WQ μ (mT1 (inB x s.1.R.length)) (((if inB x s.1.R.length = true then nI (s.1.R.length - 1) else nI 0)).toInt64) ((if inB x s.1.R.length = true then (s.1.R.eraseIdx x.toNatClampNeg, s.1.2) else s.1), s.2.1, (if inB x s.1.R.length = true then (s.1 :: s.2.2.1).take 16 else s.2.2.1), s.2.2.2)) := by
  refine Ex.ofH (by decide +kernel) (by decide) mk_L_drop.1 (Nat.le_of_ble_eq_true rfl) ?_
  show T _ _ _ _ _ _ _ _ 0 [some (.ref 0), some (.int (x)), some (.ref 594), none] [] (rm μ)
  refine T_aload_n (pc := 0) (i := 2) dL_drop_0 rfl rfl ?_
  refine T_iconst (pc := 1) (v := nI 0) dL_drop_1 (by decide) ?_
  refine T_aload_n (pc := 2) (i := 0) dL_drop_2 rfl rfl ?_
  refine T_iload_n (pc := 3) (i := 1) dL_drop_3 rfl rfl ?_
  refine T_callVH (pc := 4) (As := [.int (x)]) (rest := [.int (nI 0), .ref 594]) (Or.inl lk_L_69) mk_X11_drop (k_drop hs) kc_0 ⟨by decide, rfl⟩ lc_0 dL_drop_4 rfl rfl (Nat.le_of_ble_eq_true rfl) (by decide) (Nat.le_refl _) (Nat.le_refl _) (fun E μ' h => ?_) (fun v μ' h => ?_)
  · obtain ⟨m1, rfl, h1, ht, rfl⟩ := h.no
    have ht2 : mT1 (inB x s.1.R.length) = 1 := by have h9 : mT1 (inB x s.1.R.length) ≤ 1 := mT1_le _; omega
    rcases Or.inl (b := False) ht2 with e | e
    · have hq := WQ.no (ov := ((if inB x s.1.R.length = true then nI (s.1.R.length - 1) else nI 0)).toInt64) h1 ht
      rw [e] at hq ⊢
      show Xk _ _ _ _ _ _ _ _ _ _ "java/lang/IndexOutOfBoundsException" _
      exact X_catch (pre := []) (a := 0) (b := 9) (h := 12) (ct := 24) (name := "java/lang/IndexOutOfBoundsException") (n1 := 13) _ rfl (by decide) (by decide) cl_L_24 ca_I (fun z hz => absurd hz List.not_mem_nil) (Or.inl ⟨3, dL_drop_12, by decide, rfl⟩) dL_drop_13 (by decide) dL_drop_14 rfl (Nat.le_refl _) (Nat.le_refl _) hq
    · exact e.elim
  · obtain ⟨m1, rfl, h1, ht, rfl⟩ := h.ok
    have hq := WQ.ok (ov := ((if inB x s.1.R.length = true then nI (s.1.R.length - 1) else nI 0)).toInt64) h1 ht
    show T _ _ _ _ _ _ _ _ 7 [some (.ref 0), some (.int (x)), some (.ref 594), none] [.int ((if inB x s.1.R.length = true then nI (s.1.R.length - 1) else nI 0)), .int (nI 0), .ref 594] (rm m1)
    refine T_i2l (pc := 7) dL_drop_7 ?_
    refine R_last (pc := 8) kc_594 lc_594 (by omega) (by first | decide | assumption) dL_drop_8 ?_
    refine T_goto (pc := 9) (tgt := 15) dL_drop_9 (by decide) ?_
    refine T_iconst (pc := 15) (v := nI 0) dL_drop_15 (by decide) ?_
    exact T_iret (pc := 16) (ty := .int) dL_drop_16 rfl rfl (Nat.le_refl _) (Nat.le_refl _) hq
theorem w_years {x : Int32} {y : Int32} {s : Sta} (hs : CAll μ s) : Ex γ 8 2 12 M_L_years [.ref 0, .int x, .int y, .ref 594] (rm μ) (WQ μ (mT2 (inB x s.1.F.length) (chkN y 1 200)) (((if (inB x s.1.F.length && chkN y 1 200) = true then nI (yrsN s.2.1.2 x.toNatClampNeg y.toNatClampNeg s.1).1 else nI 0)).toInt64) ((if (inB x s.1.F.length && chkN y 1 200) = true then (yrsN s.2.1.2 x.toNatClampNeg y.toNatClampNeg s.1).2 else s.1), s.2.1, (if (inB x s.1.F.length && chkN y 1 200) = true then (s.1 :: s.2.2.1).take 16 else s.2.2.1), s.2.2.2)) := by
  refine Ex.ofH (by decide +kernel) (by decide) mk_L_years.1 (Nat.le_of_ble_eq_true rfl) ?_
  show T _ _ _ _ _ _ _ _ 0 [some (.ref 0), some (.int (x)), some (.int (y)), some (.ref 594), none] [] (rm μ)
  refine T_aload_n (pc := 0) (i := 3) dL_years_0 rfl rfl ?_
  refine T_iconst (pc := 1) (v := nI 0) dL_years_1 (by decide) ?_
  refine T_aload_n (pc := 2) (i := 0) dL_years_2 rfl rfl ?_
  refine T_iload_n (pc := 3) (i := 1) dL_years_3 rfl rfl ?_
  refine T_iload_n (pc := 4) (i := 2) dL_years_4 rfl rfl ?_
  refine T_callVH (pc := 5) (As := [.int (x), .int (y)]) (rest := [.int (nI 0), .ref 594]) (Or.inl lk_L_72) mk_X11_years (k_years hs) kc_0 ⟨by decide, rfl⟩ lc_0 dL_years_5 rfl rfl (Nat.le_of_ble_eq_true rfl) (by decide) (Nat.le_refl _) (Nat.le_refl _) (fun E μ' h => ?_) (fun v μ' h => ?_)
  · obtain ⟨m1, rfl, h1, ht, rfl⟩ := h.no
    have ht2 : mT2 (inB x s.1.F.length) (chkN y 1 200) = 1 ∨ mT2 (inB x s.1.F.length) (chkN y 1 200) = 2 := by have h9 : mT2 (inB x s.1.F.length) (chkN y 1 200) ≤ 2 := mT2_le _ _; omega
    rcases ht2 with e | e
    · have hq := WQ.no (ov := ((if (inB x s.1.F.length && chkN y 1 200) = true then nI (yrsN s.2.1.2 x.toNatClampNeg y.toNatClampNeg s.1).1 else nI 0)).toInt64) h1 ht
      rw [e] at hq ⊢
      show Xk _ _ _ _ _ _ _ _ _ _ "java/lang/IndexOutOfBoundsException" _
      exact X_catch (pre := []) (a := 0) (b := 10) (h := 13) (ct := 24) (name := "java/lang/IndexOutOfBoundsException") (n1 := 15) _ rfl (by decide) (by decide) cl_L_24 ca_I (fun z hz => absurd hz List.not_mem_nil) (Or.inr ⟨4, dL_years_13, by decide, rfl⟩) dL_years_15 (by decide) dL_years_16 rfl (Nat.le_refl _) (Nat.le_refl _) hq
    · have hq := WQ.no (ov := ((if (inB x s.1.F.length && chkN y 1 200) = true then nI (yrsN s.2.1.2 x.toNatClampNeg y.toNatClampNeg s.1).1 else nI 0)).toInt64) h1 ht
      rw [e] at hq ⊢
      show Xk _ _ _ _ _ _ _ _ _ _ "java/lang/IllegalArgumentException" _
      exact X_catch (pre := [(0, 10, 13, 24)]) (a := 0) (b := 10) (h := 17) (ct := 13) (name := "java/lang/IllegalArgumentException") (n1 := 19) _ rfl (by decide) (by decide) cl_L_13 ca_A (fun z hz => by rw [List.mem_singleton.mp hz]; exact ⟨by decide, "java/lang/IndexOutOfBoundsException", cl_L_24, by decide +kernel⟩) (Or.inr ⟨4, dL_years_17, by decide, rfl⟩) dL_years_19 (by decide) dL_years_20 rfl (Nat.le_refl _) (Nat.le_refl _) hq
  · obtain ⟨m1, rfl, h1, ht, rfl⟩ := h.ok
    have hq := WQ.ok (ov := ((if (inB x s.1.F.length && chkN y 1 200) = true then nI (yrsN s.2.1.2 x.toNatClampNeg y.toNatClampNeg s.1).1 else nI 0)).toInt64) h1 ht
    show T _ _ _ _ _ _ _ _ 8 [some (.ref 0), some (.int (x)), some (.int (y)), some (.ref 594), none] [.int ((if (inB x s.1.F.length && chkN y 1 200) = true then nI (yrsN s.2.1.2 x.toNatClampNeg y.toNatClampNeg s.1).1 else nI 0)), .int (nI 0), .ref 594] (rm m1)
    refine T_i2l (pc := 8) dL_years_8 ?_
    refine R_last (pc := 9) kc_594 lc_594 (by omega) (by first | decide | assumption) dL_years_9 ?_
    refine T_goto (pc := 10) (tgt := 21) dL_years_10 (by decide) ?_
    refine T_iconst (pc := 21) (v := nI 0) dL_years_21 (by decide) ?_
    exact T_iret (pc := 22) (ty := .int) dL_years_22 rfl rfl (Nat.le_refl _) (Nat.le_refl _) hq
theorem w_settles {x : Int64} {y : Int32} {b : Bool} {s : Sta} (hs : CAll μ s) : Ex γ 7 2 12 M_L_settles [.ref 0, .long x, .int y, .int (bI b), .ref 594] (rm μ) (WQ μ (mT1 (codeB x && chkN y 0 500)) ((if (codeB x && chkN y 0 500) = true then setV (stl (nxR s.1.R (wOf s.1 s.2.1.2)) y.toNatClampNeg (ml x)) b else lN 0)) s) := by
  refine Ex.ofH (by decide +kernel) (by decide) mk_L_settles.1 (Nat.le_of_ble_eq_true rfl) ?_
  show T _ _ _ _ _ _ _ _ 0 [some (.ref 0), some (.long (x)), none, some (.int (y)), some (.int (bI b)), some (.ref 594), none] [] (rm μ)
  refine T_aload (pc := 0) (i := 5) dL_settles_0 rfl ?_
  refine T_iconst (pc := 2) (v := nI 0) dL_settles_2 (by decide) ?_
  refine T_aload_n (pc := 3) (i := 0) dL_settles_3 rfl rfl ?_
  refine T_lload_n (pc := 4) (i := 1) dL_settles_4 rfl rfl ?_
  refine T_iload_n (pc := 5) (i := 3) dL_settles_5 rfl rfl ?_
  refine T_iload (pc := 6) (i := 4) dL_settles_6 rfl ?_
  refine T_callVH (pc := 8) (As := [.long (x), .int (y), .int (bI b)]) (rest := [.int (nI 0), .ref 594]) (Or.inl lk_L_75) mk_X11_settles (k_settles hs) kc_0 ⟨by decide, rfl⟩ lc_0 dL_settles_8 rfl rfl (Nat.le_of_ble_eq_true rfl) (by decide) (Nat.le_refl _) (Nat.le_refl _) (fun E μ' h => ?_) (fun v μ' h => ?_)
  · obtain ⟨m1, rfl, h1, ht, rfl⟩ := h.no
    have ht2 : mT1 (codeB x && chkN y 0 500) = 1 := by have h9 : mT1 (codeB x && chkN y 0 500) ≤ 1 := mT1_le _; omega
    rcases Or.inl (b := False) ht2 with e | e
    · have hq := WQ.no (ov := (if (codeB x && chkN y 0 500) = true then setV (stl (nxR s.1.R (wOf s.1 s.2.1.2)) y.toNatClampNeg (ml x)) b else lN 0)) h1 ht
      rw [e] at hq ⊢
      show Xk _ _ _ _ _ _ _ _ _ _ "java/lang/IllegalArgumentException" _
      exact X_catch (pre := []) (a := 0) (b := 12) (h := 15) (ct := 13) (name := "java/lang/IllegalArgumentException") (n1 := 17) _ rfl (by decide) (by decide) cl_L_13 ca_A (fun z hz => absurd hz List.not_mem_nil) (Or.inr ⟨6, dL_settles_15, by decide, rfl⟩) dL_settles_17 (by decide) dL_settles_18 rfl (Nat.le_refl _) (Nat.le_refl _) hq
    · exact e.elim
  · obtain ⟨m1, rfl, h1, ht, rfl⟩ := h.ok
    have hq := WQ.ok (ov := (if (codeB x && chkN y 0 500) = true then setV (stl (nxR s.1.R (wOf s.1 s.2.1.2)) y.toNatClampNeg (ml x)) b else lN 0)) h1 ht
    show T _ _ _ _ _ _ _ _ 11 [some (.ref 0), some (.long (x)), none, some (.int (y)), some (.int (bI b)), some (.ref 594), none] [.long ((if (codeB x && chkN y 0 500) = true then setV (stl (nxR s.1.R (wOf s.1 s.2.1.2)) y.toNatClampNeg (ml x)) b else lN 0)), .int (nI 0), .ref 594] (rm m1)
    refine R_last (pc := 11) kc_594 lc_594 (by omega) (by first | decide | assumption) dL_settles_11 ?_
    refine T_goto (pc := 12) (tgt := 19) dL_settles_12 (by decide) ?_
    refine T_iconst (pc := 19) (v := nI 0) dL_settles_19 (by decide) ?_
    exact T_iret (pc := 20) (ty := .int) dL_settles_20 rfl rfl (Nat.le_refl _) (Nat.le_refl _) hq
theorem w_again {x : Int64} {b : Bool} {s : Sta} (hs : CAll μ s) : Ex γ 7 1 6 M_L_again [.ref 0, .long x, .int (bI b), .ref 594] (rm μ) (WQ μ (mT1 (codeB x)) (((if codeB x = true then agV (agN (nxR s.1.R (wOf s.1 s.2.1.2)) 500 [ml x] (ml x)) b else nI 0)).toInt64) s) := by
  refine Ex.ofH (by decide +kernel) (by decide) mk_L_again.1 (Nat.le_of_ble_eq_true rfl) ?_
  show T _ _ _ _ _ _ _ _ 0 [some (.ref 0), some (.long (x)), none, some (.int (bI b)), some (.ref 594), none] [] (rm μ)
  refine T_aload (pc := 0) (i := 4) dL_again_0 rfl ?_
  refine T_iconst (pc := 2) (v := nI 0) dL_again_2 (by decide) ?_
  refine T_aload_n (pc := 3) (i := 0) dL_again_3 rfl rfl ?_
  refine T_lload_n (pc := 4) (i := 1) dL_again_4 rfl rfl ?_
  refine T_iload_n (pc := 5) (i := 3) dL_again_5 rfl rfl ?_
  refine T_callVH (pc := 6) (As := [.long (x), .int (bI b)]) (rest := [.int (nI 0), .ref 594]) (Or.inl lk_L_79) mk_X11_again (k_again hs) kc_0 ⟨by decide, rfl⟩ lc_0 dL_again_6 rfl rfl (Nat.le_of_ble_eq_true rfl) (by decide) (Nat.le_refl _) (Nat.le_refl _) (fun E μ' h => ?_) (fun v μ' h => ?_)
  · obtain ⟨m1, rfl, h1, ht, rfl⟩ := h.no
    have ht2 : mT1 (codeB x) = 1 := by have h9 : mT1 (codeB x) ≤ 1 := mT1_le _; omega
    rcases Or.inl (b := False) ht2 with e | e
    · have hq := WQ.no (ov := ((if codeB x = true then agV (agN (nxR s.1.R (wOf s.1 s.2.1.2)) 500 [ml x] (ml x)) b else nI 0)).toInt64) h1 ht
      rw [e] at hq ⊢
      show Xk _ _ _ _ _ _ _ _ _ _ "java/lang/IllegalArgumentException" _
      exact X_catch (pre := []) (a := 0) (b := 11) (h := 14) (ct := 13) (name := "java/lang/IllegalArgumentException") (n1 := 16) _ rfl (by decide) (by decide) cl_L_13 ca_A (fun z hz => absurd hz List.not_mem_nil) (Or.inr ⟨5, dL_again_14, by decide, rfl⟩) dL_again_16 (by decide) dL_again_17 rfl (Nat.le_refl _) (Nat.le_refl _) hq
    · exact e.elim
  · obtain ⟨m1, rfl, h1, ht, rfl⟩ := h.ok
    have hq := WQ.ok (ov := ((if codeB x = true then agV (agN (nxR s.1.R (wOf s.1 s.2.1.2)) 500 [ml x] (ml x)) b else nI 0)).toInt64) h1 ht
    show T _ _ _ _ _ _ _ _ 9 [some (.ref 0), some (.long (x)), none, some (.int (bI b)), some (.ref 594), none] [.int ((if codeB x = true then agV (agN (nxR s.1.R (wOf s.1 s.2.1.2)) 500 [ml x] (ml x)) b else nI 0)), .int (nI 0), .ref 594] (rm m1)
    refine T_i2l (pc := 9) dL_again_9 ?_
    refine R_last (pc := 10) kc_594 lc_594 (by omega) (by first | decide | assumption) dL_again_10 ?_
    refine T_goto (pc := 11) (tgt := 18) dL_again_11 (by decide) ?_
    refine T_iconst (pc := 18) (v := nI 0) dL_again_18 (by decide) ?_
    exact T_iret (pc := 19) (ty := .int) dL_again_19 rfl rfl (Nat.le_refl _) (Nat.le_refl _) hq
theorem w_alike {x : Int64} {y : Int64} {s : Sta} (hs : CAll μ s) : Ex γ 7 2 12 M_L_alike [.ref 0, .long x, .long y, .ref 594] (rm μ) (WQ μ (mT1 (codeB x && codeB y)) ((if ((codeB x && codeB y) && alkB s.1.R (wOf s.1 s.2.1.2) (ml x) (ml y)) = true then lN 1 else lN 0)) s) := by
  refine Ex.ofH (by decide +kernel) (by decide) mk_L_alike.1 (Nat.le_of_ble_eq_true rfl) ?_
  show T _ _ _ _ _ _ _ _ 0 [some (.ref 0), some (.long (x)), none, some (.long (y)), none, some (.ref 594), none] [] (rm μ)
  refine T_aload (pc := 0) (i := 5) dL_alike_0 rfl ?_
  refine T_iconst (pc := 2) (v := nI 0) dL_alike_2 (by decide) ?_
  refine T_aload_n (pc := 3) (i := 0) dL_alike_3 rfl rfl ?_
  refine T_lload_n (pc := 4) (i := 1) dL_alike_4 rfl rfl ?_
  refine T_lload_n (pc := 5) (i := 3) dL_alike_5 rfl rfl ?_
  refine T_callVH (pc := 6) (As := [.long (x), .long (y)]) (rest := [.int (nI 0), .ref 594]) (Or.inl lk_L_83) mk_X11_alike (k_alike hs) kc_0 ⟨by decide, rfl⟩ lc_0 dL_alike_6 rfl rfl (Nat.le_of_ble_eq_true rfl) (by decide) (Nat.le_refl _) (Nat.le_refl _) (fun E μ' h => ?_) (fun v μ' h => ?_)
  · obtain ⟨m1, rfl, h1, ht, rfl⟩ := h.no
    have ht2 : mT1 (codeB x && codeB y) = 1 := by have h9 : mT1 (codeB x && codeB y) ≤ 1 := mT1_le _; omega
    rcases Or.inl (b := False) ht2 with e | e
    · have hq := WQ.no (ov := (if ((codeB x && codeB y) && alkB s.1.R (wOf s.1 s.2.1.2) (ml x) (ml y)) = true then lN 1 else lN 0)) h1 ht
      rw [e] at hq ⊢
      show Xk _ _ _ _ _ _ _ _ _ _ "java/lang/IllegalArgumentException" _
      exact X_catch (pre := []) (a := 0) (b := 18) (h := 21) (ct := 13) (name := "java/lang/IllegalArgumentException") (n1 := 23) _ rfl (by decide) (by decide) cl_L_13 ca_A (fun z hz => absurd hz List.not_mem_nil) (Or.inr ⟨6, dL_alike_21, by decide, rfl⟩) dL_alike_23 (by decide) dL_alike_24 rfl (Nat.le_refl _) (Nat.le_refl _) hq
    · exact e.elim
  · obtain ⟨m1, rfl, h1, ht, rfl⟩ := h.ok
    have hq := WQ.ok (ov := (if ((codeB x && codeB y) && alkB s.1.R (wOf s.1 s.2.1.2) (ml x) (ml y)) = true then lN 1 else lN 0)) h1 ht
    cases e : (((codeB x && codeB y) && alkB s.1.R (wOf s.1 s.2.1.2) (ml x) (ml y))) with
    | false =>
      rw [e] at hq
      show T _ _ _ _ _ _ _ _ 9 [some (.ref 0), some (.long (x)), none, some (.long (y)), none, some (.ref 594), none] [.int (bI false), .int (nI 0), .ref 594] (rm m1)
      refine R_ifb_eq (pc := 9) (tgt := 16) dL_alike_9 (by decide) (fun g1 => ?_) (fun g1 => ?_)
      · skip
        refine T_lconst (pc := 16) (v := lN 0) dL_alike_16 rfl ?_
        refine R_last (pc := 17) kc_594 lc_594 (by omega) (by first | decide | assumption) dL_alike_17 ?_
        refine T_goto (pc := 18) (tgt := 25) dL_alike_18 (by decide) ?_
        refine T_iconst (pc := 25) (v := nI 0) dL_alike_25 (by decide) ?_
        exact T_iret (pc := 26) (ty := .int) dL_alike_26 rfl rfl (Nat.le_refl _) (Nat.le_refl _) hq
      · exact absurd g1 (by decide)
    | true =>
      rw [e] at hq
      show T _ _ _ _ _ _ _ _ 9 [some (.ref 0), some (.long (x)), none, some (.long (y)), none, some (.ref 594), none] [.int (bI true), .int (nI 0), .ref 594] (rm m1)
      refine R_ifb_eq (pc := 9) (tgt := 16) dL_alike_9 (by decide) (fun g1 => ?_) (fun g1 => ?_)
      · exact absurd g1 (by decide)
      · skip
        refine T_lconst (pc := 12) (v := lN 1) dL_alike_12 rfl ?_
        refine T_goto (pc := 13) (tgt := 17) dL_alike_13 (by decide) ?_
        refine R_last (pc := 17) kc_594 lc_594 (by omega) (by first | decide | assumption) dL_alike_17 ?_
        refine T_goto (pc := 18) (tgt := 25) dL_alike_18 (by decide) ?_
        refine T_iconst (pc := 25) (v := nI 0) dL_alike_25 (by decide) ?_
        exact T_iret (pc := 26) (ty := .int) dL_alike_26 rfl rfl (Nat.le_refl _) (Nat.le_refl _) hq
theorem w_becomes {x : Int64} {y : Int32} {z : Int32} {s : Sta} (hs : CAll μ s) : Ex γ 8 3 18 M_L_becomes [.ref 0, .long x, .int y, .int z, .ref 594] (rm μ) (WQ μ (mT2 (codeB x && chkN y 0 40) (inB z 4)) ((if ((codeB x && chkN y 0 40) && inB z 4) = true then becV s.1.R (wOf s.1 s.2.1.2) (ml x) y.toNatClampNeg z.toNatClampNeg else lN 0)) s) := by
  refine Ex.ofH (by decide +kernel) (by decide) mk_L_becomes.1 (Nat.le_of_ble_eq_true rfl) ?_
  show T _ _ _ _ _ _ _ _ 0 [some (.ref 0), some (.long (x)), none, some (.int (y)), some (.int (z)), some (.ref 594), none] [] (rm μ)
  refine T_aload (pc := 0) (i := 5) dL_becomes_0 rfl ?_
  refine T_iconst (pc := 2) (v := nI 0) dL_becomes_2 (by decide) ?_
  refine T_aload_n (pc := 3) (i := 0) dL_becomes_3 rfl rfl ?_
  refine T_lload_n (pc := 4) (i := 1) dL_becomes_4 rfl rfl ?_
  refine T_iload_n (pc := 5) (i := 3) dL_becomes_5 rfl rfl ?_
  refine T_iload (pc := 6) (i := 4) dL_becomes_6 rfl ?_
  refine T_callVH (pc := 8) (As := [.long (x), .int (y), .int (z)]) (rest := [.int (nI 0), .ref 594]) (Or.inl lk_L_87) mk_X11_becomes (k_becomes hs) kc_0 ⟨by decide, rfl⟩ lc_0 dL_becomes_8 rfl rfl (Nat.le_of_ble_eq_true rfl) (by decide) (Nat.le_refl _) (Nat.le_refl _) (fun E μ' h => ?_) (fun v μ' h => ?_)
  · obtain ⟨m1, rfl, h1, ht, rfl⟩ := h.no
    have ht2 : mT2 (codeB x && chkN y 0 40) (inB z 4) = 1 ∨ mT2 (codeB x && chkN y 0 40) (inB z 4) = 2 := by have h9 : mT2 (codeB x && chkN y 0 40) (inB z 4) ≤ 2 := mT2_le _ _; omega
    rcases ht2 with e | e
    · have hq := WQ.no (ov := (if ((codeB x && chkN y 0 40) && inB z 4) = true then becV s.1.R (wOf s.1 s.2.1.2) (ml x) y.toNatClampNeg z.toNatClampNeg else lN 0)) h1 ht
      rw [e] at hq ⊢
      show Xk _ _ _ _ _ _ _ _ _ _ "java/lang/IllegalArgumentException" _
      exact X_catch (pre := []) (a := 0) (b := 12) (h := 15) (ct := 13) (name := "java/lang/IllegalArgumentException") (n1 := 17) _ rfl (by decide) (by decide) cl_L_13 ca_A (fun z hz => absurd hz List.not_mem_nil) (Or.inr ⟨6, dL_becomes_15, by decide, rfl⟩) dL_becomes_17 (by decide) dL_becomes_18 rfl (Nat.le_refl _) (Nat.le_refl _) hq
    · have hq := WQ.no (ov := (if ((codeB x && chkN y 0 40) && inB z 4) = true then becV s.1.R (wOf s.1 s.2.1.2) (ml x) y.toNatClampNeg z.toNatClampNeg else lN 0)) h1 ht
      rw [e] at hq ⊢
      show Xk _ _ _ _ _ _ _ _ _ _ "java/util/NoSuchElementException" _
      exact X_catch (pre := [(0, 12, 15, 13)]) (a := 0) (b := 12) (h := 19) (ct := 45) (name := "java/util/NoSuchElementException") (n1 := 21) _ rfl (by decide) (by decide) cl_L_45 ca_N (fun z hz => by rw [List.mem_singleton.mp hz]; exact ⟨by decide, "java/lang/IllegalArgumentException", cl_L_13, by decide +kernel⟩) (Or.inr ⟨6, dL_becomes_19, by decide, rfl⟩) dL_becomes_21 (by decide) dL_becomes_22 rfl (Nat.le_refl _) (Nat.le_refl _) hq
  · obtain ⟨m1, rfl, h1, ht, rfl⟩ := h.ok
    have hq := WQ.ok (ov := (if ((codeB x && chkN y 0 40) && inB z 4) = true then becV s.1.R (wOf s.1 s.2.1.2) (ml x) y.toNatClampNeg z.toNatClampNeg else lN 0)) h1 ht
    show T _ _ _ _ _ _ _ _ 11 [some (.ref 0), some (.long (x)), none, some (.int (y)), some (.int (z)), some (.ref 594), none] [.long ((if ((codeB x && chkN y 0 40) && inB z 4) = true then becV s.1.R (wOf s.1 s.2.1.2) (ml x) y.toNatClampNeg z.toNatClampNeg else lN 0)), .int (nI 0), .ref 594] (rm m1)
    refine R_last (pc := 11) kc_594 lc_594 (by omega) (by first | decide | assumption) dL_becomes_11 ?_
    refine T_goto (pc := 12) (tgt := 23) dL_becomes_12 (by decide) ?_
    refine T_iconst (pc := 23) (v := nI 0) dL_becomes_23 (by decide) ?_
    exact T_iret (pc := 24) (ty := .int) dL_becomes_24 rfl rfl (Nat.le_refl _) (Nat.le_refl _) hq
theorem w_fewest {x : Int64} {y : Int64} {s : Sta} (hs : CAll μ s) : Ex γ 7 2 12 M_L_fewest [.ref 0, .long x, .long y, .ref 594] (rm μ) (WQ μ (mT1 (codeB x && codeB y)) (((if (codeB x && codeB y) = true then fwN s.1.R (wOf s.1 s.2.1.2) (ml y) 1501 [(ml x, 0)] 0 0 else nI 0)).toInt64) s) := by
  refine Ex.ofH (by decide +kernel) (by decide) mk_L_fewest.1 (Nat.le_of_ble_eq_true rfl) ?_
  show T _ _ _ _ _ _ _ _ 0 [some (.ref 0), some (.long (x)), none, some (.long (y)), none, some (.ref 594), none] [] (rm μ)
  refine T_aload (pc := 0) (i := 5) dL_fewest_0 rfl ?_
  refine T_iconst (pc := 2) (v := nI 0) dL_fewest_2 (by decide) ?_
  refine T_aload_n (pc := 3) (i := 0) dL_fewest_3 rfl rfl ?_
  refine T_lload_n (pc := 4) (i := 1) dL_fewest_4 rfl rfl ?_
  refine T_lload_n (pc := 5) (i := 3) dL_fewest_5 rfl rfl ?_
  refine T_callVH (pc := 6) (As := [.long (x), .long (y)]) (rest := [.int (nI 0), .ref 594]) (Or.inl lk_L_91) mk_X11_fewest (k_fewest hs) kc_0 ⟨by decide, rfl⟩ lc_0 dL_fewest_6 rfl rfl (Nat.le_of_ble_eq_true rfl) (by decide) (Nat.le_refl _) (Nat.le_refl _) (fun E μ' h => ?_) (fun v μ' h => ?_)
  · obtain ⟨m1, rfl, h1, ht, rfl⟩ := h.no
    have ht2 : mT1 (codeB x && codeB y) = 1 := by have h9 : mT1 (codeB x && codeB y) ≤ 1 := mT1_le _; omega
    rcases Or.inl (b := False) ht2 with e | e
    · have hq := WQ.no (ov := ((if (codeB x && codeB y) = true then fwN s.1.R (wOf s.1 s.2.1.2) (ml y) 1501 [(ml x, 0)] 0 0 else nI 0)).toInt64) h1 ht
      rw [e] at hq ⊢
      show Xk _ _ _ _ _ _ _ _ _ _ "java/lang/IllegalArgumentException" _
      exact X_catch (pre := []) (a := 0) (b := 11) (h := 14) (ct := 13) (name := "java/lang/IllegalArgumentException") (n1 := 16) _ rfl (by decide) (by decide) cl_L_13 ca_A (fun z hz => absurd hz List.not_mem_nil) (Or.inr ⟨6, dL_fewest_14, by decide, rfl⟩) dL_fewest_16 (by decide) dL_fewest_17 rfl (Nat.le_refl _) (Nat.le_refl _) hq
    · exact e.elim
  · obtain ⟨m1, rfl, h1, ht, rfl⟩ := h.ok
    have hq := WQ.ok (ov := ((if (codeB x && codeB y) = true then fwN s.1.R (wOf s.1 s.2.1.2) (ml y) 1501 [(ml x, 0)] 0 0 else nI 0)).toInt64) h1 ht
    show T _ _ _ _ _ _ _ _ 9 [some (.ref 0), some (.long (x)), none, some (.long (y)), none, some (.ref 594), none] [.int ((if (codeB x && codeB y) = true then fwN s.1.R (wOf s.1 s.2.1.2) (ml y) 1501 [(ml x, 0)] 0 0 else nI 0)), .int (nI 0), .ref 594] (rm m1)
    refine T_i2l (pc := 9) dL_fewest_9 ?_
    refine R_last (pc := 10) kc_594 lc_594 (by omega) (by first | decide | assumption) dL_fewest_10 ?_
    refine T_goto (pc := 11) (tgt := 18) dL_fewest_11 (by decide) ?_
    refine T_iconst (pc := 18) (v := nI 0) dL_fewest_18 (by decide) ?_
    exact T_iret (pc := 19) (ty := .int) dL_fewest_19 rfl rfl (Nat.le_refl _) (Nat.le_refl _) hq
theorem w_meets {x : Int64} {y : Int64} {z : Int32} {b : Bool} {s : Sta} (hs : CAll μ s) : Ex γ 8 3 18 M_L_meets [.ref 0, .long x, .long y, .int z, .int (bI b), .ref 594] (rm μ) (WQ μ (mT1 ((codeB x && codeB y) && chkN z 0 12)) ((if ((codeB x && codeB y) && chkN z 0 12) = true then meV s.1.R (wOf s.1 s.2.1.2) (ml x) (ml y) z.toNatClampNeg b else lN 0)) s) := by
  refine Ex.ofH (by decide +kernel) (by decide) mk_L_meets.1 (Nat.le_of_ble_eq_true rfl) ?_
  show T _ _ _ _ _ _ _ _ 0 [some (.ref 0), some (.long (x)), none, some (.long (y)), none, some (.int (z)), some (.int (bI b)), some (.ref 594), none] [] (rm μ)
  refine T_aload (pc := 0) (i := 7) dL_meets_0 rfl ?_
  refine T_iconst (pc := 2) (v := nI 0) dL_meets_2 (by decide) ?_
  refine T_aload_n (pc := 3) (i := 0) dL_meets_3 rfl rfl ?_
  refine T_lload_n (pc := 4) (i := 1) dL_meets_4 rfl rfl ?_
  refine T_lload_n (pc := 5) (i := 3) dL_meets_5 rfl rfl ?_
  refine T_iload (pc := 6) (i := 5) dL_meets_6 rfl ?_
  refine T_iload (pc := 8) (i := 6) dL_meets_8 rfl ?_
  refine T_callVH (pc := 10) (As := [.long (x), .long (y), .int (z), .int (bI b)]) (rest := [.int (nI 0), .ref 594]) (Or.inl lk_L_94) mk_X11_meets (k_meets hs) kc_0 ⟨by decide, rfl⟩ lc_0 dL_meets_10 rfl rfl (Nat.le_of_ble_eq_true rfl) (by decide) (Nat.le_refl _) (Nat.le_refl _) (fun E μ' h => ?_) (fun v μ' h => ?_)
  · obtain ⟨m1, rfl, h1, ht, rfl⟩ := h.no
    have ht2 : mT1 ((codeB x && codeB y) && chkN z 0 12) = 1 := by have h9 : mT1 ((codeB x && codeB y) && chkN z 0 12) ≤ 1 := mT1_le _; omega
    rcases Or.inl (b := False) ht2 with e | e
    · have hq := WQ.no (ov := (if ((codeB x && codeB y) && chkN z 0 12) = true then meV s.1.R (wOf s.1 s.2.1.2) (ml x) (ml y) z.toNatClampNeg b else lN 0)) h1 ht
      rw [e] at hq ⊢
      show Xk _ _ _ _ _ _ _ _ _ _ "java/lang/IllegalArgumentException" _
      exact X_catch (pre := []) (a := 0) (b := 14) (h := 17) (ct := 13) (name := "java/lang/IllegalArgumentException") (n1 := 19) _ rfl (by decide) (by decide) cl_L_13 ca_A (fun z hz => absurd hz List.not_mem_nil) (Or.inr ⟨8, dL_meets_17, by decide, rfl⟩) dL_meets_19 (by decide) dL_meets_20 rfl (Nat.le_refl _) (Nat.le_refl _) hq
    · exact e.elim
  · obtain ⟨m1, rfl, h1, ht, rfl⟩ := h.ok
    have hq := WQ.ok (ov := (if ((codeB x && codeB y) && chkN z 0 12) = true then meV s.1.R (wOf s.1 s.2.1.2) (ml x) (ml y) z.toNatClampNeg b else lN 0)) h1 ht
    show T _ _ _ _ _ _ _ _ 13 [some (.ref 0), some (.long (x)), none, some (.long (y)), none, some (.int (z)), some (.int (bI b)), some (.ref 594), none] [.long ((if ((codeB x && codeB y) && chkN z 0 12) = true then meV s.1.R (wOf s.1 s.2.1.2) (ml x) (ml y) z.toNatClampNeg b else lN 0)), .int (nI 0), .ref 594] (rm m1)
    refine R_last (pc := 13) kc_594 lc_594 (by omega) (by first | decide | assumption) dL_meets_13 ?_
    refine T_goto (pc := 14) (tgt := 21) dL_meets_14 (by decide) ?_
    refine T_iconst (pc := 21) (v := nI 0) dL_meets_21 (by decide) ?_
    exact T_iret (pc := 22) (ty := .int) dL_meets_22 rfl rfl (Nat.le_refl _) (Nat.le_refl _) hq
theorem w_overlaps {z : Int32} {s : Sta} (hs : CAll μ s) : Ex γ 9 1 6 M_L_overlaps [.ref 0, .int z, .ref 594] (rm μ) (WQ μ (mT1 (inB z 3)) ((if inB z 3 = true then ovV s.1.R z.toNatClampNeg else lN 0)) s) := by
  refine Ex.ofH (by decide +kernel) (by decide) mk_L_overlaps.1 (Nat.le_of_ble_eq_true rfl) ?_
  show T _ _ _ _ _ _ _ _ 0 [some (.ref 0), some (.int (z)), some (.ref 594), none] [] (rm μ)
  refine T_aload_n (pc := 0) (i := 2) dL_overlaps_0 rfl rfl ?_
  refine T_iconst (pc := 1) (v := nI 0) dL_overlaps_1 (by decide) ?_
  refine T_aload_n (pc := 2) (i := 0) dL_overlaps_2 rfl rfl ?_
  refine T_iload_n (pc := 3) (i := 1) dL_overlaps_3 rfl rfl ?_
  refine T_callVH (pc := 4) (As := [.int (z)]) (rest := [.int (nI 0), .ref 594]) (Or.inl lk_L_98) mk_X11_overlaps (k_overlaps hs) kc_0 ⟨by decide, rfl⟩ lc_0 dL_overlaps_4 rfl rfl (Nat.le_of_ble_eq_true rfl) (by decide) (Nat.le_refl _) (Nat.le_refl _) (fun E μ' h => ?_) (fun v μ' h => ?_)
  · obtain ⟨m1, rfl, h1, ht, rfl⟩ := h.no
    have ht2 : mT1 (inB z 3) = 1 := by have h9 : mT1 (inB z 3) ≤ 1 := mT1_le _; omega
    rcases Or.inl (b := False) ht2 with e | e
    · have hq := WQ.no (ov := (if inB z 3 = true then ovV s.1.R z.toNatClampNeg else lN 0)) h1 ht
      rw [e] at hq ⊢
      show Xk _ _ _ _ _ _ _ _ _ _ "java/util/NoSuchElementException" _
      exact X_catch (pre := []) (a := 0) (b := 8) (h := 11) (ct := 45) (name := "java/util/NoSuchElementException") (n1 := 12) _ rfl (by decide) (by decide) cl_L_45 ca_N (fun z hz => absurd hz List.not_mem_nil) (Or.inl ⟨3, dL_overlaps_11, by decide, rfl⟩) dL_overlaps_12 (by decide) dL_overlaps_13 rfl (Nat.le_refl _) (Nat.le_refl _) hq
    · exact e.elim
  · obtain ⟨m1, rfl, h1, ht, rfl⟩ := h.ok
    have hq := WQ.ok (ov := (if inB z 3 = true then ovV s.1.R z.toNatClampNeg else lN 0)) h1 ht
    show T _ _ _ _ _ _ _ _ 7 [some (.ref 0), some (.int (z)), some (.ref 594), none] [.long ((if inB z 3 = true then ovV s.1.R z.toNatClampNeg else lN 0)), .int (nI 0), .ref 594] (rm m1)
    refine R_last (pc := 7) kc_594 lc_594 (by omega) (by first | decide | assumption) dL_overlaps_7 ?_
    refine T_goto (pc := 8) (tgt := 14) dL_overlaps_8 (by decide) ?_
    refine T_iconst (pc := 14) (v := nI 0) dL_overlaps_14 (by decide) ?_
    exact T_iret (pc := 15) (ty := .int) dL_overlaps_15 rfl rfl (Nat.le_refl _) (Nat.le_refl _) hq
theorem w_complete  {s : Sta} (hs : CAll μ s) : Ex γ 9 1 6 M_L_complete [.ref 0, .ref 594] (rm μ) (WQ μ (cmT s.1) (((cmI s.1.R)).toInt64) (cmX s.1, s.2.1, cmU s.1 s.2.2.1, s.2.2.2)) := by
  refine Ex.ofH (by decide +kernel) (by decide) mk_L_complete.1 (Nat.le_of_ble_eq_true rfl) ?_
  show T _ _ _ _ _ _ _ _ 0 [some (.ref 0), some (.ref 594), none] [] (rm μ)
  refine T_aload_n (pc := 0) (i := 1) dL_complete_0 rfl rfl ?_
  refine T_iconst (pc := 1) (v := nI 0) dL_complete_1 (by decide) ?_
  refine T_aload_n (pc := 2) (i := 0) dL_complete_2 rfl rfl ?_
  refine T_callVH (pc := 3) (As := []) (rest := [.int (nI 0), .ref 594]) (Or.inl lk_L_101) mk_X11_complete (k_complete hs) kc_0 ⟨by decide, rfl⟩ lc_0 dL_complete_3 rfl rfl (Nat.le_of_ble_eq_true rfl) (by decide) (Nat.le_refl _) (Nat.le_refl _) (fun E μ' h => ?_) (fun v μ' h => ?_)
  · obtain ⟨m1, rfl, h1, ht, rfl⟩ := h.no
    have ht2 : cmT s.1 = 1 := by have h9 : cmT s.1 ≤ 1 := cmT_le _; omega
    rcases Or.inl (b := False) ht2 with e | e
    · have hq := WQ.no (ov := ((cmI s.1.R)).toInt64) h1 ht
      rw [e] at hq ⊢
      show Xk _ _ _ _ _ _ _ _ _ _ "java/lang/UnsupportedOperationException" _
      exact X_catch (pre := []) (a := 0) (b := 8) (h := 11) (ct := 15) (name := "java/lang/UnsupportedOperationException") (n1 := 12) _ rfl (by decide) (by decide) cl_L_15 ca_U (fun z hz => absurd hz List.not_mem_nil) (Or.inl ⟨2, dL_complete_11, by decide, rfl⟩) dL_complete_12 (by decide) dL_complete_13 rfl (Nat.le_refl _) (Nat.le_refl _) hq
    · exact e.elim
  · obtain ⟨m1, rfl, h1, ht, rfl⟩ := h.ok
    have hq := WQ.ok (ov := ((cmI s.1.R)).toInt64) h1 ht
    show T _ _ _ _ _ _ _ _ 6 [some (.ref 0), some (.ref 594), none] [.int ((cmI s.1.R)), .int (nI 0), .ref 594] (rm m1)
    refine T_i2l (pc := 6) dL_complete_6 ?_
    refine R_last (pc := 7) kc_594 lc_594 (by omega) (by first | decide | assumption) dL_complete_7 ?_
    refine T_goto (pc := 8) (tgt := 14) dL_complete_8 (by decide) ?_
    refine T_iconst (pc := 14) (v := nI 0) dL_complete_14 (by decide) ?_
    exact T_iret (pc := 15) (ty := .int) dL_complete_15 rfl rfl (Nat.le_refl _) (Nat.le_refl _) hq
theorem w_never {x : Int64} {y : Int64} {z : Int32} {s : Sta} (hs : CAll μ s) : Ex γ 12 3 18 M_L_never [.ref 0, .long x, .long y, .int z, .ref 594] (rm μ) (WQ μ (mT2 (codeB x && codeB y) (chkB z)) (((if ((codeB x && codeB y) && chkB z) = true then nvV s.1.R (ml x, ml y) z else nI 0)).toInt64) s) := by
  refine Ex.ofH (by decide +kernel) (by decide) mk_L_never.1 (Nat.le_of_ble_eq_true rfl) ?_
  show T _ _ _ _ _ _ _ _ 0 [some (.ref 0), some (.long (x)), none, some (.long (y)), none, some (.int (z)), some (.ref 594), none] [] (rm μ)
  refine T_aload (pc := 0) (i := 6) dL_never_0 rfl ?_
  refine T_iconst (pc := 2) (v := nI 0) dL_never_2 (by decide) ?_
  refine T_aload_n (pc := 3) (i := 0) dL_never_3 rfl rfl ?_
  refine T_lload_n (pc := 4) (i := 1) dL_never_4 rfl rfl ?_
  refine T_lload_n (pc := 5) (i := 3) dL_never_5 rfl rfl ?_
  refine T_iload (pc := 6) (i := 5) dL_never_6 rfl ?_
  refine T_callVH (pc := 8) (As := [.long (x), .long (y), .int (z)]) (rest := [.int (nI 0), .ref 594]) (Or.inl lk_L_104) mk_X11_never (k_never hs) kc_0 ⟨by decide, rfl⟩ lc_0 dL_never_8 rfl rfl (Nat.le_of_ble_eq_true rfl) (by decide) (Nat.le_refl _) (Nat.le_refl _) (fun E μ' h => ?_) (fun v μ' h => ?_)
  · obtain ⟨m1, rfl, h1, ht, rfl⟩ := h.no
    have ht2 : mT2 (codeB x && codeB y) (chkB z) = 1 ∨ mT2 (codeB x && codeB y) (chkB z) = 2 := by have h9 : mT2 (codeB x && codeB y) (chkB z) ≤ 2 := mT2_le _ _; omega
    rcases ht2 with e | e
    · have hq := WQ.no (ov := ((if ((codeB x && codeB y) && chkB z) = true then nvV s.1.R (ml x, ml y) z else nI 0)).toInt64) h1 ht
      rw [e] at hq ⊢
      show Xk _ _ _ _ _ _ _ _ _ _ "java/lang/IllegalArgumentException" _
      exact X_catch (pre := []) (a := 0) (b := 13) (h := 16) (ct := 13) (name := "java/lang/IllegalArgumentException") (n1 := 18) _ rfl (by decide) (by decide) cl_L_13 ca_A (fun z hz => absurd hz List.not_mem_nil) (Or.inr ⟨7, dL_never_16, by decide, rfl⟩) dL_never_18 (by decide) dL_never_19 rfl (Nat.le_refl _) (Nat.le_refl _) hq
    · have hq := WQ.no (ov := ((if ((codeB x && codeB y) && chkB z) = true then nvV s.1.R (ml x, ml y) z else nI 0)).toInt64) h1 ht
      rw [e] at hq ⊢
      show Xk _ _ _ _ _ _ _ _ _ _ "java/lang/IndexOutOfBoundsException" _
      exact X_catch (pre := [(0, 13, 16, 13)]) (a := 0) (b := 13) (h := 20) (ct := 24) (name := "java/lang/IndexOutOfBoundsException") (n1 := 22) _ rfl (by decide) (by decide) cl_L_24 ca_I (fun z hz => by rw [List.mem_singleton.mp hz]; exact ⟨by decide, "java/lang/IllegalArgumentException", cl_L_13, by decide +kernel⟩) (Or.inr ⟨7, dL_never_20, by decide, rfl⟩) dL_never_22 (by decide) dL_never_23 rfl (Nat.le_refl _) (Nat.le_refl _) hq
  · obtain ⟨m1, rfl, h1, ht, rfl⟩ := h.ok
    have hq := WQ.ok (ov := ((if ((codeB x && codeB y) && chkB z) = true then nvV s.1.R (ml x, ml y) z else nI 0)).toInt64) h1 ht
    show T _ _ _ _ _ _ _ _ 11 [some (.ref 0), some (.long (x)), none, some (.long (y)), none, some (.int (z)), some (.ref 594), none] [.int ((if ((codeB x && codeB y) && chkB z) = true then nvV s.1.R (ml x, ml y) z else nI 0)), .int (nI 0), .ref 594] (rm m1)
    refine T_i2l (pc := 11) dL_never_11 ?_
    refine R_last (pc := 12) kc_594 lc_594 (by omega) (by first | decide | assumption) dL_never_12 ?_
    refine T_goto (pc := 13) (tgt := 24) dL_never_13 (by decide) ?_
    refine T_iconst (pc := 24) (v := nI 0) dL_never_24 (by decide) ?_
    exact T_iret (pc := 25) (ty := .int) dL_never_25 rfl rfl (Nat.le_refl _) (Nat.le_refl _) hq
theorem w_falls {x : Int32} {z : Int32} {s : Sta} (hs : CAll μ s) : Ex γ 12 2 12 M_L_falls [.ref 0, .int x, .int z, .ref 594] (rm μ) (WQ μ (mT2 (chkN x 1 5) (chkB z)) (((if (chkN x 1 5 && chkB z) = true then flV s.1.R x.toNatClampNeg z else nI 0)).toInt64) s) := by
  refine Ex.ofH (by decide +kernel) (by decide) mk_L_falls.1 (Nat.le_of_ble_eq_true rfl) ?_
  show T _ _ _ _ _ _ _ _ 0 [some (.ref 0), some (.int (x)), some (.int (z)), some (.ref 594), none] [] (rm μ)
  refine T_aload_n (pc := 0) (i := 3) dL_falls_0 rfl rfl ?_
  refine T_iconst (pc := 1) (v := nI 0) dL_falls_1 (by decide) ?_
  refine T_aload_n (pc := 2) (i := 0) dL_falls_2 rfl rfl ?_
  refine T_iload_n (pc := 3) (i := 1) dL_falls_3 rfl rfl ?_
  refine T_iload_n (pc := 4) (i := 2) dL_falls_4 rfl rfl ?_
  refine T_callVH (pc := 5) (As := [.int (x), .int (z)]) (rest := [.int (nI 0), .ref 594]) (Or.inl lk_L_108) mk_X11_falls (k_falls hs) kc_0 ⟨by decide, rfl⟩ lc_0 dL_falls_5 rfl rfl (Nat.le_of_ble_eq_true rfl) (by decide) (Nat.le_refl _) (Nat.le_refl _) (fun E μ' h => ?_) (fun v μ' h => ?_)
  · obtain ⟨m1, rfl, h1, ht, rfl⟩ := h.no
    have ht2 : mT2 (chkN x 1 5) (chkB z) = 1 ∨ mT2 (chkN x 1 5) (chkB z) = 2 := by have h9 : mT2 (chkN x 1 5) (chkB z) ≤ 2 := mT2_le _ _; omega
    rcases ht2 with e | e
    · have hq := WQ.no (ov := ((if (chkN x 1 5 && chkB z) = true then flV s.1.R x.toNatClampNeg z else nI 0)).toInt64) h1 ht
      rw [e] at hq ⊢
      show Xk _ _ _ _ _ _ _ _ _ _ "java/lang/IllegalArgumentException" _
      exact X_catch (pre := []) (a := 0) (b := 10) (h := 13) (ct := 13) (name := "java/lang/IllegalArgumentException") (n1 := 15) _ rfl (by decide) (by decide) cl_L_13 ca_A (fun z hz => absurd hz List.not_mem_nil) (Or.inr ⟨4, dL_falls_13, by decide, rfl⟩) dL_falls_15 (by decide) dL_falls_16 rfl (Nat.le_refl _) (Nat.le_refl _) hq
    · have hq := WQ.no (ov := ((if (chkN x 1 5 && chkB z) = true then flV s.1.R x.toNatClampNeg z else nI 0)).toInt64) h1 ht
      rw [e] at hq ⊢
      show Xk _ _ _ _ _ _ _ _ _ _ "java/lang/IndexOutOfBoundsException" _
      exact X_catch (pre := [(0, 10, 13, 13)]) (a := 0) (b := 10) (h := 17) (ct := 24) (name := "java/lang/IndexOutOfBoundsException") (n1 := 19) _ rfl (by decide) (by decide) cl_L_24 ca_I (fun z hz => by rw [List.mem_singleton.mp hz]; exact ⟨by decide, "java/lang/IllegalArgumentException", cl_L_13, by decide +kernel⟩) (Or.inr ⟨4, dL_falls_17, by decide, rfl⟩) dL_falls_19 (by decide) dL_falls_20 rfl (Nat.le_refl _) (Nat.le_refl _) hq
  · obtain ⟨m1, rfl, h1, ht, rfl⟩ := h.ok
    have hq := WQ.ok (ov := ((if (chkN x 1 5 && chkB z) = true then flV s.1.R x.toNatClampNeg z else nI 0)).toInt64) h1 ht
    show T _ _ _ _ _ _ _ _ 8 [some (.ref 0), some (.int (x)), some (.int (z)), some (.ref 594), none] [.int ((if (chkN x 1 5 && chkB z) = true then flV s.1.R x.toNatClampNeg z else nI 0)), .int (nI 0), .ref 594] (rm m1)
    refine T_i2l (pc := 8) dL_falls_8 ?_
    refine R_last (pc := 9) kc_594 lc_594 (by omega) (by first | decide | assumption) dL_falls_9 ?_
    refine T_goto (pc := 10) (tgt := 21) dL_falls_10 (by decide) ?_
    refine T_iconst (pc := 21) (v := nI 0) dL_falls_21 (by decide) ?_
    exact T_iret (pc := 22) (ty := .int) dL_falls_22 rfl rfl (Nat.le_refl _) (Nat.le_refl _) hq
theorem w_light {x : Int64} {s : Sta} (hs : CAll μ s) : Ex γ 6 1 6 M_L_light [.ref 0, .long x, .ref 594] (rm μ) (WQ μ (if codeB x = true then 0 else 1) (((if codeB x = true then nI (wgN s.1.W (ml x) (ml x).length) else nI 0)).toInt64) s) := by
  refine Ex.ofH (by decide +kernel) (by decide) mk_L_light.1 (Nat.le_of_ble_eq_true rfl) ?_
  show T _ _ _ _ _ _ _ _ 0 [some (.ref 0), some (.long (x)), none, some (.ref 594), none] [] (rm μ)
  refine T_aload_n (pc := 0) (i := 3) dL_light_0 rfl rfl ?_
  refine T_iconst (pc := 1) (v := nI 0) dL_light_1 (by decide) ?_
  refine T_aload_n (pc := 2) (i := 0) dL_light_2 rfl rfl ?_
  refine T_lload_n (pc := 3) (i := 1) dL_light_3 rfl rfl ?_
  refine T_callVH (pc := 4) (As := [.long (x)]) (rest := [.int (nI 0), .ref 594]) (Or.inl lk_L_111) mk_X11_light (k_light hs) kc_0 ⟨by decide, rfl⟩ lc_0 dL_light_4 rfl rfl (Nat.le_of_ble_eq_true rfl) (by decide) (Nat.le_refl _) (Nat.le_refl _) (fun E μ' h => ?_) (fun v μ' h => ?_)
  · obtain ⟨m1, rfl, h1, ht, rfl⟩ := h.no
    have ht2 : (if codeB x = true then 0 else 1) = 1 := by have h9 : (if codeB x = true then 0 else 1) ≤ 1 := mI_le _; omega
    rcases Or.inl (b := False) ht2 with e | e
    · have hq := WQ.no (ov := ((if codeB x = true then nI (wgN s.1.W (ml x) (ml x).length) else nI 0)).toInt64) h1 ht
      rw [e] at hq ⊢
      show Xk _ _ _ _ _ _ _ _ _ _ "java/lang/IllegalArgumentException" _
      exact X_catch (pre := []) (a := 0) (b := 9) (h := 12) (ct := 13) (name := "java/lang/IllegalArgumentException") (n1 := 14) _ rfl (by decide) (by decide) cl_L_13 ca_A (fun z hz => absurd hz List.not_mem_nil) (Or.inr ⟨4, dL_light_12, by decide, rfl⟩) dL_light_14 (by decide) dL_light_15 rfl (Nat.le_refl _) (Nat.le_refl _) hq
    · exact e.elim
  · obtain ⟨m1, rfl, h1, ht, rfl⟩ := h.ok
    have hq := WQ.ok (ov := ((if codeB x = true then nI (wgN s.1.W (ml x) (ml x).length) else nI 0)).toInt64) h1 ht
    show T _ _ _ _ _ _ _ _ 7 [some (.ref 0), some (.long (x)), none, some (.ref 594), none] [.int ((if codeB x = true then nI (wgN s.1.W (ml x) (ml x).length) else nI 0)), .int (nI 0), .ref 594] (rm m1)
    refine T_i2l (pc := 7) dL_light_7 ?_
    refine R_last (pc := 8) kc_594 lc_594 (by omega) (by first | decide | assumption) dL_light_8 ?_
    refine T_goto (pc := 9) (tgt := 16) dL_light_9 (by decide) ?_
    refine T_iconst (pc := 16) (v := nI 0) dL_light_16 (by decide) ?_
    exact T_iret (pc := 17) (ty := .int) dL_light_17 rfl rfl (Nat.le_refl _) (Nat.le_refl _) hq
theorem w_loss {x : Int32} {s : Sta} (hs : CAll μ s) : Ex γ 6 1 6 M_L_loss [.ref 0, .int x, .ref 594] (rm μ) (WQ μ (if inB x s.1.R.length = true then 0 else 1) (((if inB x s.1.R.length = true then nI (wgN s.1.W (rAt s.1.R x.toNatClampNeg).1 (rAt s.1.R x.toNatClampNeg).1.length) - nI (wgN s.1.W (rAt s.1.R x.toNatClampNeg).2 (rAt s.1.R x.toNatClampNeg).2.length) else nI 0)).toInt64) s) := by
  refine Ex.ofH (by decide +kernel) (by decide) mk_L_loss.1 (Nat.le_of_ble_eq_true rfl) ?_
  show T _ _ _ _ _ _ _ _ 0 [some (.ref 0), some (.int (x)), some (.ref 594), none] [] (rm μ)
  refine T_aload_n (pc := 0) (i := 2) dL_loss_0 rfl rfl ?_
  refine T_iconst (pc := 1) (v := nI 0) dL_loss_1 (by decide) ?_
  refine T_aload_n (pc := 2) (i := 0) dL_loss_2 rfl rfl ?_
  refine T_iload_n (pc := 3) (i := 1) dL_loss_3 rfl rfl ?_
  refine T_callVH (pc := 4) (As := [.int (x)]) (rest := [.int (nI 0), .ref 594]) (Or.inl lk_L_115) mk_X11_loss (k_loss hs) kc_0 ⟨by decide, rfl⟩ lc_0 dL_loss_4 rfl rfl (Nat.le_of_ble_eq_true rfl) (by decide) (Nat.le_refl _) (Nat.le_refl _) (fun E μ' h => ?_) (fun v μ' h => ?_)
  · obtain ⟨m1, rfl, h1, ht, rfl⟩ := h.no
    have ht2 : (if inB x s.1.R.length = true then 0 else 1) = 1 := by have h9 : (if inB x s.1.R.length = true then 0 else 1) ≤ 1 := mI_le _; omega
    rcases Or.inl (b := False) ht2 with e | e
    · have hq := WQ.no (ov := ((if inB x s.1.R.length = true then nI (wgN s.1.W (rAt s.1.R x.toNatClampNeg).1 (rAt s.1.R x.toNatClampNeg).1.length) - nI (wgN s.1.W (rAt s.1.R x.toNatClampNeg).2 (rAt s.1.R x.toNatClampNeg).2.length) else nI 0)).toInt64) h1 ht
      rw [e] at hq ⊢
      show Xk _ _ _ _ _ _ _ _ _ _ "java/lang/IndexOutOfBoundsException" _
      exact X_catch (pre := []) (a := 0) (b := 9) (h := 12) (ct := 24) (name := "java/lang/IndexOutOfBoundsException") (n1 := 13) _ rfl (by decide) (by decide) cl_L_24 ca_I (fun z hz => absurd hz List.not_mem_nil) (Or.inl ⟨3, dL_loss_12, by decide, rfl⟩) dL_loss_13 (by decide) dL_loss_14 rfl (Nat.le_refl _) (Nat.le_refl _) hq
    · exact e.elim
  · obtain ⟨m1, rfl, h1, ht, rfl⟩ := h.ok
    have hq := WQ.ok (ov := ((if inB x s.1.R.length = true then nI (wgN s.1.W (rAt s.1.R x.toNatClampNeg).1 (rAt s.1.R x.toNatClampNeg).1.length) - nI (wgN s.1.W (rAt s.1.R x.toNatClampNeg).2 (rAt s.1.R x.toNatClampNeg).2.length) else nI 0)).toInt64) h1 ht
    show T _ _ _ _ _ _ _ _ 7 [some (.ref 0), some (.int (x)), some (.ref 594), none] [.int ((if inB x s.1.R.length = true then nI (wgN s.1.W (rAt s.1.R x.toNatClampNeg).1 (rAt s.1.R x.toNatClampNeg).1.length) - nI (wgN s.1.W (rAt s.1.R x.toNatClampNeg).2 (rAt s.1.R x.toNatClampNeg).2.length) else nI 0)), .int (nI 0), .ref 594] (rm m1)
    refine T_i2l (pc := 7) dL_loss_7 ?_
    refine R_last (pc := 8) kc_594 lc_594 (by omega) (by first | decide | assumption) dL_loss_8 ?_
    refine T_goto (pc := 9) (tgt := 15) dL_loss_9 (by decide) ?_
    refine T_iconst (pc := 15) (v := nI 0) dL_loss_15 (by decide) ?_
    exact T_iret (pc := 16) (ty := .int) dL_loss_16 rfl rfl (Nat.le_refl _) (Nat.le_refl _) hq
theorem w_reckons {x : Int32} {y : Int32} {s : Sta} (hs : CAll μ s) : Ex γ 9 2 12 M_L_reckons [.ref 0, .int x, .int y, .ref 594] (rm μ) (WQ μ (mT1 (chkN x 0 3 && chkN y 0 4)) ((if (chkN x 0 3 && chkN y 0 4) = true then vO (rkV (nxR s.1.R (wOf s.1 s.2.1.2)) x.toNatClampNeg y.toNatClampNeg) else lN 0)) s) := by
  refine Ex.ofH (by decide +kernel) (by decide) mk_L_reckons.1 (Nat.le_of_ble_eq_true rfl) ?_
  show T _ _ _ _ _ _ _ _ 0 [some (.ref 0), some (.int (x)), some (.int (y)), some (.ref 594), none] [] (rm μ)
  refine T_aload_n (pc := 0) (i := 3) dL_reckons_0 rfl rfl ?_
  refine T_iconst (pc := 1) (v := nI 0) dL_reckons_1 (by decide) ?_
  refine T_aload_n (pc := 2) (i := 0) dL_reckons_2 rfl rfl ?_
  refine T_iload_n (pc := 3) (i := 1) dL_reckons_3 rfl rfl ?_
  refine T_iload_n (pc := 4) (i := 2) dL_reckons_4 rfl rfl ?_
  refine T_callVH (pc := 5) (As := [.int (x), .int (y)]) (rest := [.int (nI 0), .ref 594]) (Or.inl lk_L_118) mk_X11_reckons (k_reckons hs) kc_0 ⟨by decide, rfl⟩ lc_0 dL_reckons_5 rfl rfl (Nat.le_of_ble_eq_true rfl) (by decide) (Nat.le_refl _) (Nat.le_refl _) (fun E μ' h => ?_) (fun v μ' h => ?_)
  · obtain ⟨m1, rfl, h1, ht, rfl⟩ := h.no
    have ht2 : mT1 (chkN x 0 3 && chkN y 0 4) = 1 := by have h9 : mT1 (chkN x 0 3 && chkN y 0 4) ≤ 1 := mT1_le _; omega
    rcases Or.inl (b := False) ht2 with e | e
    · have hq := WQ.no (ov := (if (chkN x 0 3 && chkN y 0 4) = true then vO (rkV (nxR s.1.R (wOf s.1 s.2.1.2)) x.toNatClampNeg y.toNatClampNeg) else lN 0)) h1 ht
      rw [e] at hq ⊢
      show Xk _ _ _ _ _ _ _ _ _ _ "java/lang/IllegalArgumentException" _
      exact X_catch (pre := []) (a := 0) (b := 9) (h := 12) (ct := 13) (name := "java/lang/IllegalArgumentException") (n1 := 14) _ rfl (by decide) (by decide) cl_L_13 ca_A (fun z hz => absurd hz List.not_mem_nil) (Or.inr ⟨4, dL_reckons_12, by decide, rfl⟩) dL_reckons_14 (by decide) dL_reckons_15 rfl (Nat.le_refl _) (Nat.le_refl _) hq
    · exact e.elim
  · obtain ⟨m1, rfl, h1, ht, rfl⟩ := h.ok
    have hq := WQ.ok (ov := (if (chkN x 0 3 && chkN y 0 4) = true then vO (rkV (nxR s.1.R (wOf s.1 s.2.1.2)) x.toNatClampNeg y.toNatClampNeg) else lN 0)) h1 ht
    show T _ _ _ _ _ _ _ _ 8 [some (.ref 0), some (.int (x)), some (.int (y)), some (.ref 594), none] [.long ((if (chkN x 0 3 && chkN y 0 4) = true then vO (rkV (nxR s.1.R (wOf s.1 s.2.1.2)) x.toNatClampNeg y.toNatClampNeg) else lN 0)), .int (nI 0), .ref 594] (rm m1)
    refine R_last (pc := 8) kc_594 lc_594 (by omega) (by first | decide | assumption) dL_reckons_8 ?_
    refine T_goto (pc := 9) (tgt := 16) dL_reckons_9 (by decide) ?_
    refine T_iconst (pc := 16) (v := nI 0) dL_reckons_16 (by decide) ?_
    exact T_iret (pc := 17) (ty := .int) dL_reckons_17 rfl rfl (Nat.le_refl _) (Nat.le_refl _) hq
theorem w_explained {x : Int32} {s : Sta} (hs : CAll μ s) : Ex γ 7 1 6 M_L_explained [.ref 0, .int x, .ref 594] (rm μ) (WQ μ (mT1 (inB x s.1.S.length)) (((if inB x s.1.S.length = true then nI (exN s.1.R (sAt s.1.S x.toNatClampNeg).1 (sAt s.1.S x.toNatClampNeg).2 s.1.R.length) else nI 0)).toInt64) s) := by
  refine Ex.ofH (by decide +kernel) (by decide) mk_L_explained.1 (Nat.le_of_ble_eq_true rfl) ?_
  show T _ _ _ _ _ _ _ _ 0 [some (.ref 0), some (.int (x)), some (.ref 594), none] [] (rm μ)
  refine T_aload_n (pc := 0) (i := 2) dL_explained_0 rfl rfl ?_
  refine T_iconst (pc := 1) (v := nI 0) dL_explained_1 (by decide) ?_
  refine T_aload_n (pc := 2) (i := 0) dL_explained_2 rfl rfl ?_
  refine T_iload_n (pc := 3) (i := 1) dL_explained_3 rfl rfl ?_
  refine T_callVH (pc := 4) (As := [.int (x)]) (rest := [.int (nI 0), .ref 594]) (Or.inl lk_L_122) mk_X11_explained (k_explained hs) kc_0 ⟨by decide, rfl⟩ lc_0 dL_explained_4 rfl rfl (Nat.le_of_ble_eq_true rfl) (by decide) (Nat.le_refl _) (Nat.le_refl _) (fun E μ' h => ?_) (fun v μ' h => ?_)
  · obtain ⟨m1, rfl, h1, ht, rfl⟩ := h.no
    have ht2 : mT1 (inB x s.1.S.length) = 1 := by have h9 : mT1 (inB x s.1.S.length) ≤ 1 := mT1_le _; omega
    rcases Or.inl (b := False) ht2 with e | e
    · have hq := WQ.no (ov := ((if inB x s.1.S.length = true then nI (exN s.1.R (sAt s.1.S x.toNatClampNeg).1 (sAt s.1.S x.toNatClampNeg).2 s.1.R.length) else nI 0)).toInt64) h1 ht
      rw [e] at hq ⊢
      show Xk _ _ _ _ _ _ _ _ _ _ "java/lang/IndexOutOfBoundsException" _
      exact X_catch (pre := []) (a := 0) (b := 9) (h := 12) (ct := 24) (name := "java/lang/IndexOutOfBoundsException") (n1 := 13) _ rfl (by decide) (by decide) cl_L_24 ca_I (fun z hz => absurd hz List.not_mem_nil) (Or.inl ⟨3, dL_explained_12, by decide, rfl⟩) dL_explained_13 (by decide) dL_explained_14 rfl (Nat.le_refl _) (Nat.le_refl _) hq
    · exact e.elim
  · obtain ⟨m1, rfl, h1, ht, rfl⟩ := h.ok
    have hq := WQ.ok (ov := ((if inB x s.1.S.length = true then nI (exN s.1.R (sAt s.1.S x.toNatClampNeg).1 (sAt s.1.S x.toNatClampNeg).2 s.1.R.length) else nI 0)).toInt64) h1 ht
    show T _ _ _ _ _ _ _ _ 7 [some (.ref 0), some (.int (x)), some (.ref 594), none] [.int ((if inB x s.1.S.length = true then nI (exN s.1.R (sAt s.1.S x.toNatClampNeg).1 (sAt s.1.S x.toNatClampNeg).2 s.1.R.length) else nI 0)), .int (nI 0), .ref 594] (rm m1)
    refine T_i2l (pc := 7) dL_explained_7 ?_
    refine R_last (pc := 8) kc_594 lc_594 (by omega) (by first | decide | assumption) dL_explained_8 ?_
    refine T_goto (pc := 9) (tgt := 15) dL_explained_9 (by decide) ?_
    refine T_iconst (pc := 15) (v := nI 0) dL_explained_15 (by decide) ?_
    exact T_iret (pc := 16) (ty := .int) dL_explained_16 rfl rfl (Nat.le_refl _) (Nat.le_refl _) hq
theorem w_guessed {z : Int32} {s : Sta} (hs : CAll μ s) : Ex γ 9 1 6 M_L_guessed [.ref 0, .int z, .ref 594] (rm μ) (WQ μ (mT1 (inB z 3)) ((if inB z 3 = true then guO (guV s.1.S) z.toNatClampNeg else lN 0)) s) := by
  refine Ex.ofH (by decide +kernel) (by decide) mk_L_guessed.1 (Nat.le_of_ble_eq_true rfl) ?_
  show T _ _ _ _ _ _ _ _ 0 [some (.ref 0), some (.int (z)), some (.ref 594), none] [] (rm μ)
  refine T_aload_n (pc := 0) (i := 2) dL_guessed_0 rfl rfl ?_
  refine T_iconst (pc := 1) (v := nI 0) dL_guessed_1 (by decide) ?_
  refine T_aload_n (pc := 2) (i := 0) dL_guessed_2 rfl rfl ?_
  refine T_iload_n (pc := 3) (i := 1) dL_guessed_3 rfl rfl ?_
  refine T_callVH (pc := 4) (As := [.int (z)]) (rest := [.int (nI 0), .ref 594]) (Or.inl lk_L_125) mk_X11_guessed (k_guessed hs) kc_0 ⟨by decide, rfl⟩ lc_0 dL_guessed_4 rfl rfl (Nat.le_of_ble_eq_true rfl) (by decide) (Nat.le_refl _) (Nat.le_refl _) (fun E μ' h => ?_) (fun v μ' h => ?_)
  · obtain ⟨m1, rfl, h1, ht, rfl⟩ := h.no
    have ht2 : mT1 (inB z 3) = 1 := by have h9 : mT1 (inB z 3) ≤ 1 := mT1_le _; omega
    rcases Or.inl (b := False) ht2 with e | e
    · have hq := WQ.no (ov := (if inB z 3 = true then guO (guV s.1.S) z.toNatClampNeg else lN 0)) h1 ht
      rw [e] at hq ⊢
      show Xk _ _ _ _ _ _ _ _ _ _ "java/util/NoSuchElementException" _
      exact X_catch (pre := []) (a := 0) (b := 8) (h := 11) (ct := 45) (name := "java/util/NoSuchElementException") (n1 := 12) _ rfl (by decide) (by decide) cl_L_45 ca_N (fun z hz => absurd hz List.not_mem_nil) (Or.inl ⟨3, dL_guessed_11, by decide, rfl⟩) dL_guessed_12 (by decide) dL_guessed_13 rfl (Nat.le_refl _) (Nat.le_refl _) hq
    · exact e.elim
  · obtain ⟨m1, rfl, h1, ht, rfl⟩ := h.ok
    have hq := WQ.ok (ov := (if inB z 3 = true then guO (guV s.1.S) z.toNatClampNeg else lN 0)) h1 ht
    show T _ _ _ _ _ _ _ _ 7 [some (.ref 0), some (.int (z)), some (.ref 594), none] [.long ((if inB z 3 = true then guO (guV s.1.S) z.toNatClampNeg else lN 0)), .int (nI 0), .ref 594] (rm m1)
    refine R_last (pc := 7) kc_594 lc_594 (by omega) (by first | decide | assumption) dL_guessed_7 ?_
    refine T_goto (pc := 8) (tgt := 14) dL_guessed_8 (by decide) ?_
    refine T_iconst (pc := 14) (v := nI 0) dL_guessed_14 (by decide) ?_
    exact T_iret (pc := 15) (ty := .int) dL_guessed_15 rfl rfl (Nat.le_refl _) (Nat.le_refl _) hq
theorem w_drovers {x : Int64} {y : Int32} {s : Sta} (hs : CAll μ s) : Ex γ 9 2 12 M_L_drovers [.ref 0, .long x, .int y, .ref 594] (rm μ) (WQ μ (mT1 (codeB x && chkN y 1 8)) (((if (codeB x && chkN y 1 8) = true then gmD (gmV s.1.R (wOf s.1 s.2.1.2) (ml x) y.toNatClampNeg) else nI 0)).toInt64) s) := by
  refine Ex.ofH (by decide +kernel) (by decide) mk_L_drovers.1 (Nat.le_of_ble_eq_true rfl) ?_
  show T _ _ _ _ _ _ _ _ 0 [some (.ref 0), some (.long (x)), none, some (.int (y)), some (.ref 594), none] [] (rm μ)
  refine T_aload (pc := 0) (i := 4) dL_drovers_0 rfl ?_
  refine T_iconst (pc := 2) (v := nI 0) dL_drovers_2 (by decide) ?_
  refine T_aload_n (pc := 3) (i := 0) dL_drovers_3 rfl rfl ?_
  refine T_lload_n (pc := 4) (i := 1) dL_drovers_4 rfl rfl ?_
  refine T_iload_n (pc := 5) (i := 3) dL_drovers_5 rfl rfl ?_
  refine T_callVH (pc := 6) (As := [.long (x), .int (y)]) (rest := [.int (nI 0), .ref 594]) (Or.inl lk_L_128) mk_X11_drovers (k_drovers hs) kc_0 ⟨by decide, rfl⟩ lc_0 dL_drovers_6 rfl rfl (Nat.le_of_ble_eq_true rfl) (by decide) (Nat.le_refl _) (Nat.le_refl _) (fun E μ' h => ?_) (fun v μ' h => ?_)
  · obtain ⟨m1, rfl, h1, ht, rfl⟩ := h.no
    have ht2 : mT1 (codeB x && chkN y 1 8) = 1 := by have h9 : mT1 (codeB x && chkN y 1 8) ≤ 1 := mT1_le _; omega
    rcases Or.inl (b := False) ht2 with e | e
    · have hq := WQ.no (ov := ((if (codeB x && chkN y 1 8) = true then gmD (gmV s.1.R (wOf s.1 s.2.1.2) (ml x) y.toNatClampNeg) else nI 0)).toInt64) h1 ht
      rw [e] at hq ⊢
      show Xk _ _ _ _ _ _ _ _ _ _ "java/lang/IllegalArgumentException" _
      exact X_catch (pre := []) (a := 0) (b := 11) (h := 14) (ct := 13) (name := "java/lang/IllegalArgumentException") (n1 := 16) _ rfl (by decide) (by decide) cl_L_13 ca_A (fun z hz => absurd hz List.not_mem_nil) (Or.inr ⟨5, dL_drovers_14, by decide, rfl⟩) dL_drovers_16 (by decide) dL_drovers_17 rfl (Nat.le_refl _) (Nat.le_refl _) hq
    · exact e.elim
  · obtain ⟨m1, rfl, h1, ht, rfl⟩ := h.ok
    have hq := WQ.ok (ov := ((if (codeB x && chkN y 1 8) = true then gmD (gmV s.1.R (wOf s.1 s.2.1.2) (ml x) y.toNatClampNeg) else nI 0)).toInt64) h1 ht
    show T _ _ _ _ _ _ _ _ 9 [some (.ref 0), some (.long (x)), none, some (.int (y)), some (.ref 594), none] [.int ((if (codeB x && chkN y 1 8) = true then gmD (gmV s.1.R (wOf s.1 s.2.1.2) (ml x) y.toNatClampNeg) else nI 0)), .int (nI 0), .ref 594] (rm m1)
    refine T_i2l (pc := 9) dL_drovers_9 ?_
    refine R_last (pc := 10) kc_594 lc_594 (by omega) (by first | decide | assumption) dL_drovers_10 ?_
    refine T_goto (pc := 11) (tgt := 18) dL_drovers_11 (by decide) ?_
    refine T_iconst (pc := 18) (v := nI 0) dL_drovers_18 (by decide) ?_
    exact T_iret (pc := 19) (ty := .int) dL_drovers_19 rfl rfl (Nat.le_refl _) (Nat.le_refl _) hq
theorem w_best {x : Int64} {y : Int32} {s : Sta} (hs : CAll μ s) : Ex γ 9 2 12 M_L_best [.ref 0, .long x, .int y, .ref 594] (rm μ) (WQ μ (mT1 (codeB x && chkN y 1 8)) (((if (codeB x && chkN y 1 8) = true then gmB (gmV s.1.R (wOf s.1 s.2.1.2) (ml x) y.toNatClampNeg) else nI 0)).toInt64) s) := by
  refine Ex.ofH (by decide +kernel) (by decide) mk_L_best.1 (Nat.le_of_ble_eq_true rfl) ?_
  show T _ _ _ _ _ _ _ _ 0 [some (.ref 0), some (.long (x)), none, some (.int (y)), some (.ref 594), none] [] (rm μ)
  refine T_aload (pc := 0) (i := 4) dL_best_0 rfl ?_
  refine T_iconst (pc := 2) (v := nI 0) dL_best_2 (by decide) ?_
  refine T_aload_n (pc := 3) (i := 0) dL_best_3 rfl rfl ?_
  refine T_lload_n (pc := 4) (i := 1) dL_best_4 rfl rfl ?_
  refine T_iload_n (pc := 5) (i := 3) dL_best_5 rfl rfl ?_
  refine T_callVH (pc := 6) (As := [.long (x), .int (y)]) (rest := [.int (nI 0), .ref 594]) (Or.inl lk_L_131) mk_X11_best (k_best hs) kc_0 ⟨by decide, rfl⟩ lc_0 dL_best_6 rfl rfl (Nat.le_of_ble_eq_true rfl) (by decide) (Nat.le_refl _) (Nat.le_refl _) (fun E μ' h => ?_) (fun v μ' h => ?_)
  · obtain ⟨m1, rfl, h1, ht, rfl⟩ := h.no
    have ht2 : mT1 (codeB x && chkN y 1 8) = 1 := by have h9 : mT1 (codeB x && chkN y 1 8) ≤ 1 := mT1_le _; omega
    rcases Or.inl (b := False) ht2 with e | e
    · have hq := WQ.no (ov := ((if (codeB x && chkN y 1 8) = true then gmB (gmV s.1.R (wOf s.1 s.2.1.2) (ml x) y.toNatClampNeg) else nI 0)).toInt64) h1 ht
      rw [e] at hq ⊢
      show Xk _ _ _ _ _ _ _ _ _ _ "java/lang/IllegalArgumentException" _
      exact X_catch (pre := []) (a := 0) (b := 11) (h := 14) (ct := 13) (name := "java/lang/IllegalArgumentException") (n1 := 16) _ rfl (by decide) (by decide) cl_L_13 ca_A (fun z hz => absurd hz List.not_mem_nil) (Or.inr ⟨5, dL_best_14, by decide, rfl⟩) dL_best_16 (by decide) dL_best_17 rfl (Nat.le_refl _) (Nat.le_refl _) hq
    · exact e.elim
  · obtain ⟨m1, rfl, h1, ht, rfl⟩ := h.ok
    have hq := WQ.ok (ov := ((if (codeB x && chkN y 1 8) = true then gmB (gmV s.1.R (wOf s.1 s.2.1.2) (ml x) y.toNatClampNeg) else nI 0)).toInt64) h1 ht
    show T _ _ _ _ _ _ _ _ 9 [some (.ref 0), some (.long (x)), none, some (.int (y)), some (.ref 594), none] [.int ((if (codeB x && chkN y 1 8) = true then gmB (gmV s.1.R (wOf s.1 s.2.1.2) (ml x) y.toNatClampNeg) else nI 0)), .int (nI 0), .ref 594] (rm m1)
    refine T_i2l (pc := 9) dL_best_9 ?_
    refine R_last (pc := 10) kc_594 lc_594 (by omega) (by first | decide | assumption) dL_best_10 ?_
    refine T_goto (pc := 11) (tgt := 18) dL_best_11 (by decide) ?_
    refine T_iconst (pc := 18) (v := nI 0) dL_best_18 (by decide) ?_
    exact T_iret (pc := 19) (ty := .int) dL_best_19 rfl rfl (Nat.le_refl _) (Nat.le_refl _) hq
theorem w_sorts {x : Int32} {s : Sta} (hs : CAll μ s) : Ex γ 6 1 6 M_L_sorts [.ref 0, .int x, .ref 594] (rm μ) (WQ μ (mT1 (inB x 4)) (((if inB x 4 = true then srV s.1 x.toNatClampNeg else nI 0)).toInt64) s) := by
  refine Ex.ofH (by decide +kernel) (by decide) mk_L_sorts.1 (Nat.le_of_ble_eq_true rfl) ?_
  show T _ _ _ _ _ _ _ _ 0 [some (.ref 0), some (.int (x)), some (.ref 594), none] [] (rm μ)
  refine T_aload_n (pc := 0) (i := 2) dL_sorts_0 rfl rfl ?_
  refine T_iconst (pc := 1) (v := nI 0) dL_sorts_1 (by decide) ?_
  refine T_aload_n (pc := 2) (i := 0) dL_sorts_2 rfl rfl ?_
  refine T_iload_n (pc := 3) (i := 1) dL_sorts_3 rfl rfl ?_
  refine T_callVH (pc := 4) (As := [.int (x)]) (rest := [.int (nI 0), .ref 594]) (Or.inl lk_L_134) mk_X11_sorts (k_sorts hs) kc_0 ⟨by decide, rfl⟩ lc_0 dL_sorts_4 rfl rfl (Nat.le_of_ble_eq_true rfl) (by decide) (Nat.le_refl _) (Nat.le_refl _) (fun E μ' h => ?_) (fun v μ' h => ?_)
  · obtain ⟨m1, rfl, h1, ht, rfl⟩ := h.no
    have ht2 : mT1 (inB x 4) = 1 := by have h9 : mT1 (inB x 4) ≤ 1 := mT1_le _; omega
    rcases Or.inl (b := False) ht2 with e | e
    · have hq := WQ.no (ov := ((if inB x 4 = true then srV s.1 x.toNatClampNeg else nI 0)).toInt64) h1 ht
      rw [e] at hq ⊢
      show Xk _ _ _ _ _ _ _ _ _ _ "java/util/NoSuchElementException" _
      exact X_catch (pre := []) (a := 0) (b := 9) (h := 12) (ct := 45) (name := "java/util/NoSuchElementException") (n1 := 13) _ rfl (by decide) (by decide) cl_L_45 ca_N (fun z hz => absurd hz List.not_mem_nil) (Or.inl ⟨3, dL_sorts_12, by decide, rfl⟩) dL_sorts_13 (by decide) dL_sorts_14 rfl (Nat.le_refl _) (Nat.le_refl _) hq
    · exact e.elim
  · obtain ⟨m1, rfl, h1, ht, rfl⟩ := h.ok
    have hq := WQ.ok (ov := ((if inB x 4 = true then srV s.1 x.toNatClampNeg else nI 0)).toInt64) h1 ht
    show T _ _ _ _ _ _ _ _ 7 [some (.ref 0), some (.int (x)), some (.ref 594), none] [.int ((if inB x 4 = true then srV s.1 x.toNatClampNeg else nI 0)), .int (nI 0), .ref 594] (rm m1)
    refine T_i2l (pc := 7) dL_sorts_7 ?_
    refine R_last (pc := 8) kc_594 lc_594 (by omega) (by first | decide | assumption) dL_sorts_8 ?_
    refine T_goto (pc := 9) (tgt := 15) dL_sorts_9 (by decide) ?_
    refine T_iconst (pc := 15) (v := nI 0) dL_sorts_15 (by decide) ?_
    exact T_iret (pc := 16) (ty := .int) dL_sorts_16 rfl rfl (Nat.le_refl _) (Nat.le_refl _) hq
end WR

