/-! THE MODEL's world: predicates of a row of ints g (world at 573, image at 574, an act at 576) -/
def mdR (g : Nat → Int32) (R : List Ru) : Prop := (g 0 = nI R.length ∧ R.length ≤ 12) ∧ (∀ i, i < R.length → okR (rAt R i)) ∧ ∀ i, i < R.length → g (17 + 2 * i) = nI (cd (rAt R i).1) ∧ g (17 + 2 * i + 1) = nI (cd (rAt R i).2)
/-- a CODE as two ints -/
def mdC (g : Nat → Int32) (k : Nat) (l : List Nat) : Prop := g k = nI (cd l / 2 ^ 32) ∧ g (k + 1) = nI (cd l)
def mdM (g : Nat → Int32) (k : Nat) (f : Fld) : Prop := (Mw f.1 ∧ f.2.2.length = f.1.length) ∧ mdC g k f.1 ∧ g (k + 2) = f.2.1 ∧ ∀ p, p < f.1.length → g (k + 3 + 2 * p) = (mAt f.2.2 p).1 ∧ g (k + 3 + 2 * p + 1) = (mAt f.2.2 p).2
def mdF (g : Nat → Int32) (F : List Fld) : Prop := (g 1 = nI F.length ∧ F.length ≤ 6) ∧ ∀ i, i < F.length → mdM g (41 + 43 * i) (fAt F i)
def mdS (g : Nat → Int32) (S : List (List Nat × List Nat)) : Prop := (g 2 = nI S.length ∧ S.length ≤ 10) ∧ ∀ i, i < S.length → (Mw (sAt S i).1 ∧ Mw (sAt S i).2) ∧ mdC g (299 + 4 * i) (sAt S i).1 ∧ mdC g (299 + 4 * i + 2) (sAt S i).2
def mdW (g : Nat → Int32) (W : List Nat) : Prop := W.length = 8 ∧ ∀ i, i < 8 → W.getD i 0 ≤ 99 ∧ g (9 + i) = nI (W.getD i 0)
def mdZ (g : Nat → Int32) (t : Td) : Prop := (t.texts ≤ 10 ∧ t.way < 4 ∧ t.fog ≤ 100) ∧ g 3 = nI t.texts ∧ g 5 = nI t.way ∧ g 6 = nI t.fog ∧ g 7 = t.year ∧ g 8 = t.seed
def mdT (g : Nat → Int32) (X : Td) : Prop := mdR g X.R ∧ mdF g X.F ∧ mdS g X.S ∧ mdW g X.W ∧ mdZ g X
theorem mdR.to {g g' : Nat → Int32} {R : List Ru} (h : mdR g R) (e : ∀ k, k < 339 → g' k = g k) : mdR g' R := by
  have hl := h.1.2
  exact ⟨⟨(e 0 (by omega)).trans h.1.1, h.1.2⟩, h.2.1, fun i hi => ⟨(e _ (by omega)).trans (h.2.2 i hi).1, (e _ (by omega)).trans (h.2.2 i hi).2⟩⟩
theorem mdC.to {g g' : Nat → Int32} {k : Nat} {l : List Nat} (h : mdC g k l) (e : ∀ k, k < 339 → g' k = g k) (hk : k + 1 < 339) : mdC g' k l := ⟨(e _ (by omega)).trans h.1, (e _ hk).trans h.2⟩
theorem mdM.to {g g' : Nat → Int32} {k : Nat} {f : Fld} (h : mdM g k f) (e : ∀ k, k < 339 → g' k = g k) (hk : k + 43 ≤ 339) : mdM g' k f := by
  have hl := h.1.1.1
  exact ⟨h.1, h.2.1.to e (by omega), (e _ (by omega)).trans h.2.2.1, fun p hp => ⟨(e _ (by omega)).trans (h.2.2.2 p hp).1, (e _ (by omega)).trans (h.2.2.2 p hp).2⟩⟩
theorem mdT.to {g g' : Nat → Int32} {X : Td} (h : mdT g X) (e : ∀ k, k < 339 → g' k = g k) : mdT g' X := by
  have hF := h.2.1.1.2
  have hS := h.2.2.1.1.2
  exact ⟨h.1.to e, ⟨⟨(e 1 (by omega)).trans h.2.1.1.1, hF⟩, fun i hi => (h.2.1.2 i hi).to e (by omega)⟩, ⟨⟨(e 2 (by omega)).trans h.2.2.1.1.1, hS⟩, fun i hi => ⟨(h.2.2.1.2 i hi).1, (h.2.2.1.2 i hi).2.1.to e (by omega), (h.2.2.1.2 i hi).2.2.to e (by omega)⟩⟩, ⟨h.2.2.2.1.1, fun i hi => ⟨(h.2.2.2.1.2 i hi).1, (e _ (by omega)).trans (h.2.2.2.1.2 i hi).2⟩⟩, h.2.2.2.2.1, (e _ (by omega)).trans h.2.2.2.2.2.1, (e _ (by omega)).trans h.2.2.2.2.2.2.1, (e _ (by omega)).trans h.2.2.2.2.2.2.2.1, (e _ (by omega)).trans h.2.2.2.2.2.2.2.2.1, (e _ (by omega)).trans h.2.2.2.2.2.2.2.2.2⟩
theorem lo32 (c : Nat) : (nI c).toInt64 &&& 4294967295 = lN (c % 2 ^ 32) := by
  apply Int64.toBitVec_inj.1
  rw [Int64.toBitVec_and, Int32.toBitVec_toInt64]
  apply BitVec.eq_of_toNat_eq
  rw [BitVec.toNat_and, BitVec.toNat_signExtend, BitVec.toNat_setWidth]
  have e1 : (nI c).toBitVec.toNat = c % 2 ^ 32 := rfl
  have e2 : (4294967295 : Int64).toBitVec.toNat = 2 ^ 32 - 1 := rfl
  have e3 : (lN (c % 2 ^ 32)).toBitVec.toNat = c % 2 ^ 32 % 2 ^ 64 := rfl
  rw [e2, Nat.and_two_pow_sub_one_eq_mod, e1, e3]
  split <;> omega
theorem hi_lo {c : Nat} : c / 2 ^ 32 * 2 ^ 32 ||| c % 2 ^ 32 = c := by
  have h := Nat.two_pow_add_eq_or_of_lt (i := 32) (b := c % 2 ^ 32) (Nat.mod_lt _ (by decide)) (c / 2 ^ 32)
  rw [Nat.mul_comm, ← h]
  omega
theorem cd_r {l : List Nat} (h : okb l) (hl : l.length ≤ 5) : cd l < 2 ^ 16 := by
  have h1 := cd_hi h
  have h2 : 8 ^ l.length ≤ 8 ^ 5 := Nat.pow_le_pow_right (by decide) hl
  omega
section MW
variable {γ : Ga} {μ : SM2}
theorem m_rules {R : List Ru} (h : mdR (μ.1 573) R) : Ex γ 1 0 0 M_X12_rules [.ref 572] (rm μ) (Fn (some (.int (nI R.length))) μ) := by
  refine Ex.of (by decide +kernel) rfl (Nat.le_of_ble_eq_true rfl) ?_
  show T _ _ _ _ _ _ _ _ _ [some (.ref 572)] [] (rm μ)
  refine T_aload_n (pc := 0) (i := 0) dX12_rules_0 rfl rfl ?_
  refine R_getR (pc := 1) (i := 573) fl_X12_29 rfl kc_572 lc_572 rc_572_1 dX12_rules_1 ?_
  refine T_iconst (pc := 4) (v := nI 0) dX12_rules_4 (by decide) ?_
  refine R_iald (pc := 5) (x := nI R.length) kc_573 lc_573 (by omega) (by first | decide | assumption) h.1.1 dX12_rules_5 ?_
  exact T_iret (pc := 6) (ty := .int) dX12_rules_6 rfl rfl (Nat.le_refl _) (Nat.le_refl _) ⟨rfl, rfl⟩
theorem m_fields {F : List Fld} (h : mdF (μ.1 573) F) : Ex γ 1 0 0 M_X12_fields [.ref 572] (rm μ) (Fn (some (.int (nI F.length))) μ) := by
  refine Ex.of (by decide +kernel) rfl (Nat.le_of_ble_eq_true rfl) ?_
  show T _ _ _ _ _ _ _ _ _ [some (.ref 572)] [] (rm μ)
  refine T_aload_n (pc := 0) (i := 0) dX12_fields_0 rfl rfl ?_
  refine R_getR (pc := 1) (i := 573) fl_X12_29 rfl kc_572 lc_572 rc_572_1 dX12_fields_1 ?_
  refine T_iconst (pc := 4) (v := nI 1) dX12_fields_4 (by decide) ?_
  refine R_iald (pc := 5) (x := nI F.length) kc_573 lc_573 (by omega) (by first | decide | assumption) h.1.1 dX12_fields_5 ?_
  exact T_iret (pc := 6) (ty := .int) dX12_fields_6 rfl rfl (Nat.le_refl _) (Nat.le_refl _) ⟨rfl, rfl⟩
theorem m_left {R : List Ru} (h : mdR (μ.1 573) R) {i : Nat} (hi : i < R.length) : Ex γ 1 0 0 M_X12_left [.ref 572, .int (nI i)] (rm μ) (Fn (some (.long (lN (cd (rAt R i).1)))) μ) := by
  have h12 := h.1.2
  have ok := h.2.1 i hi
  have hc := cd_r ok.1 (by have := ok.2.2.1; omega)
  refine Ex.of (by decide +kernel) rfl (Nat.le_of_ble_eq_true rfl) ?_
  show T _ _ _ _ _ _ _ _ _ [some (.ref 572), some (.int (nI i))] [] (rm μ)
  refine T_aload_n (pc := 0) (i := 0) dX12_left_0 rfl rfl ?_
  refine R_getR (pc := 1) (i := 573) fl_X12_29 rfl kc_572 lc_572 rc_572_1 dX12_left_1 ?_
  refine T_bipush (pc := 4) (v := nI 17) dX12_left_4 (by decide) ?_
  refine T_iconst (pc := 6) (v := nI 2) dX12_left_6 (by decide) ?_
  refine T_iload_n (pc := 7) (i := 1) dX12_left_7 rfl rfl ?_
  refine R_imul (pc := 8) dX12_left_8 ?_
  refine R_iadd (pc := 9) dX12_left_9 ?_
  refine R_iald (pc := 10) (x := nI (cd (rAt R i).1)) kc_573 lc_573 (by omega) (by first | decide | assumption) ((h.2.2 i hi).1) dX12_left_10 ?_
  refine R_i2l (pc := 11) (by omega) dX12_left_11 ?_
  exact T_lret dX12_left_12 rfl (Nat.le_refl _) (Nat.le_refl _) ⟨rfl, rfl⟩
theorem m_right {R : List Ru} (h : mdR (μ.1 573) R) {i : Nat} (hi : i < R.length) : Ex γ 1 0 0 M_X12_right [.ref 572, .int (nI i)] (rm μ) (Fn (some (.long (lN (cd (rAt R i).2)))) μ) := by
  have h12 := h.1.2
  have ok := h.2.1 i hi
  have hc := cd_r ok.2.2.2.1 ok.2.2.2.2
  refine Ex.of (by decide +kernel) rfl (Nat.le_of_ble_eq_true rfl) ?_
  show T _ _ _ _ _ _ _ _ _ [some (.ref 572), some (.int (nI i))] [] (rm μ)
  refine T_aload_n (pc := 0) (i := 0) dX12_right_0 rfl rfl ?_
  refine R_getR (pc := 1) (i := 573) fl_X12_29 rfl kc_572 lc_572 rc_572_1 dX12_right_1 ?_
  refine T_bipush (pc := 4) (v := nI 17) dX12_right_4 (by decide) ?_
  refine T_iconst (pc := 6) (v := nI 2) dX12_right_6 (by decide) ?_
  refine T_iload_n (pc := 7) (i := 1) dX12_right_7 rfl rfl ?_
  refine R_imul (pc := 8) dX12_right_8 ?_
  refine R_iadd (pc := 9) dX12_right_9 ?_
  refine T_iconst (pc := 10) (v := nI 1) dX12_right_10 (by decide) ?_
  refine R_iadd (pc := 11) dX12_right_11 ?_
  refine R_iald (pc := 12) (x := nI (cd (rAt R i).2)) kc_573 lc_573 (by omega) (by first | decide | assumption) ((h.2.2 i hi).2) dX12_right_12 ?_
  refine R_i2l (pc := 13) (by omega) dX12_right_13 ?_
  exact T_lret dX12_right_14 rfl (Nat.le_refl _) (Nat.le_refl _) ⟨rfl, rfl⟩
theorem m_lefts {R : List Ru} (h : mdR (μ.1 573) R) {i : Nat} (hi : i < R.length) : Ex γ 4 0 0 M_X12_lefts [.ref 572, .int (nI i)] (rm μ) (Fn (some (.int (nI (rAt R i).1.length))) μ) := by
  refine Ex.of (by decide +kernel) rfl (Nat.le_of_ble_eq_true rfl) ?_
  show T _ _ _ _ _ _ _ _ _ [some (.ref 572), some (.int (nI i))] [] (rm μ)
  refine T_aload_n (pc := 0) (i := 0) dX12_lefts_0 rfl rfl ?_
  refine T_iload_n (pc := 1) (i := 1) dX12_lefts_1 rfl rfl ?_
  refine R_callV1 (pc := 2) (As := [.int (nI i)]) (rest := []) (Or.inl lk_X12_107) mk_X12_left (m_left h hi) kc_572 ⟨by decide, rfl⟩ lc_572 dX12_lefts_2 rfl rfl (Nat.le_of_ble_eq_true rfl) (by decide) rfl (Nat.le_refl _) (Nat.le_refl _) ?_
  refine R_callS1 (pc := 5) (av := [.long (lN (cd (rAt R i).1))]) (rest := []) (Or.inl lk_X12_13) mk_X12_size (m_size (h.2.1 i hi).l) dX12_lefts_5 rfl rfl (Nat.le_of_ble_eq_true rfl) (by decide) rfl (Nat.le_refl _) (Nat.le_refl _) ?_
  exact T_iret (pc := 8) (ty := .int) dX12_lefts_8 rfl rfl (Nat.le_refl _) (Nat.le_refl _) ⟨rfl, rfl⟩
theorem m_rights {R : List Ru} (h : mdR (μ.1 573) R) {i : Nat} (hi : i < R.length) : Ex γ 4 0 0 M_X12_rights [.ref 572, .int (nI i)] (rm μ) (Fn (some (.int (nI (rAt R i).2.length))) μ) := by
  refine Ex.of (by decide +kernel) rfl (Nat.le_of_ble_eq_true rfl) ?_
  show T _ _ _ _ _ _ _ _ _ [some (.ref 572), some (.int (nI i))] [] (rm μ)
  refine T_aload_n (pc := 0) (i := 0) dX12_rights_0 rfl rfl ?_
  refine T_iload_n (pc := 1) (i := 1) dX12_rights_1 rfl rfl ?_
  refine R_callV1 (pc := 2) (As := [.int (nI i)]) (rest := []) (Or.inl lk_X12_111) mk_X12_right (m_right h hi) kc_572 ⟨by decide, rfl⟩ lc_572 dX12_rights_2 rfl rfl (Nat.le_of_ble_eq_true rfl) (by decide) rfl (Nat.le_refl _) (Nat.le_refl _) ?_
  refine R_callS1 (pc := 5) (av := [.long (lN (cd (rAt R i).2))]) (rest := []) (Or.inl lk_X12_13) mk_X12_size (m_size (h.2.1 i hi).r) dX12_rights_5 rfl rfl (Nat.le_of_ble_eq_true rfl) (by decide) rfl (Nat.le_refl _) (Nat.le_refl _) ?_
  exact T_iret (pc := 8) (ty := .int) dX12_rights_8 rfl rfl (Nat.le_refl _) (Nat.le_refl _) ⟨rfl, rfl⟩
theorem m_at {i : Nat} : Ex γ 1 0 0 M_X12_at [.int (nI i)] (rm μ) (Fn (some (.int (nI (41 + 43 * i)))) μ) := by
  refine Ex.of (by decide +kernel) rfl (Nat.le_of_ble_eq_true rfl) ?_
  show T _ _ _ _ _ _ _ _ _ [some (.int (nI i))] [] (rm μ)
  refine T_bipush (pc := 0) (v := nI 41) dX12_at_0 (by decide) ?_
  refine T_bipush (pc := 2) (v := nI 43) dX12_at_2 (by decide) ?_
  refine T_iload_n (pc := 4) (i := 0) dX12_at_4 rfl rfl ?_
  refine R_imul (pc := 5) dX12_at_5 ?_
  refine R_iadd (pc := 6) dX12_at_6 ?_
  exact T_iret (pc := 7) (ty := .int) dX12_at_7 rfl rfl (Nat.le_refl _) (Nat.le_refl _) ⟨rfl, rfl⟩
theorem m_codeAt {k : Nat} {l : List Nat} (hl : Mw l) (h : mdC (μ.1 573) k l) (hk : k + 1 < 1989) : Ex γ 1 0 0 M_X12_codeAt [.ref 572, .int (nI k)] (rm μ) (Fn (some (.long (lN (cd l)))) μ) := by
  have hc := cd_lt hl
  refine Ex.of (by decide +kernel) rfl (Nat.le_of_ble_eq_true rfl) ?_
  show T _ _ _ _ _ _ _ _ _ [some (.ref 572), some (.int (nI k))] [] (rm μ)
  refine T_aload_n (pc := 0) (i := 0) dX12_codeAt_0 rfl rfl ?_
  refine R_getR (pc := 1) (i := 573) fl_X12_29 rfl kc_572 lc_572 rc_572_1 dX12_codeAt_1 ?_
  refine T_iload_n (pc := 4) (i := 1) dX12_codeAt_4 rfl rfl ?_
  refine R_iald (pc := 5) (x := nI (cd l / 2 ^ 32)) kc_573 lc_573 (by omega) (by first | decide | assumption) h.1 dX12_codeAt_5 ?_
  refine R_i2l (pc := 6) (by omega) dX12_codeAt_6 ?_
  refine T_bipush (pc := 7) (v := nI 32) dX12_codeAt_7 (by decide) ?_
  refine R_lshl (pc := 9) (by omega) dX12_codeAt_9 ?_
  refine T_aload_n (pc := 10) (i := 0) dX12_codeAt_10 rfl rfl ?_
  refine R_getR (pc := 11) (i := 573) fl_X12_29 rfl kc_572 lc_572 rc_572_1 dX12_codeAt_11 ?_
  refine T_iload_n (pc := 14) (i := 1) dX12_codeAt_14 rfl rfl ?_
  refine T_iconst (pc := 15) (v := nI 1) dX12_codeAt_15 (by decide) ?_
  refine R_iadd (pc := 16) dX12_codeAt_16 ?_
  refine R_iald (pc := 17) (x := (nI (cd l))) kc_573 lc_573 (by omega) (by first | decide | assumption) h.2 dX12_codeAt_17 ?_
  refine T_i2l (pc := 18) dX12_codeAt_18 ?_
  refine T_ldc2 (pc := 19) dX12_codeAt_19 cn_X12_105 ?_
  refine T_topl (v := lN 4294967295) (fa_litL _) ?_
  refine T_land (pc := 22) dX12_codeAt_22 ?_
  refine T_topl (v := lN (cd l % 2 ^ 32)) (lo32 _) ?_
  refine R_lor (pc := 23) dX12_codeAt_23 ?_
  exact T_lret dX12_codeAt_24 rfl (Nat.le_refl _) (Nat.le_refl _) ⟨by rw [hi_lo], rfl⟩
end MW

