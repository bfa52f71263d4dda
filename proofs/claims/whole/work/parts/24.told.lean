/-! FIELDS and all that is told -/
/-- a FIELD: its BEASTS, the STEPS gone, of each BEAST its maker and its STEP -/
abbrev Fld : Type := List Nat × Int32 × List (Int32 × Int32)
abbrev mAt (l : List (Int32 × Int32)) (i : Nat) : Int32 × Int32 := l.getD i (0, 0)
def FieldAt (μ : SM2) (q : Nat) (f : Fld) : Prop := Mw f.1 ∧ f.2.2.length = f.1.length ∧ μ.2 q 0 = lN (cd f.1) ∧ μ.1 q 1 = f.2.1 ∧ ∀ i, i < f.1.length → μ.1 (q + 1) i = (mAt f.2.2 i).1 ∧ μ.1 (q + 2) i = (mAt f.2.2 i).2
theorem FieldAt.mw {μ : SM2} {q : Nat} {f : Fld} (h : FieldAt μ q f) : Mw f.1 := h.1
theorem FieldAt.code {μ : SM2} {q : Nat} {f : Fld} (h : FieldAt μ q f) : μ.2 q 0 = lN (cd f.1) := h.2.2.1
theorem FieldAt.gone {μ : SM2} {q : Nat} {f : Fld} (h : FieldAt μ q f) : μ.1 q 1 = f.2.1 := h.2.2.2.1
theorem FieldAt.mk {μ : SM2} {q : Nat} {f : Fld} (h : FieldAt μ q f) : ∀ i, i < f.1.length → μ.1 (q + 1) i = (mAt f.2.2 i).1 ∧ μ.1 (q + 2) i = (mAt f.2.2 i).2 := h.2.2.2.2
theorem FieldAt.off {a n q : Nat} {f : Fld} {μ m : SM2} (h : FieldAt μ q f) (g : Off a n μ m) (hr : q + 3 ≤ a ∨ a + n ≤ q) : FieldAt m q f :=
  ⟨h.1, h.2.1, (g.l (by omega) 0).trans h.code, (g.i (by omega) 1).trans h.gone, fun i hi => ⟨(g.i (by omega) i).trans (h.mk i hi).1, (g.i (by omega) i).trans (h.mk i hi).2⟩⟩
/-- RULES, FIELDS, what was SEEN, weights; texts, WAY, fog; YEAR, SEED -/
abbrev Td : Type := List Ru × List Fld × List (List Nat × List Nat) × List Nat × (Nat × Nat × Nat) × (Int32 × Int32)
abbrev Td.R (t : Td) : List Ru := t.1
abbrev Td.F (t : Td) : List Fld := t.2.1
abbrev Td.S (t : Td) : List (List Nat × List Nat) := t.2.2.1
abbrev Td.W (t : Td) : List Nat := t.2.2.2.1
abbrev Td.texts (t : Td) : Nat := t.2.2.2.2.1.1
abbrev Td.way (t : Td) : Nat := t.2.2.2.2.1.2.1
abbrev Td.fog (t : Td) : Nat := t.2.2.2.2.1.2.2
abbrev Td.year (t : Td) : Int32 := t.2.2.2.2.2.1
abbrev Td.seed (t : Td) : Int32 := t.2.2.2.2.2.2
abbrev fAt (F : List Fld) (i : Nat) : Fld := F.getD i ([], 0, [])
abbrev sAt (S : List (List Nat × List Nat)) (i : Nat) : List Nat × List Nat := S.getD i ([], [])
def FieldsAt (μ : SM2) (b : Nat) (F : List Fld) : Prop := μ.1 b 2 = nI F.length ∧ F.length ≤ 6 ∧ ∀ i, i < F.length → FieldAt μ (b + 10 + 3 * i) (fAt F i)
def SeenAt (μ : SM2) (b : Nat) (S : List (List Nat × List Nat)) : Prop := μ.1 b 5 = nI S.length ∧ S.length ≤ 10 ∧ ∀ i, i < S.length → (Mw (sAt S i).1 ∧ Mw (sAt S i).2) ∧ μ.2 (b + 7) i = lN (cd (sAt S i).1) ∧ μ.2 (b + 8) i = lN (cd (sAt S i).2)
def WeightsAt (μ : SM2) (b : Nat) (W : List Nat) : Prop := W.length = 8 ∧ ∀ i, i < 8 → W.getD i 0 ≤ 99 ∧ μ.1 (b + 9) i = nI (W.getD i 0)
def RestAt (μ : SM2) (b : Nat) (t : Td) : Prop := (t.texts ≤ 10 ∧ t.way < 4 ∧ t.fog ≤ 100) ∧ μ.1 b 7 = nI t.texts ∧ μ.1 b 8 = nI t.way ∧ μ.1 b 9 = nI t.fog ∧ μ.1 b 10 = t.year ∧ μ.1 b 11 = t.seed
def ToldAt (μ : SM2) (b : Nat) (t : Td) : Prop := RulesAt μ (b + 1) t.R ∧ FieldsAt μ b t.F ∧ SeenAt μ b t.S ∧ WeightsAt μ b t.W ∧ RestAt μ b t
theorem RulesAt.same {r : Nat} {R : List Ru} {μ m : SM2} (h : RulesAt μ r R) (h0 : m.1 r 0 = μ.1 r 0) (h1 : ∀ j, m.2 (r + 1) j = μ.2 (r + 1) j) (h2 : ∀ j, m.2 (r + 2) j = μ.2 (r + 2) j) (h3 : ∀ j, m.1 (r + 3) j = μ.1 (r + 3) j) (h4 : ∀ j, m.1 (r + 4) j = μ.1 (r + 4) j) : RulesAt m r R :=
  ⟨h0.trans h.size, h.len, h.ok, fun i hi => ⟨(h1 i).trans (h.row i hi).1, (h2 i).trans (h.row i hi).2.1, (h3 i).trans (h.row i hi).2.2.1, (h4 i).trans (h.row i hi).2.2.2⟩⟩
theorem FieldAt.same {q : Nat} {f : Fld} {μ m : SM2} (h : FieldAt μ q f) (h0 : m.2 q 0 = μ.2 q 0) (h1 : m.1 q 1 = μ.1 q 1) (h2 : ∀ j, m.1 (q + 1) j = μ.1 (q + 1) j) (h3 : ∀ j, m.1 (q + 2) j = μ.1 (q + 2) j) : FieldAt m q f :=
  ⟨h.1, h.2.1, h0.trans h.code, h1.trans h.gone, fun i hi => ⟨(h2 i).trans (h.mk i hi).1, (h3 i).trans (h.mk i hi).2⟩⟩
theorem FieldsAt.off {a n b : Nat} {F : List Fld} {μ m : SM2} (h : FieldsAt μ b F) (g : Off a n μ m) (hr : b + 28 ≤ a ∨ a + n ≤ b) : FieldsAt m b F :=
  ⟨(g.i (by omega) 2).trans h.1, h.2.1, fun i hi => (h.2.2 i hi).off g (by have := h.2.1; omega)⟩
theorem SeenAt.off {a n b : Nat} {F : List (List Nat × List Nat)} {μ m : SM2} (h : SeenAt μ b F) (g : Off a n μ m) (hr : b + 28 ≤ a ∨ a + n ≤ b) : SeenAt m b F :=
  ⟨(g.i (by omega) 5).trans h.1, h.2.1, fun i hi => ⟨(h.2.2 i hi).1, (g.l (by omega) i).trans (h.2.2 i hi).2.1, (g.l (by omega) i).trans (h.2.2 i hi).2.2⟩⟩
theorem WeightsAt.off {a n b : Nat} {F : List Nat} {μ m : SM2} (h : WeightsAt μ b F) (g : Off a n μ m) (hr : b + 28 ≤ a ∨ a + n ≤ b) : WeightsAt m b F :=
  ⟨h.1, fun i hi => ⟨(h.2 i hi).1, (g.i (by omega) i).trans (h.2 i hi).2⟩⟩
theorem RestAt.off {a n b : Nat} {t : Td} {μ m : SM2} (h : RestAt μ b t) (g : Off a n μ m) (hr : b < a ∨ a + n ≤ b) : RestAt m b t :=
  ⟨h.1, (g.i (by omega) 7).trans h.2.1, (g.i (by omega) 8).trans h.2.2.1, (g.i (by omega) 9).trans h.2.2.2.1, (g.i (by omega) 10).trans h.2.2.2.2.1, (g.i (by omega) 11).trans h.2.2.2.2.2⟩
theorem ToldAt.off {a n b : Nat} {t : Td} {μ m : SM2} (h : ToldAt μ b t) (g : Off a n μ m) (hr : b + 28 ≤ a ∨ a + n ≤ b) : ToldAt m b t :=
  ⟨h.1.off g (by omega), h.2.1.off g hr, h.2.2.1.off g hr, h.2.2.2.1.off g hr, h.2.2.2.2.off g (by omega)⟩
theorem wF_0 (μ : SM2) (a : Nat) (x : Int32) : wF μ a 0 x = μ := by
  show (_, _) = (μ.1, μ.2)
  congr 1
  funext k j
  exact if_neg (by omega)
theorem wF_s (μ : SM2) (a n : Nat) (x : Int32) : wI (wF μ a n x) a n x = wF μ a (n + 1) x := by
  show (_, _) = (_, _)
  congr 1
  funext k j
  show (if k = a ∧ j = n then x else if k = a ∧ j < n then x else μ.1 k j) = if k = a ∧ j < n + 1 then x else μ.1 k j
  by_cases h1 : k = a ∧ j = n
  · rw [if_pos h1, if_pos (by omega)]
  · by_cases h2 : k = a ∧ j < n
    · rw [if_neg h1, if_pos h2, if_pos (by omega)]
    · rw [if_neg h1, if_neg h2, if_neg (by omega)]
theorem Off.sF {a n k c : Nat} {x : Int32} {μ m : SM2} (h : Off a n μ m) (g : a ≤ k ∧ k < a + n) : Off a n μ (wF m k c x) := fun b hb => ⟨(show (fun j => if b = k ∧ j < c then x else m.1 b j) = _ from by funext j; rw [if_neg (by omega), (h b hb).1]), (h b hb).2⟩
section TO
variable {γ : Ga} {μ : SM2}
theorem c_fill {a n : Nat} {x : Int32} (hk : KT a = (1, n)) (hl : a < N0) (hn : n < 2 ^ 31) : Ex γ 1 0 0 M_J7_fill_53178 [.ref a, .int x] (rm μ) (Fn none (wF μ a n x)) := by
  refine Ex.of (by decide +kernel) rfl (Nat.le_of_ble_eq_true rfl) ?_
  show T _ _ _ _ _ _ _ _ _ [some (.ref a), some (.int (x)), none, none] [] (rm μ)
  refine T_iconst (pc := 0) (v := nI 0) dJ7_fill_53178_0 (by decide) ?_
  refine T_istore_n (pc := 1) (i := 2) (ls' := [some (.ref a), some (.int (x)), some (.int (nI 0)), none]) dJ7_fill_53178_1 rfl (by decide) rfl ?_
  refine T_aload_n (pc := 2) (i := 0) dJ7_fill_53178_2 rfl rfl ?_
  refine R_alen (pc := 3) hk (by decide) hl dJ7_fill_53178_3 ?_
  refine T_istore_n (pc := 4) (i := 3) (ls' := [some (.ref a), some (.int (x)), some (.int (nI 0)), some (.int (nI n))]) dJ7_fill_53178_4 rfl (by decide) rfl ?_
  refine T_mem (μ' := rm (wF μ a 0 x)) (by rw [wF_0]) ?_
  refine T_for (pc := 5) n (fun i => [some (.ref a), some (.int (x)), some (.int (nI i)), some (.int (nI n))]) (fun i => rm (wF μ a i x)) (fun i hle ih => ?_) 0 (Nat.zero_le _)
  show T _ _ _ _ _ _ _ _ 5 [some (.ref a), some (.int (x)), some (.int (nI i)), some (.int (nI n))] [] (rm (wF μ a i x))
  refine T_iload_n (pc := 5) (i := 2) dJ7_fill_53178_5 rfl rfl ?_
  refine T_iload_n (pc := 6) (i := 3) dJ7_fill_53178_6 rfl rfl ?_
  refine R_icmp_ge (pc := 7) (tgt := 20) (by omega) (by omega) dJ7_fill_53178_7 (by decide) (fun h1 => ?_) (fun h1 => ?_)
  · skip
    rw [show i = n by omega]
    exact T_vret dJ7_fill_53178_20 rfl (Nat.le_refl _) (Nat.le_refl _) ⟨rfl, rfl⟩
  · skip
    refine T_aload_n (pc := 10) (i := 0) dJ7_fill_53178_10 rfl rfl ?_
    refine T_iload_n (pc := 11) (i := 2) dJ7_fill_53178_11 rfl rfl ?_
    refine T_iload_n (pc := 12) (i := 1) dJ7_fill_53178_12 rfl rfl ?_
    refine R_iast (pc := 13) hk hl (by omega) (by first | decide | assumption) dJ7_fill_53178_13 ?_
    refine R_iinc (pc := 14) (i := 2) (n := 1) (ls' := [some (.ref a), some (.int (x)), some (.int (nI (i + 1))), some (.int (nI n))]) dJ7_fill_53178_14 rfl rfl ?_
    refine T_goto (pc := 17) (tgt := 5) dJ7_fill_53178_17 (by decide) ?_
    refine T_mem (μ' := rm (wF μ a (i + 1) x)) (by rw [wF_s]) ?_
    exact ih h1
theorem c_Field_takeMakers {q a b : Nat} (hq : isField q) (ha : KT a = (1, 20)) (ha0 : a < N0) (hb : KT b = (1, 20)) (hb0 : b < N0) : Ex γ 1 0 0 M_X1_takeMakers [.ref q, .ref a, .ref b] (rm μ) (Fn none (wCI (wCI μ a (q + 1) 0 0 20) b (q + 2) 0 0 20)) := by
  refine Ex.of (by decide +kernel) rfl (Nat.le_of_ble_eq_true rfl) ?_
  show T _ _ _ _ _ _ _ _ _ [some (.ref q), some (.ref a), some (.ref b)] [] (rm μ)
  refine T_aload_n (pc := 0) (i := 1) dX1_takeMakers_0 rfl rfl ?_
  refine T_iconst (pc := 1) (v := nI 0) dX1_takeMakers_1 (by decide) ?_
  refine T_aload_n (pc := 2) (i := 0) dX1_takeMakers_2 rfl rfl ?_
  refine R_getR (pc := 3) (i := (q + 1)) fl_X1_15 rfl (kt_field hq) (lt_field hq) (rt_field_makers hq) dX1_takeMakers_3 ?_
  refine T_iconst (pc := 6) (v := nI 0) dX1_takeMakers_6 (by decide) ?_
  refine T_bipush (pc := 7) (v := nI 20) dX1_takeMakers_7 (by decide) ?_
  refine R_copyI (pc := 9) cp_X1_30 ha (kt_field_makers hq) ha0 (lt_field_makers hq) (by omega) (by omega) (by decide) (by decide) dX1_takeMakers_9 ?_
  refine T_aload_n (pc := 12) (i := 2) dX1_takeMakers_12 rfl rfl ?_
  refine T_iconst (pc := 13) (v := nI 0) dX1_takeMakers_13 (by decide) ?_
  refine T_aload_n (pc := 14) (i := 0) dX1_takeMakers_14 rfl rfl ?_
  refine R_getR (pc := 15) (i := (q + 2)) fl_X1_19 rfl (kt_field hq) (lt_field hq) (rt_field_makings hq) dX1_takeMakers_15 ?_
  refine T_iconst (pc := 18) (v := nI 0) dX1_takeMakers_18 (by decide) ?_
  refine T_bipush (pc := 19) (v := nI 20) dX1_takeMakers_19 (by decide) ?_
  refine R_copyI (pc := 21) cp_X1_30 hb (kt_field_makings hq) hb0 (lt_field_makings hq) (by omega) (by omega) (by decide) (by decide) dX1_takeMakers_21 ?_
  exact T_vret dX1_takeMakers_24 rfl (Nat.le_refl _) (Nat.le_refl _) ⟨rfl, rfl⟩
theorem c_Field_copyFrom {q o : Nat} {f : Fld} (hq : isField q) (ho : isField o) (hqo : q + 3 ≤ o ∨ o + 3 ≤ q) (h : FieldAt μ o f) : Ex γ 2 0 0 M_X1_copyFrom [.ref q, .ref o] (rm μ) (Rm none (fun m => FieldAt m q f ∧ Off q 3 μ m)) := by
  have h20 := h.mw.1
  refine Ex.of (by decide +kernel) rfl (Nat.le_of_ble_eq_true rfl) ?_
  show T _ _ _ _ _ _ _ _ _ [some (.ref q), some (.ref o)] [] (rm μ)
  refine T_aload_n (pc := 0) (i := 0) dX1_copyFrom_0 rfl rfl ?_
  refine T_aload_n (pc := 1) (i := 1) dX1_copyFrom_1 rfl rfl ?_
  refine R_getL (pc := 2) (x := lN (cd f.1)) fl_X1_9 rfl (kt_field ho) (lt_field ho) h.code dX1_copyFrom_2 ?_
  refine R_putL (pc := 5) fl_X1_9 ⟨rfl, rfl⟩ (kt_field hq) (lt_field hq) dX1_copyFrom_5 ?_
  refine T_aload_n (pc := 8) (i := 0) dX1_copyFrom_8 rfl rfl ?_
  refine T_aload_n (pc := 9) (i := 1) dX1_copyFrom_9 rfl rfl ?_
  refine R_getI (pc := 10) (x := f.2.1) fl_X1_22 rfl (kt_field ho) (lt_field ho) h.gone dX1_copyFrom_10 ?_
  refine R_putI (pc := 13) fl_X1_22 ⟨rfl, rfl⟩ (Or.inl rfl) (kt_field hq) (lt_field hq) dX1_copyFrom_13 ?_
  refine T_aload_n (pc := 16) (i := 0) dX1_copyFrom_16 rfl rfl ?_
  refine T_aload_n (pc := 17) (i := 1) dX1_copyFrom_17 rfl rfl ?_
  refine R_getR (pc := 18) (i := (o + 1)) fl_X1_15 rfl (kt_field ho) (lt_field ho) (rt_field_makers ho) dX1_copyFrom_18 ?_
  refine T_aload_n (pc := 21) (i := 1) dX1_copyFrom_21 rfl rfl ?_
  refine R_getR (pc := 22) (i := (o + 2)) fl_X1_19 rfl (kt_field ho) (lt_field ho) (rt_field_makings ho) dX1_copyFrom_22 ?_
  have h0 : Off q 3 μ (wI (wL μ q 0 (lN (cd f.1))) q 1 (f.2.1)) := (Off.sI (Off.sL (Off.refl _ _ _) (by omega)) (by omega))
  refine R_callV0 (pc := 25) (As := [.ref (o + 1), .ref (o + 2)]) (rest := []) (Or.inl lk_X1_26) mk_X1_takeMakers (c_Field_takeMakers hq (kt_field_makers ho) (lt_field_makers ho) (kt_field_makings ho) (lt_field_makings ho)) (kt_field hq) ⟨by decide, rfl⟩ (lt_field hq) dX1_copyFrom_25 rfl rfl (Nat.le_of_ble_eq_true rfl) (by decide) rfl (Nat.le_refl _) (Nat.le_refl _) ?_
  refine T_vret dX1_copyFrom_28 rfl (Nat.le_refl _) (Nat.le_refl _) ⟨_, rfl, rfl, ⟨h.1, h.2.1, ?_, ?_, fun i hi => ?_⟩, Off.sCI (Off.sCI h0 (by omega)) (by omega)⟩
  · skip
    simp (disch := omega) only [n_wI, e_wI, n_wL, e_wL, m_wI2, m_wL1, n_wCI, e_wCI, n_wCL, e_wCL, m_wCI2, m_wCL1, n_wF, e_wF, m_wF2]
  · skip
    simp (disch := omega) only [n_wI, e_wI, n_wL, e_wL, m_wI2, m_wL1, n_wCI, e_wCI, n_wCL, e_wCL, m_wCI2, m_wCL1, n_wF, e_wF, m_wF2]
  · have e := h.mk i hi
    simp (disch := omega) only [n_wI, e_wI, n_wL, e_wL, m_wI2, m_wL1, n_wCI, e_wCI, n_wCL, e_wCL, m_wCI2, m_wCL1, n_wF, e_wF, m_wF2]
    exact e
theorem c_Field_tell {q : Nat} {l : List Nat} (hq : isField q) (hl : Mw l) : Ex γ 2 0 0 M_X1_tell [.ref q, .long (lN (cd l))] (rm μ) (Rm none (fun m => FieldAt m q (l, 0, List.replicate l.length (-1, -1)) ∧ Off q 3 μ m)) := by
  have h20 := hl.1
  refine Ex.of (by decide +kernel) rfl (Nat.le_of_ble_eq_true rfl) ?_
  show T _ _ _ _ _ _ _ _ _ [some (.ref q), some (.long (lN (cd l))), none] [] (rm μ)
  refine T_aload_n (pc := 0) (i := 0) dX1_tell_0 rfl rfl ?_
  refine T_lload_n (pc := 1) (i := 1) dX1_tell_1 rfl rfl ?_
  refine R_putL (pc := 2) fl_X1_9 ⟨rfl, rfl⟩ (kt_field hq) (lt_field hq) dX1_tell_2 ?_
  refine T_aload_n (pc := 5) (i := 0) dX1_tell_5 rfl rfl ?_
  refine T_iconst (pc := 6) (v := nI 0) dX1_tell_6 (by decide) ?_
  refine R_putI (pc := 7) fl_X1_22 ⟨rfl, rfl⟩ (Or.inl rfl) (kt_field hq) (lt_field hq) dX1_tell_7 ?_
  refine T_aload_n (pc := 10) (i := 0) dX1_tell_10 rfl rfl ?_
  refine R_getR (pc := 11) (i := (q + 1)) fl_X1_15 rfl (kt_field hq) (lt_field hq) (rt_field_makers hq) dX1_tell_11 ?_
  refine T_iconst (pc := 14) (v := (-1)) dX1_tell_14 (by decide) ?_
  have h0 : Off q 3 μ (wI (wL μ q 0 (lN (cd l))) q 1 (nI 0)) := (Off.sI (Off.sL (Off.refl _ _ _) (by omega)) (by omega))
  refine R_callS0 (pc := 15) (av := [.ref (q + 1), .int ((-1))]) (rest := []) (Or.inl lk_X1_36) mk_J7_fill_53178 (c_fill (kt_field_makers hq) (lt_field_makers hq) (by decide)) dX1_tell_15 rfl rfl (Nat.le_of_ble_eq_true rfl) (by decide) rfl (Nat.le_refl _) (Nat.le_refl _) ?_
  refine T_aload_n (pc := 18) (i := 0) dX1_tell_18 rfl rfl ?_
  refine R_getR (pc := 19) (i := (q + 2)) fl_X1_19 rfl (kt_field hq) (lt_field hq) (rt_field_makings hq) dX1_tell_19 ?_
  refine T_iconst (pc := 22) (v := (-1)) dX1_tell_22 (by decide) ?_
  refine R_callS0 (pc := 23) (av := [.ref (q + 2), .int ((-1))]) (rest := []) (Or.inl lk_X1_36) mk_J7_fill_53178 (c_fill (kt_field_makings hq) (lt_field_makings hq) (by decide)) dX1_tell_23 rfl rfl (Nat.le_of_ble_eq_true rfl) (by decide) rfl (Nat.le_refl _) (Nat.le_refl _) ?_
  refine T_vret dX1_tell_26 rfl (Nat.le_refl _) (Nat.le_refl _) ⟨_, rfl, rfl, ⟨hl, List.length_replicate, ?_, ?_, fun i hi => ?_⟩, Off.sF (Off.sF h0 (by omega)) (by omega)⟩
  · skip
    simp (disch := omega) only [n_wI, e_wI, n_wL, e_wL, m_wI2, m_wL1, n_wCI, e_wCI, n_wCL, e_wCL, m_wCI2, m_wCL1, n_wF, e_wF, m_wF2]
  · skip
    simp (disch := omega) only [n_wI, e_wI, n_wL, e_wL, m_wI2, m_wL1, n_wCI, e_wCI, n_wCL, e_wCL, m_wCI2, m_wCL1, n_wF, e_wF, m_wF2]
    rfl
  · have hi2 : i < l.length := hi
    have e : mAt (List.replicate l.length (-1, -1)) i = (-1, -1) := by
      show (List.replicate l.length ((-1 : Int32), (-1 : Int32))).getD i (0, 0) = _
      rw [List.getD_eq_getElem?_getD, List.getElem?_replicate, if_pos hi2]
      rfl
    simp only [e]
    refine ⟨?_, ?_⟩
    all_goals
      simp (disch := omega) only [n_wI, e_wI, n_wL, e_wL, m_wI2, m_wL1, n_wCI, e_wCI, n_wCL, e_wCL, m_wCI2, m_wCL1, n_wF, e_wF, m_wF2]
theorem c_Told_copyFrom {t o : Nat} {X : Td} (ht : isTold t) (ho : isTold o) (hto : t + 28 ≤ o ∨ o + 28 ≤ t) (h : ToldAt μ o X) : Ex γ 3 0 0 M_X9_copyFrom [.ref t, .ref o] (rm μ) (Rm none (fun m => ToldAt m t X ∧ Off t 28 μ m)) := by
  obtain ⟨hR, hF, hS, hW, hX⟩ := h
  have hF6 := hF.2.1
  refine Ex.of (by decide +kernel) rfl (Nat.le_of_ble_eq_true rfl) ?_
  show T _ _ _ _ _ _ _ _ _ [some (.ref t), some (.ref o), none] [] (rm μ)
  refine T_aload_n (pc := 0) (i := 0) dX9_copyFrom_0 rfl rfl ?_
  refine R_getR (pc := 1) (i := (t + 1)) fl_X9_12 rfl (kt_told ht) (lt_told ht) (rt_told_rules ht) dX9_copyFrom_1 ?_
  refine T_aload_n (pc := 4) (i := 1) dX9_copyFrom_4 rfl rfl ?_
  refine R_getR (pc := 5) (i := (o + 1)) fl_X9_12 rfl (kt_told ho) (lt_told ho) (rt_told_rules ho) dX9_copyFrom_5 ?_
  refine R_callVm0 (pc := 8) (As := [.ref (o + 1)]) (rest := []) (Or.inl lk_X9_49) mk_X6_copyFrom (c_Rules_copyFrom (told_rules ht) (told_rules ho) (by omega) hR) (kt_rules (told_rules ht)) ⟨by decide, rfl⟩ (lt_rules (told_rules ht)) dX9_copyFrom_8 rfl rfl (Nat.le_of_ble_eq_true rfl) (by decide) rfl (Nat.le_refl _) (Nat.le_refl _) (fun μ1 h1 => ?_)
  obtain ⟨h1R, h1o⟩ := h1
  refine T_iconst (pc := 11) (v := nI 0) dX9_copyFrom_11 (by decide) ?_
  refine T_istore_n (pc := 12) (i := 2) (ls' := [some (.ref t), some (.ref o), some (.int (nI 0))]) dX9_copyFrom_12 rfl (by decide) rfl ?_
  refine T_forI (pc := 13) X.F.length (fun i => [some (.ref t), some (.ref o), some (.int (nI i))]) (fun i m => RulesAt m (t + 1) X.R ∧ (∀ j, j < i → FieldAt m (t + 10 + 3 * j) (fAt X.F j)) ∧ Off t 28 μ m) (fun i m hle hI ih => ?_) 0 (Nat.zero_le _) (⟨h1R, fun j hj => absurd hj (Nat.not_lt_zero j), h1o.mono (by omega)⟩)
  show T _ _ _ _ _ _ _ _ 13 [some (.ref t), some (.ref o), some (.int (nI i))] [] (rm m)
  obtain ⟨iR, iF, iO⟩ := hI
  refine T_iload_n (pc := 13) (i := 2) dX9_copyFrom_13 rfl rfl ?_
  refine T_aload_n (pc := 14) (i := 1) dX9_copyFrom_14 rfl rfl ?_
  refine R_getI (pc := 15) (x := nI X.F.length) fl_X9_53 rfl (kt_told ho) (lt_told ho) ((iO.i (by omega) 2).trans hF.1) dX9_copyFrom_15 ?_
  refine R_icmp_ge (pc := 18) (tgt := 42) (by omega) (by omega) dX9_copyFrom_18 (by decide) (fun h2 => ?_) (fun h2 => ?_)
  · skip
    refine T_aload_n (pc := 42) (i := 0) dX9_copyFrom_42 rfl rfl ?_
    refine T_aload_n (pc := 43) (i := 1) dX9_copyFrom_43 rfl rfl ?_
    refine R_getI (pc := 44) (x := nI X.F.length) fl_X9_53 rfl (kt_told ho) (lt_told ho) ((iO.i (by omega) 2).trans hF.1) dX9_copyFrom_44 ?_
    refine R_putI (pc := 47) fl_X9_53 ⟨rfl, rfl⟩ (Or.inl rfl) (kt_told ht) (lt_told ht) dX9_copyFrom_47 ?_
    refine T_aload_n (pc := 50) (i := 1) dX9_copyFrom_50 rfl rfl ?_
    refine R_getR (pc := 51) (i := (o + 7)) fl_X9_24 rfl (kt_told ho) (lt_told ho) (rt_told_seenFirst ho) dX9_copyFrom_51 ?_
    refine T_iconst (pc := 54) (v := nI 0) dX9_copyFrom_54 (by decide) ?_
    refine T_aload_n (pc := 55) (i := 0) dX9_copyFrom_55 rfl rfl ?_
    refine R_getR (pc := 56) (i := (t + 7)) fl_X9_24 rfl (kt_told ht) (lt_told ht) (rt_told_seenFirst ht) dX9_copyFrom_56 ?_
    refine T_iconst (pc := 59) (v := nI 0) dX9_copyFrom_59 (by decide) ?_
    refine T_bipush (pc := 60) (v := nI 10) dX9_copyFrom_60 (by decide) ?_
    refine R_copyL (pc := 62) cp_X9_59 (kt_told_seenFirst ho) (kt_told_seenFirst ht) (lt_told_seenFirst ho) (lt_told_seenFirst ht) (by omega) (by omega) (by decide) (by decide) dX9_copyFrom_62 ?_
    refine T_aload_n (pc := 65) (i := 1) dX9_copyFrom_65 rfl rfl ?_
    refine R_getR (pc := 66) (i := (o + 8)) fl_X9_28 rfl (kt_told ho) (lt_told ho) (rt_told_seenThen ho) dX9_copyFrom_66 ?_
    refine T_iconst (pc := 69) (v := nI 0) dX9_copyFrom_69 (by decide) ?_
    refine T_aload_n (pc := 70) (i := 0) dX9_copyFrom_70 rfl rfl ?_
    refine R_getR (pc := 71) (i := (t + 8)) fl_X9_28 rfl (kt_told ht) (lt_told ht) (rt_told_seenThen ht) dX9_copyFrom_71 ?_
    refine T_iconst (pc := 74) (v := nI 0) dX9_copyFrom_74 (by decide) ?_
    refine T_bipush (pc := 75) (v := nI 10) dX9_copyFrom_75 (by decide) ?_
    refine R_copyL (pc := 77) cp_X9_59 (kt_told_seenThen ho) (kt_told_seenThen ht) (lt_told_seenThen ho) (lt_told_seenThen ht) (by omega) (by omega) (by decide) (by decide) dX9_copyFrom_77 ?_
    refine T_aload_n (pc := 80) (i := 0) dX9_copyFrom_80 rfl rfl ?_
    refine T_aload_n (pc := 81) (i := 1) dX9_copyFrom_81 rfl rfl ?_
    refine R_getI (pc := 82) (x := ((wCL (wCL (wI m t 2 (nI X.F.length)) (o + 7) (t + 7) 0 0 10) (o + 8) (t + 8) 0 0 10).1 o 5)) fl_X9_65 rfl (kt_told ho) (lt_told ho) rfl dX9_copyFrom_82 ?_
    refine R_putI (pc := 85) fl_X9_65 ⟨rfl, rfl⟩ (Or.inl rfl) (kt_told ht) (lt_told ht) dX9_copyFrom_85 ?_
    refine T_aload_n (pc := 88) (i := 1) dX9_copyFrom_88 rfl rfl ?_
    refine R_getR (pc := 89) (i := (o + 9)) fl_X9_31 rfl (kt_told ho) (lt_told ho) (rt_told_weights ho) dX9_copyFrom_89 ?_
    refine T_iconst (pc := 92) (v := nI 0) dX9_copyFrom_92 (by decide) ?_
    refine T_aload_n (pc := 93) (i := 0) dX9_copyFrom_93 rfl rfl ?_
    refine R_getR (pc := 94) (i := (t + 9)) fl_X9_31 rfl (kt_told ht) (lt_told ht) (rt_told_weights ht) dX9_copyFrom_94 ?_
    refine T_iconst (pc := 97) (v := nI 0) dX9_copyFrom_97 (by decide) ?_
    refine T_bipush (pc := 98) (v := nI 8) dX9_copyFrom_98 (by decide) ?_
    refine R_copyI (pc := 100) cp_X9_59 (kt_told_weights ho) (kt_told_weights ht) (lt_told_weights ho) (lt_told_weights ht) (by omega) (by omega) (by decide) (by decide) dX9_copyFrom_100 ?_
    refine T_aload_n (pc := 103) (i := 0) dX9_copyFrom_103 rfl rfl ?_
    refine T_aload_n (pc := 104) (i := 1) dX9_copyFrom_104 rfl rfl ?_
    refine R_getI (pc := 105) (x := ((wCI (wI (wCL (wCL (wI m t 2 (nI X.F.length)) (o + 7) (t + 7) 0 0 10) (o + 8) (t + 8) 0 0 10) t 5 (((wCL (wCL (wI m t 2 (nI X.F.length)) (o + 7) (t + 7) 0 0 10) (o + 8) (t + 8) 0 0 10).1 o 5))) (o + 9) (t + 9) 0 0 8).1 o 7)) fl_X9_68 rfl (kt_told ho) (lt_told ho) rfl dX9_copyFrom_105 ?_
    refine R_putI (pc := 108) fl_X9_68 ⟨rfl, rfl⟩ (Or.inl rfl) (kt_told ht) (lt_told ht) dX9_copyFrom_108 ?_
    refine T_aload_n (pc := 111) (i := 0) dX9_copyFrom_111 rfl rfl ?_
    refine T_aload_n (pc := 112) (i := 1) dX9_copyFrom_112 rfl rfl ?_
    refine R_getI (pc := 113) (x := ((wI (wCI (wI (wCL (wCL (wI m t 2 (nI X.F.length)) (o + 7) (t + 7) 0 0 10) (o + 8) (t + 8) 0 0 10) t 5 (((wCL (wCL (wI m t 2 (nI X.F.length)) (o + 7) (t + 7) 0 0 10) (o + 8) (t + 8) 0 0 10).1 o 5))) (o + 9) (t + 9) 0 0 8) t 7 (((wCI (wI (wCL (wCL (wI m t 2 (nI X.F.length)) (o + 7) (t + 7) 0 0 10) (o + 8) (t + 8) 0 0 10) t 5 (((wCL (wCL (wI m t 2 (nI X.F.length)) (o + 7) (t + 7) 0 0 10) (o + 8) (t + 8) 0 0 10).1 o 5))) (o + 9) (t + 9) 0 0 8).1 o 7))).1 o 8)) fl_X9_35 rfl (kt_told ho) (lt_told ho) rfl dX9_copyFrom_113 ?_
    refine R_putI (pc := 116) fl_X9_35 ⟨rfl, rfl⟩ (Or.inl rfl) (kt_told ht) (lt_told ht) dX9_copyFrom_116 ?_
    refine T_aload_n (pc := 119) (i := 0) dX9_copyFrom_119 rfl rfl ?_
    refine T_aload_n (pc := 120) (i := 1) dX9_copyFrom_120 rfl rfl ?_
    refine R_getI (pc := 121) (x := ((wI (wI (wCI (wI (wCL (wCL (wI m t 2 (nI X.F.length)) (o + 7) (t + 7) 0 0 10) (o + 8) (t + 8) 0 0 10) t 5 (((wCL (wCL (wI m t 2 (nI X.F.length)) (o + 7) (t + 7) 0 0 10) (o + 8) (t + 8) 0 0 10).1 o 5))) (o + 9) (t + 9) 0 0 8) t 7 (((wCI (wI (wCL (wCL (wI m t 2 (nI X.F.length)) (o + 7) (t + 7) 0 0 10) (o + 8) (t + 8) 0 0 10) t 5 (((wCL (wCL (wI m t 2 (nI X.F.length)) (o + 7) (t + 7) 0 0 10) (o + 8) (t + 8) 0 0 10).1 o 5))) (o + 9) (t + 9) 0 0 8).1 o 7))) t 8 (((wI (wCI (wI (wCL (wCL (wI m t 2 (nI X.F.length)) (o + 7) (t + 7) 0 0 10) (o + 8) (t + 8) 0 0 10) t 5 (((wCL (wCL (wI m t 2 (nI X.F.length)) (o + 7) (t + 7) 0 0 10) (o + 8) (t + 8) 0 0 10).1 o 5))) (o + 9) (t + 9) 0 0 8) t 7 (((wCI (wI (wCL (wCL (wI m t 2 (nI X.F.length)) (o + 7) (t + 7) 0 0 10) (o + 8) (t + 8) 0 0 10) t 5 (((wCL (wCL (wI m t 2 (nI X.F.length)) (o + 7) (t + 7) 0 0 10) (o + 8) (t + 8) 0 0 10).1 o 5))) (o + 9) (t + 9) 0 0 8).1 o 7))).1 o 8))).1 o 9)) fl_X9_71 rfl (kt_told ho) (lt_told ho) rfl dX9_copyFrom_121 ?_
    refine R_putI (pc := 124) fl_X9_71 ⟨rfl, rfl⟩ (Or.inl rfl) (kt_told ht) (lt_told ht) dX9_copyFrom_124 ?_
    refine T_aload_n (pc := 127) (i := 0) dX9_copyFrom_127 rfl rfl ?_
    refine T_aload_n (pc := 128) (i := 1) dX9_copyFrom_128 rfl rfl ?_
    refine R_getI (pc := 129) (x := ((wI (wI (wI (wCI (wI (wCL (wCL (wI m t 2 (nI X.F.length)) (o + 7) (t + 7) 0 0 10) (o + 8) (t + 8) 0 0 10) t 5 (((wCL (wCL (wI m t 2 (nI X.F.length)) (o + 7) (t + 7) 0 0 10) (o + 8) (t + 8) 0 0 10).1 o 5))) (o + 9) (t + 9) 0 0 8) t 7 (((wCI (wI (wCL (wCL (wI m t 2 (nI X.F.length)) (o + 7) (t + 7) 0 0 10) (o + 8) (t + 8) 0 0 10) t 5 (((wCL (wCL (wI m t 2 (nI X.F.length)) (o + 7) (t + 7) 0 0 10) (o + 8) (t + 8) 0 0 10).1 o 5))) (o + 9) (t + 9) 0 0 8).1 o 7))) t 8 (((wI (wCI (wI (wCL (wCL (wI m t 2 (nI X.F.length)) (o + 7) (t + 7) 0 0 10) (o + 8) (t + 8) 0 0 10) t 5 (((wCL (wCL (wI m t 2 (nI X.F.length)) (o + 7) (t + 7) 0 0 10) (o + 8) (t + 8) 0 0 10).1 o 5))) (o + 9) (t + 9) 0 0 8) t 7 (((wCI (wI (wCL (wCL (wI m t 2 (nI X.F.length)) (o + 7) (t + 7) 0 0 10) (o + 8) (t + 8) 0 0 10) t 5 (((wCL (wCL (wI m t 2 (nI X.F.length)) (o + 7) (t + 7) 0 0 10) (o + 8) (t + 8) 0 0 10).1 o 5))) (o + 9) (t + 9) 0 0 8).1 o 7))).1 o 8))) t 9 (((wI (wI (wCI (wI (wCL (wCL (wI m t 2 (nI X.F.length)) (o + 7) (t + 7) 0 0 10) (o + 8) (t + 8) 0 0 10) t 5 (((wCL (wCL (wI m t 2 (nI X.F.length)) (o + 7) (t + 7) 0 0 10) (o + 8) (t + 8) 0 0 10).1 o 5))) (o + 9) (t + 9) 0 0 8) t 7 (((wCI (wI (wCL (wCL (wI m t 2 (nI X.F.length)) (o + 7) (t + 7) 0 0 10) (o + 8) (t + 8) 0 0 10) t 5 (((wCL (wCL (wI m t 2 (nI X.F.length)) (o + 7) (t + 7) 0 0 10) (o + 8) (t + 8) 0 0 10).1 o 5))) (o + 9) (t + 9) 0 0 8).1 o 7))) t 8 (((wI (wCI (wI (wCL (wCL (wI m t 2 (nI X.F.length)) (o + 7) (t + 7) 0 0 10) (o + 8) (t + 8) 0 0 10) t 5 (((wCL (wCL (wI m t 2 (nI X.F.length)) (o + 7) (t + 7) 0 0 10) (o + 8) (t + 8) 0 0 10).1 o 5))) (o + 9) (t + 9) 0 0 8) t 7 (((wCI (wI (wCL (wCL (wI m t 2 (nI X.F.length)) (o + 7) (t + 7) 0 0 10) (o + 8) (t + 8) 0 0 10) t 5 (((wCL (wCL (wI m t 2 (nI X.F.length)) (o + 7) (t + 7) 0 0 10) (o + 8) (t + 8) 0 0 10).1 o 5))) (o + 9) (t + 9) 0 0 8).1 o 7))).1 o 8))).1 o 9))).1 o 10)) fl_X9_74 rfl (kt_told ho) (lt_told ho) rfl dX9_copyFrom_129 ?_
    refine R_putI (pc := 132) fl_X9_74 ⟨rfl, rfl⟩ (Or.inl rfl) (kt_told ht) (lt_told ht) dX9_copyFrom_132 ?_
    refine T_aload_n (pc := 135) (i := 0) dX9_copyFrom_135 rfl rfl ?_
    refine T_aload_n (pc := 136) (i := 1) dX9_copyFrom_136 rfl rfl ?_
    refine R_getI (pc := 137) (x := ((wI (wI (wI (wI (wCI (wI (wCL (wCL (wI m t 2 (nI X.F.length)) (o + 7) (t + 7) 0 0 10) (o + 8) (t + 8) 0 0 10) t 5 (((wCL (wCL (wI m t 2 (nI X.F.length)) (o + 7) (t + 7) 0 0 10) (o + 8) (t + 8) 0 0 10).1 o 5))) (o + 9) (t + 9) 0 0 8) t 7 (((wCI (wI (wCL (wCL (wI m t 2 (nI X.F.length)) (o + 7) (t + 7) 0 0 10) (o + 8) (t + 8) 0 0 10) t 5 (((wCL (wCL (wI m t 2 (nI X.F.length)) (o + 7) (t + 7) 0 0 10) (o + 8) (t + 8) 0 0 10).1 o 5))) (o + 9) (t + 9) 0 0 8).1 o 7))) t 8 (((wI (wCI (wI (wCL (wCL (wI m t 2 (nI X.F.length)) (o + 7) (t + 7) 0 0 10) (o + 8) (t + 8) 0 0 10) t 5 (((wCL (wCL (wI m t 2 (nI X.F.length)) (o + 7) (t + 7) 0 0 10) (o + 8) (t + 8) 0 0 10).1 o 5))) (o + 9) (t + 9) 0 0 8) t 7 (((wCI (wI (wCL (wCL (wI m t 2 (nI X.F.length)) (o + 7) (t + 7) 0 0 10) (o + 8) (t + 8) 0 0 10) t 5 (((wCL (wCL (wI m t 2 (nI X.F.length)) (o + 7) (t + 7) 0 0 10) (o + 8) (t + 8) 0 0 10).1 o 5))) (o + 9) (t + 9) 0 0 8).1 o 7))).1 o 8))) t 9 (((wI (wI (wCI (wI (wCL (wCL (wI m t 2 (nI X.F.length)) (o + 7) (t + 7) 0 0 10) (o + 8) (t + 8) 0 0 10) t 5 (((wCL (wCL (wI m t 2 (nI X.F.length)) (o + 7) (t + 7) 0 0 10) (o + 8) (t + 8) 0 0 10).1 o 5))) (o + 9) (t + 9) 0 0 8) t 7 (((wCI (wI (wCL (wCL (wI m t 2 (nI X.F.length)) (o + 7) (t + 7) 0 0 10) (o + 8) (t + 8) 0 0 10) t 5 (((wCL (wCL (wI m t 2 (nI X.F.length)) (o + 7) (t + 7) 0 0 10) (o + 8) (t + 8) 0 0 10).1 o 5))) (o + 9) (t + 9) 0 0 8).1 o 7))) t 8 (((wI (wCI (wI (wCL (wCL (wI m t 2 (nI X.F.length)) (o + 7) (t + 7) 0 0 10) (o + 8) (t + 8) 0 0 10) t 5 (((wCL (wCL (wI m t 2 (nI X.F.length)) (o + 7) (t + 7) 0 0 10) (o + 8) (t + 8) 0 0 10).1 o 5))) (o + 9) (t + 9) 0 0 8) t 7 (((wCI (wI (wCL (wCL (wI m t 2 (nI X.F.length)) (o + 7) (t + 7) 0 0 10) (o + 8) (t + 8) 0 0 10) t 5 (((wCL (wCL (wI m t 2 (nI X.F.length)) (o + 7) (t + 7) 0 0 10) (o + 8) (t + 8) 0 0 10).1 o 5))) (o + 9) (t + 9) 0 0 8).1 o 7))).1 o 8))).1 o 9))) t 10 (((wI (wI (wI (wCI (wI (wCL (wCL (wI m t 2 (nI X.F.length)) (o + 7) (t + 7) 0 0 10) (o + 8) (t + 8) 0 0 10) t 5 (((wCL (wCL (wI m t 2 (nI X.F.length)) (o + 7) (t + 7) 0 0 10) (o + 8) (t + 8) 0 0 10).1 o 5))) (o + 9) (t + 9) 0 0 8) t 7 (((wCI (wI (wCL (wCL (wI m t 2 (nI X.F.length)) (o + 7) (t + 7) 0 0 10) (o + 8) (t + 8) 0 0 10) t 5 (((wCL (wCL (wI m t 2 (nI X.F.length)) (o + 7) (t + 7) 0 0 10) (o + 8) (t + 8) 0 0 10).1 o 5))) (o + 9) (t + 9) 0 0 8).1 o 7))) t 8 (((wI (wCI (wI (wCL (wCL (wI m t 2 (nI X.F.length)) (o + 7) (t + 7) 0 0 10) (o + 8) (t + 8) 0 0 10) t 5 (((wCL (wCL (wI m t 2 (nI X.F.length)) (o + 7) (t + 7) 0 0 10) (o + 8) (t + 8) 0 0 10).1 o 5))) (o + 9) (t + 9) 0 0 8) t 7 (((wCI (wI (wCL (wCL (wI m t 2 (nI X.F.length)) (o + 7) (t + 7) 0 0 10) (o + 8) (t + 8) 0 0 10) t 5 (((wCL (wCL (wI m t 2 (nI X.F.length)) (o + 7) (t + 7) 0 0 10) (o + 8) (t + 8) 0 0 10).1 o 5))) (o + 9) (t + 9) 0 0 8).1 o 7))).1 o 8))) t 9 (((wI (wI (wCI (wI (wCL (wCL (wI m t 2 (nI X.F.length)) (o + 7) (t + 7) 0 0 10) (o + 8) (t + 8) 0 0 10) t 5 (((wCL (wCL (wI m t 2 (nI X.F.length)) (o + 7) (t + 7) 0 0 10) (o + 8) (t + 8) 0 0 10).1 o 5))) (o + 9) (t + 9) 0 0 8) t 7 (((wCI (wI (wCL (wCL (wI m t 2 (nI X.F.length)) (o + 7) (t + 7) 0 0 10) (o + 8) (t + 8) 0 0 10) t 5 (((wCL (wCL (wI m t 2 (nI X.F.length)) (o + 7) (t + 7) 0 0 10) (o + 8) (t + 8) 0 0 10).1 o 5))) (o + 9) (t + 9) 0 0 8).1 o 7))) t 8 (((wI (wCI (wI (wCL (wCL (wI m t 2 (nI X.F.length)) (o + 7) (t + 7) 0 0 10) (o + 8) (t + 8) 0 0 10) t 5 (((wCL (wCL (wI m t 2 (nI X.F.length)) (o + 7) (t + 7) 0 0 10) (o + 8) (t + 8) 0 0 10).1 o 5))) (o + 9) (t + 9) 0 0 8) t 7 (((wCI (wI (wCL (wCL (wI m t 2 (nI X.F.length)) (o + 7) (t + 7) 0 0 10) (o + 8) (t + 8) 0 0 10) t 5 (((wCL (wCL (wI m t 2 (nI X.F.length)) (o + 7) (t + 7) 0 0 10) (o + 8) (t + 8) 0 0 10).1 o 5))) (o + 9) (t + 9) 0 0 8).1 o 7))).1 o 8))).1 o 9))).1 o 10))).1 o 11)) fl_X9_39 rfl (kt_told ho) (lt_told ho) rfl dX9_copyFrom_137 ?_
    refine R_putI (pc := 140) fl_X9_39 ⟨rfl, rfl⟩ (Or.inl rfl) (kt_told ht) (lt_told ht) dX9_copyFrom_140 ?_
    have h9 : Off t 28 m (wI (wI (wI (wI (wI (wCI (wI (wCL (wCL (wI m t 2 (nI X.F.length)) (o + 7) (t + 7) 0 0 10) (o + 8) (t + 8) 0 0 10) t 5 (((wCL (wCL (wI m t 2 (nI X.F.length)) (o + 7) (t + 7) 0 0 10) (o + 8) (t + 8) 0 0 10).1 o 5))) (o + 9) (t + 9) 0 0 8) t 7 (((wCI (wI (wCL (wCL (wI m t 2 (nI X.F.length)) (o + 7) (t + 7) 0 0 10) (o + 8) (t + 8) 0 0 10) t 5 (((wCL (wCL (wI m t 2 (nI X.F.length)) (o + 7) (t + 7) 0 0 10) (o + 8) (t + 8) 0 0 10).1 o 5))) (o + 9) (t + 9) 0 0 8).1 o 7))) t 8 (((wI (wCI (wI (wCL (wCL (wI m t 2 (nI X.F.length)) (o + 7) (t + 7) 0 0 10) (o + 8) (t + 8) 0 0 10) t 5 (((wCL (wCL (wI m t 2 (nI X.F.length)) (o + 7) (t + 7) 0 0 10) (o + 8) (t + 8) 0 0 10).1 o 5))) (o + 9) (t + 9) 0 0 8) t 7 (((wCI (wI (wCL (wCL (wI m t 2 (nI X.F.length)) (o + 7) (t + 7) 0 0 10) (o + 8) (t + 8) 0 0 10) t 5 (((wCL (wCL (wI m t 2 (nI X.F.length)) (o + 7) (t + 7) 0 0 10) (o + 8) (t + 8) 0 0 10).1 o 5))) (o + 9) (t + 9) 0 0 8).1 o 7))).1 o 8))) t 9 (((wI (wI (wCI (wI (wCL (wCL (wI m t 2 (nI X.F.length)) (o + 7) (t + 7) 0 0 10) (o + 8) (t + 8) 0 0 10) t 5 (((wCL (wCL (wI m t 2 (nI X.F.length)) (o + 7) (t + 7) 0 0 10) (o + 8) (t + 8) 0 0 10).1 o 5))) (o + 9) (t + 9) 0 0 8) t 7 (((wCI (wI (wCL (wCL (wI m t 2 (nI X.F.length)) (o + 7) (t + 7) 0 0 10) (o + 8) (t + 8) 0 0 10) t 5 (((wCL (wCL (wI m t 2 (nI X.F.length)) (o + 7) (t + 7) 0 0 10) (o + 8) (t + 8) 0 0 10).1 o 5))) (o + 9) (t + 9) 0 0 8).1 o 7))) t 8 (((wI (wCI (wI (wCL (wCL (wI m t 2 (nI X.F.length)) (o + 7) (t + 7) 0 0 10) (o + 8) (t + 8) 0 0 10) t 5 (((wCL (wCL (wI m t 2 (nI X.F.length)) (o + 7) (t + 7) 0 0 10) (o + 8) (t + 8) 0 0 10).1 o 5))) (o + 9) (t + 9) 0 0 8) t 7 (((wCI (wI (wCL (wCL (wI m t 2 (nI X.F.length)) (o + 7) (t + 7) 0 0 10) (o + 8) (t + 8) 0 0 10) t 5 (((wCL (wCL (wI m t 2 (nI X.F.length)) (o + 7) (t + 7) 0 0 10) (o + 8) (t + 8) 0 0 10).1 o 5))) (o + 9) (t + 9) 0 0 8).1 o 7))).1 o 8))).1 o 9))) t 10 (((wI (wI (wI (wCI (wI (wCL (wCL (wI m t 2 (nI X.F.length)) (o + 7) (t + 7) 0 0 10) (o + 8) (t + 8) 0 0 10) t 5 (((wCL (wCL (wI m t 2 (nI X.F.length)) (o + 7) (t + 7) 0 0 10) (o + 8) (t + 8) 0 0 10).1 o 5))) (o + 9) (t + 9) 0 0 8) t 7 (((wCI (wI (wCL (wCL (wI m t 2 (nI X.F.length)) (o + 7) (t + 7) 0 0 10) (o + 8) (t + 8) 0 0 10) t 5 (((wCL (wCL (wI m t 2 (nI X.F.length)) (o + 7) (t + 7) 0 0 10) (o + 8) (t + 8) 0 0 10).1 o 5))) (o + 9) (t + 9) 0 0 8).1 o 7))) t 8 (((wI (wCI (wI (wCL (wCL (wI m t 2 (nI X.F.length)) (o + 7) (t + 7) 0 0 10) (o + 8) (t + 8) 0 0 10) t 5 (((wCL (wCL (wI m t 2 (nI X.F.length)) (o + 7) (t + 7) 0 0 10) (o + 8) (t + 8) 0 0 10).1 o 5))) (o + 9) (t + 9) 0 0 8) t 7 (((wCI (wI (wCL (wCL (wI m t 2 (nI X.F.length)) (o + 7) (t + 7) 0 0 10) (o + 8) (t + 8) 0 0 10) t 5 (((wCL (wCL (wI m t 2 (nI X.F.length)) (o + 7) (t + 7) 0 0 10) (o + 8) (t + 8) 0 0 10).1 o 5))) (o + 9) (t + 9) 0 0 8).1 o 7))).1 o 8))) t 9 (((wI (wI (wCI (wI (wCL (wCL (wI m t 2 (nI X.F.length)) (o + 7) (t + 7) 0 0 10) (o + 8) (t + 8) 0 0 10) t 5 (((wCL (wCL (wI m t 2 (nI X.F.length)) (o + 7) (t + 7) 0 0 10) (o + 8) (t + 8) 0 0 10).1 o 5))) (o + 9) (t + 9) 0 0 8) t 7 (((wCI (wI (wCL (wCL (wI m t 2 (nI X.F.length)) (o + 7) (t + 7) 0 0 10) (o + 8) (t + 8) 0 0 10) t 5 (((wCL (wCL (wI m t 2 (nI X.F.length)) (o + 7) (t + 7) 0 0 10) (o + 8) (t + 8) 0 0 10).1 o 5))) (o + 9) (t + 9) 0 0 8).1 o 7))) t 8 (((wI (wCI (wI (wCL (wCL (wI m t 2 (nI X.F.length)) (o + 7) (t + 7) 0 0 10) (o + 8) (t + 8) 0 0 10) t 5 (((wCL (wCL (wI m t 2 (nI X.F.length)) (o + 7) (t + 7) 0 0 10) (o + 8) (t + 8) 0 0 10).1 o 5))) (o + 9) (t + 9) 0 0 8) t 7 (((wCI (wI (wCL (wCL (wI m t 2 (nI X.F.length)) (o + 7) (t + 7) 0 0 10) (o + 8) (t + 8) 0 0 10) t 5 (((wCL (wCL (wI m t 2 (nI X.F.length)) (o + 7) (t + 7) 0 0 10) (o + 8) (t + 8) 0 0 10).1 o 5))) (o + 9) (t + 9) 0 0 8).1 o 7))).1 o 8))).1 o 9))).1 o 10))) t 11 (((wI (wI (wI (wI (wCI (wI (wCL (wCL (wI m t 2 (nI X.F.length)) (o + 7) (t + 7) 0 0 10) (o + 8) (t + 8) 0 0 10) t 5 (((wCL (wCL (wI m t 2 (nI X.F.length)) (o + 7) (t + 7) 0 0 10) (o + 8) (t + 8) 0 0 10).1 o 5))) (o + 9) (t + 9) 0 0 8) t 7 (((wCI (wI (wCL (wCL (wI m t 2 (nI X.F.length)) (o + 7) (t + 7) 0 0 10) (o + 8) (t + 8) 0 0 10) t 5 (((wCL (wCL (wI m t 2 (nI X.F.length)) (o + 7) (t + 7) 0 0 10) (o + 8) (t + 8) 0 0 10).1 o 5))) (o + 9) (t + 9) 0 0 8).1 o 7))) t 8 (((wI (wCI (wI (wCL (wCL (wI m t 2 (nI X.F.length)) (o + 7) (t + 7) 0 0 10) (o + 8) (t + 8) 0 0 10) t 5 (((wCL (wCL (wI m t 2 (nI X.F.length)) (o + 7) (t + 7) 0 0 10) (o + 8) (t + 8) 0 0 10).1 o 5))) (o + 9) (t + 9) 0 0 8) t 7 (((wCI (wI (wCL (wCL (wI m t 2 (nI X.F.length)) (o + 7) (t + 7) 0 0 10) (o + 8) (t + 8) 0 0 10) t 5 (((wCL (wCL (wI m t 2 (nI X.F.length)) (o + 7) (t + 7) 0 0 10) (o + 8) (t + 8) 0 0 10).1 o 5))) (o + 9) (t + 9) 0 0 8).1 o 7))).1 o 8))) t 9 (((wI (wI (wCI (wI (wCL (wCL (wI m t 2 (nI X.F.length)) (o + 7) (t + 7) 0 0 10) (o + 8) (t + 8) 0 0 10) t 5 (((wCL (wCL (wI m t 2 (nI X.F.length)) (o + 7) (t + 7) 0 0 10) (o + 8) (t + 8) 0 0 10).1 o 5))) (o + 9) (t + 9) 0 0 8) t 7 (((wCI (wI (wCL (wCL (wI m t 2 (nI X.F.length)) (o + 7) (t + 7) 0 0 10) (o + 8) (t + 8) 0 0 10) t 5 (((wCL (wCL (wI m t 2 (nI X.F.length)) (o + 7) (t + 7) 0 0 10) (o + 8) (t + 8) 0 0 10).1 o 5))) (o + 9) (t + 9) 0 0 8).1 o 7))) t 8 (((wI (wCI (wI (wCL (wCL (wI m t 2 (nI X.F.length)) (o + 7) (t + 7) 0 0 10) (o + 8) (t + 8) 0 0 10) t 5 (((wCL (wCL (wI m t 2 (nI X.F.length)) (o + 7) (t + 7) 0 0 10) (o + 8) (t + 8) 0 0 10).1 o 5))) (o + 9) (t + 9) 0 0 8) t 7 (((wCI (wI (wCL (wCL (wI m t 2 (nI X.F.length)) (o + 7) (t + 7) 0 0 10) (o + 8) (t + 8) 0 0 10) t 5 (((wCL (wCL (wI m t 2 (nI X.F.length)) (o + 7) (t + 7) 0 0 10) (o + 8) (t + 8) 0 0 10).1 o 5))) (o + 9) (t + 9) 0 0 8).1 o 7))).1 o 8))).1 o 9))) t 10 (((wI (wI (wI (wCI (wI (wCL (wCL (wI m t 2 (nI X.F.length)) (o + 7) (t + 7) 0 0 10) (o + 8) (t + 8) 0 0 10) t 5 (((wCL (wCL (wI m t 2 (nI X.F.length)) (o + 7) (t + 7) 0 0 10) (o + 8) (t + 8) 0 0 10).1 o 5))) (o + 9) (t + 9) 0 0 8) t 7 (((wCI (wI (wCL (wCL (wI m t 2 (nI X.F.length)) (o + 7) (t + 7) 0 0 10) (o + 8) (t + 8) 0 0 10) t 5 (((wCL (wCL (wI m t 2 (nI X.F.length)) (o + 7) (t + 7) 0 0 10) (o + 8) (t + 8) 0 0 10).1 o 5))) (o + 9) (t + 9) 0 0 8).1 o 7))) t 8 (((wI (wCI (wI (wCL (wCL (wI m t 2 (nI X.F.length)) (o + 7) (t + 7) 0 0 10) (o + 8) (t + 8) 0 0 10) t 5 (((wCL (wCL (wI m t 2 (nI X.F.length)) (o + 7) (t + 7) 0 0 10) (o + 8) (t + 8) 0 0 10).1 o 5))) (o + 9) (t + 9) 0 0 8) t 7 (((wCI (wI (wCL (wCL (wI m t 2 (nI X.F.length)) (o + 7) (t + 7) 0 0 10) (o + 8) (t + 8) 0 0 10) t 5 (((wCL (wCL (wI m t 2 (nI X.F.length)) (o + 7) (t + 7) 0 0 10) (o + 8) (t + 8) 0 0 10).1 o 5))) (o + 9) (t + 9) 0 0 8).1 o 7))).1 o 8))) t 9 (((wI (wI (wCI (wI (wCL (wCL (wI m t 2 (nI X.F.length)) (o + 7) (t + 7) 0 0 10) (o + 8) (t + 8) 0 0 10) t 5 (((wCL (wCL (wI m t 2 (nI X.F.length)) (o + 7) (t + 7) 0 0 10) (o + 8) (t + 8) 0 0 10).1 o 5))) (o + 9) (t + 9) 0 0 8) t 7 (((wCI (wI (wCL (wCL (wI m t 2 (nI X.F.length)) (o + 7) (t + 7) 0 0 10) (o + 8) (t + 8) 0 0 10) t 5 (((wCL (wCL (wI m t 2 (nI X.F.length)) (o + 7) (t + 7) 0 0 10) (o + 8) (t + 8) 0 0 10).1 o 5))) (o + 9) (t + 9) 0 0 8).1 o 7))) t 8 (((wI (wCI (wI (wCL (wCL (wI m t 2 (nI X.F.length)) (o + 7) (t + 7) 0 0 10) (o + 8) (t + 8) 0 0 10) t 5 (((wCL (wCL (wI m t 2 (nI X.F.length)) (o + 7) (t + 7) 0 0 10) (o + 8) (t + 8) 0 0 10).1 o 5))) (o + 9) (t + 9) 0 0 8) t 7 (((wCI (wI (wCL (wCL (wI m t 2 (nI X.F.length)) (o + 7) (t + 7) 0 0 10) (o + 8) (t + 8) 0 0 10) t 5 (((wCL (wCL (wI m t 2 (nI X.F.length)) (o + 7) (t + 7) 0 0 10) (o + 8) (t + 8) 0 0 10).1 o 5))) (o + 9) (t + 9) 0 0 8).1 o 7))).1 o 8))).1 o 9))).1 o 10))).1 o 11))) := (Off.sI (Off.sI (Off.sI (Off.sI (Off.sI (Off.sCI (Off.sI (Off.sCL (Off.sCL (Off.sI (Off.refl _ _ _) (by omega)) (by omega)) (by omega)) (by omega)) (by omega)) (by omega)) (by omega)) (by omega)) (by omega)) (by omega))
    refine T_vret dX9_copyFrom_143 rfl (Nat.le_refl _) (Nat.le_refl _) ⟨_, rfl, rfl, ⟨?_, ⟨?_, hF.2.1, fun j hj => ?_⟩, ⟨?_, hS.2.1, fun j hj => ⟨(hS.2.2 j hj).1, ?_, ?_⟩⟩, ⟨hW.1, fun j hj => ⟨(hW.2 j hj).1, ?_⟩⟩, ⟨hX.1, ?_, ?_, ?_, ?_, ?_⟩⟩, iO.trans h9⟩
    · refine iR.same ?_ (fun j => ?_) (fun j => ?_) (fun j => ?_) (fun j => ?_)
      all_goals
        simp (disch := omega) only [n_wI, e_wI, n_wL, e_wL, m_wI2, m_wL1, n_wCI, e_wCI, n_wCL, e_wCL, m_wCI2, m_wCL1, n_wF, e_wF, m_wF2]
    · skip
      simp (disch := omega) only [n_wI, e_wI, n_wL, e_wL, m_wI2, m_wL1, n_wCI, e_wCI, n_wCL, e_wCL, m_wCI2, m_wCL1, n_wF, e_wF, m_wF2]
    · have hj2 : j < X.F.length := hj
      refine (iF j (by omega)).same ?_ ?_ (fun j => ?_) (fun j => ?_)
      all_goals
        simp (disch := omega) only [n_wI, e_wI, n_wL, e_wL, m_wI2, m_wL1, n_wCI, e_wCI, n_wCL, e_wCL, m_wCI2, m_wCL1, n_wF, e_wF, m_wF2]
    · skip
      simp (disch := omega) only [n_wI, e_wI, n_wL, e_wL, m_wI2, m_wL1, n_wCI, e_wCI, n_wCL, e_wCL, m_wCI2, m_wCL1, n_wF, e_wF, m_wF2]
      exact (iO.i (by omega) 5).trans hS.1
    · have e := (iO.l (k := o + 7) (by omega) j).trans (hS.2.2 j hj).2.1
      have := hS.2.1
      simp (disch := omega) only [n_wI, e_wI, n_wL, e_wL, m_wI2, m_wL1, n_wCI, e_wCI, n_wCL, e_wCL, m_wCI2, m_wCL1, n_wF, e_wF, m_wF2]
      exact e
    · have e := (iO.l (k := o + 8) (by omega) j).trans (hS.2.2 j hj).2.2
      have := hS.2.1
      simp (disch := omega) only [n_wI, e_wI, n_wL, e_wL, m_wI2, m_wL1, n_wCI, e_wCI, n_wCL, e_wCL, m_wCI2, m_wCL1, n_wF, e_wF, m_wF2]
      exact e
    · have e := (iO.i (k := o + 9) (by omega) j).trans (hW.2 j hj).2
      simp (disch := omega) only [n_wI, e_wI, n_wL, e_wL, m_wI2, m_wL1, n_wCI, e_wCI, n_wCL, e_wCL, m_wCI2, m_wCL1, n_wF, e_wF, m_wF2]
      exact e
    · skip
      simp (disch := omega) only [n_wI, e_wI, n_wL, e_wL, m_wI2, m_wL1, n_wCI, e_wCI, n_wCL, e_wCL, m_wCI2, m_wCL1, n_wF, e_wF, m_wF2]
      exact (iO.i (by omega) 7).trans hX.2.1
    · skip
      simp (disch := omega) only [n_wI, e_wI, n_wL, e_wL, m_wI2, m_wL1, n_wCI, e_wCI, n_wCL, e_wCL, m_wCI2, m_wCL1, n_wF, e_wF, m_wF2]
      exact (iO.i (by omega) 8).trans hX.2.2.1
    · skip
      simp (disch := omega) only [n_wI, e_wI, n_wL, e_wL, m_wI2, m_wL1, n_wCI, e_wCI, n_wCL, e_wCL, m_wCI2, m_wCL1, n_wF, e_wF, m_wF2]
      exact (iO.i (by omega) 9).trans hX.2.2.2.1
    · skip
      simp (disch := omega) only [n_wI, e_wI, n_wL, e_wL, m_wI2, m_wL1, n_wCI, e_wCI, n_wCL, e_wCL, m_wCI2, m_wCL1, n_wF, e_wF, m_wF2]
      exact (iO.i (by omega) 10).trans hX.2.2.2.2.1
    · skip
      simp (disch := omega) only [n_wI, e_wI, n_wL, e_wL, m_wI2, m_wL1, n_wCI, e_wCI, n_wCL, e_wCL, m_wCI2, m_wCL1, n_wF, e_wF, m_wF2]
      exact (iO.i (by omega) 11).trans hX.2.2.2.2.2
  · skip
    refine T_aload_n (pc := 21) (i := 0) dX9_copyFrom_21 rfl rfl ?_
    refine R_getR (pc := 22) (i := (t + 6)) fl_X9_20 rfl (kt_told ht) (lt_told ht) (rt_told_fields ht) dX9_copyFrom_22 ?_
    refine T_iload_n (pc := 25) (i := 2) dX9_copyFrom_25 rfl rfl ?_
    refine R_aald (pc := 26) (t := 0) (j := (t + 10 + 3 * i)) (kt_told_fields ht) (by decide) (lt_told_fields ht) (by omega) (by decide) (rt_told_el ht (by omega)) dX9_copyFrom_26 ?_
    refine T_aload_n (pc := 27) (i := 1) dX9_copyFrom_27 rfl rfl ?_
    refine R_getR (pc := 28) (i := (o + 6)) fl_X9_20 rfl (kt_told ho) (lt_told ho) (rt_told_fields ho) dX9_copyFrom_28 ?_
    refine T_iload_n (pc := 31) (i := 2) dX9_copyFrom_31 rfl rfl ?_
    refine R_aald (pc := 32) (t := 0) (j := (o + 10 + 3 * i)) (kt_told_fields ho) (by decide) (lt_told_fields ho) (by omega) (by decide) (rt_told_el ho (by omega)) dX9_copyFrom_32 ?_
    refine R_callVm0 (pc := 33) (As := [.ref (o + 10 + 3 * i)]) (rest := []) (Or.inl lk_X9_56) mk_X1_copyFrom (c_Field_copyFrom (told_field ht (by omega)) (told_field ho (by omega)) (by omega) ((hF.2.2 i h2).off iO (by omega))) (kt_field (told_field ht (by omega))) ⟨by decide, rfl⟩ (lt_field (told_field ht (by omega))) dX9_copyFrom_33 rfl rfl (Nat.le_of_ble_eq_true rfl) (by decide) rfl (Nat.le_refl _) (Nat.le_refl _) (fun m1 h3 => ?_)
    obtain ⟨h3F, h3o⟩ := h3
    refine R_iinc (pc := 36) (i := 2) (n := 1) (ls' := [some (.ref t), some (.ref o), some (.int (nI (i + 1)))]) dX9_copyFrom_36 rfl rfl ?_
    refine T_goto (pc := 39) (tgt := 13) dX9_copyFrom_39 (by decide) ?_
    refine ih h2 m1 ⟨iR.off h3o (by omega), fun j hj => ?_, iO.trans (h3o.mono (by omega))⟩
    by_cases e : j = i
    · subst e
      exact h3F
    · exact (iF j (by omega)).off h3o (by omega)
end TO

