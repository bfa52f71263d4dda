/-! THE MODEL: the TAPE, what stands next -/
def sb (b : Nat) : Int32 := (nI b).toInt8.toInt32
theorem sb_all : ∀ b : Fin 256, (sb b.1).toInt = if b.1 < 128 then (b.1 : Int) else (b.1 : Int) - 256 := by decide +kernel
theorem sb_i {b : Nat} (h : b < 256) : (sb b).toInt = if b < 128 then (b : Int) else (b : Int) - 256 := sb_all ⟨b, h⟩
theorem sb_lo {b : Nat} (h : b < 128) : sb b = nI b := by
  have h1 := sb_i (b := b) (by omega)
  rw [if_pos h] at h1
  have h2 := nI_toInt (n := b) (by omega)
  exact Int32.toInt_inj.mp (h1.trans h2.symm)
theorem str_as : ∀ q ∈ strs, q.2.2.2 ≠ [] ∧ ∀ b ∈ q.2.2.2, (decide (0 ≤ b.toInt) && decide (b.toInt < 128)) = true := by decide +kernel
theorem sb_eq {b : Nat} {x : Int32} (h : b < 256) (hx : 0 ≤ x.toInt ∧ x.toInt < 128) : sb b = x ↔ nI b = x := by
  have h1 := sb_i h
  have h2 := nI_toInt (n := b) (by omega)
  rw [← Int32.toInt_inj, ← Int32.toInt_inj, h1, h2]
  split <;> omega
/-- a byte from lo to hi stands at p -/
def rgB (B : List Nat) (p lo hi : Nat) : Bool := decide (p < B.length) && (decide (lo ≤ B.getD p 0) && decide (B.getD p 0 ≤ hi))
def MtB (m : SM2) (B : List Nat) : Prop := (m.1 572 10 = nI B.length ∧ B.length ≤ 400) ∧ ∀ i, i < B.length → B.getD i 0 < 256 ∧ m.1 577 i = sb (B.getD i 0)
def MtQ (m : SM2) (B : List Nat) (p : Nat) : Prop := MtB m B ∧ p ≤ B.length ∧ m.1 572 9 = nI p
def MtP (m : SM2) (B : List Nat) (b p : Nat) : Prop := MtQ m B p ∧ m.1 572 11 = nI b
def F9 (j : Nat) : Prop := j = 9 ∨ j = 11
def S0 (_ : Nat) : Prop := False
theorem MtB.of {F S : Nat → Prop} {μ m : SM2} {B : List Nat} (h : MtB μ B) (g : OfM F S μ m) (h1 : ¬ F 10) (h2 : ¬ S 577) : MtB m B := ⟨⟨(g.fi h1).trans h.1.1, h.1.2⟩, fun i hi => ⟨(h.2 i hi).1, (g.i (by decide) h2 i).trans (h.2 i hi).2⟩⟩
theorem MtB.f9 {μ m : SM2} {B : List Nat} (h : MtB μ B) (g : OfM F9 S0 μ m) : MtB m B := h.of g (by unfold F9; omega) (fun z => z)
theorem MtQ.p {m : SM2} {B : List Nat} {p q : Nat} (h : MtQ m B p) (hq : q ≤ B.length) : MtQ (wI m 572 9 (nI q)) B q := ⟨h.1.f9 (OfM.sF (OfM.refl _ _ _) (Or.inl rfl)), hq, e_wI ⟨rfl, rfl⟩⟩
def lE (B : List Nat) (p : Nat) : Nat := spn isL B (tS B p)
theorem rg_B {B : List Nat} {p : Nat} : rgB B p 32 32 = true ↔ p < B.length ∧ isB (B.getD p 0) = true := by
  unfold rgB isB
  rw [Bool.and_eq_true, Bool.and_eq_true, decide_eq_true_iff, decide_eq_true_iff, decide_eq_true_iff, decide_eq_true_iff]
  omega
theorem rg_L {B : List Nat} {p : Nat} : rgB B p 97 122 = true ↔ p < B.length ∧ isL (B.getD p 0) = true := by
  unfold rgB isL
  rw [Bool.and_eq_true, decide_eq_true_iff]
theorem rg_D {B : List Nat} {p : Nat} : rgB B p 48 57 = true ↔ p < B.length ∧ isD (B.getD p 0) = true := by
  unfold rgB isD
  rw [Bool.and_eq_true, decide_eq_true_iff]
/-- behind all of a kind nothing of it stands -/
theorem spn_go {P : Nat → Bool} {B : List Nat} {p : Nat} (h : p < B.length ∧ P (B.getD p 0) = true) : spn P B p = spn P B (p + 1) := spn_y h.1 h.2
theorem spn_end {P : Nat → Bool} {B : List Nat} {p : Nat} (h : ¬ (p < B.length ∧ P (B.getD p 0) = true)) : spn P B p = p := spn_n (by
  by_cases h1 : p < B.length
  · cases e : P (B.getD p 0) with
    | false => exact Or.inr rfl
    | true => exact absurd ⟨h1, e⟩ h
  · exact Or.inl (by omega))
theorem spn_at {P : Nat → Bool} {B : List Nat} : ∀ (f p : Nat), B.length ≤ p + f → ¬ (spn P B p < B.length ∧ P (B.getD (spn P B p) 0) = true)
  | 0, p, h => by
    rw [spn_end (fun z => by omega)]
    exact fun z => by omega
  | f + 1, p, h => by
    by_cases e : p < B.length ∧ P (B.getD p 0) = true
    · rw [spn_go e]
      exact spn_at f (p + 1) (by omega)
    · rw [spn_end e]
      exact e
theorem tS_at {B : List Nat} {p : Nat} : ¬ (tS B p < B.length ∧ isB (B.getD (tS B p) 0) = true) := spn_at B.length p (by omega)
theorem tS_tS {B : List Nat} {p : Nat} : tS B (tS B p) = tS B p := spn_end tS_at
theorem tE_tS {B : List Nat} {p : Nat} : tE B (tS B p) = tE B p := by
  unfold tE
  rw [tS_tS]
theorem tK_tS {B : List Nat} {p : Nat} : tK B (tS B p) = tK B p := by
  unfold tK
  rw [tS_tS]
theorem tV_tS {B : List Nat} {p : Nat} : tV B (tS B p) = tV B p := by
  unfold tV
  rw [tS_tS, tE_tS]
theorem wdB_tS {B : List Nat} {p : Nat} {w : List Int32} : wdB B (tS B p) w = wdB B p w := by
  unfold wdB
  rw [tS_tS, tE_tS, tK_tS]
theorem rdB_tS {B : List Nat} {p a b : Nat} : rdB B (tS B p) a b = rdB B p a b := by
  unfold rdB
  rw [tS_tS, tE_tS, tK_tS]
theorem rdN_tS {B : List Nat} {p : Nat} {x : Int32} : rdN B (tS B p) x = rdN B p x := by
  unfold rdN
  rw [tV_tS, tK_tS]
theorem nI_ne2 {b : Nat} (h : b < 256) : nI b ≠ -2 ∧ nI b ≠ -3 ∧ nI b ≠ -1 := by
  have h2 := nI_toInt (n := b) (by omega)
  refine ⟨fun z => ?_, fun z => ?_, fun z => ?_⟩
  · rw [z] at h2
    have : (-2 : Int32).toInt = -2 := rfl
    omega
  · rw [z] at h2
    have : (-3 : Int32).toInt = -3 := rfl
    omega
  · rw [z] at h2
    have : (-1 : Int32).toInt = -1 := rfl
    omega
/-- the kinds -/
theorem tK_let {B : List Nat} {p : Nat} (hB : ∀ i, i < B.length → B.getD i 0 < 256) : tK B p = -2 ↔ (tS B p < B.length ∧ isL (B.getD (tS B p) 0) = true) := by
  constructor
  · intro h
    have := tok_word hB h
    exact ⟨this.1, this.2.1⟩
  · intro h
    unfold tK
    rw [if_pos h.1, if_pos h.2]
theorem lE_w {B : List Nat} {p : Nat} (hB : ∀ i, i < B.length → B.getD i 0 < 256) (h : tK B p = -2) : lE B p = tE B p := (tok_word hB h).2.2.symm
theorem lE_n {B : List Nat} {p : Nat} (hB : ∀ i, i < B.length → B.getD i 0 < 256) (h : tK B p ≠ -2) : lE B p = tS B p := spn_end (fun z => h ((tK_let hB).mpr z))
theorem lE_le {B : List Nat} {p : Nat} (h : p ≤ B.length) : tS B p ≤ lE B p ∧ lE B p ≤ B.length := spn_le (tS_le h).2
theorem MtB.b {m : SM2} {B : List Nat} (h : MtB m B) : ∀ i, i < B.length → B.getD i 0 < 256 := fun i hi => (h.2 i hi).1
theorem wd_eq {B : List Nat} {p : Nat} {w : List Int32} (hB : ∀ i, i < B.length → B.getD i 0 < 256) (hw : w ≠ []) : decide (((B.take (lE B p)).drop (tS B p)).map nI = w) = wdB B p w := by
  unfold wdB
  by_cases h : tK B p = -2
  · rw [lE_w hB h, decide_eq_true h, Bool.true_and]
  · rw [lE_n hB h, decide_eq_false h, Bool.false_and]
    refine decide_eq_false (fun z => hw ?_)
    rw [← z, List.drop_of_length_le (by rw [List.length_take]; omega)]
    rfl
theorem sg_k {B : List Nat} {p c : Nat} (hb : ∀ i, i < B.length → B.getD i 0 < 256) (hc : c < 128) (hc2 : isL c = false ∧ isD c = false) : rgB B (tS B p) c c = decide (tK B p = nI c) := by
  have nc := nI_ne2 (b := c) (by omega)
  unfold rgB tK
  by_cases h1 : tS B p < B.length
  · have hbb := hb _ h1
    rw [decide_eq_true h1, Bool.true_and, if_pos h1]
    by_cases h2 : isL (B.getD (tS B p) 0) = true
    · rw [if_pos h2, decide_eq_false (p := (-2 : Int32) = nI c) (fun z => nc.1 z.symm)]
      have h3 : B.getD (tS B p) 0 ≠ c := fun z => by rw [z, hc2.1] at h2; cases h2
      rw [Bool.and_eq_false_iff, decide_eq_false_iff_not, decide_eq_false_iff_not]
      omega
    · rw [if_neg h2]
      by_cases h4 : isD (B.getD (tS B p) 0) = true
      · rw [if_pos h4, decide_eq_false (p := (-3 : Int32) = nI c) (fun z => nc.2.1 z.symm)]
        have h3 : B.getD (tS B p) 0 ≠ c := fun z => by rw [z, hc2.2] at h4; cases h4
        rw [Bool.and_eq_false_iff, decide_eq_false_iff_not, decide_eq_false_iff_not]
        omega
      · rw [if_neg h4]
        by_cases h5 : B.getD (tS B p) 0 = c
        · rw [h5, decide_eq_true (Nat.le_refl c), decide_eq_true rfl]
          rfl
        · rw [decide_eq_false (p := nI (B.getD (tS B p) 0) = nI c) (fun z => h5 (by
            have i1 := nI_toInt (n := B.getD (tS B p) 0) (by omega)
            have i2 := nI_toInt (n := c) (by omega)
            rw [z] at i1
            omega)), Bool.and_eq_false_iff, decide_eq_false_iff_not, decide_eq_false_iff_not]
          omega
  · rw [decide_eq_false h1, Bool.false_and, if_neg h1, decide_eq_false (fun z => nc.2.2 z.symm)]
theorem sg_e {B : List Nat} {p c : Nat} (hb : ∀ i, i < B.length → B.getD i 0 < 256) (hc : c < 128) (hc2 : isL c = false ∧ isD c = false) (h : tK B p = nI c) : tE B p = tS B p + 1 := by
  have key := sg_k (p := p) hb hc hc2
  rw [decide_eq_true h] at key
  unfold rgB at key
  rw [Bool.and_eq_true, Bool.and_eq_true, decide_eq_true_iff, decide_eq_true_iff, decide_eq_true_iff] at key
  have e3 : B.getD (tS B p) 0 = c := by omega
  unfold tE
  rw [if_pos key.1, e3, hc2.1, hc2.2]
  rfl
section MTP
variable {γ : Ga} {μ : SM2}
theorem m_isAt {B : List Nat} {p lo hi : Nat} (hT : MtQ μ B p) (hlo : lo < 128) (hhi : hi < 128) : Ex γ 1 0 0 M_X12_isAt [.ref 572, .int (nI lo), .int (nI hi)] (rm μ) (Fn (some (.int (bI (rgB B p lo hi)))) μ) := by
  obtain ⟨⟨⟨h10, h400⟩, hb⟩, hp, h9⟩ := hT
  unfold rgB
  refine Ex.of (by decide +kernel) rfl (Nat.le_of_ble_eq_true rfl) ?_
  show T _ _ _ _ _ _ _ _ _ [some (.ref 572), some (.int (nI lo)), some (.int (nI hi))] [] (rm μ)
  refine T_aload_n (pc := 0) (i := 0) dX12_isAt_0 rfl rfl ?_
  refine R_getI (pc := 1) (x := nI p) fl_X12_139 rfl kc_572 lc_572 h9 dX12_isAt_1 ?_
  refine T_aload_n (pc := 4) (i := 0) dX12_isAt_4 rfl rfl ?_
  refine R_getI (pc := 5) (x := nI B.length) fl_X12_142 rfl kc_572 lc_572 h10 dX12_isAt_5 ?_
  refine R_icmp_ge (pc := 8) (tgt := 41) (by omega) (by omega) dX12_isAt_8 (by decide) (fun g1 => ?_) (fun g1 => ?_)
  · skip
    rw [decide_eq_false (p := p < B.length) (by omega), Bool.false_and]
    refine T_iconst (pc := 41) (v := nI 0) dX12_isAt_41 (by decide) ?_
    exact T_iret (pc := 42) (ty := .boolean) dX12_isAt_42 rfl (by decide) (Nat.le_refl _) (Nat.le_refl _) ⟨rfl, rfl⟩
  · skip
    have q := hb p g1
    have s1 := sb_i q.1
    have i1 := nI_toInt (n := lo) (by omega)
    have i2 := nI_toInt (n := hi) (by omega)
    have q1 := q.1
    rw [decide_eq_true (p := p < B.length) g1, Bool.true_and]
    refine T_aload_n (pc := 11) (i := 0) dX12_isAt_11 rfl rfl ?_
    refine R_getR (pc := 12) (i := 577) fl_X12_42 rfl kc_572 lc_572 rc_572_7 dX12_isAt_12 ?_
    refine T_aload_n (pc := 15) (i := 0) dX12_isAt_15 rfl rfl ?_
    refine R_getI (pc := 16) (x := nI p) fl_X12_139 rfl kc_572 lc_572 h9 dX12_isAt_16 ?_
    refine R_bald (pc := 19) (x := (sb (B.getD p 0))) kc_577 lc_577 (by omega) (by first | decide | assumption) q.2 dX12_isAt_19 ?_
    refine T_iload_n (pc := 20) (i := 1) dX12_isAt_20 rfl rfl ?_
    refine T_icmp_lt (pc := 21) (tgt := 41) dX12_isAt_21 (by decide) (fun g2 => ?_) (fun g2 => ?_)
    · skip
      rw [fa_lt, s1, i1] at g2
      have e9 : (decide (lo ≤ B.getD p 0) && decide (B.getD p 0 ≤ hi)) = false := by
        rw [Bool.and_eq_false_iff, decide_eq_false_iff_not, decide_eq_false_iff_not]
        split at g2 <;> omega
      rw [e9]
      refine T_iconst (pc := 41) (v := nI 0) dX12_isAt_41 (by decide) ?_
      exact T_iret (pc := 42) (ty := .boolean) dX12_isAt_42 rfl (by decide) (Nat.le_refl _) (Nat.le_refl _) ⟨rfl, rfl⟩
    · skip
      rw [fa_lt, s1, i1] at g2
      refine T_aload_n (pc := 24) (i := 0) dX12_isAt_24 rfl rfl ?_
      refine R_getR (pc := 25) (i := 577) fl_X12_42 rfl kc_572 lc_572 rc_572_7 dX12_isAt_25 ?_
      refine T_aload_n (pc := 28) (i := 0) dX12_isAt_28 rfl rfl ?_
      refine R_getI (pc := 29) (x := nI p) fl_X12_139 rfl kc_572 lc_572 h9 dX12_isAt_29 ?_
      refine R_bald (pc := 32) (x := (sb (B.getD p 0))) kc_577 lc_577 (by omega) (by first | decide | assumption) q.2 dX12_isAt_32 ?_
      refine T_iload_n (pc := 33) (i := 2) dX12_isAt_33 rfl rfl ?_
      refine T_icmp_gt (pc := 34) (tgt := 41) dX12_isAt_34 (by decide) (fun g3 => ?_) (fun g3 => ?_)
      · skip
        rw [fa_lt, s1, i2] at g3
        rw [decide_eq_false (p := B.getD p 0 ≤ hi) (by split at g3 <;> omega), Bool.and_false]
        refine T_iconst (pc := 41) (v := nI 0) dX12_isAt_41 (by decide) ?_
        exact T_iret (pc := 42) (ty := .boolean) dX12_isAt_42 rfl (by decide) (Nat.le_refl _) (Nat.le_refl _) ⟨rfl, rfl⟩
      · skip
        rw [fa_lt, s1, i2] at g3
        rw [decide_eq_true (p := lo ≤ B.getD p 0) (by split at g2 <;> omega), decide_eq_true (p := B.getD p 0 ≤ hi) (by split at g3 <;> omega)]
        refine T_iconst (pc := 37) (v := nI 1) dX12_isAt_37 (by decide) ?_
        refine T_goto (pc := 38) (tgt := 42) dX12_isAt_38 (by decide) ?_
        exact T_iret (pc := 42) (ty := .boolean) dX12_isAt_42 rfl (by decide) (Nat.le_refl _) (Nat.le_refl _) ⟨rfl, rfl⟩
theorem m_blanks {B : List Nat} {p : Nat} (hT : MtQ μ B p) : Ex γ 2 0 0 M_X12_blanks [.ref 572] (rm μ) (Rm none (fun m => MtP m B (tS B p) (tS B p) ∧ OfM F9 S0 μ m)) := by
  have h400 := hT.1.1.2
  suffices loop : ∀ (f q : Nat) (m : SM2), B.length ≤ q + f → tS B q = tS B p → MtQ m B q → OfM F9 S0 μ m → T γ 2 0 0 M_X12_blanks (Rm none (fun m => MtP m B (tS B p) (tS B p) ∧ OfM F9 S0 μ m)) 0 0 0 [some (.ref 572)] [] (rm m) by
    refine Ex.of (by decide +kernel) rfl (Nat.le_of_ble_eq_true rfl) ?_
    show T _ _ _ _ _ _ _ _ _ [some (.ref 572)] [] (rm μ)
    exact loop B.length p μ (by omega) rfl hT (OfM.refl _ _ _)
  have fin : ∀ (q : Nat) (m : SM2), ¬ (q < B.length ∧ isB (B.getD q 0) = true) → tS B q = tS B p → MtQ m B q → OfM F9 S0 μ m → T γ 2 0 0 M_X12_blanks (Rm none (fun m => MtP m B (tS B p) (tS B p) ∧ OfM F9 S0 μ m)) 0 0 24 [some (.ref 572)] [] (rm m) := fun q m hn he hm ho => by
    have e : tS B q = q := spn_end hn
    rw [e] at he
    rw [← he]
    refine T_aload_n (pc := 24) (i := 0) dX12_blanks_24 rfl rfl ?_
    refine T_aload_n (pc := 25) (i := 0) dX12_blanks_25 rfl rfl ?_
    refine R_getI (pc := 26) (x := nI q) fl_X12_139 rfl kc_572 lc_572 hm.2.2 dX12_blanks_26 ?_
    refine R_putI (pc := 29) fl_X12_149 ⟨rfl, rfl⟩ (Or.inl rfl) kc_572 lc_572 dX12_blanks_29 ?_
    have o2 : OfM F9 S0 m (wI m 572 11 (nI q)) := OfM.sF (OfM.refl _ _ _) (Or.inr rfl)
    exact T_vret dX12_blanks_32 rfl (Nat.le_refl _) (Nat.le_refl _) ⟨_, rfl, rfl, ⟨⟨hm.1.f9 o2, hm.2.1, (n_wI (by omega)).trans hm.2.2⟩, e_wI ⟨rfl, rfl⟩⟩, ho.trans o2⟩
  intro f
  induction f with
  | zero =>
    intro q m hf he hm ho
    refine T_aload_n (pc := 0) (i := 0) dX12_blanks_0 rfl rfl ?_
    refine T_bipush (pc := 1) (v := nI 32) dX12_blanks_1 (by decide) ?_
    refine T_bipush (pc := 3) (v := nI 32) dX12_blanks_3 (by decide) ?_
    refine R_callV1 (pc := 5) (As := [.int (nI 32), .int (nI 32)]) (rest := []) (Or.inl lk_X12_145) mk_X12_isAt (m_isAt hm (by decide) (by decide)) kc_572 ⟨by decide, rfl⟩ lc_572 dX12_blanks_5 rfl rfl (Nat.le_of_ble_eq_true rfl) (by decide) rfl (Nat.le_refl _) (Nat.le_refl _) ?_
    have e : rgB B q 32 32 = false := by
      cases e : rgB B q 32 32 with
      | false => rfl
      | true => exact absurd (rg_B.mp e).1 (by omega)
    rw [e]
    refine R_ifb_eq (pc := 8) (tgt := 24) dX12_blanks_8 (by decide) (fun g1 => ?_) (fun g1 => ?_)
    · exact fin q m (fun z => by omega) he hm ho
    · exact absurd g1 (by decide)
  | succ f ih =>
    intro q m hf he hm ho
    refine T_aload_n (pc := 0) (i := 0) dX12_blanks_0 rfl rfl ?_
    refine T_bipush (pc := 1) (v := nI 32) dX12_blanks_1 (by decide) ?_
    refine T_bipush (pc := 3) (v := nI 32) dX12_blanks_3 (by decide) ?_
    refine R_callV1 (pc := 5) (As := [.int (nI 32), .int (nI 32)]) (rest := []) (Or.inl lk_X12_145) mk_X12_isAt (m_isAt hm (by decide) (by decide)) kc_572 ⟨by decide, rfl⟩ lc_572 dX12_blanks_5 rfl rfl (Nat.le_of_ble_eq_true rfl) (by decide) rfl (Nat.le_refl _) (Nat.le_refl _) ?_
    refine R_ifb_eq (pc := 8) (tgt := 24) dX12_blanks_8 (by decide) (fun g1 => ?_) (fun g1 => ?_)
    · exact fin q m (fun z => by rw [rg_B.mpr z] at g1; cases g1) he hm ho
    · skip
      have g2 := rg_B.mp g1
      refine T_aload_n (pc := 11) (i := 0) dX12_blanks_11 rfl rfl ?_
      refine T_dup (pc := 12) dX12_blanks_12 rfl ?_
      refine R_getI (pc := 13) (x := nI q) fl_X12_139 rfl kc_572 lc_572 hm.2.2 dX12_blanks_13 ?_
      refine T_iconst (pc := 16) (v := nI 1) dX12_blanks_16 (by decide) ?_
      refine R_iadd (pc := 17) dX12_blanks_17 ?_
      refine R_putI (pc := 18) fl_X12_139 ⟨rfl, rfl⟩ (Or.inl rfl) kc_572 lc_572 dX12_blanks_18 ?_
      refine T_goto (pc := 21) (tgt := 0) dX12_blanks_21 (by decide) ?_
      have e2 : tS B (q + 1) = tS B p := by
        rw [← he]
        exact (spn_go g2).symm
      exact ih (q + 1) _ (by omega) e2 (hm.p (by omega)) (OfM.sF ho (Or.inl rfl))
theorem m_letters {B : List Nat} {p : Nat} (hT : MtQ μ B p) : Ex γ 3 0 0 M_X12_letters [.ref 572] (rm μ) (Rm none (fun m => MtP m B (tS B p) (lE B p) ∧ OfM F9 S0 μ m)) := by
  have h400 := hT.1.1.2
  suffices loop : ∀ (f q : Nat) (m : SM2), B.length ≤ q + f → spn isL B q = lE B p → MtP m B (tS B p) q → OfM F9 S0 μ m → T γ 3 0 0 M_X12_letters (Rm none (fun m => MtP m B (tS B p) (lE B p) ∧ OfM F9 S0 μ m)) 0 0 4 [some (.ref 572)] [] (rm m) by
    refine Ex.of (by decide +kernel) rfl (Nat.le_of_ble_eq_true rfl) ?_
    show T _ _ _ _ _ _ _ _ _ [some (.ref 572)] [] (rm μ)
    refine T_aload_n (pc := 0) (i := 0) dX12_letters_0 rfl rfl ?_
    refine R_callVm0 (pc := 1) (As := []) (rest := []) (Or.inl lk_X12_152) mk_X12_blanks (m_blanks hT) kc_572 ⟨by decide, rfl⟩ lc_572 dX12_letters_1 rfl rfl (Nat.le_of_ble_eq_true rfl) (by decide) rfl (Nat.le_refl _) (Nat.le_refl _) (fun m h => ?_)
    obtain ⟨h1, h2⟩ := h
    exact loop B.length (tS B p) m (by omega) rfl h1 h2
  have fin : ∀ (q : Nat) (m : SM2), ¬ (q < B.length ∧ isL (B.getD q 0) = true) → spn isL B q = lE B p → MtP m B (tS B p) q → OfM F9 S0 μ m → T γ 3 0 0 M_X12_letters (Rm none (fun m => MtP m B (tS B p) (lE B p) ∧ OfM F9 S0 μ m)) 0 0 28 [some (.ref 572)] [] (rm m) := fun q m hn he hm ho => by
    have e : spn isL B q = q := spn_end hn
    rw [e] at he
    rw [← he]
    exact T_vret dX12_letters_28 rfl (Nat.le_refl _) (Nat.le_refl _) ⟨_, rfl, rfl, hm, ho⟩
  intro f
  induction f with
  | zero =>
    intro q m hf he hm ho
    refine T_aload_n (pc := 4) (i := 0) dX12_letters_4 rfl rfl ?_
    refine T_bipush (pc := 5) (v := nI 97) dX12_letters_5 (by decide) ?_
    refine T_bipush (pc := 7) (v := nI 122) dX12_letters_7 (by decide) ?_
    refine R_callV1 (pc := 9) (As := [.int (nI 97), .int (nI 122)]) (rest := []) (Or.inl lk_X12_145) mk_X12_isAt (m_isAt hm.1 (by decide) (by decide)) kc_572 ⟨by decide, rfl⟩ lc_572 dX12_letters_9 rfl rfl (Nat.le_of_ble_eq_true rfl) (by decide) rfl (Nat.le_refl _) (Nat.le_refl _) ?_
    have e : rgB B q 97 122 = false := by
      cases e : rgB B q 97 122 with
      | false => rfl
      | true => exact absurd (rg_L.mp e).1 (by omega)
    rw [e]
    refine R_ifb_eq (pc := 12) (tgt := 28) dX12_letters_12 (by decide) (fun g1 => ?_) (fun g1 => ?_)
    · exact fin q m (fun z => by omega) he hm ho
    · exact absurd g1 (by decide)
  | succ f ih =>
    intro q m hf he hm ho
    refine T_aload_n (pc := 4) (i := 0) dX12_letters_4 rfl rfl ?_
    refine T_bipush (pc := 5) (v := nI 97) dX12_letters_5 (by decide) ?_
    refine T_bipush (pc := 7) (v := nI 122) dX12_letters_7 (by decide) ?_
    refine R_callV1 (pc := 9) (As := [.int (nI 97), .int (nI 122)]) (rest := []) (Or.inl lk_X12_145) mk_X12_isAt (m_isAt hm.1 (by decide) (by decide)) kc_572 ⟨by decide, rfl⟩ lc_572 dX12_letters_9 rfl rfl (Nat.le_of_ble_eq_true rfl) (by decide) rfl (Nat.le_refl _) (Nat.le_refl _) ?_
    refine R_ifb_eq (pc := 12) (tgt := 28) dX12_letters_12 (by decide) (fun g1 => ?_) (fun g1 => ?_)
    · exact fin q m (fun z => by rw [rg_L.mpr z] at g1; cases g1) he hm ho
    · skip
      have g2 := rg_L.mp g1
      refine T_aload_n (pc := 15) (i := 0) dX12_letters_15 rfl rfl ?_
      refine T_dup (pc := 16) dX12_letters_16 rfl ?_
      refine R_getI (pc := 17) (x := nI q) fl_X12_139 rfl kc_572 lc_572 hm.1.2.2 dX12_letters_17 ?_
      refine T_iconst (pc := 20) (v := nI 1) dX12_letters_20 (by decide) ?_
      refine R_iadd (pc := 21) dX12_letters_21 ?_
      refine R_putI (pc := 22) fl_X12_139 ⟨rfl, rfl⟩ (Or.inl rfl) kc_572 lc_572 dX12_letters_22 ?_
      refine T_goto (pc := 25) (tgt := 4) dX12_letters_25 (by decide) ?_
      have e2 : spn isL B (q + 1) = lE B p := by
        rw [← he]
        exact (spn_go g2).symm
      exact ih (q + 1) _ (by omega) e2 ⟨hm.1.p (by omega), (n_wI (by omega)).trans hm.2⟩ (OfM.sF ho (Or.inl rfl))
theorem m_isWord {B : List Nat} {b p i : Nat} {q : String × Nat × String × List Int32} (hT : MtP μ B b p) (hbp : b ≤ p) (hs : strs[i]? = some q) : Ex γ 5 0 0 M_X12_isWord [.ref 572, .ref (XB + (i + 1))] (rm μ) (Fn (some (.int (bI (decide (((B.take p).drop b).map nI = q.2.2.2))))) μ) := by
  have hq6 := str_at hs
  have hqa := (str_as q (List.mem_of_getElem? hs)).2
  have h400 := hT.1.1.1.2
  have hp := hT.1.2.1
  have hlen : (((B.take p).drop b).map nI).length = p - b := by
    rw [List.length_map, List.length_drop, List.length_take]
    omega
  obtain ⟨Q, hQ⟩ : ∃ Q, Q = Fn (some (.int (bI (decide (((B.take p).drop b).map nI = q.2.2.2))))) μ := ⟨_, rfl⟩
  rw [← hQ]
  have t24 : ∀ (g j : Nat) (is : Bool), j + g = q.2.2.2.length → (is = true → p - b = q.2.2.2.length ∧ (((B.take p).drop b).map nI).take j = q.2.2.2.take j) → (is = false → ¬ (((B.take p).drop b).map nI = q.2.2.2)) → T γ 5 0 0 M_X12_isWord Q 0 0 24 [some (.ref 572), some (.ref (XB + (i + 1))), some (.int (bI is)), some (.int (nI j))] [] (rm μ) := by
    intro g
    induction g with
    | zero =>
      intro j is hj h1 h2
      refine T_iload_n (pc := 24) (i := 2) dX12_isWord_24 rfl rfl ?_
      refine R_ifb_eq (pc := 25) (tgt := 67) dX12_isWord_25 (by decide) (fun g1 => ?_) (fun g1 => ?_)
      · skip
        rw [g1]
        refine T_iload_n (pc := 67) (i := 2) dX12_isWord_67 rfl rfl ?_
        rw [hQ, decide_eq_false (h2 g1)]
        exact T_iret (pc := 68) (ty := .boolean) dX12_isWord_68 rfl (nar_b _) (Nat.le_refl _) (Nat.le_refl _) ⟨rfl, rfl⟩
      · skip
        have h3 := h1 g1
        have he : ((B.take p).drop b).map nI = q.2.2.2 := by
          have e1 : (((B.take p).drop b).map nI).take j = ((B.take p).drop b).map nI := List.take_of_length_le (by omega)
          have e2 : q.2.2.2.take j = q.2.2.2 := List.take_of_length_le (by omega)
          rw [e1, e2] at h3
          exact h3.2
        rw [g1]
        refine T_iload_n (pc := 28) (i := 3) dX12_isWord_28 rfl rfl ?_
        refine T_aload_n (pc := 29) (i := 1) dX12_isWord_29 rfl rfl ?_
        refine T_callVs (pc := 30) (As := []) (rest := [.int (nI j)]) hs lk_X12_155 mk_J0_length_8abf5 (c_strLen hs) rfl dX12_isWord_30 rfl rfl (Nat.le_of_ble_eq_true rfl) (by decide) rfl (Nat.le_refl _) (Nat.le_refl _) (fun E m' h => absurd h.1 (fun z => by cases z)) (fun v m' h => ?_)
        obtain ⟨h6, rfl⟩ := h
        cases h6
        refine R_icmp_ge (pc := 33) (tgt := 67) (by omega) (by omega) dX12_isWord_33 (by decide) (fun h8 => ?_) (fun h8 => ?_)
        · skip
          refine T_iload_n (pc := 67) (i := 2) dX12_isWord_67 rfl rfl ?_
          rw [hQ, decide_eq_true he]
          exact T_iret (pc := 68) (ty := .boolean) dX12_isWord_68 rfl (nar_b _) (Nat.le_refl _) (Nat.le_refl _) ⟨rfl, rfl⟩
        · exact absurd h8 (by omega)
    | succ g ih =>
      intro j is hj h1 h2
      refine T_iload_n (pc := 24) (i := 2) dX12_isWord_24 rfl rfl ?_
      refine R_ifb_eq (pc := 25) (tgt := 67) dX12_isWord_25 (by decide) (fun g1 => ?_) (fun g1 => ?_)
      · skip
        rw [g1]
        refine T_iload_n (pc := 67) (i := 2) dX12_isWord_67 rfl rfl ?_
        rw [hQ, decide_eq_false (h2 g1)]
        exact T_iret (pc := 68) (ty := .boolean) dX12_isWord_68 rfl (nar_b _) (Nat.le_refl _) (Nat.le_refl _) ⟨rfl, rfl⟩
      · skip
        obtain ⟨h3, hc⟩ := h1 g1
        have hsj : b + j < B.length := by omega
        have hb := hT.1.1.2 (b + j) hsj
        have hbl := hb.1
        have hgd : (((B.take p).drop b).map nI).getD j 0 = nI (B.getD (b + j) 0) := by
          rw [List.getD_eq_getElem?_getD, List.getElem?_map, List.getElem?_drop, List.getElem?_take, if_pos (by omega), List.getD_eq_getElem?_getD, List.getElem?_eq_getElem hsj]
          rfl
        have hqj : 0 ≤ (q.2.2.2.getD j 0).toInt ∧ (q.2.2.2.getD j 0).toInt < 128 := by
          have h5 := hqa (q.2.2.2.getD j 0) (by
            rw [List.getD_eq_getElem?_getD, List.getElem?_eq_getElem (show j < q.2.2.2.length by omega)]
            exact List.getElem_mem _)
          rw [Bool.and_eq_true, decide_eq_true_iff, decide_eq_true_iff] at h5
          exact h5
        rw [g1]
        refine T_iload_n (pc := 28) (i := 3) dX12_isWord_28 rfl rfl ?_
        refine T_aload_n (pc := 29) (i := 1) dX12_isWord_29 rfl rfl ?_
        refine T_callVs (pc := 30) (As := []) (rest := [.int (nI j)]) hs lk_X12_155 mk_J0_length_8abf5 (c_strLen hs) rfl dX12_isWord_30 rfl rfl (Nat.le_of_ble_eq_true rfl) (by decide) rfl (Nat.le_refl _) (Nat.le_refl _) (fun E m' h => absurd h.1 (fun z => by cases z)) (fun v m' h => ?_)
        obtain ⟨h6, rfl⟩ := h
        cases h6
        refine R_icmp_ge (pc := 33) (tgt := 67) (by omega) (by omega) dX12_isWord_33 (by decide) (fun h8 => ?_) (fun h8 => ?_)
        · exact absurd h8 (by omega)
        · skip
          refine T_aload_n (pc := 36) (i := 0) dX12_isWord_36 rfl rfl ?_
          refine R_getR (pc := 37) (i := 577) fl_X12_42 rfl kc_572 lc_572 rc_572_7 dX12_isWord_37 ?_
          refine T_aload_n (pc := 40) (i := 0) dX12_isWord_40 rfl rfl ?_
          refine R_getI (pc := 41) (x := nI b) fl_X12_149 rfl kc_572 lc_572 hT.2 dX12_isWord_41 ?_
          refine T_iload_n (pc := 44) (i := 3) dX12_isWord_44 rfl rfl ?_
          refine R_iadd (pc := 45) dX12_isWord_45 ?_
          refine R_bald (pc := 46) (x := (sb (B.getD (b + j) 0))) kc_577 lc_577 (by omega) (by first | decide | assumption) hb.2 dX12_isWord_46 ?_
          refine T_aload_n (pc := 47) (i := 1) dX12_isWord_47 rfl rfl ?_
          refine T_iload_n (pc := 48) (i := 3) dX12_isWord_48 rfl rfl ?_
          refine T_callVs (pc := 49) (As := [.int (nI j)]) (rest := [.int (sb (B.getD (b + j) 0))]) hs lk_X12_160 mk_J0_charAt_5068e (c_charAt hs (by omega)) rfl dX12_isWord_49 rfl rfl (Nat.le_of_ble_eq_true rfl) (by decide) rfl (Nat.le_refl _) (Nat.le_refl _) (fun E m' h => absurd h.1 (fun z => by cases z)) (fun v m' h => ?_)
          obtain ⟨h6, rfl⟩ := h
          cases h6
          refine T_icmp_ne (pc := 52) (tgt := 59) dX12_isWord_52 (by decide) (fun h9 => ?_) (fun h9 => ?_)
          · skip
            refine T_iconst (pc := 59) (v := nI 0) dX12_isWord_59 (by decide) ?_
            refine T_istore_n (pc := 60) (i := 2) (ls' := [some (.ref 572), some (.ref (XB + (i + 1))), some (.int (nI 0)), some (.int (nI j))]) dX12_isWord_60 rfl (by decide) rfl ?_
            refine R_iinc (pc := 61) (i := 3) (n := 1) (ls' := [some (.ref 572), some (.ref (XB + (i + 1))), some (.int (nI 0)), some (.int (nI (j + 1)))]) dX12_isWord_61 rfl rfl ?_
            refine T_goto (pc := 64) (tgt := 24) dX12_isWord_64 (by decide) ?_
            exact ih (j + 1) false (by omega) (fun z => by cases z) (fun _ z => h9 ((sb_eq hbl hqj).mpr (by rw [← hgd, z])))
          · skip
            have h10 := (sb_eq hbl hqj).mp h9
            refine T_iconst (pc := 55) (v := nI 1) dX12_isWord_55 (by decide) ?_
            refine T_goto (pc := 56) (tgt := 60) dX12_isWord_56 (by decide) ?_
            refine T_istore_n (pc := 60) (i := 2) (ls' := [some (.ref 572), some (.ref (XB + (i + 1))), some (.int (nI 1)), some (.int (nI j))]) dX12_isWord_60 rfl (by decide) rfl ?_
            refine R_iinc (pc := 61) (i := 3) (n := 1) (ls' := [some (.ref 572), some (.ref (XB + (i + 1))), some (.int (nI 1)), some (.int (nI (j + 1)))]) dX12_isWord_61 rfl rfl ?_
            refine T_goto (pc := 64) (tgt := 24) dX12_isWord_64 (by decide) ?_
            exact ih (j + 1) true (by omega) (fun _ => ⟨h3, by rw [take_s 0 (by omega), take_s 0 (by omega), hc, hgd, h10]⟩) (fun z => by cases z)
  refine Ex.of (by decide +kernel) rfl (Nat.le_of_ble_eq_true rfl) ?_
  show T _ _ _ _ _ _ _ _ _ [some (.ref 572), some (.ref (XB + (i + 1))), none, none] [] (rm μ)
  refine T_aload_n (pc := 0) (i := 0) dX12_isWord_0 rfl rfl ?_
  refine R_getI (pc := 1) (x := nI p) fl_X12_139 rfl kc_572 lc_572 hT.1.2.2 dX12_isWord_1 ?_
  refine T_aload_n (pc := 4) (i := 0) dX12_isWord_4 rfl rfl ?_
  refine R_getI (pc := 5) (x := nI b) fl_X12_149 rfl kc_572 lc_572 hT.2 dX12_isWord_5 ?_
  refine R_isub (pc := 8) (by omega) dX12_isWord_8 ?_
  refine T_aload_n (pc := 9) (i := 1) dX12_isWord_9 rfl rfl ?_
  refine T_callVs (pc := 10) (As := []) (rest := [.int (nI (p - b))]) hs lk_X12_155 mk_J0_length_8abf5 (c_strLen hs) rfl dX12_isWord_10 rfl rfl (Nat.le_of_ble_eq_true rfl) (by decide) rfl (Nat.le_refl _) (Nat.le_refl _) (fun E m' h => absurd h.1 (fun z => by cases z)) (fun v m' h => ?_)
  obtain ⟨h6, rfl⟩ := h
  cases h6
  refine R_icmp_ne (pc := 13) (tgt := 20) (by omega) (by omega) dX12_isWord_13 (by decide) (fun h7 => ?_) (fun h7 => ?_)
  · skip
    refine T_iconst (pc := 20) (v := nI 0) dX12_isWord_20 (by decide) ?_
    refine T_istore_n (pc := 21) (i := 2) (ls' := [some (.ref 572), some (.ref (XB + (i + 1))), some (.int (nI 0)), none]) dX12_isWord_21 rfl (by decide) rfl ?_
    refine T_iconst (pc := 22) (v := nI 0) dX12_isWord_22 (by decide) ?_
    refine T_istore_n (pc := 23) (i := 3) (ls' := [some (.ref 572), some (.ref (XB + (i + 1))), some (.int (nI 0)), some (.int (nI 0))]) dX12_isWord_23 rfl (by decide) rfl ?_
    exact t24 q.2.2.2.length 0 false (Nat.zero_add _) (fun z => by cases z) (fun _ z => h7 (by rw [← z, hlen]))
  · skip
    refine T_iconst (pc := 16) (v := nI 1) dX12_isWord_16 (by decide) ?_
    refine T_goto (pc := 17) (tgt := 21) dX12_isWord_17 (by decide) ?_
    refine T_istore_n (pc := 21) (i := 2) (ls' := [some (.ref 572), some (.ref (XB + (i + 1))), some (.int (nI 1)), none]) dX12_isWord_21 rfl (by decide) rfl ?_
    refine T_iconst (pc := 22) (v := nI 0) dX12_isWord_22 (by decide) ?_
    refine T_istore_n (pc := 23) (i := 3) (ls' := [some (.ref 572), some (.ref (XB + (i + 1))), some (.int (nI 1)), some (.int (nI 0))]) dX12_isWord_23 rfl (by decide) rfl ?_
    exact t24 q.2.2.2.length 0 true (Nat.zero_add _) (fun _ => ⟨h7, rfl⟩) (fun z => by cases z)
theorem m_isWordL {B : List Nat} {p i : Nat} {q : String × Nat × String × List Int32} (hT : MtP μ B (tS B p) (lE B p)) (hp : p ≤ B.length) (hs : strs[i]? = some q) : Ex γ 5 0 0 M_X12_isWord [.ref 572, .ref (XB + (i + 1))] (rm μ) (Fn (some (.int (bI (wdB B p q.2.2.2)))) μ) := by
  have h := m_isWord (γ := γ) hT (lE_le hp).1 hs
  rw [wd_eq hT.1.1.b (str_as q (List.mem_of_getElem? hs)).1] at h
  exact h
theorem m_needs {B : List Nat} {p i : Nat} {q : String × Nat × String × List Int32} (hT : MtQ μ B p) (hs : strs[i]? = some q) : Ex γ 6 0 0 M_X12_needs [.ref 572, .ref (XB + (i + 1))] (rm μ) (Rm (some (.int (bI (wdB B p q.2.2.2)))) (fun m => MtP m B (tS B p) (lE B p) ∧ OfM F9 S0 μ m)) := by
  refine Ex.of (by decide +kernel) rfl (Nat.le_of_ble_eq_true rfl) ?_
  show T _ _ _ _ _ _ _ _ _ [some (.ref 572), some (.ref (XB + (i + 1)))] [] (rm μ)
  refine T_aload_n (pc := 0) (i := 0) dX12_needs_0 rfl rfl ?_
  refine R_callVm0 (pc := 1) (As := []) (rest := []) (Or.inl lk_X12_164) mk_X12_letters (m_letters hT) kc_572 ⟨by decide, rfl⟩ lc_572 dX12_needs_1 rfl rfl (Nat.le_of_ble_eq_true rfl) (by decide) rfl (Nat.le_refl _) (Nat.le_refl _) (fun m h => ?_)
  obtain ⟨h1, h2⟩ := h
  refine T_aload_n (pc := 4) (i := 0) dX12_needs_4 rfl rfl ?_
  refine T_aload_n (pc := 5) (i := 1) dX12_needs_5 rfl rfl ?_
  refine R_callV1 (pc := 6) (As := [.ref (XB + (i + 1))]) (rest := []) (Or.inl lk_X12_167) mk_X12_isWord (m_isWordL h1 hT.2.1 hs) kc_572 ⟨by decide, rfl⟩ lc_572 dX12_needs_6 rfl rfl (Nat.le_of_ble_eq_true rfl) (by decide) rfl (Nat.le_refl _) (Nat.le_refl _) ?_
  exact T_iret (pc := 9) (ty := .boolean) dX12_needs_9 rfl (nar_b _) (Nat.le_refl _) (Nat.le_refl _) ⟨_, rfl, rfl, h1, h2⟩
/-- behind a thing that may stand next -/
def gpE (B : List Nat) (p : Nat) (b : Bool) : Nat := if b = true then tE B p else tS B p
theorem m_passes {B : List Nat} {p i : Nat} {q : String × Nat × String × List Int32} (hT : MtQ μ B p) (hs : strs[i]? = some q) : Ex γ 6 0 0 M_X12_passes [.ref 572, .ref (XB + (i + 1))] (rm μ) (Rm (some (.int (bI (wdB B p q.2.2.2)))) (fun m => MtP m B (tS B p) (gpE B p (wdB B p q.2.2.2)) ∧ OfM F9 S0 μ m)) := by
  have hse := tS_le hT.2.1
  refine Ex.of (by decide +kernel) rfl (Nat.le_of_ble_eq_true rfl) ?_
  show T _ _ _ _ _ _ _ _ _ [some (.ref 572), some (.ref (XB + (i + 1)))] [] (rm μ)
  refine T_aload_n (pc := 0) (i := 0) dX12_passes_0 rfl rfl ?_
  refine R_callVm0 (pc := 1) (As := []) (rest := []) (Or.inl lk_X12_164) mk_X12_letters (m_letters hT) kc_572 ⟨by decide, rfl⟩ lc_572 dX12_passes_1 rfl rfl (Nat.le_of_ble_eq_true rfl) (by decide) rfl (Nat.le_refl _) (Nat.le_refl _) (fun m h => ?_)
  obtain ⟨h1, h2⟩ := h
  refine T_aload_n (pc := 4) (i := 0) dX12_passes_4 rfl rfl ?_
  refine T_aload_n (pc := 5) (i := 1) dX12_passes_5 rfl rfl ?_
  refine R_callV1 (pc := 6) (As := [.ref (XB + (i + 1))]) (rest := []) (Or.inl lk_X12_167) mk_X12_isWord (m_isWordL h1 hT.2.1 hs) kc_572 ⟨by decide, rfl⟩ lc_572 dX12_passes_6 rfl rfl (Nat.le_of_ble_eq_true rfl) (by decide) rfl (Nat.le_refl _) (Nat.le_refl _) ?_
  cases e : wdB B p q.2.2.2 with
  | true =>
    have ek : tK B p = -2 := by
      unfold wdB at e
      rw [Bool.and_eq_true, decide_eq_true_iff] at e
      exact e.1
    rw [lE_w h1.1.1.b ek] at h1
    refine R_ifb_eq (pc := 9) (tgt := 14) dX12_passes_9 (by decide) (fun g1 => ?_) (fun g1 => ?_)
    · exact absurd g1 (by decide)
    · skip
      refine T_iconst (pc := 12) (v := nI 1) dX12_passes_12 (by decide) ?_
      exact T_iret (pc := 13) (ty := .boolean) dX12_passes_13 rfl (by decide) (Nat.le_refl _) (Nat.le_refl _) ⟨_, rfl, rfl, h1, h2⟩
  | false =>
    refine R_ifb_eq (pc := 9) (tgt := 14) dX12_passes_9 (by decide) (fun g1 => ?_) (fun g1 => ?_)
    · skip
      refine T_aload_n (pc := 14) (i := 0) dX12_passes_14 rfl rfl ?_
      refine T_aload_n (pc := 15) (i := 0) dX12_passes_15 rfl rfl ?_
      refine R_getI (pc := 16) (x := nI (tS B p)) fl_X12_149 rfl kc_572 lc_572 h1.2 dX12_passes_16 ?_
      refine R_putI (pc := 19) fl_X12_139 ⟨rfl, rfl⟩ (Or.inl rfl) kc_572 lc_572 dX12_passes_19 ?_
      refine T_iconst (pc := 22) (v := nI 0) dX12_passes_22 (by decide) ?_
      exact T_iret (pc := 23) (ty := .boolean) dX12_passes_23 rfl (by decide) (Nat.le_refl _) (Nat.le_refl _) ⟨_, rfl, rfl, ⟨h1.1.p hse.2, (n_wI (by omega)).trans h1.2⟩, OfM.sF h2 (Or.inl rfl)⟩
    · exact absurd g1 (by decide)
theorem m_sign {B : List Nat} {p c : Nat} (hT : MtQ μ B p) (hc : c < 128) (hc2 : isL c = false ∧ isD c = false) : Ex γ 3 0 0 M_X12_sign [.ref 572, .int (nI c)] (rm μ) (Rm (some (.int (bI (decide (tK B p = nI c))))) (fun m => MtP m B (tS B p) (gpE B p (decide (tK B p = nI c))) ∧ OfM F9 S0 μ m)) := by
  have hse := tS_le hT.2.1
  have hb := hT.1.b
  have key := sg_k (p := p) hb hc hc2
  refine Ex.of (by decide +kernel) rfl (Nat.le_of_ble_eq_true rfl) ?_
  show T _ _ _ _ _ _ _ _ _ [some (.ref 572), some (.int (nI c))] [] (rm μ)
  refine T_aload_n (pc := 0) (i := 0) dX12_sign_0 rfl rfl ?_
  refine R_callVm0 (pc := 1) (As := []) (rest := []) (Or.inl lk_X12_152) mk_X12_blanks (m_blanks hT) kc_572 ⟨by decide, rfl⟩ lc_572 dX12_sign_1 rfl rfl (Nat.le_of_ble_eq_true rfl) (by decide) rfl (Nat.le_refl _) (Nat.le_refl _) (fun m h => ?_)
  obtain ⟨h1, h2⟩ := h
  refine T_aload_n (pc := 4) (i := 0) dX12_sign_4 rfl rfl ?_
  refine T_iload_n (pc := 5) (i := 1) dX12_sign_5 rfl rfl ?_
  refine T_iload_n (pc := 6) (i := 1) dX12_sign_6 rfl rfl ?_
  refine R_callV1 (pc := 7) (As := [.int (nI c), .int (nI c)]) (rest := []) (Or.inl lk_X12_145) mk_X12_isAt (m_isAt h1.1 hc hc) kc_572 ⟨by decide, rfl⟩ lc_572 dX12_sign_7 rfl rfl (Nat.le_of_ble_eq_true rfl) (by decide) rfl (Nat.le_refl _) (Nat.le_refl _) ?_
  rw [key]
  cases e : decide (tK B p = nI c) with
  | true =>
    have e1 := of_decide_eq_true e
    have e2 := sg_e hb hc hc2 e1
    have hte := tE_le hT.2.1
    rw [show gpE B p true = tE B p from rfl, e2]
    refine R_ifb_ne (pc := 10) (tgt := 15) dX12_sign_10 (by decide) (fun g1 => ?_) (fun g1 => ?_)
    · skip
      refine T_aload_n (pc := 15) (i := 0) dX12_sign_15 rfl rfl ?_
      refine T_dup (pc := 16) dX12_sign_16 rfl ?_
      refine R_getI (pc := 17) (x := nI (tS B p)) fl_X12_139 rfl kc_572 lc_572 h1.1.2.2 dX12_sign_17 ?_
      refine T_iconst (pc := 20) (v := nI 1) dX12_sign_20 (by decide) ?_
      refine R_iadd (pc := 21) dX12_sign_21 ?_
      refine R_putI (pc := 22) fl_X12_139 ⟨rfl, rfl⟩ (Or.inl rfl) kc_572 lc_572 dX12_sign_22 ?_
      refine T_iconst (pc := 25) (v := nI 1) dX12_sign_25 (by decide) ?_
      exact T_iret (pc := 26) (ty := .boolean) dX12_sign_26 rfl (by decide) (Nat.le_refl _) (Nat.le_refl _) ⟨_, rfl, rfl, ⟨h1.1.p (by omega), (n_wI (by omega)).trans h1.2⟩, OfM.sF h2 (Or.inl rfl)⟩
    · exact absurd g1 (by decide)
  | false =>
    refine R_ifb_ne (pc := 10) (tgt := 15) dX12_sign_10 (by decide) (fun g1 => ?_) (fun g1 => ?_)
    · exact absurd g1 (by decide)
    · skip
      refine T_iconst (pc := 13) (v := nI 0) dX12_sign_13 (by decide) ?_
      exact T_iret (pc := 14) (ty := .boolean) dX12_sign_14 rfl (by decide) (Nat.le_refl _) (Nat.le_refl _) ⟨_, rfl, rfl, h1, h2⟩
end MTP

