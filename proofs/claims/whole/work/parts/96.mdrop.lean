/-! THE MODEL: dropped -/
theorem bt_nI {k i : Nat} (hi : i < 32) : bt (nI k) i = k.testBit i := by
  unfold bt
  show (BitVec.ofNat 32 k).getLsbD i = _
  rw [BitVec.getLsbD_ofNat, decide_eq_true hi, Bool.true_and]
theorem all_less {n s : Nat} (hn : n ≤ 12) (hs : s < 2 ^ n) : nI (1 * 2 ^ n - 1) &&& (nI s ^^^ (-1)) = nI ((2 ^ n - 1) ^^^ s) := by
  refine b_ext (fun i hi => ?_)
  rw [b_and, b_xor, b_m1 i hi, bt_nI hi, bt_nI hi, bt_nI hi, Nat.one_mul, Nat.testBit_xor, Nat.testBit_two_pow_sub_one, Bool.xor_true]
  by_cases g : i < n
  · rw [decide_eq_true g]
    cases s.testBit i <;> rfl
  · have h0 : s.testBit i = false := Nat.testBit_lt_two_pow (Nat.lt_of_lt_of_le hs (Nat.pow_le_pow_right (by decide) (by omega)))
    rw [decide_eq_false g, h0]
    rfl
/-- the best so far: the fewest, of several the least -/
def drB (P : Nat → Bool) : Nat → Option Nat
  | 0 => none
  | s + 1 => if (tlL s (drB P s) && P s) = true then some s else drB P s
theorem drB_spec (P : Nat → Bool) : ∀ n, (drB P n = none → ∀ s, s < n → P s = false) ∧ ∀ b, drB P n = some b → b < n ∧ P b = true ∧ (∀ s, s < n → P s = true → pcn b 12 ≤ pcn s 12) ∧ ∀ s, s < b → P s = true → pcn b 12 < pcn s 12
  | 0 => ⟨fun _ s hs => absurd hs (Nat.not_lt_zero _), fun b h => by cases h⟩
  | n + 1 => by
    obtain ⟨i1, i2⟩ := drB_spec P n
    have e : drB P (n + 1) = if (tlL n (drB P n) && P n) = true then some n else drB P n := rfl
    rw [e]
    cases eP : P n with
    | false =>
      rw [Bool.and_false, if_neg Bool.false_ne_true]
      refine ⟨fun h s hs => ?_, fun b h => ?_⟩
      · by_cases g : s = n
        · rw [g]; exact eP
        · exact i1 h s (by omega)
      · obtain ⟨a1, a2, a3, a4⟩ := i2 b h
        exact ⟨by omega, a2, fun s hs hp => (by
          by_cases g : s = n
          · rw [g, eP] at hp; cases hp
          · exact a3 s (by omega) hp), a4⟩
    | true =>
      rw [Bool.and_true]
      cases eo : drB P n with
      | none =>
        have h0 := i1 eo
        rw [show tlL n none = true from rfl, if_pos rfl]
        refine ⟨fun h => (by cases h), fun b h => ?_⟩
        cases h
        refine ⟨Nat.lt_succ_self _, eP, fun s hs hp => ?_, fun s hs hp => ?_⟩
        · by_cases g : s = n
          · rw [g]; exact Nat.le_refl _
          · rw [h0 s (by omega)] at hp; cases hp
        · rw [h0 s hs] at hp; cases hp
      | some c =>
        obtain ⟨a1, a2, a3, a4⟩ := i2 c eo
        by_cases g : pcn n 12 < pcn c 12
        · rw [show tlL n (some c) = true from decide_eq_true g, if_pos rfl]
          refine ⟨fun h => (by cases h), fun b h => ?_⟩
          cases h
          refine ⟨Nat.lt_succ_self _, eP, fun s hs hp => ?_, fun s hs hp => ?_⟩
          · by_cases g2 : s = n
            · rw [g2]; exact Nat.le_refl _
            · have := a3 s (by omega) hp; omega
          · have := a3 s hs hp; omega
        · rw [show tlL n (some c) = false from decide_eq_false g, if_neg Bool.false_ne_true]
          refine ⟨fun h => (by cases h), fun b h => ?_⟩
          cases h
          refine ⟨by omega, a2, fun s hs hp => ?_, a4⟩
          by_cases g2 : s = n
          · rw [g2]; omega
          · exact a3 s (by omega) hp
theorem pcn_le8 : ∀ n, n < 9 → ∀ c, c < 2 ^ n → pcn c 12 ≤ n := by decide +kernel
theorem drB_ff {P : Nat → Bool} {k : Nat} (hk : k ≤ 8) : drB P (2 ^ k) = ff (fun many => ff (fun s => if pcn s 12 = many ∧ P s = true then some s else none) 0 (2 ^ k)) 0 (k + 1) := by
  obtain ⟨i1, i2⟩ := drB_spec P (2 ^ k)
  cases e : drB P (2 ^ k) with
  | none =>
    have h0 := i1 e
    exact (ff_none (fun j _ _ => ff_none (fun s _ hs => if_neg (fun z => by rw [h0 s (by omega)] at z; exact Bool.noConfusion z.2)))).symm
  | some b =>
    obtain ⟨a1, a2, a3, a4⟩ := i2 b e
    have hb := pcn_le8 k (by omega) b a1
    refine (ff_some (k := pcn b 12) ?_ (Nat.zero_le _) (by omega) (fun j _ hj => ?_)).symm
    · exact ff_some (k := b) (if_pos ⟨rfl, a2⟩) (Nat.zero_le _) (by omega) (fun s _ hs => if_neg (fun z => by have := a4 s hs z.2; omega))
    · exact ff_none (fun s _ hs => if_neg (fun z => by have := a3 s (by omega) z.2; omega))
theorem mEnv.wo {F : Nat → Prop} {μ m : SM2} {R : List Ru} {LL : List (List Int32)} {w : Wk} {s : Nat} (h : mEnv μ R LL w) (g : OfM F S9 μ m) (h17 : ¬ F 17) (hs : s < 2 ^ R.length) (e : m.1 572 16 = nI ((2 ^ R.length - 1) ^^^ s)) : mEnv m R LL (w.1, s, w.2.2) := by
  obtain ⟨a1, a2, a3, a4, a5⟩ := h
  have e3 : m.1 573 = μ.1 573 := (g.c (by decide) (by unfold S9; omega)).1
  have h12 := a1.1.2
  have hp : 2 ^ R.length ≤ 2 ^ 12 := Nat.pow_le_pow_right (by decide) h12
  have h1 : 1 ≤ 2 ^ R.length := Nat.pow_pos (by decide)
  refine ⟨by rw [e3]; exact a1, by rw [e3]; exact a2, ⟨a3.1, by show s < 2 ^ 12; omega⟩, ⟨(2 ^ R.length - 1) ^^^ s, Nat.xor_lt_two_pow (by omega) (by omega), e, fun r hr => ?_⟩, ?_⟩
  · rw [Nat.testBit_xor, Nat.testBit_two_pow_sub_one, decide_eq_true hr, Bool.true_xor]
  · rw [g.fi h17, e3]
    exact a5
def Fdp (j : Nat) : Prop := j = 16 ∨ Fs j
section MDr
variable {γ : Ga} {μ : SM2}
theorem m_asToldX {X : Td} {LL : List (List Int32)} (hX : mdT (μ.1 573) X) (hL : LawM (μ.1 573) LL) : Ex γ 2 0 0 M_X12_asTold [.ref 572] (rm μ) (Rm none (fun m => mEnv m X.R LL (wOf X LL) ∧ m.1 572 16 = nI (1 * 2 ^ X.R.length - 1) ∧ OfM (fun j => j = 16 ∨ j = 17) (fun _ => False) μ m)) := by
  have h12 := hX.1.1.2
  have hp : 1 ≤ 1 * 2 ^ X.R.length := by rw [Nat.one_mul]; exact Nat.pow_pos (by decide)
  have hp2 : 2 ^ X.R.length ≤ 2 ^ 12 := Nat.pow_le_pow_right (by decide) h12
  refine Ex.of (by decide +kernel) rfl (Nat.le_of_ble_eq_true rfl) ?_
  show T _ _ _ _ _ _ _ _ _ [some (.ref 572)] [] (rm μ)
  refine T_aload_n (pc := 0) (i := 0) dX12_asTold_0 rfl rfl ?_
  refine T_iconst (pc := 1) (v := nI 1) dX12_asTold_1 (by decide) ?_
  refine T_aload_n (pc := 2) (i := 0) dX12_asTold_2 rfl rfl ?_
  refine R_callV1 (pc := 3) (As := []) (rest := [.int (nI 1), .ref 572]) (Or.inl lk_X12_121) mk_X12_rules (m_rules hX.1) kc_572 ⟨by decide, rfl⟩ lc_572 dX12_asTold_3 rfl rfl (Nat.le_of_ble_eq_true rfl) (by decide) rfl (Nat.le_refl _) (Nat.le_refl _) ?_
  refine R_ishl (pc := 6) (by omega) dX12_asTold_6 ?_
  refine T_iconst (pc := 7) (v := nI 1) dX12_asTold_7 (by decide) ?_
  refine R_isub (pc := 8) hp dX12_asTold_8 ?_
  refine R_putI (pc := 9) fl_X12_305 ⟨rfl, rfl⟩ (Or.inl rfl) kc_572 lc_572 dX12_asTold_9 ?_
  refine T_aload_n (pc := 12) (i := 0) dX12_asTold_12 rfl rfl ?_
  refine T_iconst (pc := 13) (v := nI 1) dX12_asTold_13 (by decide) ?_
  refine R_putI (pc := 14) fl_X12_308 ⟨rfl, rfl⟩ (Or.inr (Or.inr rfl)) kc_572 lc_572 dX12_asTold_14 ?_
  refine T_vret dX12_asTold_17 rfl (Nat.le_refl _) (Nat.le_refl _) ⟨_, rfl, rfl, ⟨?_, ?_, ⟨hX.2.2.2.2.1.2.1, show (0 : Nat) < 2 ^ 12 by decide⟩, ⟨1 * 2 ^ X.R.length - 1, by omega, (n_wI (by omega)).trans (e_wI ⟨rfl, rfl⟩), fun r hr => ?_⟩, Or.inl ⟨e_wI ⟨rfl, rfl⟩, ?_⟩⟩, (n_wI (by omega)).trans (e_wI ⟨rfl, rfl⟩), OfM.sF (OfM.sF (OfM.refl _ _ _) (Or.inl rfl)) (Or.inr rfl)⟩
  · exact hX.1
  · exact hL
  · rw [Nat.one_mul, Nat.testBit_two_pow_sub_one, decide_eq_true hr]
    show true = !(Nat.testBit 0 r)
    rw [Nat.zero_testBit]
    rfl
  · show brQ X.R LL X.year = brQ X.R LL (μ.1 573 7)
    rw [hX.2.2.2.2.2.2.2.2.1]
theorem m_hasX {x : Int32} {i : Nat} (hi : i < 31) : Ex γ 1 0 0 M_X12_has [.int x, .int (nI i)] (rm μ) (Fn (some (.int (bI (bt x i)))) μ) := by
  refine Ex.of (by decide +kernel) rfl (Nat.le_of_ble_eq_true rfl) ?_
  show T _ _ _ _ _ _ _ _ _ [some (.int (x)), some (.int (nI i))] [] (rm μ)
  cases e : bt x i with
  | true =>
    have e1 : ishr x (nI i) &&& nI 1 = nI 1 := by
      refine b_ext (fun j hj => ?_)
      rw [b_and, show nI 1 = nI (1 * 2 ^ 0) from rfl, bt_one 0 (by decide) j hj]
      by_cases g : j = 0
      · subst g
        unfold ishr
        rw [b_sshr i (by omega) x (by decide), if_pos (by omega), Nat.add_zero, e]
        rfl
      · rw [decide_eq_false g, Bool.and_false]
    refine T_iload_n (pc := 0) (i := 0) dX12_has_0 rfl rfl ?_
    refine T_iload_n (pc := 1) (i := 1) dX12_has_1 rfl rfl ?_
    refine T_ishr (pc := 2) dX12_has_2 ?_
    refine T_iconst (pc := 3) (v := nI 1) dX12_has_3 (by decide) ?_
    refine T_iand (pc := 4) dX12_has_4 ?_
    refine T_topi (v := nI 1) (e1) ?_
    refine T_iconst (pc := 5) (v := nI 1) dX12_has_5 (by decide) ?_
    refine R_icmp_ne (pc := 6) (tgt := 13) (by omega) (by omega) dX12_has_6 (by decide) (fun h1 => ?_) (fun h1 => ?_)
    · exact absurd rfl h1
    · skip
      refine T_iconst (pc := 9) (v := nI 1) dX12_has_9 (by decide) ?_
      refine T_goto (pc := 10) (tgt := 14) dX12_has_10 (by decide) ?_
      exact T_iret (pc := 14) (ty := .boolean) dX12_has_14 rfl (by decide) (Nat.le_refl _) (Nat.le_refl _) ⟨rfl, rfl⟩
  | false =>
    refine T_iload_n (pc := 0) (i := 0) dX12_has_0 rfl rfl ?_
    refine T_iload_n (pc := 1) (i := 1) dX12_has_1 rfl rfl ?_
    refine T_ishr (pc := 2) dX12_has_2 ?_
    refine T_iconst (pc := 3) (v := nI 1) dX12_has_3 (by decide) ?_
    refine T_iand (pc := 4) dX12_has_4 ?_
    refine T_topi (v := nI 0) ((bt_sh hi).mpr e) ?_
    refine T_iconst (pc := 5) (v := nI 1) dX12_has_5 (by decide) ?_
    refine R_icmp_ne (pc := 6) (tgt := 13) (by omega) (by omega) dX12_has_6 (by decide) (fun h1 => ?_) (fun h1 => ?_)
    · skip
      refine T_iconst (pc := 13) (v := nI 0) dX12_has_13 (by decide) ?_
      exact T_iret (pc := 14) (ty := .boolean) dX12_has_14 rfl (by decide) (Nat.le_refl _) (Nat.le_refl _) ⟨rfl, rfl⟩
    · exact absurd h1 (by decide)
theorem m_allSettle {R : List Ru} {LL : List (List Int32)} {w : Wk} {F : List Fld} {y : Int32} {s : Nat} (hE : mEw μ R LL (w.1, s, w.2.2)) (hF : mdF (μ.1 573) F) : Ex γ 13 0 0 M_X12_allSettle [.ref 572, .int y] (rm μ) (Rm (some (.int (bI (dsB R w F y s)))) (fun m => OfM Fs S9 μ m)) := by
  have h6 := hF.1.2
  refine Ex.of (by decide +kernel) rfl (Nat.le_of_ble_eq_true rfl) ?_
  show T _ _ _ _ _ _ _ _ _ [some (.ref 572), some (.int (y)), none, none] [] (rm μ)
  refine T_iconst (pc := 0) (v := nI 1) dX12_allSettle_0 (by decide) ?_
  refine T_istore_n (pc := 1) (i := 2) (ls' := [some (.ref 572), some (.int (y)), some (.int (nI 1)), none]) dX12_allSettle_1 rfl (by decide) rfl ?_
  refine T_iconst (pc := 2) (v := nI 0) dX12_allSettle_2 (by decide) ?_
  refine T_istore_n (pc := 3) (i := 3) (ls' := [some (.ref 572), some (.int (y)), some (.int (nI 1)), some (.int (nI 0))]) dX12_allSettle_3 rfl (by decide) rfl ?_
  suffices loop : ∀ (g i : Nat) (m : SM2), i + g = F.length → OfM Fs S9 μ m → T γ 13 0 0 M_X12_allSettle (Rm (some (.int (bI (dsB R w F y s)))) (fun m => OfM Fs S9 μ m)) 0 0 4 [some (.ref 572), some (.int y), some (.int (bI (alN (dsP R w F y s) i))), some (.int (nI i))] [] (rm m) by
    exact loop F.length 0 μ (Nat.zero_add _) (OfM.refl _ _ _)
  have al_f : ∀ n i, alN (dsP R w F y s) i = false → alN (dsP R w F y s) (i + n) = false := by
    intro n
    induction n with
    | zero => intro i h; exact h
    | succ n ih =>
      intro i h
      show (alN (dsP R w F y s) (i + n) && _) = false
      rw [ih i h]
      rfl
  intro g
  induction g with
  | zero =>
    intro i m hi hO
    obtain rfl : i = F.length := by omega
    have hFm : mdF (m.1 573) F := by rw [(hO.c (by decide) (by unfold S9; omega)).1]; exact hF
    refine T_iload_n (pc := 4) (i := 3) dX12_allSettle_4 rfl rfl ?_
    refine T_aload_n (pc := 5) (i := 0) dX12_allSettle_5 rfl rfl ?_
    refine R_callV1 (pc := 6) (As := []) (rest := [.int (nI F.length)]) (Or.inl lk_X12_129) mk_X12_fields (m_fields hFm) kc_572 ⟨by decide, rfl⟩ lc_572 dX12_allSettle_6 rfl rfl (Nat.le_of_ble_eq_true rfl) (by decide) rfl (Nat.le_refl _) (Nat.le_refl _) ?_
    refine R_icmp_ge (pc := 9) (tgt := 56) (by omega) (by omega) dX12_allSettle_9 (by decide) (fun h1 => ?_) (fun h1 => ?_)
    · skip
      refine T_iload_n (pc := 56) (i := 2) dX12_allSettle_56 rfl rfl ?_
      exact T_iret (pc := 57) (ty := .boolean) dX12_allSettle_57 rfl (nar_b _) (Nat.le_refl _) (Nat.le_refl _) ⟨_, rfl, rfl, hO⟩
    · exact absurd h1 (by omega)
  | succ g ih =>
    intro i m hi hO
    have hFm : mdF (m.1 573) F := by rw [(hO.c (by decide) (by unfold S9; omega)).1]; exact hF
    have hEm := hE.s hO
    refine T_iload_n (pc := 4) (i := 3) dX12_allSettle_4 rfl rfl ?_
    refine T_aload_n (pc := 5) (i := 0) dX12_allSettle_5 rfl rfl ?_
    refine R_callV1 (pc := 6) (As := []) (rest := [.int (nI i)]) (Or.inl lk_X12_129) mk_X12_fields (m_fields hFm) kc_572 ⟨by decide, rfl⟩ lc_572 dX12_allSettle_6 rfl rfl (Nat.le_of_ble_eq_true rfl) (by decide) rfl (Nat.le_refl _) (Nat.le_refl _) ?_
    refine R_icmp_ge (pc := 9) (tgt := 56) (by omega) (by omega) dX12_allSettle_9 (by decide) (fun h1 => ?_) (fun h1 => ?_)
    · exact absurd h1 (by omega)
    · skip
      refine T_iload_n (pc := 12) (i := 2) dX12_allSettle_12 rfl rfl ?_
      refine R_ifb_eq (pc := 13) (tgt := 56) dX12_allSettle_13 (by decide) (fun h2 => ?_) (fun h2 => ?_)
      · skip
        refine T_iload_n (pc := 56) (i := 2) dX12_allSettle_56 rfl rfl ?_
        have ef : dsB R w F y s = false := by
          have := al_f (F.length - i) i h2
          rw [show i + (F.length - i) = F.length by omega] at this
          exact this
        rw [h2, ef]
        exact T_iret (pc := 57) (ty := .boolean) dX12_allSettle_57 rfl (nar_b _) (Nat.le_refl _) (Nat.le_refl _) ⟨_, rfl, rfl, hO⟩
      · skip
        have st : ∀ (b : Bool) (m3 : SM2), dsP R w F y s i = b → OfM Fs S9 μ m3 → T γ 13 0 0 M_X12_allSettle (Rm (some (.int (bI (dsB R w F y s)))) (fun m => OfM Fs S9 μ m)) 0 0 49 [some (.ref 572), some (.int y), some (.int (bI (alN (dsP R w F y s) i))), some (.int (nI i))] [.int (bI b)] (rm m3) := fun b m3 eb hO3 => by
          have h9 := ih (i + 1) m3 (by omega) hO3
          have e9 : alN (dsP R w F y s) (i + 1) = b := by
            show (alN (dsP R w F y s) i && dsP R w F y s i) = b
            rw [h2, eb, Bool.true_and]
          rw [e9] at h9
          refine T_istore_n (pc := 49) (i := 2) (ls' := [some (.ref 572), some (.int (y)), some (.int (bI b)), some (.int (nI i))]) dX12_allSettle_49 rfl (by decide) rfl ?_
          refine R_iinc (pc := 50) (i := 3) (n := 1) (ls' := [some (.ref 572), some (.int (y)), some (.int (bI b)), some (.int (nI (i + 1)))]) dX12_allSettle_50 rfl rfl ?_
          refine T_goto (pc := 53) (tgt := 4) dX12_allSettle_53 (by decide) ?_
          exact h9
        refine T_iload_n (pc := 16) (i := 1) dX12_allSettle_16 rfl rfl ?_
        refine T_iload_n (pc := 17) (i := 3) dX12_allSettle_17 rfl rfl ?_
        refine R_callS1 (pc := 18) (av := [.int (y), .int (nI i)]) (rest := []) (Or.inl lk_X12_325) mk_X12_has (m_hasX (by omega)) dX12_allSettle_18 rfl rfl (Nat.le_of_ble_eq_true rfl) (by decide) rfl (Nat.le_refl _) (Nat.le_refl _) ?_
        refine R_ifb_eq (pc := 21) (tgt := 44) dX12_allSettle_21 (by decide) (fun h3 => ?_) (fun h3 => ?_)
        · skip
          have hb : dsP R w F y s i = true := by unfold dsP; rw [h3]; rfl
          refine T_iconst (pc := 44) (v := nI 1) dX12_allSettle_44 (by decide) ?_
          refine T_goto (pc := 45) (tgt := 49) dX12_allSettle_45 (by decide) ?_
          exact st true m hb hO
        · skip
          have hf := hFm.2 i (by omega)
          refine T_aload_n (pc := 24) (i := 0) dX12_allSettle_24 rfl rfl ?_
          refine T_aload_n (pc := 25) (i := 0) dX12_allSettle_25 rfl rfl ?_
          refine T_iload_n (pc := 26) (i := 3) dX12_allSettle_26 rfl rfl ?_
          refine R_callV1 (pc := 27) (As := [.int (nI i)]) (rest := [.ref 572]) (Or.inl lk_X12_379) mk_X12_meadow (m_meadow hFm (by omega)) kc_572 ⟨by decide, rfl⟩ lc_572 dX12_allSettle_27 rfl rfl (Nat.le_of_ble_eq_true rfl) (by decide) rfl (Nat.le_refl _) (Nat.le_refl _) ?_
          refine T_bipush (pc := 30) (v := nI 100) dX12_allSettle_30 (by decide) ?_
          refine T_aload_n (pc := 32) (i := 0) dX12_allSettle_32 rfl rfl ?_
          refine R_getR (pc := 33) (i := 573) fl_X12_29 rfl kc_572 lc_572 rc_572_1 dX12_allSettle_33 ?_
          refine T_iconst (pc := 36) (v := nI 5) dX12_allSettle_36 (by decide) ?_
          refine R_iald (pc := 37) (x := nI w.1) kc_573 lc_573 (by omega) (by first | decide | assumption) hEm.2 dX12_allSettle_37 ?_
          refine R_callVm1 (pc := 38) (As := [.long (lN (cd (fAt F i).1)), .int (nI 100), .int (nI w.1)]) (rest := []) (Or.inl lk_X12_423) mk_X12_isSettling (m_isSettling (w := (w.1, s, w.2.2)) hEm.1 hf.1.1 (by decide)) kc_572 ⟨by decide, rfl⟩ lc_572 dX12_allSettle_38 rfl rfl (Nat.le_of_ble_eq_true rfl) (by decide) rfl (Nat.le_refl _) (Nat.le_refl _) (fun m3 h4 => ?_)
          have hb : dsP R w F y s i = (stl (nxR R (w.1, s, w.2.2)) 100 (fAt F i).1).isSome := by unfold dsP; rw [h3]; rfl
          refine R_ifb_eq (pc := 41) (tgt := 48) dX12_allSettle_41 (by decide) (fun h5 => ?_) (fun h5 => ?_)
          · skip
            refine T_iconst (pc := 48) (v := nI 0) dX12_allSettle_48 (by decide) ?_
            exact st false m3 (hb.trans h5) (hO.trans h4.2)
          · skip
            refine T_iconst (pc := 44) (v := nI 1) dX12_allSettle_44 (by decide) ?_
            refine T_goto (pc := 45) (tgt := 49) dX12_allSettle_45 (by decide) ?_
            exact st true m3 (hb.trans h5) (hO.trans h4.2)
theorem m_dropped {y : Int32} {X : Td} {LL : List (List Int32)} (hX : mdT (μ.1 573) X) (hL : LawM (μ.1 573) LL) : Ex γ 14 0 0 M_X12_dropped [.ref 572, .int y] (rm μ) (Rm (some (.int (oN (drS X.R (wOf X LL) X.F y)))) (fun m => MdN μ m 0)) := by
  have hX2 : mdT ((wI μ 572 0 (nI 0)).1 573) X := by rw [w573]; exact hX
  have hL2 : LawM ((wI μ 572 0 (nI 0)).1 573) LL := by rw [w573]; exact hL
  have h12 := hX.1.1.2
  have hm8 : min 8 X.R.length ≤ 8 := Nat.min_le_left _ _
  have hmn : min 8 X.R.length ≤ X.R.length := Nat.min_le_right _ _
  have hp8 : 2 ^ min 8 X.R.length ≤ 2 ^ 8 := Nat.pow_le_pow_right (by decide) hm8
  have hpn : 2 ^ min 8 X.R.length ≤ 2 ^ X.R.length := Nat.pow_le_pow_right (by decide) hmn
  have hp12 : 2 ^ X.R.length ≤ 2 ^ 12 := Nat.pow_le_pow_right (by decide) h12
  have eS : drS X.R (wOf X LL) X.F y = drB (dsB X.R (wOf X LL) X.F y) (2 ^ min 8 X.R.length) := (drB_ff hm8).symm
  rw [eS]
  refine Ex.of (by decide +kernel) rfl (Nat.le_of_ble_eq_true rfl) ?_
  show T _ _ _ _ _ _ _ _ _ [some (.ref 572), some (.int (y)), none, none, none] [] (rm μ)
  refine T_aload_n (pc := 0) (i := 0) dX12_dropped_0 rfl rfl ?_
  refine T_iconst (pc := 1) (v := nI 0) dX12_dropped_1 (by decide) ?_
  refine R_putI (pc := 2) fl_X12_3 ⟨rfl, rfl⟩ (Or.inl rfl) kc_572 lc_572 dX12_dropped_2 ?_
  refine T_aload_n (pc := 5) (i := 0) dX12_dropped_5 rfl rfl ?_
  refine R_callVm0 (pc := 6) (As := []) (rest := []) (Or.inl lk_X12_386) mk_X12_asTold (m_asToldX hX2 hL2) kc_572 ⟨by decide, rfl⟩ lc_572 dX12_dropped_6 rfl rfl (Nat.le_of_ble_eq_true rfl) (by decide) rfl (Nat.le_refl _) (Nat.le_refl _) (fun m0 h => ?_)
  obtain ⟨hE, e16, hO⟩ := h
  have hw5 : m0.1 573 5 = nI X.way := (hO.i (by decide) id 5).trans hX2.2.2.2.2.2.2.1
  have hX3 : mdT (m0.1 573) X := by rw [(hO.c (by decide) id).1]; exact hX2
  have fin : ∀ m : SM2, OfM Fdp S9 m0 m → MdN μ m 0 := fun m g => MdN.of (F := Fa) (S := S9) ((hO.mono (fun j hj => hj.elim Or.inl (fun z => Or.inr (Or.inl z))) (fun k z => z.elim)).trans (g.mono (fun j hj => hj.elim Or.inl (fun z => Or.inr (Or.inr z))) (fun k hk => hk))) (by unfold Fa Fs; omega) (fun j => Fa_Fz) (fun k => S9_Sz)
  refine T_aload_n (pc := 9) (i := 0) dX12_dropped_9 rfl rfl ?_
  refine R_getI (pc := 10) (x := nI (1 * 2 ^ X.R.length - 1)) fl_X12_305 rfl kc_572 lc_572 e16 dX12_dropped_10 ?_
  refine T_istore_n (pc := 13) (i := 2) (ls' := [some (.ref 572), some (.int (y)), some (.int (nI (1 * 2 ^ X.R.length - 1))), none, none]) dX12_dropped_13 rfl (by decide) rfl ?_
  refine T_iconst (pc := 14) (v := (-1)) dX12_dropped_14 (by decide) ?_
  refine T_istore_n (pc := 15) (i := 3) (ls' := [some (.ref 572), some (.int (y)), some (.int (nI (1 * 2 ^ X.R.length - 1))), some (.int ((-1))), none]) dX12_dropped_15 rfl (by decide) rfl ?_
  refine T_iconst (pc := 16) (v := nI 0) dX12_dropped_16 (by decide) ?_
  refine T_istore (pc := 17) (i := 4) (ls' := [some (.ref 572), some (.int (y)), some (.int (nI (1 * 2 ^ X.R.length - 1))), some (.int ((-1))), some (.int (nI 0))]) dX12_dropped_17 (by decide) rfl ?_
  suffices loop : ∀ (g s : Nat) (m : SM2), s + g = 2 ^ min 8 X.R.length → OfM Fdp S9 m0 m → T γ 14 0 0 M_X12_dropped (Rm (some (.int (oN (drB (dsB X.R (wOf X LL) X.F y) (2 ^ min 8 X.R.length))))) (fun m => MdN μ m 0)) 0 0 19 [some (.ref 572), some (.int y), some (.int (nI (1 * 2 ^ X.R.length - 1))), some (.int (oN (drB (dsB X.R (wOf X LL) X.F y) s))), some (.int (nI s))] [] (rm m) by
    exact loop _ 0 m0 (Nat.zero_add _) (OfM.refl _ _ _)
  intro g
  induction g with
  | zero =>
    intro s m hs hO2
    obtain rfl : s = 2 ^ min 8 X.R.length := by omega
    have hXm : mdT (m.1 573) X := by rw [(hO2.c (by decide) (by unfold S9; omega)).1]; exact hX3
    refine T_iload (pc := 19) (i := 4) dX12_dropped_19 rfl ?_
    refine T_iconst (pc := 21) (v := nI 1) dX12_dropped_21 (by decide) ?_
    refine T_bipush (pc := 22) (v := nI 8) dX12_dropped_22 (by decide) ?_
    refine T_aload_n (pc := 24) (i := 0) dX12_dropped_24 rfl rfl ?_
    refine R_callV1 (pc := 25) (As := []) (rest := [.int (nI 8), .int (nI 1), .int (nI (2 ^ min 8 X.R.length))]) (Or.inl lk_X12_121) mk_X12_rules (m_rules hXm.1) kc_572 ⟨by decide, rfl⟩ lc_572 dX12_dropped_25 rfl rfl (Nat.le_of_ble_eq_true rfl) (by decide) rfl (Nat.le_refl _) (Nat.le_refl _) ?_
    refine R_mmin (pc := 28) lk_X12_496 (by omega) (by omega) (by first | decide | exact Nat.le_of_ble_eq_true rfl) (Nat.le_refl _) (Nat.le_refl _) dX12_dropped_28 ?_
    refine R_ishl (pc := 31) (by omega) dX12_dropped_31 ?_
    refine R_icmp_ge (pc := 32) (tgt := 85) (by omega) (by omega) dX12_dropped_32 (by decide) (fun h1 => ?_) (fun h1 => ?_)
    · skip
      refine T_aload_n (pc := 85) (i := 0) dX12_dropped_85 rfl rfl ?_
      refine T_iload_n (pc := 86) (i := 2) dX12_dropped_86 rfl rfl ?_
      refine R_putI (pc := 87) fl_X12_305 ⟨rfl, rfl⟩ (Or.inl rfl) kc_572 lc_572 dX12_dropped_87 ?_
      refine T_iload_n (pc := 90) (i := 3) dX12_dropped_90 rfl rfl ?_
      exact T_iret (pc := 91) (ty := .int) dX12_dropped_91 rfl rfl (Nat.le_refl _) (Nat.le_refl _) ⟨_, rfl, rfl, fin _ (OfM.sF hO2 (Or.inl rfl))⟩
    · exact absurd h1 (by omega)
  | succ g ih =>
    intro s m hs hO2
    have hXm : mdT (m.1 573) X := by rw [(hO2.c (by decide) (by unfold S9; omega)).1]; exact hX3
    have e1 : drB (dsB X.R (wOf X LL) X.F y) (s + 1) = if (tlL s (drB (dsB X.R (wOf X LL) X.F y) s) && dsB X.R (wOf X LL) X.F y s) = true then some s else drB (dsB X.R (wOf X LL) X.F y) s := rfl
    have hbd := (drB_spec (dsB X.R (wOf X LL) X.F y) s).2
    obtain ⟨o, ho⟩ : ∃ o, drB (dsB X.R (wOf X LL) X.F y) s = o := ⟨_, rfl⟩
    rw [ho] at e1 hbd ⊢
    have t79 : ∀ (o2 : Option Nat) (m3 : SM2), drB (dsB X.R (wOf X LL) X.F y) (s + 1) = o2 → OfM Fdp S9 m0 m3 → T γ 14 0 0 M_X12_dropped (Rm (some (.int (oN (drB (dsB X.R (wOf X LL) X.F y) (2 ^ min 8 X.R.length))))) (fun m => MdN μ m 0)) 0 0 79 [some (.ref 572), some (.int y), some (.int (nI (1 * 2 ^ X.R.length - 1))), some (.int (oN o2)), some (.int (nI s))] [] (rm m3) := fun o2 m3 eo hO3 => by
      have h9 := ih (s + 1) m3 (by omega) hO3
      rw [eo] at h9
      refine R_iinc (pc := 79) (i := 4) (n := 1) (ls' := [some (.ref 572), some (.int (y)), some (.int (nI (1 * 2 ^ X.R.length - 1))), some (.int ((oN o2))), some (.int (nI (s + 1)))]) dX12_dropped_79 rfl rfl ?_
      refine T_goto (pc := 82) (tgt := 19) dX12_dropped_82 (by decide) ?_
      exact h9
    have t54 : tlL s o = true → T γ 14 0 0 M_X12_dropped (Rm (some (.int (oN (drB (dsB X.R (wOf X LL) X.F y) (2 ^ min 8 X.R.length))))) (fun m => MdN μ m 0)) 0 0 54 [some (.ref 572), some (.int y), some (.int (nI (1 * 2 ^ X.R.length - 1))), some (.int (oN o)), some (.int (nI s))] [] (rm m) := fun hl => by
      rw [hl, Bool.true_and] at e1
      have hO3 : OfM Fdp S9 m0 (wI m 572 16 (nI (1 * 2 ^ X.R.length - 1) &&& (nI s ^^^ (-1)))) := OfM.sF hO2 (Or.inl rfl)
      have hE3 := hE.wo (s := s) hO3 (by unfold Fdp Fs; omega) (by omega) ((e_wI ⟨rfl, rfl⟩).trans (all_less h12 (by omega)))
      refine T_aload_n (pc := 54) (i := 0) dX12_dropped_54 rfl rfl ?_
      refine T_iload_n (pc := 55) (i := 2) dX12_dropped_55 rfl rfl ?_
      refine T_iload (pc := 56) (i := 4) dX12_dropped_56 rfl ?_
      refine T_iconst (pc := 58) (v := (-1)) dX12_dropped_58 (by decide) ?_
      refine T_ixor (pc := 59) dX12_dropped_59 ?_
      refine T_iand (pc := 60) dX12_dropped_60 ?_
      refine R_putI (pc := 61) fl_X12_305 ⟨rfl, rfl⟩ (Or.inl rfl) kc_572 lc_572 dX12_dropped_61 ?_
      refine T_aload_n (pc := 64) (i := 0) dX12_dropped_64 rfl rfl ?_
      refine T_iload_n (pc := 65) (i := 1) dX12_dropped_65 rfl rfl ?_
      refine R_callVm1 (pc := 66) (As := [.int (y)]) (rest := []) (Or.inl lk_X12_566) mk_X12_allSettle (m_allSettle ⟨hE3, (hO3.i (by decide) (by unfold S9; omega) 5).trans hw5⟩ hXm.2.1) kc_572 ⟨by decide, rfl⟩ lc_572 dX12_dropped_66 rfl rfl (Nat.le_of_ble_eq_true rfl) (by decide) rfl (Nat.le_refl _) (Nat.le_refl _) (fun m3 hO4 => ?_)
      have hO5 : OfM Fdp S9 m0 m3 := hO3.trans (hO4.mono (fun j hj => Or.inr hj) (fun k hk => hk))
      refine R_ifb_eq (pc := 69) (tgt := 77) dX12_dropped_69 (by decide) (fun h5 => ?_) (fun h5 => ?_)
      · skip
        refine T_iload_n (pc := 77) (i := 3) dX12_dropped_77 rfl rfl ?_
        refine T_istore_n (pc := 78) (i := 3) (ls' := [some (.ref 572), some (.int (y)), some (.int (nI (1 * 2 ^ X.R.length - 1))), some (.int ((oN o))), some (.int (nI s))]) dX12_dropped_78 rfl (by decide) rfl ?_
        exact t79 o m3 (by rw [e1, if_neg (by rw [show dsB X.R (wOf X LL) X.F y s = false from h5]; decide)]) hO5
      · skip
        refine T_iload (pc := 72) (i := 4) dX12_dropped_72 rfl ?_
        refine T_goto (pc := 74) (tgt := 78) dX12_dropped_74 (by decide) ?_
        refine T_istore_n (pc := 78) (i := 3) (ls' := [some (.ref 572), some (.int (y)), some (.int (nI (1 * 2 ^ X.R.length - 1))), some (.int (nI s)), some (.int (nI s))]) dX12_dropped_78 rfl (by decide) rfl ?_
        exact t79 (some s) m3 (by rw [e1, if_pos (show dsB X.R (wOf X LL) X.F y s = true from h5)]) hO5
    refine T_iload (pc := 19) (i := 4) dX12_dropped_19 rfl ?_
    refine T_iconst (pc := 21) (v := nI 1) dX12_dropped_21 (by decide) ?_
    refine T_bipush (pc := 22) (v := nI 8) dX12_dropped_22 (by decide) ?_
    refine T_aload_n (pc := 24) (i := 0) dX12_dropped_24 rfl rfl ?_
    refine R_callV1 (pc := 25) (As := []) (rest := [.int (nI 8), .int (nI 1), .int (nI s)]) (Or.inl lk_X12_121) mk_X12_rules (m_rules hXm.1) kc_572 ⟨by decide, rfl⟩ lc_572 dX12_dropped_25 rfl rfl (Nat.le_of_ble_eq_true rfl) (by decide) rfl (Nat.le_refl _) (Nat.le_refl _) ?_
    refine R_mmin (pc := 28) lk_X12_496 (by omega) (by omega) (by first | decide | exact Nat.le_of_ble_eq_true rfl) (Nat.le_refl _) (Nat.le_refl _) dX12_dropped_28 ?_
    refine R_ishl (pc := 31) (by omega) dX12_dropped_31 ?_
    refine R_icmp_ge (pc := 32) (tgt := 85) (by omega) (by omega) dX12_dropped_32 (by decide) (fun h1 => ?_) (fun h1 => ?_)
    · exact absurd h1 (by omega)
    · skip
      refine T_iload_n (pc := 35) (i := 3) dX12_dropped_35 rfl rfl ?_
      cases o with
      | none =>
        show T _ _ _ _ _ _ _ _ 36 [some (.ref 572), some (.int (y)), some (.int (nI (1 * 2 ^ X.R.length - 1))), some (.int ((-1))), some (.int (nI s))] [.int ((-1))] (rm m)
        refine T_if_lt (pc := 36) (tgt := 54) dX12_dropped_36 (by decide) (fun h2 => ?_) (fun h2 => ?_)
        · exact t54 rfl
        · exact absurd (by decide) h2
      | some c =>
        have hc := (hbd c rfl).1
        have hpc := pcn_le s 12
        have hpc2 := pcn_le c 12
        show T _ _ _ _ _ _ _ _ 36 [some (.ref 572), some (.int (y)), some (.int (nI (1 * 2 ^ X.R.length - 1))), some (.int (nI c)), some (.int (nI s))] [.int (nI c)] (rm m)
        refine R_if_lt (pc := 36) (tgt := 54) (by omega) dX12_dropped_36 (by decide) (fun h2 => ?_) (fun h2 => ?_)
        · exact h2.elim
        · skip
          refine T_iload (pc := 39) (i := 4) dX12_dropped_39 rfl ?_
          refine R_callS1 (pc := 41) (av := [.int (nI s)]) (rest := []) (Or.inl lk_X12_532) mk_J6_bitCount_0f7a4 (c_bitCount (by omega)) dX12_dropped_41 rfl rfl (Nat.le_of_ble_eq_true rfl) (by decide) rfl (Nat.le_refl _) (Nat.le_refl _) ?_
          refine T_iload_n (pc := 44) (i := 3) dX12_dropped_44 rfl rfl ?_
          refine R_callS1 (pc := 45) (av := [.int (nI c)]) (rest := [.int (nI (pcn s 12))]) (Or.inl lk_X12_532) mk_J6_bitCount_0f7a4 (c_bitCount (by omega)) dX12_dropped_45 rfl rfl (Nat.le_of_ble_eq_true rfl) (by decide) rfl (Nat.le_refl _) (Nat.le_refl _) ?_
          refine R_icmp_lt (pc := 48) (tgt := 54) (by omega) (by omega) dX12_dropped_48 (by decide) (fun h3 => ?_) (fun h3 => ?_)
          · exact t54 (decide_eq_true h3)
          · skip
            refine T_goto (pc := 51) (tgt := 79) dX12_dropped_51 (by decide) ?_
            exact t79 (some c) m (by rw [e1, show tlL s (some c) = false from decide_eq_false (by omega)]; rfl) hO2
end MDr

