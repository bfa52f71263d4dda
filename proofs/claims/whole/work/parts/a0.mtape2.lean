/-! THE MODEL: numbers and BEASTS told; feed, end, fault -/
def nE (B : List Nat) (p : Nat) : Nat := spn isD B (tS B p)
/-- behind a thing that is read: where it began, and, where it is right, behind it -/
def MtR (m : SM2) (B : List Nat) (p : Nat) (ok : Bool) : Prop := m.1 572 11 = nI (tS B p) ∧ MtB m B ∧ (ok = true → MtQ m B (tE B p))
theorem MtP.r {m : SM2} {B : List Nat} {p e : Nat} {ok : Bool} (h : MtP m B (tS B p) e) (g : ok = true → e = tE B p) : MtR m B p ok := ⟨h.2, h.1.1, fun z => by rw [← g z]; exact h.1⟩
theorem spn_lt {P : Nat → Bool} {B : List Nat} {p : Nat} (h : p < B.length ∧ P (B.getD p 0) = true) : p < spn P B p := by
  rw [spn_go h]
  have := (spn_le (P := P) (B := B) (p := p + 1) (by omega)).1
  omega
theorem tK_num {B : List Nat} {p : Nat} (hB : ∀ i, i < B.length → B.getD i 0 < 256) : tK B p = -3 ↔ (tS B p < B.length ∧ isD (B.getD (tS B p) 0) = true) := by
  constructor
  · intro h
    have h1 := (tok_num hB h).1
    refine ⟨h1, ?_⟩
    unfold tK at h
    rw [if_pos h1] at h
    by_cases h2 : isL (B.getD (tS B p) 0) = true
    · rw [if_pos h2] at h
      exact absurd h (by decide)
    · rw [if_neg h2] at h
      by_cases h3 : isD (B.getD (tS B p) 0) = true
      · exact h3
      · rw [if_neg h3] at h
        exact absurd h (nI_ne2 (hB _ h1)).2.1
  · intro h
    have h2 : ¬ isL (B.getD (tS B p) 0) = true := by
      have h4 := h.2
      unfold isD at h4
      unfold isL
      rw [Bool.and_eq_true, decide_eq_true_iff, decide_eq_true_iff] at h4 ⊢
      omega
    unfold tK
    rw [if_pos h.1, if_neg h2, if_pos h.2]
theorem sh8 (x : Int32) {s : Nat} (hs : s = 0 ∨ s = 8 ∨ s = 16 ∨ s = 24) : (ishr x (nI s)).toInt8 = (nI (byN x s)).toInt8 := by
  apply Int8.toBitVec_inj.1
  rw [Int32.toBitVec_toInt8, Int32.toBitVec_toInt8]
  have e : (ishr x (nI s)).toBitVec = x.toBitVec.sshiftRight s := by
    rcases hs with rfl | rfl | rfl | rfl <;> rfl
  have e2 : (nI (byN x s)).toBitVec = BitVec.ofNat 32 (byN x s) := rfl
  rw [e, e2]
  apply BitVec.eq_of_getLsbD_eq
  intro i hi
  rw [BitVec.getLsbD_signExtend, BitVec.getLsbD_signExtend, BitVec.getLsbD_sshiftRight, BitVec.getLsbD_ofNat]
  have h1 : i < 32 := by omega
  have h2 : s + i < 32 := by omega
  have h3 : (byN x s).testBit i = x.toBitVec.getLsbD (s + i) := by
    unfold byN
    rw [show (256 : Nat) = 2 ^ 8 from rfl, Nat.testBit_mod_two_pow, Nat.testBit_div_two_pow, decide_eq_true (by omega), Bool.true_and, Nat.add_comm i s]
    rfl
  rw [h3]
  simp [h1, h2, hi]
theorem by20_at {a b c d e : Int32} : ∀ {k : Nat}, k < 20 → (by20 a b c d e).getD k 0 = byN (if k / 4 = 0 then a else if k / 4 = 1 then b else if k / 4 = 2 then c else if k / 4 = 3 then d else e) (24 - 8 * (k % 4)) := by
  intro k hk
  have h : k = 0 ∨ k = 1 ∨ k = 2 ∨ k = 3 ∨ k = 4 ∨ k = 5 ∨ k = 6 ∨ k = 7 ∨ k = 8 ∨ k = 9 ∨ k = 10 ∨ k = 11 ∨ k = 12 ∨ k = 13 ∨ k = 14 ∨ k = 15 ∨ k = 16 ∨ k = 17 ∨ k = 18 ∨ k = 19 := by omega
  rcases h with rfl | rfl | rfl | rfl | rfl | rfl | rfl | rfl | rfl | rfl | rfl | rfl | rfl | rfl | rfl | rfl | rfl | rfl | rfl | rfl <;> rfl
theorem by20_len {a b c d e : Int32} : (by20 a b c d e).length = 20 := rfl
def S578 (k : Nat) : Prop := k = 577 ∨ k = 578
def F8 (j : Nat) : Prop := j = 0 ∨ j = 8
section MTQ
variable {γ : Ga} {μ : SM2}
theorem m_number {B : List Nat} {p : Nat} {x : Int32} (hT : MtQ μ B p) : Ex γ 3 0 0 M_X12_number [.ref 572, .int (nI 0), .int x] (rm μ) (Rm (some (.int (oI (rdN B p x)))) (fun m => MtR m B p (rdN B p x).isSome ∧ OfM F9 S0 μ m)) := by
  have h400 := hT.1.1.2
  have hb := hT.1.b
  have hse := tS_le hT.2.1
  obtain ⟨Q, hQ⟩ : ∃ Q, Q = Rm (some (.int (oI (rdN B p x)))) (fun m => MtR m B p (rdN B p x).isSome ∧ OfM F9 S0 μ m) := ⟨_, rfl⟩
  rw [← hQ]
  have hn := spn_le (P := isD) (B := B) hse.2
  have fin : ∀ (m : SM2), MtP m B (tS B p) (nE B p) → OfM F9 S0 μ m → (∀ i, tS B p ≤ i → i < nE B p → isD (B.getD i 0) = true) → T γ 3 0 0 M_X12_number Q 0 0 65 [some (.ref 572), some (.int (nI 0)), some (.int x), some (.int (nI (nvN B (tS B p) (min (nE B p - tS B p) 3))))] [] (rm m) := fun m hm ho hd => by
    have hne : tS B p ≤ nE B p ∧ nE B p ≤ B.length := hn
    have bad : rdN B p x = none → T γ 3 0 0 M_X12_number Q 0 0 99 [some (.ref 572), some (.int (nI 0)), some (.int x), some (.int (nI (nvN B (tS B p) (min (nE B p - tS B p) 3))))] [] (rm m) := fun e => by
      rw [hQ, e]
      refine T_iconst (pc := 99) (v := (-1)) dX12_number_99 (by decide) ?_
      refine T_goto (pc := 100) (tgt := 104) dX12_number_100 (by decide) ?_
      exact T_iret (pc := 104) (ty := .int) dX12_number_104 rfl rfl (Nat.le_refl _) (Nat.le_refl _) ⟨_, rfl, rfl, hm.r (fun z => by cases z), ho⟩
    have hv := nvN_lt (B := B) (s := tS B p) (min (nE B p - tS B p) 3) (fun i hi => by
      have h5 := hd (tS B p + i) (by omega) (by omega)
      unfold isD at h5
      rw [Bool.and_eq_true, decide_eq_true_iff, decide_eq_true_iff] at h5
      exact h5.2)
    have hv2 : nvN B (tS B p) (min (nE B p - tS B p) 3) < 10 ^ 3 := Nat.lt_of_lt_of_le hv (Nat.pow_le_pow_right (by decide) (by omega))
    have hv3 : (10 : Nat) ^ 3 = 1000 := rfl
    refine T_aload_n (pc := 65) (i := 0) dX12_number_65 rfl rfl ?_
    refine R_getI (pc := 66) (x := nI (nE B p)) fl_X12_139 rfl kc_572 lc_572 hm.1.2.2 dX12_number_66 ?_
    refine T_aload_n (pc := 69) (i := 0) dX12_number_69 rfl rfl ?_
    refine R_getI (pc := 70) (x := nI (tS B p)) fl_X12_149 rfl kc_572 lc_572 hm.2 dX12_number_70 ?_
    refine R_icmp_eq (pc := 73) (tgt := 99) (by omega) (by omega) dX12_number_73 (by decide) (fun g1 => ?_) (fun g1 => ?_)
    · skip
      refine bad ?_
      have hk : tK B p ≠ -3 := fun z => by
        have h6 := spn_lt ((tK_num hb).mp z)
        have h7 : spn isD B (tS B p) = nE B p := rfl
        omega
      unfold rdN
      rw [if_neg (fun z => hk z.1)]
    · skip
      have hk : tK B p = -3 := (tK_num hb).mpr (by
        by_cases h6 : tS B p < B.length ∧ isD (B.getD (tS B p) 0) = true
        · exact h6
        · have h7 : spn isD B (tS B p) = nE B p := rfl
          rw [spn_end h6] at h7
          omega)
      have he : tE B p = nE B p := (tok_num hb hk).2
      refine T_aload_n (pc := 76) (i := 0) dX12_number_76 rfl rfl ?_
      refine R_getI (pc := 77) (x := nI (nE B p)) fl_X12_139 rfl kc_572 lc_572 hm.1.2.2 dX12_number_77 ?_
      refine T_aload_n (pc := 80) (i := 0) dX12_number_80 rfl rfl ?_
      refine R_getI (pc := 81) (x := nI (tS B p)) fl_X12_149 rfl kc_572 lc_572 hm.2 dX12_number_81 ?_
      refine R_isub (pc := 84) (by omega) dX12_number_84 ?_
      refine T_iconst (pc := 85) (v := nI 3) dX12_number_85 (by decide) ?_
      refine R_icmp_gt (pc := 86) (tgt := 99) (by omega) (by omega) dX12_number_86 (by decide) (fun g2 => ?_) (fun g2 => ?_)
      · skip
        refine bad ?_
        have ev : tV B p = -1 := by
          unfold tV
          rw [he, if_pos (by omega)]
        unfold rdN
        rw [ev, if_neg (fun z => z.2.2 rfl)]
      · skip
        have em : min (nE B p - tS B p) 3 = nE B p - tS B p := by omega
        have ev : tV B p = nI (nvN B (tS B p) (nE B p - tS B p)) := by
          unfold tV
          rw [he, if_neg (by omega)]
        rw [em] at hv2 bad ⊢
        refine T_iload_n (pc := 89) (i := 3) dX12_number_89 rfl rfl ?_
        refine T_iload_n (pc := 90) (i := 1) dX12_number_90 rfl rfl ?_
        refine R_icmp_lt (pc := 91) (tgt := 99) (by omega) (by omega) dX12_number_91 (by decide) (fun g3 => ?_) (fun g3 => ?_)
        · exact absurd g3 (Nat.not_lt_zero _)
        · skip
          refine T_iload_n (pc := 94) (i := 3) dX12_number_94 rfl rfl ?_
          refine T_iload_n (pc := 95) (i := 2) dX12_number_95 rfl rfl ?_
          refine T_icmp_le (pc := 96) (tgt := 103) dX12_number_96 (by decide) (fun g4 => ?_) (fun g4 => ?_)
          · skip
            have er : rdN B p x = some (nI (nvN B (tS B p) (nE B p - tS B p))) := by
              unfold rdN
              rw [ev, if_pos ⟨hk, g4, fun z => by
                have i1 := nI_toInt (n := nvN B (tS B p) (nE B p - tS B p)) (by omega)
                rw [z] at i1
                have i2 : (-1 : Int32).toInt = -1 := rfl
                omega⟩]
            rw [hQ, er]
            refine T_iload_n (pc := 103) (i := 3) dX12_number_103 rfl rfl ?_
            exact T_iret (pc := 104) (ty := .int) dX12_number_104 rfl rfl (Nat.le_refl _) (Nat.le_refl _) ⟨_, rfl, rfl, hm.r (fun _ => he.symm), ho⟩
          · skip
            refine bad ?_
            unfold rdN
            rw [ev, if_neg (fun z => g4 z.2.1)]
  suffices loop : ∀ (f q : Nat) (m : SM2), B.length ≤ q + f → tS B p ≤ q → spn isD B q = nE B p → (∀ i, tS B p ≤ i → i < q → isD (B.getD i 0) = true) → MtP m B (tS B p) q → OfM F9 S0 μ m → T γ 3 0 0 M_X12_number Q 0 0 6 [some (.ref 572), some (.int (nI 0)), some (.int x), some (.int (nI (nvN B (tS B p) (min (q - tS B p) 3))))] [] (rm m) by
    refine Ex.of (by decide +kernel) rfl (Nat.le_of_ble_eq_true rfl) ?_
    show T _ _ _ _ _ _ _ _ _ [some (.ref 572), some (.int (nI 0)), some (.int (x)), none] [] (rm μ)
    refine T_aload_n (pc := 0) (i := 0) dX12_number_0 rfl rfl ?_
    refine R_callVm0 (pc := 1) (As := []) (rest := []) (Or.inl lk_X12_152) mk_X12_blanks (m_blanks hT) kc_572 ⟨by decide, rfl⟩ lc_572 dX12_number_1 rfl rfl (Nat.le_of_ble_eq_true rfl) (by decide) rfl (Nat.le_refl _) (Nat.le_refl _) (fun m h => ?_)
    obtain ⟨h1, h2⟩ := h
    have h9 := loop B.length (tS B p) m (by omega) (Nat.le_refl _) rfl (fun i hi hj => absurd hj (by omega)) h1 h2
    rw [show min (tS B p - tS B p) 3 = 0 by omega] at h9
    refine T_iconst (pc := 4) (v := nI 0) dX12_number_4 (by decide) ?_
    refine T_istore_n (pc := 5) (i := 3) (ls' := [some (.ref 572), some (.int (nI 0)), some (.int (x)), some (.int (nI 0))]) dX12_number_5 rfl (by decide) rfl ?_
    exact h9
  intro f
  induction f with
  | zero =>
    intro q m hf hq he hd hm ho
    have e0 : spn isD B q = q := spn_end (fun z => by omega)
    rw [e0] at he
    refine T_aload_n (pc := 6) (i := 0) dX12_number_6 rfl rfl ?_
    refine T_bipush (pc := 7) (v := nI 48) dX12_number_7 (by decide) ?_
    refine T_bipush (pc := 9) (v := nI 57) dX12_number_9 (by decide) ?_
    refine R_callV1 (pc := 11) (As := [.int (nI 48), .int (nI 57)]) (rest := []) (Or.inl lk_X12_145) mk_X12_isAt (m_isAt hm.1 (by decide) (by decide)) kc_572 ⟨by decide, rfl⟩ lc_572 dX12_number_11 rfl rfl (Nat.le_of_ble_eq_true rfl) (by decide) rfl (Nat.le_refl _) (Nat.le_refl _) ?_
    have e : rgB B q 48 57 = false := by
      cases e : rgB B q 48 57 with
      | false => rfl
      | true => exact absurd (rg_D.mp e).1 (by omega)
    rw [e]
    rw [he] at hm hd ⊢
    refine R_ifb_eq (pc := 14) (tgt := 65) dX12_number_14 (by decide) (fun g1 => ?_) (fun g1 => ?_)
    · exact fin m hm ho hd
    · exact absurd g1 (by decide)
  | succ f ih =>
    intro q m hf hq he hd hm ho
    refine T_aload_n (pc := 6) (i := 0) dX12_number_6 rfl rfl ?_
    refine T_bipush (pc := 7) (v := nI 48) dX12_number_7 (by decide) ?_
    refine T_bipush (pc := 9) (v := nI 57) dX12_number_9 (by decide) ?_
    refine R_callV1 (pc := 11) (As := [.int (nI 48), .int (nI 57)]) (rest := []) (Or.inl lk_X12_145) mk_X12_isAt (m_isAt hm.1 (by decide) (by decide)) kc_572 ⟨by decide, rfl⟩ lc_572 dX12_number_11 rfl rfl (Nat.le_of_ble_eq_true rfl) (by decide) rfl (Nat.le_refl _) (Nat.le_refl _) ?_
    refine R_ifb_eq (pc := 14) (tgt := 65) dX12_number_14 (by decide) (fun g1 => ?_) (fun g1 => ?_)
    · skip
      have e0 : spn isD B q = q := spn_end (fun z => by rw [rg_D.mpr z] at g1; cases g1)
      rw [e0] at he
      rw [he] at hm hd ⊢
      exact fin m hm ho hd
    · skip
      have g2 := rg_D.mp g1
      have g3 := g2.2
      unfold isD at g3
      rw [Bool.and_eq_true, decide_eq_true_iff, decide_eq_true_iff] at g3
      have hby := hm.1.1.2 q g2.1
      have e2 : spn isD B (q + 1) = nE B p := by
        rw [← he]
        exact (spn_go g2).symm
      have hv := nvN_lt (B := B) (s := tS B p) (min (q - tS B p) 3) (fun i hi => by
        have h5 := hd (tS B p + i) (by omega) (by omega)
        unfold isD at h5
        rw [Bool.and_eq_true, decide_eq_true_iff, decide_eq_true_iff] at h5
        exact h5.2)
      have hd2 : ∀ i, tS B p ≤ i → i < q + 1 → isD (B.getD i 0) = true := fun i hi hj => by
        by_cases e : i = q
        · rw [e]
          exact g2.2
        · exact hd i hi (by omega)
      have h9 := ih (q + 1) (wI m 572 9 (nI (q + 1))) (by omega) (by omega) e2 hd2 ⟨hm.1.p (by omega), (n_wI (by omega)).trans hm.2⟩ (OfM.sF ho (Or.inl rfl))
      refine T_aload_n (pc := 17) (i := 0) dX12_number_17 rfl rfl ?_
      refine R_getI (pc := 18) (x := nI q) fl_X12_139 rfl kc_572 lc_572 hm.1.2.2 dX12_number_18 ?_
      refine T_aload_n (pc := 21) (i := 0) dX12_number_21 rfl rfl ?_
      refine R_getI (pc := 22) (x := nI (tS B p)) fl_X12_149 rfl kc_572 lc_572 hm.2 dX12_number_22 ?_
      refine R_isub (pc := 25) (by omega) dX12_number_25 ?_
      refine T_iconst (pc := 26) (v := nI 3) dX12_number_26 (by decide) ?_
      refine R_icmp_ge (pc := 27) (tgt := 50) (by omega) (by omega) dX12_number_27 (by decide) (fun g4 => ?_) (fun g4 => ?_)
      · skip
        rw [show min (q + 1 - tS B p) 3 = min (q - tS B p) 3 by omega] at h9
        refine T_iload_n (pc := 50) (i := 3) dX12_number_50 rfl rfl ?_
        refine T_istore_n (pc := 51) (i := 3) (ls' := [some (.ref 572), some (.int (nI 0)), some (.int (x)), some (.int (nI (nvN B (tS B p) (min (q - tS B p) 3))))]) dX12_number_51 rfl (by decide) rfl ?_
        refine T_aload_n (pc := 52) (i := 0) dX12_number_52 rfl rfl ?_
        refine T_dup (pc := 53) dX12_number_53 rfl ?_
        refine R_getI (pc := 54) (x := nI q) fl_X12_139 rfl kc_572 lc_572 hm.1.2.2 dX12_number_54 ?_
        refine T_iconst (pc := 57) (v := nI 1) dX12_number_57 (by decide) ?_
        refine R_iadd (pc := 58) dX12_number_58 ?_
        refine R_putI (pc := 59) fl_X12_139 ⟨rfl, rfl⟩ (Or.inl rfl) kc_572 lc_572 dX12_number_59 ?_
        refine T_goto (pc := 62) (tgt := 6) dX12_number_62 (by decide) ?_
        exact h9
      · skip
        have e5 : min (q - tS B p) 3 = q - tS B p := by omega
        have e6 : nvN B (tS B p) (min (q + 1 - tS B p) 3) = 10 * nvN B (tS B p) (min (q - tS B p) 3) + B.getD q 0 - 48 := by
          rw [e5, show min (q + 1 - tS B p) 3 = (q - tS B p) + 1 by omega]
          show 10 * nvN B (tS B p) (q - tS B p) + B.getD (tS B p + (q - tS B p)) 0 - 48 = _
          rw [show tS B p + (q - tS B p) = q by omega]
        rw [e6] at h9
        refine T_bipush (pc := 30) (v := nI 10) dX12_number_30 (by decide) ?_
        refine T_iload_n (pc := 32) (i := 3) dX12_number_32 rfl rfl ?_
        refine R_imul (pc := 33) dX12_number_33 ?_
        refine T_aload_n (pc := 34) (i := 0) dX12_number_34 rfl rfl ?_
        refine R_getR (pc := 35) (i := 577) fl_X12_42 rfl kc_572 lc_572 rc_572_7 dX12_number_35 ?_
        refine T_aload_n (pc := 38) (i := 0) dX12_number_38 rfl rfl ?_
        refine R_getI (pc := 39) (x := nI q) fl_X12_139 rfl kc_572 lc_572 hm.1.2.2 dX12_number_39 ?_
        refine R_bald (pc := 42) (x := nI (B.getD q 0)) kc_577 lc_577 (by omega) (by first | decide | assumption) (hby.2.trans (sb_lo (by omega))) dX12_number_42 ?_
        refine R_iadd (pc := 43) dX12_number_43 ?_
        refine T_bipush (pc := 44) (v := nI 48) dX12_number_44 (by decide) ?_
        refine R_isub (pc := 46) (by omega) dX12_number_46 ?_
        refine T_goto (pc := 47) (tgt := 51) dX12_number_47 (by decide) ?_
        refine T_istore_n (pc := 51) (i := 3) (ls' := [some (.ref 572), some (.int (nI 0)), some (.int (x)), some (.int (nI (((10 * (nvN B (tS B p) (min (q - tS B p) 3))) + (B.getD q 0)) - 48)))]) dX12_number_51 rfl (by decide) rfl ?_
        refine T_aload_n (pc := 52) (i := 0) dX12_number_52 rfl rfl ?_
        refine T_dup (pc := 53) dX12_number_53 rfl ?_
        refine R_getI (pc := 54) (x := nI q) fl_X12_139 rfl kc_572 lc_572 hm.1.2.2 dX12_number_54 ?_
        refine T_iconst (pc := 57) (v := nI 1) dX12_number_57 (by decide) ?_
        refine R_iadd (pc := 58) dX12_number_58 ?_
        refine R_putI (pc := 59) fl_X12_139 ⟨rfl, rfl⟩ (Or.inl rfl) kc_572 lc_572 dX12_number_59 ?_
        refine T_goto (pc := 62) (tgt := 6) dX12_number_62 (by decide) ?_
        exact h9
theorem m_beastsTold {B : List Nat} {p least most : Nat} (hT : MtQ μ B p) (hm : most ≤ 20) (hl : least ≤ 1) : Ex γ 4 0 0 M_X12_beastsTold [.ref 572, .int (nI least), .int (nI most)] (rm μ) (Rm (some (.long (vO (rdB B p least most)))) (fun m => MtR m B p (rdB B p least most).isSome ∧ OfM F9 S0 μ m)) := by
  have h400 := hT.1.1.2
  have hb := hT.1.b
  have hse := tS_le hT.2.1
  have hle := lE_le hT.2.1
  obtain ⟨Q, hQ⟩ : ∃ Q, Q = Rm (some (.long (vO (rdB B p least most)))) (fun m => MtR m B p (rdB B p least most).isSome ∧ OfM F9 S0 μ m) := ⟨_, rfl⟩
  rw [← hQ]
  refine Ex.of (by decide +kernel) rfl (Nat.le_of_ble_eq_true rfl) ?_
  show T _ _ _ _ _ _ _ _ _ [some (.ref 572), some (.int (nI least)), some (.int (nI most)), none, none, none, none] [] (rm μ)
  refine T_aload_n (pc := 0) (i := 0) dX12_beastsTold_0 rfl rfl ?_
  refine R_callVm0 (pc := 1) (As := []) (rest := []) (Or.inl lk_X12_164) mk_X12_letters (m_letters hT) kc_572 ⟨by decide, rfl⟩ lc_572 dX12_beastsTold_1 rfl rfl (Nat.le_of_ble_eq_true rfl) (by decide) rfl (Nat.le_refl _) (Nat.le_refl _) (fun m h => ?_)
  obtain ⟨h1, h2⟩ := h
  by_cases hk : tK B p = -2
  · have hlt : tS B p < lE B p := spn_lt ((tK_let hb).mp hk)
    have he : lE B p = tE B p := lE_w hb hk
    have e0 : rdB B p least most = if tE B p - tS B p ≤ most ∧ bsO B (tS B p) (tE B p - tS B p) = true then some (bsN B (tS B p) (tE B p - tS B p)) else none := by
      unfold rdB
      rw [if_neg (fun z => absurd (z.2.symm.trans hk) (nI_ne2 (b := 46) (by decide)).1)]
      by_cases h6 : tE B p - tS B p ≤ most ∧ bsO B (tS B p) (tE B p - tS B p) = true
      · rw [if_pos ⟨hk, h6⟩, if_pos h6]
      · rw [if_neg (fun z => h6 z.2), if_neg h6]
    rw [he] at h1 hle hlt
    have hlet : ∀ i, tS B p ≤ i → i < tE B p → 97 ≤ B.getD i 0 ∧ B.getD i 0 ≤ 122 := fun i h3 h4 => by
      rw [← he] at h4
      have h5 := spF_all _ _ i h3 h4
      unfold isL at h5
      rw [Bool.and_eq_true, decide_eq_true_iff, decide_eq_true_iff] at h5
      exact h5
    refine T_aload_n (pc := 4) (i := 0) dX12_beastsTold_4 rfl rfl ?_
    refine R_getI (pc := 5) (x := nI (tE B p)) fl_X12_139 rfl kc_572 lc_572 h1.1.2.2 dX12_beastsTold_5 ?_
    refine T_aload_n (pc := 8) (i := 0) dX12_beastsTold_8 rfl rfl ?_
    refine R_getI (pc := 9) (x := nI (tS B p)) fl_X12_149 rfl kc_572 lc_572 h1.2 dX12_beastsTold_9 ?_
    refine R_isub (pc := 12) (by omega) dX12_beastsTold_12 ?_
    refine T_istore_n (pc := 13) (i := 3) (ls' := [some (.ref 572), some (.int (nI least)), some (.int (nI most)), some (.int (nI ((tE B p) - (tS B p)))), none, none, none]) dX12_beastsTold_13 rfl (by decide) rfl ?_
    refine T_iload_n (pc := 14) (i := 3) dX12_beastsTold_14 rfl rfl ?_
    refine R_if_ne (pc := 15) (tgt := 45) (by omega) dX12_beastsTold_15 (by decide) (fun g1 => ?_) (fun g1 => ?_)
    · skip
      refine T_iload_n (pc := 45) (i := 3) dX12_beastsTold_45 rfl rfl ?_
      refine R_if_eq (pc := 46) (tgt := 54) (by omega) dX12_beastsTold_46 (by decide) (fun g2 => ?_) (fun g2 => ?_)
      · exact absurd g2 (by omega)
      · skip
        refine T_iload_n (pc := 49) (i := 3) dX12_beastsTold_49 rfl rfl ?_
        refine T_iload_n (pc := 50) (i := 2) dX12_beastsTold_50 rfl rfl ?_
        refine R_icmp_le (pc := 51) (tgt := 58) (by omega) (by omega) dX12_beastsTold_51 (by decide) (fun g3 => ?_) (fun g3 => ?_)
        · skip
          have h9 : ∀ (g k : Nat), tS B p + k + g = tE B p → bsO B (tS B p) k = true → T γ 4 0 0 M_X12_beastsTold Q 0 0 67 [some (.ref 572), some (.int (nI least)), some (.int (nI most)), some (.int (nI (tE B p - tS B p))), some (.long (lN (cd (bsN B (tS B p) k)))), none, some (.int (nI (tS B p + k)))] [] (rm m) := by
            intro g
            induction g with
            | zero =>
              intro k hg ho
              obtain rfl : k = tE B p - tS B p := by omega
              rw [hQ, e0, if_pos ⟨g3, ho⟩]
              refine T_iload (pc := 67) (i := 6) dX12_beastsTold_67 rfl ?_
              refine T_aload_n (pc := 69) (i := 0) dX12_beastsTold_69 rfl rfl ?_
              refine R_getI (pc := 70) (x := nI (tE B p)) fl_X12_139 rfl kc_572 lc_572 h1.1.2.2 dX12_beastsTold_70 ?_
              refine R_icmp_ge (pc := 73) (tgt := 116) (by omega) (by omega) dX12_beastsTold_73 (by decide) (fun g4 => ?_) (fun g4 => ?_)
              · skip
                refine T_lload (pc := 116) (i := 4) dX12_beastsTold_116 rfl ?_
                exact T_lret dX12_beastsTold_118 rfl (Nat.le_refl _) (Nat.le_refl _) ⟨_, rfl, rfl, h1.r (fun _ => rfl), h2⟩
              · exact absurd g4 (by omega)
            | succ g ih =>
              intro k hg ho
              have hby := h1.1.1.2 (tS B p + k) (by omega)
              have hl2 := hlet (tS B p + k) (by omega) (by omega)
              have hs1 := bsN_s (B := B) (s := tS B p) (k := k) (by omega)
              have hs2 := bsO_s (B := B) (s := tS B p) (k := k) (by omega)
              have hno := bsO_no (B := B) (s := tS B p) (k := k) (by omega)
              have h10 := ih (k + 1) (by omega)
              refine T_iload (pc := 67) (i := 6) dX12_beastsTold_67 rfl ?_
              refine T_aload_n (pc := 69) (i := 0) dX12_beastsTold_69 rfl rfl ?_
              refine R_getI (pc := 70) (x := nI (tE B p)) fl_X12_139 rfl kc_572 lc_572 h1.1.2.2 dX12_beastsTold_70 ?_
              refine R_icmp_ge (pc := 73) (tgt := 116) (by omega) (by omega) dX12_beastsTold_73 (by decide) (fun g4 => ?_) (fun g4 => ?_)
              · exact absurd g4 (by omega)
              · skip
                refine T_aload_n (pc := 76) (i := 0) dX12_beastsTold_76 rfl rfl ?_
                refine R_getR (pc := 77) (i := 577) fl_X12_42 rfl kc_572 lc_572 rc_572_7 dX12_beastsTold_77 ?_
                refine T_iload (pc := 80) (i := 6) dX12_beastsTold_80 rfl ?_
                refine R_bald (pc := 82) (x := nI (B.getD (tS B p + k) 0)) kc_577 lc_577 (by omega) (by first | decide | assumption) (hby.2.trans (sb_lo (by omega))) dX12_beastsTold_82 ?_
                refine T_bipush (pc := 83) (v := nI 104) dX12_beastsTold_83 (by decide) ?_
                refine R_icmp_le (pc := 85) (tgt := 92) (by omega) (by omega) dX12_beastsTold_85 (by decide) (fun g5 => ?_) (fun g5 => ?_)
                · skip
                  refine T_lload (pc := 92) (i := 4) dX12_beastsTold_92 rfl ?_
                  refine T_iconst (pc := 94) (v := nI 3) dX12_beastsTold_94 (by decide) ?_
                  refine R_lshl (pc := 95) (by omega) dX12_beastsTold_95 ?_
                  refine T_aload_n (pc := 96) (i := 0) dX12_beastsTold_96 rfl rfl ?_
                  refine R_getR (pc := 97) (i := 577) fl_X12_42 rfl kc_572 lc_572 rc_572_7 dX12_beastsTold_97 ?_
                  refine T_iload (pc := 100) (i := 6) dX12_beastsTold_100 rfl ?_
                  refine R_bald (pc := 102) (x := nI (B.getD (tS B p + k) 0)) kc_577 lc_577 (by omega) (by first | decide | assumption) (hby.2.trans (sb_lo (by omega))) dX12_beastsTold_102 ?_
                  refine T_bipush (pc := 103) (v := nI 97) dX12_beastsTold_103 (by decide) ?_
                  refine R_isub (pc := 105) (by omega) dX12_beastsTold_105 ?_
                  refine R_i2l (pc := 106) (by omega) dX12_beastsTold_106 ?_
                  refine R_lor (pc := 107) dX12_beastsTold_107 ?_
                  refine T_lstore (pc := 108) (i := 4) (ls' := [some (.ref 572), some (.int (nI least)), some (.int (nI most)), some (.int (nI (tE B p - tS B p))), some (.long (lN (((cd (bsN B (tS B p) k)) * 2 ^ 3) ||| ((B.getD (tS B p + k) 0) - 97)))), none, some (.int (nI (tS B p + k)))]) dX12_beastsTold_108 (by decide) rfl ?_
                  refine R_iinc (pc := 110) (i := 6) (n := 1) (ls' := [some (.ref 572), some (.int (nI least)), some (.int (nI most)), some (.int (nI (tE B p - tS B p))), some (.long (lN (((cd (bsN B (tS B p) k)) * 2 ^ 3) ||| ((B.getD (tS B p + k) 0) - 97)))), none, some (.int (nI (tS B p + k + 1)))]) dX12_beastsTold_110 rfl rfl ?_
                  refine T_goto (pc := 113) (tgt := 67) dX12_beastsTold_113 (by decide) ?_
                  have e9 : cd (bsN B (tS B p) k) * 2 ^ 3 ||| (B.getD (tS B p + k) 0 - 97) = cd (bsN B (tS B p) (k + 1)) := by
                    rw [hs1, cd_snoc]
                    have h11 := or_add (b := B.getD (tS B p + k) 0 - 97) (n := 1) (cd (bsN B (tS B p) k)) (by omega)
                    exact h11
                  rw [e9]
                  exact h10 (by rw [hs2, ho, decide_eq_true (by omega)]; rfl)
                · skip
                  have hbad := hno (by omega) (n := tE B p - tS B p) (by omega) (by omega)
                  rw [hQ, e0, if_neg (fun z => by rw [hbad] at z; cases z.2)]
                  refine T_ldc2 (pc := 88) dX12_beastsTold_88 cn_X12_171 ?_
                  exact T_lret dX12_beastsTold_91 rfl (Nat.le_refl _) (Nat.le_refl _) ⟨_, rfl, rfl, h1.r (fun z => by cases z), h2⟩
          refine T_lconst (pc := 58) (v := lN 1) dX12_beastsTold_58 rfl ?_
          refine T_lstore (pc := 59) (i := 4) (ls' := [some (.ref 572), some (.int (nI least)), some (.int (nI most)), some (.int (nI ((tE B p) - (tS B p)))), some (.long (lN 1)), none, none]) dX12_beastsTold_59 (by decide) rfl ?_
          refine T_aload_n (pc := 61) (i := 0) dX12_beastsTold_61 rfl rfl ?_
          refine R_getI (pc := 62) (x := nI (tS B p)) fl_X12_149 rfl kc_572 lc_572 h1.2 dX12_beastsTold_62 ?_
          refine T_istore (pc := 65) (i := 6) (ls' := [some (.ref 572), some (.int (nI least)), some (.int (nI most)), some (.int (nI ((tE B p) - (tS B p)))), some (.long (lN 1)), none, some (.int (nI (tS B p)))]) dX12_beastsTold_65 (by decide) rfl ?_
          exact h9 (tE B p - tS B p) 0 (by omega) rfl
        · skip
          rw [hQ, e0, if_neg (fun z => by omega)]
          refine T_ldc2 (pc := 54) dX12_beastsTold_54 cn_X12_171 ?_
          exact T_lret dX12_beastsTold_57 rfl (Nat.le_refl _) (Nat.le_refl _) ⟨_, rfl, rfl, h1.r (fun z => by cases z), h2⟩
    · exact absurd g1 (by omega)
  · have he : lE B p = tS B p := lE_n hb hk
    rw [he] at h1
    have t45 : rdB B p least most = none → T γ 4 0 0 M_X12_beastsTold Q 0 0 45 [some (.ref 572), some (.int (nI least)), some (.int (nI most)), some (.int (nI (tS B p - tS B p))), none, none, none] [] (rm m) := fun e => by
      rw [hQ, e]
      refine T_iload_n (pc := 45) (i := 3) dX12_beastsTold_45 rfl rfl ?_
      refine R_if_eq (pc := 46) (tgt := 54) (by omega) dX12_beastsTold_46 (by decide) (fun g1 => ?_) (fun g1 => ?_)
      · skip
        refine T_ldc2 (pc := 54) dX12_beastsTold_54 cn_X12_171 ?_
        exact T_lret dX12_beastsTold_57 rfl (Nat.le_refl _) (Nat.le_refl _) ⟨_, rfl, rfl, h1.r (fun z => by cases z), h2⟩
      · exact absurd (Nat.sub_self _) g1
    have e2 : ¬ (least = 0 ∧ tK B p = nI 46) → rdB B p least most = none := fun z => by
      unfold rdB
      rw [if_neg z, if_neg (fun y => hk y.1)]
    refine T_aload_n (pc := 4) (i := 0) dX12_beastsTold_4 rfl rfl ?_
    refine R_getI (pc := 5) (x := nI (tS B p)) fl_X12_139 rfl kc_572 lc_572 h1.1.2.2 dX12_beastsTold_5 ?_
    refine T_aload_n (pc := 8) (i := 0) dX12_beastsTold_8 rfl rfl ?_
    refine R_getI (pc := 9) (x := nI (tS B p)) fl_X12_149 rfl kc_572 lc_572 h1.2 dX12_beastsTold_9 ?_
    refine R_isub (pc := 12) (by omega) dX12_beastsTold_12 ?_
    refine T_istore_n (pc := 13) (i := 3) (ls' := [some (.ref 572), some (.int (nI least)), some (.int (nI most)), some (.int (nI ((tS B p) - (tS B p)))), none, none, none]) dX12_beastsTold_13 rfl (by decide) rfl ?_
    refine T_iload_n (pc := 14) (i := 3) dX12_beastsTold_14 rfl rfl ?_
    refine R_if_ne (pc := 15) (tgt := 45) (by omega) dX12_beastsTold_15 (by decide) (fun g1 => ?_) (fun g1 => ?_)
    · exact absurd (Nat.sub_self _) g1
    · skip
      refine T_iload_n (pc := 18) (i := 1) dX12_beastsTold_18 rfl rfl ?_
      refine R_if_ne (pc := 19) (tgt := 45) (by omega) dX12_beastsTold_19 (by decide) (fun g2 => ?_) (fun g2 => ?_)
      · exact t45 (e2 (fun z => g2 z.1))
      · skip
        refine T_aload_n (pc := 22) (i := 0) dX12_beastsTold_22 rfl rfl ?_
        refine T_bipush (pc := 23) (v := nI 46) dX12_beastsTold_23 (by decide) ?_
        refine T_bipush (pc := 25) (v := nI 46) dX12_beastsTold_25 (by decide) ?_
        refine R_callV1 (pc := 27) (As := [.int (nI 46), .int (nI 46)]) (rest := []) (Or.inl lk_X12_145) mk_X12_isAt (m_isAt h1.1 (by decide) (by decide)) kc_572 ⟨by decide, rfl⟩ lc_572 dX12_beastsTold_27 rfl rfl (Nat.le_of_ble_eq_true rfl) (by decide) rfl (Nat.le_refl _) (Nat.le_refl _) ?_
        rw [sg_k hb (by decide) (by decide)]
        by_cases h46 : tK B p = nI 46
        · rw [decide_eq_true h46]
          have e1 : rdB B p least most = some [] := by
            unfold rdB
            rw [if_pos ⟨g2, h46⟩]
          have e3 := sg_e (p := p) hb (c := 46) (by decide) (by decide) h46
          have hte := tE_le hT.2.1
          rw [hQ, e1]
          refine R_ifb_eq (pc := 30) (tgt := 45) dX12_beastsTold_30 (by decide) (fun g3 => ?_) (fun g3 => ?_)
          · exact absurd g3 (by decide)
          · skip
            refine T_aload_n (pc := 33) (i := 0) dX12_beastsTold_33 rfl rfl ?_
            refine T_dup (pc := 34) dX12_beastsTold_34 rfl ?_
            refine R_getI (pc := 35) (x := nI (tS B p)) fl_X12_139 rfl kc_572 lc_572 h1.1.2.2 dX12_beastsTold_35 ?_
            refine T_iconst (pc := 38) (v := nI 1) dX12_beastsTold_38 (by decide) ?_
            refine R_iadd (pc := 39) dX12_beastsTold_39 ?_
            refine R_putI (pc := 40) fl_X12_139 ⟨rfl, rfl⟩ (Or.inl rfl) kc_572 lc_572 dX12_beastsTold_40 ?_
            refine T_lconst (pc := 43) (v := lN 1) dX12_beastsTold_43 rfl ?_
            exact T_lret dX12_beastsTold_44 rfl (Nat.le_refl _) (Nat.le_refl _) ⟨_, rfl, rfl, MtP.r ⟨h1.1.p (q := tS B p + 1) (by omega), (n_wI (by omega)).trans h1.2⟩ (fun _ => e3.symm), OfM.sF h2 (Or.inl rfl)⟩
        · rw [decide_eq_false h46]
          refine R_ifb_eq (pc := 30) (tgt := 45) dX12_beastsTold_30 (by decide) (fun g3 => ?_) (fun g3 => ?_)
          · exact t45 (e2 (fun z => h46 z.2))
          · exact absurd g3 (by decide)
theorem m_end {x : Int32} {B : List Nat} (hB : TapeAt μ B) : Ex γ 1 0 0 M_X12_end [.ref 572, .int x] (rm μ) (Rm (some (.int (bI (inB x (B.length + 1))))) (fun m => TapeAt m (if inB x (B.length + 1) = true then B.take x.toNatClampNeg else B) ∧ m.1 572 0 = nI 0 ∧ OfM F8 S578 μ m)) := by
  have h400 := hB.1.2
  by_cases hin : inB x (B.length + 1) = true
  · obtain ⟨k, hk, rfl⟩ := inB_of (by omega) hin
    rw [hin, if_pos rfl, nI_clamp (n := k) (by omega)]
    have hl : (B.take k).length = k := by rw [List.length_take]; omega
    have o1 : OfM F8 S578 μ (wI (wI μ 572 0 (nI 0)) 572 8 (nI k)) := OfM.sF (OfM.sF (OfM.refl _ _ _) (Or.inl rfl)) (Or.inr rfl)
    have a1 : TapeAt (wI (wI μ 572 0 (nI 0)) 572 8 (nI k)) (B.take k) := by
      refine ⟨⟨(e_wI ⟨rfl, rfl⟩).trans (by rw [hl]), by omega⟩, fun i hi => ?_⟩
      rw [hl] at hi
      have e := hB.2 i (by omega)
      have eg : (B.take k).getD i 0 = B.getD i 0 := by
        rw [List.getD_eq_getElem?_getD, List.getElem?_take, if_pos hi, ← List.getD_eq_getElem?_getD]
      rw [eg]
      exact ⟨e.1, ((n_wI (by omega)).trans (n_wI (by omega))).trans e.2⟩
    refine Ex.of (by decide +kernel) rfl (Nat.le_of_ble_eq_true rfl) ?_
    show T _ _ _ _ _ _ _ _ _ [some (.ref 572), some (.int (nI k))] [] (rm μ)
    refine T_aload_n (pc := 0) (i := 0) dX12_end_0 rfl rfl ?_
    refine T_iconst (pc := 1) (v := nI 0) dX12_end_1 (by decide) ?_
    refine R_putI (pc := 2) fl_X12_3 ⟨rfl, rfl⟩ (Or.inl rfl) kc_572 lc_572 dX12_end_2 ?_
    refine T_iload_n (pc := 5) (i := 1) dX12_end_5 rfl rfl ?_
    refine R_if_lt (pc := 6) (tgt := 17) (by omega) dX12_end_6 (by decide) (fun h1 => ?_) (fun h1 => ?_)
    · exact absurd h1 (fun z => z.elim)
    · skip
      refine T_iload_n (pc := 9) (i := 1) dX12_end_9 rfl rfl ?_
      refine T_aload_n (pc := 10) (i := 0) dX12_end_10 rfl rfl ?_
      refine R_getI (pc := 11) (x := nI B.length) fl_X12_136 rfl kc_572 lc_572 ((wI_ne (by decide)).trans hB.1.1) dX12_end_11 ?_
      refine R_icmp_le (pc := 14) (tgt := 19) (by omega) (by omega) dX12_end_14 (by decide) (fun h2 => ?_) (fun h2 => ?_)
      · skip
        refine T_aload_n (pc := 19) (i := 0) dX12_end_19 rfl rfl ?_
        refine T_iload_n (pc := 20) (i := 1) dX12_end_20 rfl rfl ?_
        refine R_putI (pc := 21) fl_X12_136 ⟨rfl, rfl⟩ (Or.inl rfl) kc_572 lc_572 dX12_end_21 ?_
        refine T_iconst (pc := 24) (v := nI 1) dX12_end_24 (by decide) ?_
        exact T_iret (pc := 25) (ty := .boolean) dX12_end_25 rfl (by decide) (Nat.le_refl _) (Nat.le_refl _) ⟨_, rfl, rfl, a1, (n_wI (by omega)).trans (e_wI ⟨rfl, rfl⟩), o1⟩
      · exact absurd h2 (by omega)
  · have hin2 : inB x (B.length + 1) = false := by cases e : inB x (B.length + 1) with | true => exact absurd e hin | false => rfl
    have o1 : OfM F8 S578 μ (wI μ 572 0 (nI 0)) := OfM.sF (OfM.refl _ _ _) (Or.inl rfl)
    have a1 : TapeAt (wI μ 572 0 (nI 0)) B := hB.of (n_wI (by omega)) ((OfM.sF (F := F8) (OfM.refl _ S0 _) (Or.inl rfl)).c (by decide) (fun z => z)).1
    rw [hin2, if_neg Bool.false_ne_true]
    refine Ex.of (by decide +kernel) rfl (Nat.le_of_ble_eq_true rfl) ?_
    show T _ _ _ _ _ _ _ _ _ [some (.ref 572), some (.int (x))] [] (rm μ)
    refine T_aload_n (pc := 0) (i := 0) dX12_end_0 rfl rfl ?_
    refine T_iconst (pc := 1) (v := nI 0) dX12_end_1 (by decide) ?_
    refine R_putI (pc := 2) fl_X12_3 ⟨rfl, rfl⟩ (Or.inl rfl) kc_572 lc_572 dX12_end_2 ?_
    refine T_iload_n (pc := 5) (i := 1) dX12_end_5 rfl rfl ?_
    refine T_if_lt (pc := 6) (tgt := 17) dX12_end_6 (by decide) (fun h1 => ?_) (fun h1 => ?_)
    · skip
      refine T_iconst (pc := 17) (v := nI 0) dX12_end_17 (by decide) ?_
      exact T_iret (pc := 18) (ty := .boolean) dX12_end_18 rfl (by decide) (Nat.le_refl _) (Nat.le_refl _) ⟨_, rfl, rfl, a1, e_wI ⟨rfl, rfl⟩, o1⟩
    · skip
      refine T_iload_n (pc := 9) (i := 1) dX12_end_9 rfl rfl ?_
      refine T_aload_n (pc := 10) (i := 0) dX12_end_10 rfl rfl ?_
      refine R_getI (pc := 11) (x := nI B.length) fl_X12_136 rfl kc_572 lc_572 ((wI_ne (by decide)).trans hB.1.1) dX12_end_11 ?_
      refine T_icmp_le (pc := 14) (tgt := 19) dX12_end_14 (by decide) (fun h2 => ?_) (fun h2 => ?_)
      · exfalso
        apply hin
        unfold inB
        rw [decide_eq_false h1, decide_eq_true]
        · rfl
        · rw [fa_lt, nI_toInt (by omega)]
          rw [fa_le, nI_toInt (by omega)] at h2
          omega
      · skip
        refine T_iconst (pc := 17) (v := nI 0) dX12_end_17 (by decide) ?_
        exact T_iret (pc := 18) (ty := .boolean) dX12_end_18 rfl (by decide) (Nat.le_refl _) (Nat.le_refl _) ⟨_, rfl, rfl, a1, e_wI ⟨rfl, rfl⟩, o1⟩
theorem m_fault : Ex γ 1 0 0 M_X12_fault [.ref 572] (rm μ) (Rm (some (.int (μ.1 572 13))) (fun m => MdN μ m 0)) := by
  refine Ex.of (by decide +kernel) rfl (Nat.le_of_ble_eq_true rfl) ?_
  show T _ _ _ _ _ _ _ _ _ [some (.ref 572)] [] (rm μ)
  refine T_aload_n (pc := 0) (i := 0) dX12_fault_0 rfl rfl ?_
  refine T_iconst (pc := 1) (v := nI 0) dX12_fault_1 (by decide) ?_
  refine R_putI (pc := 2) fl_X12_3 ⟨rfl, rfl⟩ (Or.inl rfl) kc_572 lc_572 dX12_fault_2 ?_
  refine T_aload_n (pc := 5) (i := 0) dX12_fault_5 rfl rfl ?_
  refine R_getI (pc := 6) (x := (μ.1 572 13)) fl_X12_46 rfl kc_572 lc_572 (wI_ne (by decide)) dX12_fault_6 ?_
  exact T_iret (pc := 9) (ty := .int) dX12_fault_9 rfl rfl (Nat.le_refl _) (Nat.le_refl _) ⟨_, rfl, rfl, Tn.one.n⟩
end MTQ

