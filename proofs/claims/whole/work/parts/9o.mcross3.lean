/-! THE MODEL: all OVERLAPS -/
def Flo (j : Nat) : Prop := j = 16 ∨ j = 17 ∨ Fov j
section MCL
variable {γ : Ga} {μ : SM2}
theorem m_looksOver {X : Td} {LL : List (List Int32)} (hX : mdT (μ.1 573) X) (hL : LawM (μ.1 573) LL) : Ex γ 16 0 0 M_X12_looksOver [.ref 572] (rm μ) (Rm none (fun m => CrM m (crV X.R true) ∧ OfM Flo S9 μ m)) := by
  have h12 := hX.1.1.2
  obtain ⟨R, eR⟩ : ∃ R, R = X.R := ⟨_, rfl⟩
  refine Ex.of (by decide +kernel) rfl (Nat.le_of_ble_eq_true rfl) ?_
  show T _ _ _ _ _ _ _ _ _ [some (.ref 572), none, none, none] [] (rm μ)
  refine T_aload_n (pc := 0) (i := 0) dX12_looksOver_0 rfl rfl ?_
  refine R_callVm0 (pc := 1) (As := []) (rest := []) (Or.inl lk_X12_386) mk_X12_asTold (m_asTold hX hL) kc_572 ⟨by decide, rfl⟩ lc_572 dX12_looksOver_1 rfl rfl (Nat.le_of_ble_eq_true rfl) (by decide) rfl (Nat.le_refl _) (Nat.le_refl _) (fun m0 h0 => ?_)
  obtain ⟨hE0, hO0⟩ := h0
  have hE1 := hE0.lawless
  obtain ⟨mB, eB⟩ : ∃ m, m = wI m0 572 17 (nI 0) := ⟨_, rfl⟩
  rw [← eB, ← eR] at hE1
  rw [← eR] at h12 ⊢
  have hOB : OfM Flo S9 μ mB := by
    rw [eB]
    exact OfM.sF (hO0.mono (fun j hj => hj.elim Or.inl (fun z => Or.inr (Or.inl z))) (fun k z => z.elim)) (Or.inr (Or.inl rfl))
  obtain ⟨Q, hQ⟩ : ∃ Q, Q = Rm none (fun m => CrM m (crV R true) ∧ OfM Flo S9 μ m) := ⟨_, rfl⟩
  rw [← hQ]
  have hR := hE1.1.2.1
  have bnd : ∀ i j : Nat, i ≤ R.length * R.length → j ≤ 8 → 3 * i + j + (4 * (R.length * R.length) + 8) < 2 ^ 30 := fun i j hi hj => by
    have h4 : R.length * R.length ≤ 12 * 12 := Nat.mul_le_mul h12 h12
    omega
  have pq : ∀ p q : Nat, p < R.length → q ≤ R.length → R.length * p + q ≤ R.length * R.length := fun p q hp hq => by
    have h4 : R.length * (p + 1) ≤ R.length * R.length := Nat.mul_le_mul_left _ hp
    rw [Nat.mul_add, Nat.mul_one] at h4
    omega
  have outer2 : ∀ (g p : Nat) (m : SM2), p + g = R.length → Stm mB R LL (ovI R (R.length * R.length) ++ wiI R (R.length * p)) m → T γ 16 0 0 M_X12_looksOver Q 0 0 97 [some (.ref 572), some (.int (nI p)), none, none] [] (rm m) := by
    intro g
    induction g with
    | zero =>
      intro p m hp hS
      obtain rfl : p = R.length := by omega
      refine T_iload_n (pc := 97) (i := 1) dX12_looksOver_97 rfl rfl ?_
      refine T_aload_n (pc := 98) (i := 0) dX12_looksOver_98 rfl rfl ?_
      refine R_callV1 (pc := 99) (As := []) (rest := [.int (nI R.length)]) (Or.inl lk_X12_121) mk_X12_rules (m_rules hS.2.1.1) kc_572 ⟨by decide, rfl⟩ lc_572 dX12_looksOver_99 rfl rfl (Nat.le_of_ble_eq_true rfl) (by decide) rfl (Nat.le_refl _) (Nat.le_refl _) ?_
      refine R_icmp_ge (pc := 102) (tgt := 162) (by omega) (by omega) dX12_looksOver_102 (by decide) (fun h1 => ?_) (fun h1 => ?_)
      · skip
        refine T_aload_n (pc := 162) (i := 0) dX12_looksOver_162 rfl rfl ?_
        refine T_iconst (pc := 163) (v := nI 1) dX12_looksOver_163 (by decide) ?_
        refine R_putI (pc := 164) fl_X12_308 ⟨rfl, rfl⟩ (Or.inr (Or.inr rfl)) kc_572 lc_572 dX12_looksOver_164 ?_
        rw [hQ]
        have hx : OfM (fun j => j = 17) S9 m (wI m 572 17 (nI 1)) := OfM.sF (OfM.refl _ _ _) rfl
        exact T_vret dX12_looksOver_167 rfl (Nat.le_refl _) (Nat.le_refl _) ⟨_, rfl, rfl, hS.1.of hx (fun j hj => by omega), hOB.trans ((hS.2.2.mono (fun j hj => Or.inr (Or.inr hj)) (fun k hk => hk)).trans (hx.mono (fun j hj => Or.inr (Or.inl hj)) (fun k hk => hk)))⟩
      · exact absurd h1 (by omega)
    | succ g ihP =>
      intro p m hp hS
      have hp1 : p < R.length := by omega
      refine T_iload_n (pc := 97) (i := 1) dX12_looksOver_97 rfl rfl ?_
      refine T_aload_n (pc := 98) (i := 0) dX12_looksOver_98 rfl rfl ?_
      refine R_callV1 (pc := 99) (As := []) (rest := [.int (nI p)]) (Or.inl lk_X12_121) mk_X12_rules (m_rules hS.2.1.1) kc_572 ⟨by decide, rfl⟩ lc_572 dX12_looksOver_99 rfl rfl (Nat.le_of_ble_eq_true rfl) (by decide) rfl (Nat.le_refl _) (Nat.le_refl _) ?_
      refine R_icmp_ge (pc := 102) (tgt := 162) (by omega) (by omega) dX12_looksOver_102 (by decide) (fun h1 => ?_) (fun h1 => ?_)
      · exact absurd h1 (by omega)
      · skip
        refine T_iconst (pc := 105) (v := nI 0) dX12_looksOver_105 (by decide) ?_
        refine T_istore_n (pc := 106) (i := 2) (ls' := [some (.ref 572), some (.int (nI p)), some (.int (nI 0)), none]) dX12_looksOver_106 rfl (by decide) rfl ?_
        suffices mid : ∀ (g q : Nat) (m : SM2), q + g = R.length → Stm mB R LL (ovI R (R.length * R.length) ++ wiI R (R.length * p + q)) m → T γ 16 0 0 M_X12_looksOver Q 0 0 107 [some (.ref 572), some (.int (nI p)), some (.int (nI q)), none] [] (rm m) by
          exact mid R.length 0 m (Nat.zero_add _) hS
        intro g
        induction g with
        | zero =>
          intro q m hq hS2
          obtain rfl : q = R.length := by omega
          refine T_iload_n (pc := 107) (i := 2) dX12_looksOver_107 rfl rfl ?_
          refine T_aload_n (pc := 108) (i := 0) dX12_looksOver_108 rfl rfl ?_
          refine R_callV1 (pc := 109) (As := []) (rest := [.int (nI R.length)]) (Or.inl lk_X12_121) mk_X12_rules (m_rules hS2.2.1.1) kc_572 ⟨by decide, rfl⟩ lc_572 dX12_looksOver_109 rfl rfl (Nat.le_of_ble_eq_true rfl) (by decide) rfl (Nat.le_refl _) (Nat.le_refl _) ?_
          refine R_icmp_ge (pc := 112) (tgt := 156) (by omega) (by omega) dX12_looksOver_112 (by decide) (fun h2 => ?_) (fun h2 => ?_)
          · skip
            refine R_iinc (pc := 156) (i := 1) (n := 1) (ls' := [some (.ref 572), some (.int (nI (p + 1))), some (.int (nI R.length)), none]) dX12_looksOver_156 rfl rfl ?_
            refine T_goto (pc := 159) (tgt := 97) dX12_looksOver_159 (by decide) ?_
            refine T_ls (ls' := [some (.ref 572), some (.int (nI (p + 1))), none, none]) (And.intro rfl (And.intro rfl True.intro)) ?_
            exact ihP (p + 1) m (by omega) (by rw [Nat.mul_add, Nat.mul_one]; exact hS2)
          · exact absurd h2 (by omega)
        | succ g ihQ =>
          intro q m hq hS2
          have hq1 : q < R.length := by omega
          have op := hR p hp1
          have oq := hR q hq1
          have p4 := op.2.2.1
          have q4 := oq.2.2.1
          have q1 := oq.2.1
          refine T_iload_n (pc := 107) (i := 2) dX12_looksOver_107 rfl rfl ?_
          refine T_aload_n (pc := 108) (i := 0) dX12_looksOver_108 rfl rfl ?_
          refine R_callV1 (pc := 109) (As := []) (rest := [.int (nI q)]) (Or.inl lk_X12_121) mk_X12_rules (m_rules hS2.2.1.1) kc_572 ⟨by decide, rfl⟩ lc_572 dX12_looksOver_109 rfl rfl (Nat.le_of_ble_eq_true rfl) (by decide) rfl (Nat.le_refl _) (Nat.le_refl _) ?_
          refine R_icmp_ge (pc := 112) (tgt := 156) (by omega) (by omega) dX12_looksOver_112 (by decide) (fun h2 => ?_) (fun h2 => ?_)
          · exact absurd h2 (by omega)
          · skip
            refine T_iconst (pc := 115) (v := nI 0) dX12_looksOver_115 (by decide) ?_
            refine T_istore_n (pc := 116) (i := 3) (ls' := [some (.ref 572), some (.int (nI p)), some (.int (nI q)), some (.int (nI 0))]) dX12_looksOver_116 rfl (by decide) rfl ?_
            suffices inn : ∀ (g j : Nat) (m : SM2), j + g = (if p = q then 0 else (rAt R p).1.length + 1 - (rAt R q).1.length) → Stm mB R LL (ovI R (R.length * R.length) ++ wiI R (R.length * p + q) ++ wiP R p q j) m → T γ 16 0 0 M_X12_looksOver Q 0 0 117 [some (.ref 572), some (.int (nI p)), some (.int (nI q)), some (.int (nI j))] [] (rm m) by
              exact inn _ 0 m (Nat.zero_add _) (by rw [show wiP R p q 0 = [] from rfl, List.append_nil]; exact hS2)
            intro g
            induction g with
            | zero =>
              intro j m hj hS3
              have hS4 : Stm mB R LL (ovI R (R.length * R.length) ++ wiI R (R.length * p + q + 1)) m := by
                have e : wiP R p q (if p = q then 0 else (rAt R p).1.length) = wiP R p q j := by
                  by_cases hpq : p = q
                  · rw [if_pos hpq] at hj
                    rw [if_pos hpq, show j = 0 by omega]
                  · rw [if_neg hpq] at hj
                    rw [if_neg hpq]
                    have ht := wiP_top (R := R) (p := p) (q := q) q1 ((rAt R p).1.length - j) j (by omega)
                    rw [show j + ((rAt R p).1.length - j) = (rAt R p).1.length by omega] at ht
                    exact ht
                rw [wiI_s hq1, e, ← List.append_assoc]
                exact hS3
              have h9 := ihQ (q + 1) m (by omega) hS4
              by_cases hpq : p = q
              · skip
                refine T_iload_n (pc := 117) (i := 1) dX12_looksOver_117 rfl rfl ?_
                refine T_iload_n (pc := 118) (i := 2) dX12_looksOver_118 rfl rfl ?_
                refine R_icmp_eq (pc := 119) (tgt := 150) (by omega) (by omega) dX12_looksOver_119 (by decide) (fun h3 => ?_) (fun h3 => ?_)
                · skip
                  refine R_iinc (pc := 150) (i := 2) (n := 1) (ls' := [some (.ref 572), some (.int (nI p)), some (.int (nI (q + 1))), some (.int (nI j))]) dX12_looksOver_150 rfl rfl ?_
                  refine T_goto (pc := 153) (tgt := 107) dX12_looksOver_153 (by decide) ?_
                  refine T_ls (ls' := [some (.ref 572), some (.int (nI p)), some (.int (nI (q + 1))), none]) (And.intro rfl (And.intro rfl (And.intro rfl True.intro))) ?_
                  exact h9
                · exact absurd hpq h3
              · rw [if_neg hpq] at hj
                refine T_iload_n (pc := 117) (i := 1) dX12_looksOver_117 rfl rfl ?_
                refine T_iload_n (pc := 118) (i := 2) dX12_looksOver_118 rfl rfl ?_
                refine R_icmp_eq (pc := 119) (tgt := 150) (by omega) (by omega) dX12_looksOver_119 (by decide) (fun h3 => ?_) (fun h3 => ?_)
                · exact absurd h3 hpq
                · skip
                  refine T_iload_n (pc := 122) (i := 3) dX12_looksOver_122 rfl rfl ?_
                  refine T_aload_n (pc := 123) (i := 0) dX12_looksOver_123 rfl rfl ?_
                  refine T_iload_n (pc := 124) (i := 2) dX12_looksOver_124 rfl rfl ?_
                  refine R_callV1 (pc := 125) (As := [.int (nI q)]) (rest := [.int (nI j)]) (Or.inl lk_X12_311) mk_X12_lefts (m_lefts hS3.2.1.1 hq1) kc_572 ⟨by decide, rfl⟩ lc_572 dX12_looksOver_125 rfl rfl (Nat.le_of_ble_eq_true rfl) (by decide) rfl (Nat.le_refl _) (Nat.le_refl _) ?_
                  refine R_iadd (pc := 128) dX12_looksOver_128 ?_
                  refine T_aload_n (pc := 129) (i := 0) dX12_looksOver_129 rfl rfl ?_
                  refine T_iload_n (pc := 130) (i := 1) dX12_looksOver_130 rfl rfl ?_
                  refine R_callV1 (pc := 131) (As := [.int (nI p)]) (rest := [.int (nI (j + ((rAt R q).1.length)))]) (Or.inl lk_X12_311) mk_X12_lefts (m_lefts hS3.2.1.1 hp1) kc_572 ⟨by decide, rfl⟩ lc_572 dX12_looksOver_131 rfl rfl (Nat.le_of_ble_eq_true rfl) (by decide) rfl (Nat.le_refl _) (Nat.le_refl _) ?_
                  refine R_icmp_gt (pc := 134) (tgt := 150) (by omega) (by omega) dX12_looksOver_134 (by decide) (fun h4 => ?_) (fun h4 => ?_)
                  · skip
                    refine R_iinc (pc := 150) (i := 2) (n := 1) (ls' := [some (.ref 572), some (.int (nI p)), some (.int (nI (q + 1))), some (.int (nI j))]) dX12_looksOver_150 rfl rfl ?_
                    refine T_goto (pc := 153) (tgt := 107) dX12_looksOver_153 (by decide) ?_
                    refine T_ls (ls' := [some (.ref 572), some (.int (nI p)), some (.int (nI (q + 1))), none]) (And.intro rfl (And.intro rfl (And.intro rfl True.intro))) ?_
                    exact h9
                  · exact absurd h4 (by omega)
            | succ g ihJ =>
              intro j m hj hS3
              have hpq : ¬ p = q := fun z => by
                rw [if_pos z] at hj
                omega
              have hj0 := hj
              rw [if_neg hpq] at hj
              have hn : (cF R (ovI R (R.length * R.length) ++ wiI R (R.length * p + q) ++ wiP R p q j)).2.1 < 2 ^ 30 := by
                have h5 := cF_n (R := R) (Y := ovI R (R.length * R.length) ++ wiI R (R.length * p + q) ++ wiP R p q j)
                rw [List.length_append, List.length_append] at h5
                have h6 := ovI_len hR (R.length * R.length)
                have h7 := wiI_len hR (R.length * p + q)
                have h8 := wiP_len R p q j
                have h9 := pq p q hp1 (by omega)
                have h10 := bnd (R.length * R.length) 0 (Nat.le_refl _) (by omega)
                omega
              refine T_iload_n (pc := 117) (i := 1) dX12_looksOver_117 rfl rfl ?_
              refine T_iload_n (pc := 118) (i := 2) dX12_looksOver_118 rfl rfl ?_
              refine R_icmp_eq (pc := 119) (tgt := 150) (by omega) (by omega) dX12_looksOver_119 (by decide) (fun h3 => ?_) (fun h3 => ?_)
              · exact absurd h3 hpq
              · skip
                refine T_iload_n (pc := 122) (i := 3) dX12_looksOver_122 rfl rfl ?_
                refine T_aload_n (pc := 123) (i := 0) dX12_looksOver_123 rfl rfl ?_
                refine T_iload_n (pc := 124) (i := 2) dX12_looksOver_124 rfl rfl ?_
                refine R_callV1 (pc := 125) (As := [.int (nI q)]) (rest := [.int (nI j)]) (Or.inl lk_X12_311) mk_X12_lefts (m_lefts hS3.2.1.1 hq1) kc_572 ⟨by decide, rfl⟩ lc_572 dX12_looksOver_125 rfl rfl (Nat.le_of_ble_eq_true rfl) (by decide) rfl (Nat.le_refl _) (Nat.le_refl _) ?_
                refine R_iadd (pc := 128) dX12_looksOver_128 ?_
                refine T_aload_n (pc := 129) (i := 0) dX12_looksOver_129 rfl rfl ?_
                refine T_iload_n (pc := 130) (i := 1) dX12_looksOver_130 rfl rfl ?_
                refine R_callV1 (pc := 131) (As := [.int (nI p)]) (rest := [.int (nI (j + ((rAt R q).1.length)))]) (Or.inl lk_X12_311) mk_X12_lefts (m_lefts hS3.2.1.1 hp1) kc_572 ⟨by decide, rfl⟩ lc_572 dX12_looksOver_131 rfl rfl (Nat.le_of_ble_eq_true rfl) (by decide) rfl (Nat.le_refl _) (Nat.le_refl _) ?_
                refine R_icmp_gt (pc := 134) (tgt := 150) (by omega) (by omega) dX12_looksOver_134 (by decide) (fun h4 => ?_) (fun h4 => ?_)
                · exact absurd h4 (by omega)
                · skip
                  refine T_aload_n (pc := 137) (i := 0) dX12_looksOver_137 rfl rfl ?_
                  refine T_iload_n (pc := 138) (i := 1) dX12_looksOver_138 rfl rfl ?_
                  refine T_iload_n (pc := 139) (i := 2) dX12_looksOver_139 rfl rfl ?_
                  refine T_iload_n (pc := 140) (i := 3) dX12_looksOver_140 rfl rfl ?_
                  refine R_callVm0 (pc := 141) (As := [.int (nI p), .int (nI q), .int (nI j)]) (rest := []) (Or.inl lk_X12_501) mk_X12_within (m_within hS3.2.1 hp1 hq1 (by omega) hS3.1 hn) kc_572 ⟨by decide, rfl⟩ lc_572 dX12_looksOver_141 rfl rfl (Nat.le_of_ble_eq_true rfl) (by decide) rfl (Nat.le_refl _) (Nat.le_refl _) (fun m2 h5 => ?_)
                  refine R_iinc (pc := 144) (i := 3) (n := 1) (ls' := [some (.ref 572), some (.int (nI p)), some (.int (nI q)), some (.int (nI (j + 1)))]) dX12_looksOver_144 rfl rfl ?_
                  refine T_goto (pc := 147) (tgt := 117) dX12_looksOver_147 (by decide) ?_
                  refine ihJ (j + 1) m2 (by omega) ⟨?_, hS3.2.1.k h5.2 (by unfold Fov Fs; omega) (by unfold Fov Fs; omega), hS3.2.2.trans h5.2⟩
                  have h6 := h5.1
                  rw [wiP_s]
                  by_cases hs : stB (rAt R p).1 j (rAt R q).1 = true
                  · rw [if_pos hs] at h6 ⊢
                    rw [← List.append_assoc, cF_snoc]
                    exact h6
                  · rw [if_neg hs] at h6 ⊢
                    exact h6
  have outer1 : ∀ (g p : Nat) (m : SM2), p + g = R.length → Stm mB R LL (ovI R (R.length * p)) m → T γ 16 0 0 M_X12_looksOver Q 0 0 33 [some (.ref 572), some (.int (nI p)), none, none] [] (rm m) := by
    intro g
    induction g with
    | zero =>
      intro p m hp hS
      obtain rfl : p = R.length := by omega
      refine T_iload_n (pc := 33) (i := 1) dX12_looksOver_33 rfl rfl ?_
      refine T_aload_n (pc := 34) (i := 0) dX12_looksOver_34 rfl rfl ?_
      refine R_callV1 (pc := 35) (As := []) (rest := [.int (nI R.length)]) (Or.inl lk_X12_121) mk_X12_rules (m_rules hS.2.1.1) kc_572 ⟨by decide, rfl⟩ lc_572 dX12_looksOver_35 rfl rfl (Nat.le_of_ble_eq_true rfl) (by decide) rfl (Nat.le_refl _) (Nat.le_refl _) ?_
      refine R_icmp_ge (pc := 38) (tgt := 95) (by omega) (by omega) dX12_looksOver_38 (by decide) (fun h1 => ?_) (fun h1 => ?_)
      · skip
        refine T_iconst (pc := 95) (v := nI 0) dX12_looksOver_95 (by decide) ?_
        refine T_istore_n (pc := 96) (i := 1) (ls' := [some (.ref 572), some (.int (nI 0)), none, none]) dX12_looksOver_96 rfl (by decide) rfl ?_
        exact outer2 R.length 0 m (Nat.zero_add _) (by rw [show wiI R (R.length * 0) = [] from rfl, List.append_nil]; exact hS)
      · exact absurd h1 (by omega)
    | succ g ihP =>
      intro p m hp hS
      have hp1 : p < R.length := by omega
      refine T_iload_n (pc := 33) (i := 1) dX12_looksOver_33 rfl rfl ?_
      refine T_aload_n (pc := 34) (i := 0) dX12_looksOver_34 rfl rfl ?_
      refine R_callV1 (pc := 35) (As := []) (rest := [.int (nI p)]) (Or.inl lk_X12_121) mk_X12_rules (m_rules hS.2.1.1) kc_572 ⟨by decide, rfl⟩ lc_572 dX12_looksOver_35 rfl rfl (Nat.le_of_ble_eq_true rfl) (by decide) rfl (Nat.le_refl _) (Nat.le_refl _) ?_
      refine R_icmp_ge (pc := 38) (tgt := 95) (by omega) (by omega) dX12_looksOver_38 (by decide) (fun h1 => ?_) (fun h1 => ?_)
      · exact absurd h1 (by omega)
      · skip
        refine T_iconst (pc := 41) (v := nI 0) dX12_looksOver_41 (by decide) ?_
        refine T_istore_n (pc := 42) (i := 2) (ls' := [some (.ref 572), some (.int (nI p)), some (.int (nI 0)), none]) dX12_looksOver_42 rfl (by decide) rfl ?_
        suffices mid : ∀ (g q : Nat) (m : SM2), q + g = R.length → Stm mB R LL (ovI R (R.length * p + q)) m → T γ 16 0 0 M_X12_looksOver Q 0 0 43 [some (.ref 572), some (.int (nI p)), some (.int (nI q)), none] [] (rm m) by
          exact mid R.length 0 m (Nat.zero_add _) hS
        intro g
        induction g with
        | zero =>
          intro q m hq hS2
          obtain rfl : q = R.length := by omega
          refine T_iload_n (pc := 43) (i := 2) dX12_looksOver_43 rfl rfl ?_
          refine T_aload_n (pc := 44) (i := 0) dX12_looksOver_44 rfl rfl ?_
          refine R_callV1 (pc := 45) (As := []) (rest := [.int (nI R.length)]) (Or.inl lk_X12_121) mk_X12_rules (m_rules hS2.2.1.1) kc_572 ⟨by decide, rfl⟩ lc_572 dX12_looksOver_45 rfl rfl (Nat.le_of_ble_eq_true rfl) (by decide) rfl (Nat.le_refl _) (Nat.le_refl _) ?_
          refine R_icmp_ge (pc := 48) (tgt := 89) (by omega) (by omega) dX12_looksOver_48 (by decide) (fun h2 => ?_) (fun h2 => ?_)
          · skip
            refine R_iinc (pc := 89) (i := 1) (n := 1) (ls' := [some (.ref 572), some (.int (nI (p + 1))), some (.int (nI R.length)), none]) dX12_looksOver_89 rfl rfl ?_
            refine T_goto (pc := 92) (tgt := 33) dX12_looksOver_92 (by decide) ?_
            refine T_ls (ls' := [some (.ref 572), some (.int (nI (p + 1))), none, none]) (And.intro rfl (And.intro rfl True.intro)) ?_
            exact ihP (p + 1) m (by omega) (by rw [Nat.mul_add, Nat.mul_one]; exact hS2)
          · exact absurd h2 (by omega)
        | succ g ihQ =>
          intro q m hq hS2
          have hq1 : q < R.length := by omega
          have op := hR p hp1
          have oq := hR q hq1
          have p4 := op.2.2.1
          have q4 := oq.2.2.1
          have hK : ovK R p q = min (rAt R p).1.length (rAt R q).1.length - 1 := rfl
          have p1 := op.2.1
          have q1 := oq.2.1
          refine T_iload_n (pc := 43) (i := 2) dX12_looksOver_43 rfl rfl ?_
          refine T_aload_n (pc := 44) (i := 0) dX12_looksOver_44 rfl rfl ?_
          refine R_callV1 (pc := 45) (As := []) (rest := [.int (nI q)]) (Or.inl lk_X12_121) mk_X12_rules (m_rules hS2.2.1.1) kc_572 ⟨by decide, rfl⟩ lc_572 dX12_looksOver_45 rfl rfl (Nat.le_of_ble_eq_true rfl) (by decide) rfl (Nat.le_refl _) (Nat.le_refl _) ?_
          refine R_icmp_ge (pc := 48) (tgt := 89) (by omega) (by omega) dX12_looksOver_48 (by decide) (fun h2 => ?_) (fun h2 => ?_)
          · exact absurd h2 (by omega)
          · skip
            refine T_iconst (pc := 51) (v := nI 1) dX12_looksOver_51 (by decide) ?_
            refine T_istore_n (pc := 52) (i := 3) (ls' := [some (.ref 572), some (.int (nI p)), some (.int (nI q)), some (.int (nI 1))]) dX12_looksOver_52 rfl (by decide) rfl ?_
            suffices inn : ∀ (g j : Nat) (m : SM2), j + g = ovK R p q → Stm mB R LL (ovI R (R.length * p + q) ++ ovP R p q j) m → T γ 16 0 0 M_X12_looksOver Q 0 0 53 [some (.ref 572), some (.int (nI p)), some (.int (nI q)), some (.int (nI (j + 1)))] [] (rm m) by
              exact inn _ 0 m (Nat.zero_add _) (by rw [show ovP R p q 0 = [] from rfl, List.append_nil]; exact hS2)
            intro g
            induction g with
            | zero =>
              intro j m hj hS3
              have h9 := ihQ (q + 1) m (by omega) (by
                show Stm mB R LL (ovI R (R.length * p + q + 1)) m
                rw [ovI_s hq1, ← hj]
                exact hS3)
              refine T_iload_n (pc := 53) (i := 3) dX12_looksOver_53 rfl rfl ?_
              refine T_aload_n (pc := 54) (i := 0) dX12_looksOver_54 rfl rfl ?_
              refine T_iload_n (pc := 55) (i := 1) dX12_looksOver_55 rfl rfl ?_
              refine R_callV1 (pc := 56) (As := [.int (nI p)]) (rest := [.int (nI (j + 1))]) (Or.inl lk_X12_311) mk_X12_lefts (m_lefts hS3.2.1.1 hp1) kc_572 ⟨by decide, rfl⟩ lc_572 dX12_looksOver_56 rfl rfl (Nat.le_of_ble_eq_true rfl) (by decide) rfl (Nat.le_refl _) (Nat.le_refl _) ?_
              refine T_aload_n (pc := 59) (i := 0) dX12_looksOver_59 rfl rfl ?_
              refine T_iload_n (pc := 60) (i := 2) dX12_looksOver_60 rfl rfl ?_
              refine R_callV1 (pc := 61) (As := [.int (nI q)]) (rest := [.int (nI ((rAt R p).1.length)), .int (nI (j + 1))]) (Or.inl lk_X12_311) mk_X12_lefts (m_lefts hS3.2.1.1 hq1) kc_572 ⟨by decide, rfl⟩ lc_572 dX12_looksOver_61 rfl rfl (Nat.le_of_ble_eq_true rfl) (by decide) rfl (Nat.le_refl _) (Nat.le_refl _) ?_
              refine R_mmin (pc := 64) lk_X12_496 (by omega) (by omega) (by first | decide | exact Nat.le_of_ble_eq_true rfl) (Nat.le_refl _) (Nat.le_refl _) dX12_looksOver_64 ?_
              refine R_icmp_ge (pc := 67) (tgt := 83) (by omega) (by omega) dX12_looksOver_67 (by decide) (fun h3 => ?_) (fun h3 => ?_)
              · skip
                refine R_iinc (pc := 83) (i := 2) (n := 1) (ls' := [some (.ref 572), some (.int (nI p)), some (.int (nI (q + 1))), some (.int (nI (j + 1)))]) dX12_looksOver_83 rfl rfl ?_
                refine T_goto (pc := 86) (tgt := 43) dX12_looksOver_86 (by decide) ?_
                refine T_ls (ls' := [some (.ref 572), some (.int (nI p)), some (.int (nI (q + 1))), none]) (And.intro rfl (And.intro rfl (And.intro rfl True.intro))) ?_
                exact h9
              · exact absurd h3 (by omega)
            | succ g ihJ =>
              intro j m hj hS3
              have hn : (cF R (ovI R (R.length * p + q) ++ ovP R p q j)).2.1 < 2 ^ 30 := by
                have h5 := cF_n (R := R) (Y := ovI R (R.length * p + q) ++ ovP R p q j)
                rw [List.length_append] at h5
                have h6 := ovI_len hR (R.length * p + q)
                have h8 := ovP_len R p q j
                have h9 := pq p q hp1 (by omega)
                have h10 := bnd (R.length * R.length) 0 (Nat.le_refl _) (by omega)
                omega
              refine T_iload_n (pc := 53) (i := 3) dX12_looksOver_53 rfl rfl ?_
              refine T_aload_n (pc := 54) (i := 0) dX12_looksOver_54 rfl rfl ?_
              refine T_iload_n (pc := 55) (i := 1) dX12_looksOver_55 rfl rfl ?_
              refine R_callV1 (pc := 56) (As := [.int (nI p)]) (rest := [.int (nI (j + 1))]) (Or.inl lk_X12_311) mk_X12_lefts (m_lefts hS3.2.1.1 hp1) kc_572 ⟨by decide, rfl⟩ lc_572 dX12_looksOver_56 rfl rfl (Nat.le_of_ble_eq_true rfl) (by decide) rfl (Nat.le_refl _) (Nat.le_refl _) ?_
              refine T_aload_n (pc := 59) (i := 0) dX12_looksOver_59 rfl rfl ?_
              refine T_iload_n (pc := 60) (i := 2) dX12_looksOver_60 rfl rfl ?_
              refine R_callV1 (pc := 61) (As := [.int (nI q)]) (rest := [.int (nI ((rAt R p).1.length)), .int (nI (j + 1))]) (Or.inl lk_X12_311) mk_X12_lefts (m_lefts hS3.2.1.1 hq1) kc_572 ⟨by decide, rfl⟩ lc_572 dX12_looksOver_61 rfl rfl (Nat.le_of_ble_eq_true rfl) (by decide) rfl (Nat.le_refl _) (Nat.le_refl _) ?_
              refine R_mmin (pc := 64) lk_X12_496 (by omega) (by omega) (by first | decide | exact Nat.le_of_ble_eq_true rfl) (Nat.le_refl _) (Nat.le_refl _) dX12_looksOver_64 ?_
              refine R_icmp_ge (pc := 67) (tgt := 83) (by omega) (by omega) dX12_looksOver_67 (by decide) (fun h3 => ?_) (fun h3 => ?_)
              · exact absurd h3 (by omega)
              · skip
                refine T_aload_n (pc := 70) (i := 0) dX12_looksOver_70 rfl rfl ?_
                refine T_iload_n (pc := 71) (i := 1) dX12_looksOver_71 rfl rfl ?_
                refine T_iload_n (pc := 72) (i := 2) dX12_looksOver_72 rfl rfl ?_
                refine T_iload_n (pc := 73) (i := 3) dX12_looksOver_73 rfl rfl ?_
                refine R_callVm0 (pc := 74) (As := [.int (nI p), .int (nI q), .int (nI (j + 1))]) (rest := []) (Or.inl lk_X12_498) mk_X12_overlap (m_overlap hS3.2.1 hp1 hq1 (by omega) (by omega) hS3.1 hn) kc_572 ⟨by decide, rfl⟩ lc_572 dX12_looksOver_74 rfl rfl (Nat.le_of_ble_eq_true rfl) (by decide) rfl (Nat.le_refl _) (Nat.le_refl _) (fun m2 h5 => ?_)
                refine R_iinc (pc := 77) (i := 3) (n := 1) (ls' := [some (.ref 572), some (.int (nI p)), some (.int (nI q)), some (.int (nI (j + 1 + 1)))]) dX12_looksOver_77 rfl rfl ?_
                refine T_goto (pc := 80) (tgt := 53) dX12_looksOver_80 (by decide) ?_
                refine ihJ (j + 1) m2 (by omega) ⟨?_, hS3.2.1.k h5.2 (by unfold Fov Fs; omega) (by unfold Fov Fs; omega), hS3.2.2.trans h5.2⟩
                have h6 := h5.1
                rw [ovP_s]
                by_cases hs : endB R p q (j + 1) = true
                · rw [if_pos hs] at h6 ⊢
                  rw [← List.append_assoc, cF_snoc]
                  exact h6
                · rw [if_neg hs] at h6 ⊢
                  exact h6
  refine T_aload_n (pc := 4) (i := 0) dX12_looksOver_4 rfl rfl ?_
  refine T_iconst (pc := 5) (v := nI 0) dX12_looksOver_5 (by decide) ?_
  refine R_putI (pc := 6) fl_X12_308 ⟨rfl, rfl⟩ (Or.inr (Or.inl rfl)) kc_572 lc_572 dX12_looksOver_6 ?_
  refine T_aload_n (pc := 9) (i := 0) dX12_looksOver_9 rfl rfl ?_
  refine T_iconst (pc := 10) (v := nI 0) dX12_looksOver_10 (by decide) ?_
  refine R_putI (pc := 11) fl_X12_478 ⟨rfl, rfl⟩ (Or.inl rfl) kc_572 lc_572 dX12_looksOver_11 ?_
  refine T_aload_n (pc := 14) (i := 0) dX12_looksOver_14 rfl rfl ?_
  refine T_iconst (pc := 15) (v := nI 0) dX12_looksOver_15 (by decide) ?_
  refine R_putI (pc := 16) fl_X12_484 ⟨rfl, rfl⟩ (Or.inl rfl) kc_572 lc_572 dX12_looksOver_16 ?_
  refine T_aload_n (pc := 19) (i := 0) dX12_looksOver_19 rfl rfl ?_
  refine T_ldc2 (pc := 20) dX12_looksOver_20 cn_X12_171 ?_
  refine R_putL (pc := 23) fl_X12_490 ⟨rfl, rfl⟩ kc_572 lc_572 dX12_looksOver_23 ?_
  refine T_aload_n (pc := 26) (i := 0) dX12_looksOver_26 rfl rfl ?_
  refine T_iconst (pc := 27) (v := nI 0) dX12_looksOver_27 (by decide) ?_
  refine R_putI (pc := 28) fl_X12_469 ⟨rfl, rfl⟩ (Or.inr (Or.inl rfl)) kc_572 lc_572 dX12_looksOver_28 ?_
  refine T_iconst (pc := 31) (v := nI 0) dX12_looksOver_31 (by decide) ?_
  refine T_istore_n (pc := 32) (i := 1) (ls' := [some (.ref 572), some (.int (nI 0)), none, none]) dX12_looksOver_32 rfl (by decide) rfl ?_
  have hx : OfM (fun j => 35 ≤ j ∧ j ≤ 40) S9 mB (wI (wL (wI (wI (wI m0 572 17 (nI 0)) 572 35 (nI 0)) 572 36 (nI 0)) 572 37 (-1)) 572 40 (nI 0)) := by
    rw [eB]
    exact OfM.sF (OfM.sG (OfM.sF (OfM.sF (OfM.refl _ _ _) (by omega)) (by omega)) (by omega)) (by omega)
  refine outer1 R.length 0 _ (Nat.zero_add _) ⟨⟨⟨?_, ?_, ?_, ?_, fun q z => by cases z⟩, ⟨fun _ => rfl, fun _ => rfl⟩⟩, hE1.k hx (by omega) (by omega), hx.mono (fun j hj => Or.inr (by omega)) (fun k hk => hk)⟩
  · exact (n_wI (by omega)).trans (skL.trans ((n_wI (by omega)).trans (e_wI ⟨rfl, rfl⟩)))
  · exact (n_wI (by omega)).trans (skL.trans (e_wI ⟨rfl, rfl⟩))
  · exact skI.trans (e_wL ⟨rfl, rfl⟩)
  · exact e_wI ⟨rfl, rfl⟩
end MCL

