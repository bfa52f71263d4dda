/-! THE MODEL: explained, telling, sorts, maker, count -/
theorem in2 {z : Int32} : (!decide (z < nI 0) && !decide (nI 1 < z)) = inB z 2 := in_inB (n := 2) (by decide)
theorem chk4 {z : Int32} : chkN z 0 3 = inB z 4 := in_inB (n := 4) (by decide)
theorem chk3 {z : Int32} : chkN z 0 2 = inB z 3 := in_inB (n := 3) (by decide)
theorem exN_s {R : List Ru} {a t : List Nat} {i : Nat} : exN R a t (i + 1) = exN R a t i ||| (if cbB a t (rAt R i).1 (rAt R i).2 = true then 2 ^ i else 0) := rfl
theorem tlN_s {E : Nat → Nat} {n i : Nat} : tlN E n (i + 1) = if (tlL i (tlN E n i) && tlA E i n) = true then some i else tlN E n i := rfl
section MK1
variable {γ : Ga} {μ : SM2}
theorem m_explainsAt {S : List (List Nat × List Nat)} {L R : List Nat} {j : Nat} (hS : mdS (μ.1 573) S) (hj : j < S.length) (hL : Mw L) (hR : Mw R) (h1L : 1 ≤ L.length) : Ex γ 7 0 0 M_X12_explainsAt [.ref 572, .long (lN (cd L)), .long (lN (cd R)), .int (nI j)] (rm μ) (Fn (some (.int (bI (cbB (sAt S j).1 (sAt S j).2 L R)))) μ) := by
  have h10 := hS.1.2
  have hs := hS.2 j hj
  refine Ex.of (by decide +kernel) rfl (Nat.le_of_ble_eq_true rfl) ?_
  show T _ _ _ _ _ _ _ _ _ [some (.ref 572), some (.long (lN (cd L))), none, some (.long (lN (cd R))), none, some (.int (nI j))] [] (rm μ)
  refine T_lload_n (pc := 0) (i := 1) dX12_explainsAt_0 rfl rfl ?_
  refine T_lload_n (pc := 1) (i := 3) dX12_explainsAt_1 rfl rfl ?_
  refine T_aload_n (pc := 2) (i := 0) dX12_explainsAt_2 rfl rfl ?_
  refine T_sipush (pc := 3) (v := nI 299) dX12_explainsAt_3 (by decide) ?_
  refine T_iconst (pc := 6) (v := nI 4) dX12_explainsAt_6 (by decide) ?_
  refine T_iload (pc := 7) (i := 5) dX12_explainsAt_7 rfl ?_
  refine R_imul (pc := 9) dX12_explainsAt_9 ?_
  refine R_iadd (pc := 10) dX12_explainsAt_10 ?_
  refine R_callV1 (pc := 11) (As := [.int (nI (299 + (4 * j)))]) (rest := [.long (lN (cd R)), .long (lN (cd L))]) (Or.inl lk_X12_118) mk_X12_codeAt (m_codeAt hs.1.1 hs.2.1 (by omega)) kc_572 ⟨by decide, rfl⟩ lc_572 dX12_explainsAt_11 rfl rfl (Nat.le_of_ble_eq_true rfl) (by decide) rfl (Nat.le_refl _) (Nat.le_refl _) ?_
  refine T_aload_n (pc := 14) (i := 0) dX12_explainsAt_14 rfl rfl ?_
  refine T_sipush (pc := 15) (v := nI 299) dX12_explainsAt_15 (by decide) ?_
  refine T_iconst (pc := 18) (v := nI 4) dX12_explainsAt_18 (by decide) ?_
  refine T_iload (pc := 19) (i := 5) dX12_explainsAt_19 rfl ?_
  refine R_imul (pc := 21) dX12_explainsAt_21 ?_
  refine R_iadd (pc := 22) dX12_explainsAt_22 ?_
  refine T_iconst (pc := 23) (v := nI 2) dX12_explainsAt_23 (by decide) ?_
  refine R_iadd (pc := 24) dX12_explainsAt_24 ?_
  refine R_callV1 (pc := 25) (As := [.int (nI ((299 + (4 * j)) + 2))]) (rest := [.long (lN (cd (sAt S j).1)), .long (lN (cd R)), .long (lN (cd L))]) (Or.inl lk_X12_118) mk_X12_codeAt (m_codeAt hs.1.2 hs.2.2 (by omega)) kc_572 ⟨by decide, rfl⟩ lc_572 dX12_explainsAt_25 rfl rfl (Nat.le_of_ble_eq_true rfl) (by decide) rfl (Nat.le_refl _) (Nat.le_refl _) ?_
  refine R_callS1 (pc := 28) (av := [.long (lN (cd L)), .long (lN (cd R)), .long (lN (cd (sAt S j).1)), .long (lN (cd (sAt S j).2))]) (rest := []) (Or.inl lk_X12_569) mk_X12_explains (m_explains hs.1.1 hs.1.2 hL hR h1L) dX12_explainsAt_28 rfl rfl (Nat.le_of_ble_eq_true rfl) (by decide) rfl (Nat.le_refl _) (Nat.le_refl _) ?_
  exact T_iret (pc := 31) (ty := .boolean) dX12_explainsAt_31 rfl (nar_b _) (Nat.le_refl _) (Nat.le_refl _) ⟨rfl, rfl⟩
theorem m_explainedBy {S : List (List Nat × List Nat)} {R : List Ru} {j : Nat} (hR : mdR (μ.1 573) R) (hS : mdS (μ.1 573) S) (hj : j < S.length) : Ex γ 8 0 0 M_X12_explainedBy [.ref 572, .int (nI j)] (rm μ) (Fn (some (.int (nI (exN R (sAt S j).1 (sAt S j).2 R.length)))) μ) := by
  have h12 := hR.1.2
  refine Ex.of (by decide +kernel) rfl (Nat.le_of_ble_eq_true rfl) ?_
  show T _ _ _ _ _ _ _ _ _ [some (.ref 572), some (.int (nI j)), none, none] [] (rm μ)
  refine T_iconst (pc := 0) (v := nI 0) dX12_explainedBy_0 (by decide) ?_
  refine T_istore_n (pc := 1) (i := 2) (ls' := [some (.ref 572), some (.int (nI j)), some (.int (nI 0)), none]) dX12_explainedBy_1 rfl (by decide) rfl ?_
  refine T_iconst (pc := 2) (v := nI 0) dX12_explainedBy_2 (by decide) ?_
  refine T_istore_n (pc := 3) (i := 3) (ls' := [some (.ref 572), some (.int (nI j)), some (.int (nI 0)), some (.int (nI 0))]) dX12_explainedBy_3 rfl (by decide) rfl ?_
  refine T_for (pc := 4) R.length (fun i => [some (.ref 572), some (.int (nI j)), some (.int (nI (exN R (sAt S j).1 (sAt S j).2 i))), some (.int (nI i))]) (fun _ => rm μ) (fun i hle ih => ?_) 0 (Nat.zero_le _)
  show T _ _ _ _ _ _ _ _ 4 [some (.ref 572), some (.int (nI j)), some (.int (nI (exN R (sAt S j).1 (sAt S j).2 i))), some (.int (nI i))] [] (rm μ)
  refine T_iload_n (pc := 4) (i := 3) dX12_explainedBy_4 rfl rfl ?_
  refine T_aload_n (pc := 5) (i := 0) dX12_explainedBy_5 rfl rfl ?_
  refine R_callV1 (pc := 6) (As := []) (rest := [.int (nI i)]) (Or.inl lk_X12_121) mk_X12_rules (m_rules hR) kc_572 ⟨by decide, rfl⟩ lc_572 dX12_explainedBy_6 rfl rfl (Nat.le_of_ble_eq_true rfl) (by decide) rfl (Nat.le_refl _) (Nat.le_refl _) ?_
  refine R_icmp_ge (pc := 9) (tgt := 46) (by omega) (by omega) dX12_explainedBy_9 (by decide) (fun h1 => ?_) (fun h1 => ?_)
  · skip
    refine T_iload_n (pc := 46) (i := 2) dX12_explainedBy_46 rfl rfl ?_
    rw [show i = R.length by omega]
    exact T_iret (pc := 47) (ty := .int) dX12_explainedBy_47 rfl rfl (Nat.le_refl _) (Nat.le_refl _) ⟨rfl, rfl⟩
  · skip
    have ok := hR.2.1 i h1
    have hih := ih h1
    rw [exN_s] at hih
    refine T_iload_n (pc := 12) (i := 2) dX12_explainedBy_12 rfl rfl ?_
    refine T_aload_n (pc := 13) (i := 0) dX12_explainedBy_13 rfl rfl ?_
    refine T_aload_n (pc := 14) (i := 0) dX12_explainedBy_14 rfl rfl ?_
    refine T_iload_n (pc := 15) (i := 3) dX12_explainedBy_15 rfl rfl ?_
    refine R_callV1 (pc := 16) (As := [.int (nI i)]) (rest := [.ref 572, .int (nI (exN R (sAt S j).1 (sAt S j).2 i))]) (Or.inl lk_X12_107) mk_X12_left (m_left hR h1) kc_572 ⟨by decide, rfl⟩ lc_572 dX12_explainedBy_16 rfl rfl (Nat.le_of_ble_eq_true rfl) (by decide) rfl (Nat.le_refl _) (Nat.le_refl _) ?_
    refine T_aload_n (pc := 19) (i := 0) dX12_explainedBy_19 rfl rfl ?_
    refine T_iload_n (pc := 20) (i := 3) dX12_explainedBy_20 rfl rfl ?_
    refine R_callV1 (pc := 21) (As := [.int (nI i)]) (rest := [.long (lN (cd (rAt R i).1)), .ref 572, .int (nI (exN R (sAt S j).1 (sAt S j).2 i))]) (Or.inl lk_X12_111) mk_X12_right (m_right hR h1) kc_572 ⟨by decide, rfl⟩ lc_572 dX12_explainedBy_21 rfl rfl (Nat.le_of_ble_eq_true rfl) (by decide) rfl (Nat.le_refl _) (Nat.le_refl _) ?_
    refine T_iload_n (pc := 24) (i := 1) dX12_explainedBy_24 rfl rfl ?_
    refine R_callV1 (pc := 25) (As := [.long (lN (cd (rAt R i).1)), .long (lN (cd (rAt R i).2)), .int (nI j)]) (rest := [.int (nI (exN R (sAt S j).1 (sAt S j).2 i))]) (Or.inl lk_X12_573) mk_X12_explainsAt (m_explainsAt hS hj ok.l ok.r ok.2.1) kc_572 ⟨by decide, rfl⟩ lc_572 dX12_explainedBy_25 rfl rfl (Nat.le_of_ble_eq_true rfl) (by decide) rfl (Nat.le_refl _) (Nat.le_refl _) ?_
    refine R_ifb_eq (pc := 28) (tgt := 37) dX12_explainedBy_28 (by decide) (fun h2 => ?_) (fun h2 => ?_)
    · skip
      refine T_iconst (pc := 37) (v := nI 0) dX12_explainedBy_37 (by decide) ?_
      refine R_ior (pc := 38) dX12_explainedBy_38 ?_
      refine T_istore_n (pc := 39) (i := 2) (ls' := [some (.ref 572), some (.int (nI j)), some (.int (nI ((exN R (sAt S j).1 (sAt S j).2 i) ||| 0))), some (.int (nI i))]) dX12_explainedBy_39 rfl (by decide) rfl ?_
      refine R_iinc (pc := 40) (i := 3) (n := 1) (ls' := [some (.ref 572), some (.int (nI j)), some (.int (nI ((exN R (sAt S j).1 (sAt S j).2 i) ||| 0))), some (.int (nI (i + 1)))]) dX12_explainedBy_40 rfl rfl ?_
      refine T_goto (pc := 43) (tgt := 4) dX12_explainedBy_43 (by decide) ?_
      rw [h2, if_neg (c := false = true) Bool.false_ne_true] at hih
      exact hih
    · skip
      refine T_iconst (pc := 31) (v := nI 1) dX12_explainedBy_31 (by decide) ?_
      refine T_iload_n (pc := 32) (i := 3) dX12_explainedBy_32 rfl rfl ?_
      refine R_ishl (pc := 33) (by omega) dX12_explainedBy_33 ?_
      refine T_goto (pc := 34) (tgt := 38) dX12_explainedBy_34 (by decide) ?_
      refine R_ior (pc := 38) dX12_explainedBy_38 ?_
      refine T_istore_n (pc := 39) (i := 2) (ls' := [some (.ref 572), some (.int (nI j)), some (.int (nI ((exN R (sAt S j).1 (sAt S j).2 i) ||| (1 * 2 ^ i)))), some (.int (nI i))]) dX12_explainedBy_39 rfl (by decide) rfl ?_
      refine R_iinc (pc := 40) (i := 3) (n := 1) (ls' := [some (.ref 572), some (.int (nI j)), some (.int (nI ((exN R (sAt S j).1 (sAt S j).2 i) ||| (1 * 2 ^ i)))), some (.int (nI (i + 1)))]) dX12_explainedBy_40 rfl rfl ?_
      refine T_goto (pc := 43) (tgt := 4) dX12_explainedBy_43 (by decide) ?_
      rw [h2, if_pos (c := true = true) rfl] at hih
      rw [Nat.one_mul]
      exact hih
theorem m_explained {x : Int32} {S : List (List Nat × List Nat)} {R : List Ru} (hR : mdR (μ.1 573) R) (hS : mdS (μ.1 573) S) : Ex γ 9 0 0 M_X12_explained [.ref 572, .int x] (rm μ) (Rm (some (.int (if inB x S.length = true then nI (exN R (sAt S x.toNatClampNeg).1 (sAt S x.toNatClampNeg).2 R.length) else nI 0))) (fun m => MdN μ m (mT1 (inB x S.length)))) := by
  have h10 := hS.1.2
  have hR2 : mdR ((wI μ 572 0 (nI 0)).1 573) R := by rw [w573]; exact hR
  have hS2 : mdS ((wI μ 572 0 (nI 0)).1 573) S := by rw [w573]; exact hS
  refine Ex.of (by decide +kernel) rfl (Nat.le_of_ble_eq_true rfl) ?_
  show T _ _ _ _ _ _ _ _ _ [some (.ref 572), some (.int (x))] [] (rm μ)
  refine T_aload_n (pc := 0) (i := 0) dX12_explained_0 rfl rfl ?_
  refine T_iconst (pc := 1) (v := nI 0) dX12_explained_1 (by decide) ?_
  refine R_putI (pc := 2) fl_X12_3 ⟨rfl, rfl⟩ (Or.inl rfl) kc_572 lc_572 dX12_explained_2 ?_
  refine T_aload_n (pc := 5) (i := 0) dX12_explained_5 rfl rfl ?_
  refine T_iload_n (pc := 6) (i := 1) dX12_explained_6 rfl rfl ?_
  refine T_iconst (pc := 7) (v := nI 0) dX12_explained_7 (by decide) ?_
  refine T_aload_n (pc := 8) (i := 0) dX12_explained_8 rfl rfl ?_
  refine R_getR (pc := 9) (i := 573) fl_X12_29 rfl kc_572 lc_572 rc_572_1 dX12_explained_9 ?_
  refine T_iconst (pc := 12) (v := nI 2) dX12_explained_12 (by decide) ?_
  refine R_iald (pc := 13) (x := nI S.length) kc_573 lc_573 (by omega) (by first | decide | assumption) ((wI_ne (by decide)).trans hS.1.1) dX12_explained_13 ?_
  refine T_iconst (pc := 14) (v := nI 1) dX12_explained_14 (by decide) ?_
  refine T_isub (pc := 15) dX12_explained_15 ?_
  refine R_callS1 (pc := 16) (av := [.int (x), .int (nI 0), .int (((nI S.length) - (nI 1)))]) (rest := [.ref 572]) (Or.inl lk_X12_125) mk_X12_in m_in dX12_explained_16 rfl rfl (Nat.le_of_ble_eq_true rfl) (by decide) rfl (Nat.le_refl _) (Nat.le_refl _) ?_
  rw [in_inB (by omega)]
  cases e : inB x S.length with
  | false =>
    rw [if_neg Bool.false_ne_true]
    refine R_ifb_ne (pc := 19) (tgt := 26) dX12_explained_19 (by decide) (fun h1 => ?_) (fun h1 => ?_)
    · exact absurd h1 (by decide)
    · skip
      refine T_iconst (pc := 22) (v := nI 1) dX12_explained_22 (by decide) ?_
      refine T_goto (pc := 23) (tgt := 27) dX12_explained_23 (by decide) ?_
      refine T_iconst (pc := 27) (v := nI 1) dX12_explained_27 (by decide) ?_
      refine R_callV1 (pc := 28) (As := [.int (nI 1), .int (nI 1)]) (rest := []) (Or.inl lk_X12_302) mk_X12_throwsIf m_throws1n kc_572 ⟨by decide, rfl⟩ lc_572 dX12_explained_28 rfl rfl (Nat.le_of_ble_eq_true rfl) (by decide) rfl (Nat.le_refl _) (Nat.le_refl _) ?_
      refine R_ifb_eq (pc := 31) (tgt := 38) dX12_explained_31 (by decide) (fun h2 => ?_) (fun h2 => ?_)
      · exact absurd h2 (by decide)
      · skip
        refine T_iconst (pc := 34) (v := nI 0) dX12_explained_34 (by decide) ?_
        refine T_goto (pc := 35) (tgt := 43) dX12_explained_35 (by decide) ?_
        exact T_iret (pc := 43) (ty := .int) dX12_explained_43 rfl rfl (Nat.le_refl _) (Nat.le_refl _) ⟨_, rfl, rfl, Tn.two.n⟩
  | true =>
    obtain ⟨k, hk, rfl⟩ := inB_of (by omega) e
    rw [if_pos (c := true = true) rfl, nI_clamp (n := k) (by omega)]
    refine R_ifb_ne (pc := 19) (tgt := 26) dX12_explained_19 (by decide) (fun h1 => ?_) (fun h1 => ?_)
    · skip
      refine T_iconst (pc := 26) (v := nI 0) dX12_explained_26 (by decide) ?_
      refine T_iconst (pc := 27) (v := nI 1) dX12_explained_27 (by decide) ?_
      refine R_callV1 (pc := 28) (As := [.int (nI 0), .int (nI 1)]) (rest := []) (Or.inl lk_X12_302) mk_X12_throwsIf m_throws0n kc_572 ⟨by decide, rfl⟩ lc_572 dX12_explained_28 rfl rfl (Nat.le_of_ble_eq_true rfl) (by decide) rfl (Nat.le_refl _) (Nat.le_refl _) ?_
      refine R_ifb_eq (pc := 31) (tgt := 38) dX12_explained_31 (by decide) (fun h2 => ?_) (fun h2 => ?_)
      · skip
        refine T_aload_n (pc := 38) (i := 0) dX12_explained_38 rfl rfl ?_
        refine T_iload_n (pc := 39) (i := 1) dX12_explained_39 rfl rfl ?_
        refine R_callV1 (pc := 40) (As := [.int (nI k)]) (rest := []) (Or.inl lk_X12_576) mk_X12_explainedBy (m_explainedBy hR2 hS2 hk) kc_572 ⟨by decide, rfl⟩ lc_572 dX12_explained_40 rfl rfl (Nat.le_of_ble_eq_true rfl) (by decide) rfl (Nat.le_refl _) (Nat.le_refl _) ?_
        exact T_iret (pc := 43) (ty := .int) dX12_explained_43 rfl rfl (Nat.le_refl _) (Nat.le_refl _) ⟨_, rfl, rfl, Tn.one.n⟩
      · exact absurd h2 (by decide)
    · exact absurd h1 (by decide)
def S589 (k : Nat) : Prop := k = 589
theorem m_telling {X : Td} (hX : mdT (μ.1 573) X) : Ex γ 9 0 0 M_X12_telling [.ref 572] (rm μ) (Rm (some (.int (oN (tlN (exE X) X.S.length (2 ^ X.R.length))))) (fun m => MdN μ m 0)) := by
  have hX2 : mdT ((wI μ 572 0 (nI 0)).1 573) X := by rw [w573]; exact hX
  have h10 := hX.2.2.1.1.2
  have h12 := hX.1.1.2
  have hp12 : 2 ^ X.R.length ≤ 2 ^ 12 := Nat.pow_le_pow_right (by decide) h12
  obtain ⟨m0, hm0⟩ : ∃ m0, m0 = wI μ 572 0 (nI 0) := ⟨_, rfl⟩
  have fin9 : ∀ m : SM2, OfM (fun _ => False) S589 m0 m → MdN μ m 0 := fun m g => by
    rw [hm0] at g
    exact MdN.of g id (fun j hj => hj.elim) (fun k hk => by unfold S589 at hk; unfold Sz; omega)
  rw [← hm0] at hX2
  refine Ex.of (by decide +kernel) rfl (Nat.le_of_ble_eq_true rfl) ?_
  show T _ _ _ _ _ _ _ _ _ [some (.ref 572), none, none, none, none] [] (rm μ)
  refine T_aload_n (pc := 0) (i := 0) dX12_telling_0 rfl rfl ?_
  refine T_iconst (pc := 1) (v := nI 0) dX12_telling_1 (by decide) ?_
  refine R_putI (pc := 2) fl_X12_3 ⟨rfl, rfl⟩ (Or.inl rfl) kc_572 lc_572 dX12_telling_2 ?_
  refine T_iconst (pc := 5) (v := nI 0) dX12_telling_5 (by decide) ?_
  refine T_istore_n (pc := 6) (i := 1) (ls' := [some (.ref 572), some (.int (nI 0)), none, none, none]) dX12_telling_6 rfl (by decide) rfl ?_
  rw [← hm0]
  suffices first : ∀ (f i : Nat) (m : SM2), i + f = X.S.length → (∀ j, j < i → m.1 589 j = nI (exE X j)) → OfM (fun _ => False) S589 m0 m → T γ 9 0 0 M_X12_telling (Rm (some (.int (oN (tlN (exE X) X.S.length (2 ^ X.R.length))))) (fun m => MdN μ m 0)) 0 0 7 [some (.ref 572), some (.int (nI i)), none, none, none] [] (rm m) by
    exact first X.S.length 0 m0 (Nat.zero_add _) (fun j hj => absurd hj (Nat.not_lt_zero _)) (OfM.refl _ _ _)
  intro f
  induction f with
  | succ f ih =>
    intro i m hi hE hO
    have hXm : mdT (m.1 573) X := by rw [(hO.c (by decide) (by unfold S589; omega)).1]; exact hX2
    refine T_iload_n (pc := 7) (i := 1) dX12_telling_7 rfl rfl ?_
    refine T_aload_n (pc := 8) (i := 0) dX12_telling_8 rfl rfl ?_
    refine R_getR (pc := 9) (i := 573) fl_X12_29 rfl kc_572 lc_572 rc_572_1 dX12_telling_9 ?_
    refine T_iconst (pc := 12) (v := nI 2) dX12_telling_12 (by decide) ?_
    refine R_iald (pc := 13) (x := nI X.S.length) kc_573 lc_573 (by omega) (by first | decide | assumption) hXm.2.2.1.1.1 dX12_telling_13 ?_
    refine R_icmp_ge (pc := 14) (tgt := 34) (by omega) (by omega) dX12_telling_14 (by decide) (fun h1 => ?_) (fun h1 => ?_)
    · exact absurd h1 (by omega)
    · skip
      refine T_aload_n (pc := 17) (i := 0) dX12_telling_17 rfl rfl ?_
      refine R_getR (pc := 18) (i := 589) fl_X12_83 rfl kc_572 lc_572 rc_572_44 dX12_telling_18 ?_
      refine T_iload_n (pc := 21) (i := 1) dX12_telling_21 rfl rfl ?_
      refine T_aload_n (pc := 22) (i := 0) dX12_telling_22 rfl rfl ?_
      refine T_iload_n (pc := 23) (i := 1) dX12_telling_23 rfl rfl ?_
      refine R_callV1 (pc := 24) (As := [.int (nI i)]) (rest := [.int (nI i), .ref 589]) (Or.inl lk_X12_576) mk_X12_explainedBy (m_explainedBy hXm.1 hXm.2.2.1 (by omega)) kc_572 ⟨by decide, rfl⟩ lc_572 dX12_telling_24 rfl rfl (Nat.le_of_ble_eq_true rfl) (by decide) rfl (Nat.le_refl _) (Nat.le_refl _) ?_
      refine R_iast (pc := 27) kc_589 lc_589 (by omega) (by first | decide | assumption) dX12_telling_27 ?_
      refine R_iinc (pc := 28) (i := 1) (n := 1) (ls' := [some (.ref 572), some (.int (nI (i + 1))), none, none, none]) dX12_telling_28 rfl rfl ?_
      refine T_goto (pc := 31) (tgt := 7) dX12_telling_31 (by decide) ?_
      refine ih (i + 1) _ (by omega) (fun j hj => ?_) (OfM.sI hO rfl (by decide))
      by_cases e : j = i
      · rw [e]
        exact e_wI ⟨rfl, rfl⟩
      · rw [n_wI (by omega)]
        exact hE j (by omega)
  | zero =>
    intro i m hi hE hO
    obtain rfl : i = X.S.length := by omega
    have hXm : mdT (m.1 573) X := by rw [(hO.c (by decide) (by unfold S589; omega)).1]; exact hX2
    refine T_iload_n (pc := 7) (i := 1) dX12_telling_7 rfl rfl ?_
    refine T_aload_n (pc := 8) (i := 0) dX12_telling_8 rfl rfl ?_
    refine R_getR (pc := 9) (i := 573) fl_X12_29 rfl kc_572 lc_572 rc_572_1 dX12_telling_9 ?_
    refine T_iconst (pc := 12) (v := nI 2) dX12_telling_12 (by decide) ?_
    refine R_iald (pc := 13) (x := nI X.S.length) kc_573 lc_573 (by omega) (by first | decide | assumption) hXm.2.2.1.1.1 dX12_telling_13 ?_
    refine R_icmp_ge (pc := 14) (tgt := 34) (by omega) (by omega) dX12_telling_14 (by decide) (fun h1 => ?_) (fun h1 => ?_)
    · skip
      refine T_iconst (pc := 34) (v := (-1)) dX12_telling_34 (by decide) ?_
      refine T_istore_n (pc := 35) (i := 1) (ls' := [some (.ref 572), some (.int ((-1))), none, none, none]) dX12_telling_35 rfl (by decide) rfl ?_
      refine T_iconst (pc := 36) (v := nI 0) dX12_telling_36 (by decide) ?_
      refine T_istore_n (pc := 37) (i := 2) (ls' := [some (.ref 572), some (.int ((-1))), some (.int (nI 0)), none, none]) dX12_telling_37 rfl (by decide) rfl ?_
      suffices outer : ∀ (g s : Nat), s + g = 2 ^ X.R.length → T γ 9 0 0 M_X12_telling (Rm (some (.int (oN (tlN (exE X) X.S.length (2 ^ X.R.length))))) (fun m => MdN μ m 0)) 0 0 38 [some (.ref 572), some (.int (oN (tlN (exE X) X.S.length s))), some (.int (nI s)), none, none] [] (rm m) by
        exact outer _ 0 (Nat.zero_add _)
      intro g
      induction g with
      | zero =>
        intro s hs
        obtain rfl : s = 2 ^ X.R.length := by omega
        refine T_iload_n (pc := 38) (i := 2) dX12_telling_38 rfl rfl ?_
        refine T_iconst (pc := 39) (v := nI 1) dX12_telling_39 (by decide) ?_
        refine T_aload_n (pc := 40) (i := 0) dX12_telling_40 rfl rfl ?_
        refine R_callV1 (pc := 41) (As := []) (rest := [.int (nI 1), .int (nI (2 ^ X.R.length))]) (Or.inl lk_X12_121) mk_X12_rules (m_rules hXm.1) kc_572 ⟨by decide, rfl⟩ lc_572 dX12_telling_41 rfl rfl (Nat.le_of_ble_eq_true rfl) (by decide) rfl (Nat.le_refl _) (Nat.le_refl _) ?_
        refine R_ishl (pc := 44) (by omega) dX12_telling_44 ?_
        refine R_icmp_ge (pc := 45) (tgt := 127) (by omega) (by omega) dX12_telling_45 (by decide) (fun h2 => ?_) (fun h2 => ?_)
        · skip
          refine T_iload_n (pc := 127) (i := 1) dX12_telling_127 rfl rfl ?_
          exact T_iret (pc := 128) (ty := .int) dX12_telling_128 rfl rfl (Nat.le_refl _) (Nat.le_refl _) ⟨_, rfl, rfl, fin9 m hO⟩
        · exact absurd h2 (by omega)
      | succ g ihg =>
        intro s hs
        have hn := ihg (s + 1) (by omega)
        rw [tlN_s] at hn
        obtain ⟨o, ho⟩ : ∃ o, tlN (exE X) X.S.length s = o := ⟨_, rfl⟩
        have hob : ∀ c, o = some c → c < s := fun c hc => by
          have key : ∀ q c, tlN (exE X) X.S.length q = some c → c < q := by
            intro q
            induction q with
            | zero => intro c h; cases h
            | succ q ihq =>
              intro c h
              rw [tlN_s] at h
              split at h
              · cases h; exact Nat.lt_succ_self _
              · exact Nat.lt_succ_of_lt (ihq c h)
          exact key s c (ho.trans hc)
        rw [ho] at hn ⊢
        -- behind the loop over SEEN
        have t111 : ∀ (q : Nat), T γ 9 0 0 M_X12_telling (Rm (some (.int (oN (tlN (exE X) X.S.length (2 ^ X.R.length))))) (fun m => MdN μ m 0)) 0 0 111 [some (.ref 572), some (.int (oN o)), some (.int (nI s)), some (.int (bI (tlL s o && tlA (exE X) s X.S.length))), some (.int (nI q))] [] (rm m) := fun q => by
          refine T_iload_n (pc := 111) (i := 3) dX12_telling_111 rfl rfl ?_
          refine R_ifb_eq (pc := 112) (tgt := 119) dX12_telling_112 (by decide) (fun k1 => ?_) (fun k1 => ?_)
          · skip
            refine T_iload_n (pc := 119) (i := 1) dX12_telling_119 rfl rfl ?_
            refine T_istore_n (pc := 120) (i := 1) (ls' := [some (.ref 572), some (.int ((oN o))), some (.int (nI s)), some (.int (bI (tlL s o && tlA (exE X) s X.S.length))), some (.int (nI q))]) dX12_telling_120 rfl (by decide) rfl ?_
            refine R_iinc (pc := 121) (i := 2) (n := 1) (ls' := [some (.ref 572), some (.int ((oN o))), some (.int (nI (s + 1))), some (.int (bI (tlL s o && tlA (exE X) s X.S.length))), some (.int (nI q))]) dX12_telling_121 rfl rfl ?_
            refine T_goto (pc := 124) (tgt := 38) dX12_telling_124 (by decide) ?_
            refine T_ls (ls' := [some (.ref 572), some (.int ((oN o))), some (.int (nI (s + 1))), none, none]) (And.intro rfl (And.intro rfl (And.intro rfl True.intro))) ?_
            rw [k1, if_neg Bool.false_ne_true] at hn
            exact hn
          · skip
            refine T_iload_n (pc := 115) (i := 2) dX12_telling_115 rfl rfl ?_
            refine T_goto (pc := 116) (tgt := 120) dX12_telling_116 (by decide) ?_
            refine T_istore_n (pc := 120) (i := 1) (ls' := [some (.ref 572), some (.int (nI s)), some (.int (nI s)), some (.int (bI (tlL s o && tlA (exE X) s X.S.length))), some (.int (nI q))]) dX12_telling_120 rfl (by decide) rfl ?_
            refine R_iinc (pc := 121) (i := 2) (n := 1) (ls' := [some (.ref 572), some (.int (nI s)), some (.int (nI (s + 1))), some (.int (bI (tlL s o && tlA (exE X) s X.S.length))), some (.int (nI q))]) dX12_telling_121 rfl rfl ?_
            refine T_goto (pc := 124) (tgt := 38) dX12_telling_124 (by decide) ?_
            refine T_ls (ls' := [some (.ref 572), some (.int (nI s)), some (.int (nI (s + 1))), none, none]) (And.intro rfl (And.intro rfl (And.intro rfl True.intro))) ?_
            rw [k1, if_pos rfl] at hn
            exact hn
        have t68 : ∀ b : Bool, b = tlL s o → T γ 9 0 0 M_X12_telling (Rm (some (.int (oN (tlN (exE X) X.S.length (2 ^ X.R.length))))) (fun m => MdN μ m 0)) 0 0 68 [some (.ref 572), some (.int (oN o)), some (.int (nI s)), none, none] [.int (bI b)] (rm m) := fun b hb => by
          refine T_istore_n (pc := 68) (i := 3) (ls' := [some (.ref 572), some (.int ((oN o))), some (.int (nI s)), some (.int (bI b)), none]) dX12_telling_68 rfl (by decide) rfl ?_
          refine T_iconst (pc := 69) (v := nI 0) dX12_telling_69 (by decide) ?_
          refine T_istore (pc := 70) (i := 4) (ls' := [some (.ref 572), some (.int ((oN o))), some (.int (nI s)), some (.int (bI b)), some (.int (nI 0))]) dX12_telling_70 (by decide) rfl ?_
          suffices inner : ∀ (v q : Nat), q + v = X.S.length → T γ 9 0 0 M_X12_telling (Rm (some (.int (oN (tlN (exE X) X.S.length (2 ^ X.R.length))))) (fun m => MdN μ m 0)) 0 0 72 [some (.ref 572), some (.int (oN o)), some (.int (nI s)), some (.int (bI (b && alN (fun j => decide (exE X j &&& s ≠ 0)) q))), some (.int (nI q))] [] (rm m) by
            have h9 := inner _ 0 (Nat.zero_add _)
            rw [show (b && alN (fun j => decide (exE X j &&& s ≠ 0)) 0) = b from Bool.and_true b] at h9
            exact h9
          intro v
          induction v with
          | zero =>
            intro q hq
            obtain rfl : q = X.S.length := by omega
            refine T_iload (pc := 72) (i := 4) dX12_telling_72 rfl ?_
            refine T_aload_n (pc := 74) (i := 0) dX12_telling_74 rfl rfl ?_
            refine R_getR (pc := 75) (i := 573) fl_X12_29 rfl kc_572 lc_572 rc_572_1 dX12_telling_75 ?_
            refine T_iconst (pc := 78) (v := nI 2) dX12_telling_78 (by decide) ?_
            refine R_iald (pc := 79) (x := nI X.S.length) kc_573 lc_573 (by omega) (by first | decide | assumption) hXm.2.2.1.1.1 dX12_telling_79 ?_
            refine R_icmp_ge (pc := 80) (tgt := 111) (by omega) (by omega) dX12_telling_80 (by decide) (fun k1 => ?_) (fun k1 => ?_)
            · rw [hb]
              exact t111 X.S.length
            · exact absurd k1 (by omega)
          | succ v ihv =>
            intro q hq
            have hnx := ihv (q + 1) (by omega)
            have ea : (b && alN (fun j => decide (exE X j &&& s ≠ 0)) (q + 1)) = ((b && alN (fun j => decide (exE X j &&& s ≠ 0)) q) && decide (exE X q &&& s ≠ 0)) := by rw [Bool.and_assoc]; rfl
            rw [ea] at hnx
            have hEl : exE X q < 2 ^ X.R.length := exN_lt X.R _ _ X.R.length
            have hal : exE X q &&& s ≤ s := Nat.and_le_right
            obtain ⟨is, his⟩ : ∃ is, (b && alN (fun j => decide (exE X j &&& s ≠ 0)) q) = is := ⟨_, rfl⟩
            rw [his] at hnx ⊢
            refine T_iload (pc := 72) (i := 4) dX12_telling_72 rfl ?_
            refine T_aload_n (pc := 74) (i := 0) dX12_telling_74 rfl rfl ?_
            refine R_getR (pc := 75) (i := 573) fl_X12_29 rfl kc_572 lc_572 rc_572_1 dX12_telling_75 ?_
            refine T_iconst (pc := 78) (v := nI 2) dX12_telling_78 (by decide) ?_
            refine R_iald (pc := 79) (x := nI X.S.length) kc_573 lc_573 (by omega) (by first | decide | assumption) hXm.2.2.1.1.1 dX12_telling_79 ?_
            refine R_icmp_ge (pc := 80) (tgt := 111) (by omega) (by omega) dX12_telling_80 (by decide) (fun k1 => ?_) (fun k1 => ?_)
            · exact absurd k1 (by omega)
            · skip
              refine T_iload_n (pc := 83) (i := 3) dX12_telling_83 rfl rfl ?_
              refine R_ifb_eq (pc := 84) (tgt := 103) dX12_telling_84 (by decide) (fun k2 => ?_) (fun k2 => ?_)
              · skip
                refine T_iconst (pc := 103) (v := nI 0) dX12_telling_103 (by decide) ?_
                refine T_istore_n (pc := 104) (i := 3) (ls' := [some (.ref 572), some (.int ((oN o))), some (.int (nI s)), some (.int (nI 0)), some (.int (nI q))]) dX12_telling_104 rfl (by decide) rfl ?_
                refine R_iinc (pc := 105) (i := 4) (n := 1) (ls' := [some (.ref 572), some (.int ((oN o))), some (.int (nI s)), some (.int (nI 0)), some (.int (nI (q + 1)))]) dX12_telling_105 rfl rfl ?_
                refine T_goto (pc := 108) (tgt := 72) dX12_telling_108 (by decide) ?_
                rw [k2, Bool.false_and] at hnx
                exact hnx
              · skip
                refine T_aload_n (pc := 87) (i := 0) dX12_telling_87 rfl rfl ?_
                refine R_getR (pc := 88) (i := 589) fl_X12_83 rfl kc_572 lc_572 rc_572_44 dX12_telling_88 ?_
                refine T_iload (pc := 91) (i := 4) dX12_telling_91 rfl ?_
                refine R_iald (pc := 93) (x := nI (exE X q)) kc_589 lc_589 (by omega) (by first | decide | assumption) (hE q (by omega)) dX12_telling_93 ?_
                refine T_iload_n (pc := 94) (i := 2) dX12_telling_94 rfl rfl ?_
                refine R_iand (pc := 95) dX12_telling_95 ?_
                refine R_if_eq (pc := 96) (tgt := 103) (by omega) dX12_telling_96 (by decide) (fun k3 => ?_) (fun k3 => ?_)
                · skip
                  refine T_iconst (pc := 103) (v := nI 0) dX12_telling_103 (by decide) ?_
                  refine T_istore_n (pc := 104) (i := 3) (ls' := [some (.ref 572), some (.int ((oN o))), some (.int (nI s)), some (.int (nI 0)), some (.int (nI q))]) dX12_telling_104 rfl (by decide) rfl ?_
                  refine R_iinc (pc := 105) (i := 4) (n := 1) (ls' := [some (.ref 572), some (.int ((oN o))), some (.int (nI s)), some (.int (nI 0)), some (.int (nI (q + 1)))]) dX12_telling_105 rfl rfl ?_
                  refine T_goto (pc := 108) (tgt := 72) dX12_telling_108 (by decide) ?_
                  rw [decide_eq_false (fun z => z k3), Bool.and_false] at hnx
                  exact hnx
                · skip
                  refine T_iconst (pc := 99) (v := nI 1) dX12_telling_99 (by decide) ?_
                  refine T_goto (pc := 100) (tgt := 104) dX12_telling_100 (by decide) ?_
                  refine T_istore_n (pc := 104) (i := 3) (ls' := [some (.ref 572), some (.int ((oN o))), some (.int (nI s)), some (.int (nI 1)), some (.int (nI q))]) dX12_telling_104 rfl (by decide) rfl ?_
                  refine R_iinc (pc := 105) (i := 4) (n := 1) (ls' := [some (.ref 572), some (.int ((oN o))), some (.int (nI s)), some (.int (nI 1)), some (.int (nI (q + 1)))]) dX12_telling_105 rfl rfl ?_
                  refine T_goto (pc := 108) (tgt := 72) dX12_telling_108 (by decide) ?_
                  rw [k2, decide_eq_true k3, Bool.and_true] at hnx
                  exact hnx
        refine T_iload_n (pc := 38) (i := 2) dX12_telling_38 rfl rfl ?_
        refine T_iconst (pc := 39) (v := nI 1) dX12_telling_39 (by decide) ?_
        refine T_aload_n (pc := 40) (i := 0) dX12_telling_40 rfl rfl ?_
        refine R_callV1 (pc := 41) (As := []) (rest := [.int (nI 1), .int (nI s)]) (Or.inl lk_X12_121) mk_X12_rules (m_rules hXm.1) kc_572 ⟨by decide, rfl⟩ lc_572 dX12_telling_41 rfl rfl (Nat.le_of_ble_eq_true rfl) (by decide) rfl (Nat.le_refl _) (Nat.le_refl _) ?_
        refine R_ishl (pc := 44) (by omega) dX12_telling_44 ?_
        refine R_icmp_ge (pc := 45) (tgt := 127) (by omega) (by omega) dX12_telling_45 (by decide) (fun h2 => ?_) (fun h2 => ?_)
        · exact absurd h2 (by omega)
        · skip
          refine T_iload_n (pc := 48) (i := 1) dX12_telling_48 rfl rfl ?_
          cases o with
          | none =>
            show T _ _ _ _ _ _ _ _ 49 [some (.ref 572), some (.int ((-1))), some (.int (nI s)), none, none] [.int ((-1))] (rm m)
            refine T_if_lt (pc := 49) (tgt := 63) dX12_telling_49 (by decide) (fun h3 => ?_) (fun h3 => ?_)
            · skip
              refine T_iconst (pc := 63) (v := nI 1) dX12_telling_63 (by decide) ?_
              refine T_goto (pc := 64) (tgt := 68) dX12_telling_64 (by decide) ?_
              exact t68 true rfl
            · exact absurd (by decide) h3
          | some c =>
            have hc := hob c rfl
            have hpc := pcn_le s 12
            have hpc2 := pcn_le c 12
            show T _ _ _ _ _ _ _ _ 49 [some (.ref 572), some (.int (nI c)), some (.int (nI s)), none, none] [.int (nI c)] (rm m)
            refine R_if_lt (pc := 49) (tgt := 63) (by omega) dX12_telling_49 (by decide) (fun h3 => ?_) (fun h3 => ?_)
            · exact h3.elim
            · skip
              refine T_iload_n (pc := 52) (i := 2) dX12_telling_52 rfl rfl ?_
              refine R_callS1 (pc := 53) (av := [.int (nI s)]) (rest := []) (Or.inl lk_X12_532) mk_J6_bitCount_0f7a4 (c_bitCount (by omega)) dX12_telling_53 rfl rfl (Nat.le_of_ble_eq_true rfl) (by decide) rfl (Nat.le_refl _) (Nat.le_refl _) ?_
              refine T_iload_n (pc := 56) (i := 1) dX12_telling_56 rfl rfl ?_
              refine R_callS1 (pc := 57) (av := [.int (nI c)]) (rest := [.int (nI (pcn s 12))]) (Or.inl lk_X12_532) mk_J6_bitCount_0f7a4 (c_bitCount (by omega)) dX12_telling_57 rfl rfl (Nat.le_of_ble_eq_true rfl) (by decide) rfl (Nat.le_refl _) (Nat.le_refl _) ?_
              refine R_icmp_ge (pc := 60) (tgt := 67) (by omega) (by omega) dX12_telling_60 (by decide) (fun h4 => ?_) (fun h4 => ?_)
              · skip
                refine T_iconst (pc := 67) (v := nI 0) dX12_telling_67 (by decide) ?_
                exact t68 false (decide_eq_false (by omega)).symm
              · skip
                refine T_iconst (pc := 63) (v := nI 1) dX12_telling_63 (by decide) ?_
                refine T_goto (pc := 64) (tgt := 68) dX12_telling_64 (by decide) ?_
                exact t68 true (decide_eq_true (by omega)).symm
    · exact absurd h1 (by omega)
def mkT (F : List Fld) (x y z : Int32) : Nat := if (inB x F.length && inB y (fAt F x.toNatClampNeg).1.length) = true then (if inB z 2 = true then 0 else 2) else 1
def mkI (F : List Fld) (x y z : Int32) : Int32 := if (inB x F.length && inB y (fAt F x.toNatClampNeg).1.length) = true then (if inB z 2 = true then (if z = 0 then (mAt (fAt F x.toNatClampNeg).2.2 y.toNatClampNeg).1 else (mAt (fAt F x.toNatClampNeg).2.2 y.toNatClampNeg).2) else nI 0) else nI 0
theorem m_maker {x y z : Int32} {F : List Fld} (hF : mdF (μ.1 573) F) : Ex γ 4 0 0 M_X12_maker [.ref 572, .int x, .int y, .int z] (rm μ) (Rm (some (.int (mkI F x y z))) (fun m => MdN μ m (mkT F x y z))) := by
  have h6 := hF.1.2
  have hF2 : mdF ((wI μ 572 0 (nI 0)).1 573) F := by rw [w573]; exact hF
  have hn := m_noField (γ := γ) (x := x) hF2
  unfold mkI mkT
  cases ex0 : inB x F.length with
  | false =>
    rw [ex0, Bool.not_false] at hn
    simp only [Bool.false_and, Bool.false_eq_true, if_false]
    refine Ex.of (by decide +kernel) rfl (Nat.le_of_ble_eq_true rfl) ?_
    show T _ _ _ _ _ _ _ _ _ [some (.ref 572), some (.int (x)), some (.int (y)), some (.int (z))] [] (rm μ)
    refine T_aload_n (pc := 0) (i := 0) dX12_maker_0 rfl rfl ?_
    refine T_iconst (pc := 1) (v := nI 0) dX12_maker_1 (by decide) ?_
    refine R_putI (pc := 2) fl_X12_3 ⟨rfl, rfl⟩ (Or.inl rfl) kc_572 lc_572 dX12_maker_2 ?_
    refine T_aload_n (pc := 5) (i := 0) dX12_maker_5 rfl rfl ?_
    refine T_aload_n (pc := 6) (i := 0) dX12_maker_6 rfl rfl ?_
    refine T_iload_n (pc := 7) (i := 1) dX12_maker_7 rfl rfl ?_
    refine R_callV1 (pc := 8) (As := [.int (x)]) (rest := [.ref 572]) (Or.inl lk_X12_376) mk_X12_noField hn kc_572 ⟨by decide, rfl⟩ lc_572 dX12_maker_8 rfl rfl (Nat.le_of_ble_eq_true rfl) (by decide) rfl (Nat.le_refl _) (Nat.le_refl _) ?_
    refine R_ifb_ne (pc := 11) (tgt := 32) dX12_maker_11 (by decide) (fun h1 => ?_) (fun h1 => ?_)
    · skip
      refine T_iconst (pc := 32) (v := nI 1) dX12_maker_32 (by decide) ?_
      refine T_goto (pc := 33) (tgt := 37) dX12_maker_33 (by decide) ?_
      refine T_iconst (pc := 37) (v := nI 1) dX12_maker_37 (by decide) ?_
      refine R_callV1 (pc := 38) (As := [.int (nI 1), .int (nI 1)]) (rest := []) (Or.inl lk_X12_302) mk_X12_throwsIf m_throws1n kc_572 ⟨by decide, rfl⟩ lc_572 dX12_maker_38 rfl rfl (Nat.le_of_ble_eq_true rfl) (by decide) rfl (Nat.le_refl _) (Nat.le_refl _) ?_
      refine R_ifb_ne (pc := 41) (tgt := 66) dX12_maker_41 (by decide) (fun h2 => ?_) (fun h2 => ?_)
      · skip
        refine T_iconst (pc := 66) (v := nI 0) dX12_maker_66 (by decide) ?_
        exact T_iret (pc := 67) (ty := .int) dX12_maker_67 rfl rfl (Nat.le_refl _) (Nat.le_refl _) ⟨_, rfl, rfl, Tn.two.n⟩
      · exact absurd h2 (by decide)
    · exact absurd h1 (by decide)
  | true =>
    rw [ex0, Bool.not_true] at hn
    obtain ⟨k, hk, rfl⟩ := inB_of (by omega) ex0
    rw [nI_clamp (n := k) (by omega)]
    have hf := hF.2 k hk
    obtain ⟨f, ef⟩ : ∃ f, fAt F k = f := ⟨_, rfl⟩
    have hco := m_meadow (γ := γ) hF2 hk
    rw [ef] at hf hco ⊢
    have h20 := hf.1.1.1
    rw [Bool.true_and]
    refine Ex.of (by decide +kernel) rfl (Nat.le_of_ble_eq_true rfl) ?_
    show T _ _ _ _ _ _ _ _ _ [some (.ref 572), some (.int (nI k)), some (.int (y)), some (.int (z))] [] (rm μ)
    refine T_aload_n (pc := 0) (i := 0) dX12_maker_0 rfl rfl ?_
    refine T_iconst (pc := 1) (v := nI 0) dX12_maker_1 (by decide) ?_
    refine R_putI (pc := 2) fl_X12_3 ⟨rfl, rfl⟩ (Or.inl rfl) kc_572 lc_572 dX12_maker_2 ?_
    refine T_aload_n (pc := 5) (i := 0) dX12_maker_5 rfl rfl ?_
    refine T_aload_n (pc := 6) (i := 0) dX12_maker_6 rfl rfl ?_
    refine T_iload_n (pc := 7) (i := 1) dX12_maker_7 rfl rfl ?_
    refine R_callV1 (pc := 8) (As := [.int (nI k)]) (rest := [.ref 572]) (Or.inl lk_X12_376) mk_X12_noField hn kc_572 ⟨by decide, rfl⟩ lc_572 dX12_maker_8 rfl rfl (Nat.le_of_ble_eq_true rfl) (by decide) rfl (Nat.le_refl _) (Nat.le_refl _) ?_
    refine R_ifb_ne (pc := 11) (tgt := 32) dX12_maker_11 (by decide) (fun h1 => ?_) (fun h1 => ?_)
    · exact absurd h1 (by decide)
    · skip
      refine T_iload_n (pc := 14) (i := 2) dX12_maker_14 rfl rfl ?_
      refine T_iconst (pc := 15) (v := nI 0) dX12_maker_15 (by decide) ?_
      refine T_aload_n (pc := 16) (i := 0) dX12_maker_16 rfl rfl ?_
      refine T_iload_n (pc := 17) (i := 1) dX12_maker_17 rfl rfl ?_
      refine R_callV1 (pc := 18) (As := [.int (nI k)]) (rest := [.int (nI 0), .int (y), .ref 572]) (Or.inl lk_X12_379) mk_X12_meadow hco kc_572 ⟨by decide, rfl⟩ lc_572 dX12_maker_18 rfl rfl (Nat.le_of_ble_eq_true rfl) (by decide) rfl (Nat.le_refl _) (Nat.le_refl _) ?_
      refine R_callS1 (pc := 21) (av := [.long (lN (cd f.1))]) (rest := [.int (nI 0), .int (y), .ref 572]) (Or.inl lk_X12_13) mk_X12_size (m_size hf.1.1) dX12_maker_21 rfl rfl (Nat.le_of_ble_eq_true rfl) (by decide) rfl (Nat.le_refl _) (Nat.le_refl _) ?_
      refine T_iconst (pc := 24) (v := nI 1) dX12_maker_24 (by decide) ?_
      refine T_isub (pc := 25) dX12_maker_25 ?_
      refine R_callS1 (pc := 26) (av := [.int (y), .int (nI 0), .int (((nI f.1.length) - (nI 1)))]) (rest := [.ref 572]) (Or.inl lk_X12_125) mk_X12_in m_in dX12_maker_26 rfl rfl (Nat.le_of_ble_eq_true rfl) (by decide) rfl (Nat.le_refl _) (Nat.le_refl _) ?_
      rw [in_inB (by omega)]
      cases ey0 : inB y f.1.length with
      | false =>
        simp only [Bool.false_eq_true, if_false]
        refine R_ifb_ne (pc := 29) (tgt := 36) dX12_maker_29 (by decide) (fun h3 => ?_) (fun h3 => ?_)
        · exact absurd h3 (by decide)
        · skip
          refine T_iconst (pc := 32) (v := nI 1) dX12_maker_32 (by decide) ?_
          refine T_goto (pc := 33) (tgt := 37) dX12_maker_33 (by decide) ?_
          refine T_iconst (pc := 37) (v := nI 1) dX12_maker_37 (by decide) ?_
          refine R_callV1 (pc := 38) (As := [.int (nI 1), .int (nI 1)]) (rest := []) (Or.inl lk_X12_302) mk_X12_throwsIf m_throws1n kc_572 ⟨by decide, rfl⟩ lc_572 dX12_maker_38 rfl rfl (Nat.le_of_ble_eq_true rfl) (by decide) rfl (Nat.le_refl _) (Nat.le_refl _) ?_
          refine R_ifb_ne (pc := 41) (tgt := 66) dX12_maker_41 (by decide) (fun h2 => ?_) (fun h2 => ?_)
          · skip
            refine T_iconst (pc := 66) (v := nI 0) dX12_maker_66 (by decide) ?_
            exact T_iret (pc := 67) (ty := .int) dX12_maker_67 rfl rfl (Nat.le_refl _) (Nat.le_refl _) ⟨_, rfl, rfl, Tn.two.n⟩
          · exact absurd h2 (by decide)
      | true =>
        obtain ⟨p, hp, rfl⟩ := inB_of (by omega) ey0
        have hm := hf.2.2.2 p hp
        simp only [if_true]
        rw [nI_clamp (n := p) (by omega)]
        refine R_ifb_ne (pc := 29) (tgt := 36) dX12_maker_29 (by decide) (fun h3 => ?_) (fun h3 => ?_)
        · skip
          refine T_iconst (pc := 36) (v := nI 0) dX12_maker_36 (by decide) ?_
          refine T_iconst (pc := 37) (v := nI 1) dX12_maker_37 (by decide) ?_
          refine R_callV1 (pc := 38) (As := [.int (nI 0), .int (nI 1)]) (rest := []) (Or.inl lk_X12_302) mk_X12_throwsIf m_throws0n kc_572 ⟨by decide, rfl⟩ lc_572 dX12_maker_38 rfl rfl (Nat.le_of_ble_eq_true rfl) (by decide) rfl (Nat.le_refl _) (Nat.le_refl _) ?_
          refine R_ifb_ne (pc := 41) (tgt := 66) dX12_maker_41 (by decide) (fun h2 => ?_) (fun h2 => ?_)
          · exact absurd h2 (by decide)
          · skip
            refine T_aload_n (pc := 44) (i := 0) dX12_maker_44 rfl rfl ?_
            refine T_iload_n (pc := 45) (i := 3) dX12_maker_45 rfl rfl ?_
            refine T_iconst (pc := 46) (v := nI 0) dX12_maker_46 (by decide) ?_
            refine T_iconst (pc := 47) (v := nI 1) dX12_maker_47 (by decide) ?_
            refine R_callS1 (pc := 48) (av := [.int (z), .int (nI 0), .int (nI 1)]) (rest := [.ref 572]) (Or.inl lk_X12_125) mk_X12_in m_in dX12_maker_48 rfl rfl (Nat.le_of_ble_eq_true rfl) (by decide) rfl (Nat.le_refl _) (Nat.le_refl _) ?_
            rw [in2]
            cases ez0 : inB z 2 with
            | false =>
              simp only [Bool.false_eq_true, if_false]
              refine R_ifb_ne (pc := 51) (tgt := 58) dX12_maker_51 (by decide) (fun h4 => ?_) (fun h4 => ?_)
              · exact absurd h4 (by decide)
              · skip
                refine T_iconst (pc := 54) (v := nI 1) dX12_maker_54 (by decide) ?_
                refine T_goto (pc := 55) (tgt := 59) dX12_maker_55 (by decide) ?_
                refine T_iconst (pc := 59) (v := nI 2) dX12_maker_59 (by decide) ?_
                refine R_callV1 (pc := 60) (As := [.int (nI 1), .int (nI 2)]) (rest := []) (Or.inl lk_X12_302) mk_X12_throwsIf m_throws1n kc_572 ⟨by decide, rfl⟩ lc_572 dX12_maker_60 rfl rfl (Nat.le_of_ble_eq_true rfl) (by decide) rfl (Nat.le_refl _) (Nat.le_refl _) ?_
                refine R_ifb_eq (pc := 63) (tgt := 68) dX12_maker_63 (by decide) (fun h5 => ?_) (fun h5 => ?_)
                · exact absurd h5 (by decide)
                · skip
                  refine T_iconst (pc := 66) (v := nI 0) dX12_maker_66 (by decide) ?_
                  exact T_iret (pc := 67) (ty := .int) dX12_maker_67 rfl rfl (Nat.le_refl _) (Nat.le_refl _) ⟨_, rfl, rfl, Tn.two.n⟩
            | true =>
              obtain ⟨q, hq, rfl⟩ := inB_of (by omega) ez0
              simp only [if_true]
              have ev : μ.1 573 (41 + 43 * k + 3 + 2 * p + q) = if nI q = 0 then (mAt f.2.2 p).1 else (mAt f.2.2 p).2 := by
                have hq2 : q = 0 ∨ q = 1 := by omega
                rcases hq2 with rfl | rfl
                · rw [if_pos (show nI 0 = 0 from rfl)]
                  exact hm.1
                · rw [if_neg (by decide)]
                  exact hm.2
              rw [← ev]
              refine R_ifb_ne (pc := 51) (tgt := 58) dX12_maker_51 (by decide) (fun h4 => ?_) (fun h4 => ?_)
              · skip
                refine T_iconst (pc := 58) (v := nI 0) dX12_maker_58 (by decide) ?_
                refine T_iconst (pc := 59) (v := nI 2) dX12_maker_59 (by decide) ?_
                refine R_callV1 (pc := 60) (As := [.int (nI 0), .int (nI 2)]) (rest := []) (Or.inl lk_X12_302) mk_X12_throwsIf m_throws0n kc_572 ⟨by decide, rfl⟩ lc_572 dX12_maker_60 rfl rfl (Nat.le_of_ble_eq_true rfl) (by decide) rfl (Nat.le_refl _) (Nat.le_refl _) ?_
                refine R_ifb_eq (pc := 63) (tgt := 68) dX12_maker_63 (by decide) (fun h5 => ?_) (fun h5 => ?_)
                · skip
                  refine T_aload_n (pc := 68) (i := 0) dX12_maker_68 rfl rfl ?_
                  refine R_getR (pc := 69) (i := 573) fl_X12_29 rfl kc_572 lc_572 rc_572_1 dX12_maker_69 ?_
                  refine T_iload_n (pc := 72) (i := 1) dX12_maker_72 rfl rfl ?_
                  refine R_callS1 (pc := 73) (av := [.int (nI k)]) (rest := [.ref 573]) (Or.inl lk_X12_114) mk_X12_at m_at dX12_maker_73 rfl rfl (Nat.le_of_ble_eq_true rfl) (by decide) rfl (Nat.le_refl _) (Nat.le_refl _) ?_
                  refine T_iconst (pc := 76) (v := nI 3) dX12_maker_76 (by decide) ?_
                  refine R_iadd (pc := 77) dX12_maker_77 ?_
                  refine T_iconst (pc := 78) (v := nI 2) dX12_maker_78 (by decide) ?_
                  refine T_iload_n (pc := 79) (i := 2) dX12_maker_79 rfl rfl ?_
                  refine R_imul (pc := 80) dX12_maker_80 ?_
                  refine R_iadd (pc := 81) dX12_maker_81 ?_
                  refine T_iload_n (pc := 82) (i := 3) dX12_maker_82 rfl rfl ?_
                  refine R_iadd (pc := 83) dX12_maker_83 ?_
                  refine R_iald (pc := 84) (x := (μ.1 573 (41 + 43 * k + 3 + 2 * p + q))) kc_573 lc_573 (by omega) (by first | decide | assumption) (n_wI (by omega)) dX12_maker_84 ?_
                  exact T_iret (pc := 85) (ty := .int) dX12_maker_85 rfl rfl (Nat.le_refl _) (Nat.le_refl _) ⟨_, rfl, rfl, Tn.one.n⟩
                · exact absurd h5 (by decide)
              · exact absurd h4 (by decide)
        · exact absurd h3 (by decide)
end MK1

