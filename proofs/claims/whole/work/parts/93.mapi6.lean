/-! THE MODEL: fits, settles, alike -/
/-- what a call that only looks leaves: all that lasts; t: what was thrown -/
def Fz (j : Nat) : Prop := j ≠ 5 ∧ j ≠ 6 ∧ j ≠ 8 ∧ j ≠ 13
def Sz (k : Nat) : Prop := k = 575 ∨ (578 ≤ k ∧ k ≤ 593)
def MdN (μ m : SM2) (t : Nat) : Prop := m.1 572 0 = nI t ∧ OfS (fun k => k = 572 ∨ Sz k) μ m ∧ ∀ j, ¬ Fz j → m.1 572 j = μ.1 572 j
theorem Tn.n {μ m : SM2} {t : Nat} (h : Tn μ m t) : MdN μ m t := ⟨h.1.1, h.2.mono (fun k hk => Or.inl hk), fun j hj => h.1.2 j (fun z => hj (by unfold Fz; omega))⟩
theorem MdN.of {F S : Nat → Prop} {μ m : SM2} {t : Nat} (g : OfM F S (wI μ 572 0 (nI t)) m) (h0 : ¬ F 0) (hF : ∀ j, F j → Fz j) (hS : ∀ k, S k → Sz k) : MdN μ m t :=
  ⟨(g.fi h0).trans (e_wI ⟨rfl, rfl⟩), (OfS.sI (OfS.refl _ _) (Or.inl rfl)).trans (g.mono hF hS).1, fun j hj => (g.fi (fun z => hj (hF j z))).trans (n_wI (Or.inr (fun z => hj (by unfold Fz; omega))))⟩
theorem Fs_Fz {j : Nat} (h : Fs j) : Fz j := by unfold Fs at h; unfold Fz; omega
theorem F67_Fz {j : Nat} (h : j = 16 ∨ j = 17) : Fz j := by unfold Fz; omega
theorem S9_Sz {k : Nat} (h : S9 k) : Sz k := by unfold S9 at h; unfold Sz; omega
def Fa (j : Nat) : Prop := j = 16 ∨ j = 17 ∨ Fs j
theorem Fa_Fz {j : Nat} (h : Fa j) : Fz j := by unfold Fa Fs at h; unfold Fz; omega
/-- 0, or the first that does not hold: 1, 2 -/
def mT2 (a b : Bool) : Nat := if a = true then (if b = true then 0 else 2) else 1
def mT1 (a : Bool) : Nat := if a = true then 0 else 1
section MP1
variable {γ : Ga} {μ : SM2}
theorem m_isCodeE {x : Int64} {b : Bool} (e : codeB x = b) : Ex γ 4 0 0 M_X12_isCode [.long x] (rm μ) (Fn (some (.int (bI b))) μ) := by
  rw [← e]
  exact m_isCode
theorem m_inK {y : Int32} {a b : Nat} : Ex γ 1 0 0 M_X12_in [.int y, .int (nI a), .int (nI b)] (rm μ) (Fn (some (.int (bI (chkN y a b)))) μ) := m_in
theorem m_fits {x : Int64} {y z : Int32} {X : Td} {LL : List (List Int32)} (hX : mdT (μ.1 573) X) (hL : LawM (μ.1 573) LL) : Ex γ 9 0 0 M_X12_fits [.ref 572, .long x, .int y, .int z] (rm μ) (Rm (some (.int (bI (inB y X.R.length && (codeB x && fitZ X.R (wOf X LL) (ml x) y.toNatClampNeg z))))) (fun m => MdN μ m (mT2 (inB y X.R.length) (codeB x)))) := by
  have h12 := hX.1.1.2
  have hX2 : mdT ((wI μ 572 0 (nI 0)).1 573) X := by rw [w573]; exact hX
  have hL2 : LawM ((wI μ 572 0 (nI 0)).1 573) LL := by rw [w573]; exact hL
  have hn := m_noRule (γ := γ) (x := y) hX2.1
  cases e : inB y X.R.length with
  | false =>
    rw [e, Bool.not_false] at hn
    rw [Bool.false_and]
    refine Ex.of (by decide +kernel) rfl (Nat.le_of_ble_eq_true rfl) ?_
    show T _ _ _ _ _ _ _ _ _ [some (.ref 572), some (.long (x)), none, some (.int (y)), some (.int (z))] [] (rm μ)
    refine T_aload_n (pc := 0) (i := 0) dX12_fits_0 rfl rfl ?_
    refine T_iconst (pc := 1) (v := nI 0) dX12_fits_1 (by decide) ?_
    refine R_putI (pc := 2) fl_X12_3 ⟨rfl, rfl⟩ (Or.inl rfl) kc_572 lc_572 dX12_fits_2 ?_
    refine T_aload_n (pc := 5) (i := 0) dX12_fits_5 rfl rfl ?_
    refine T_aload_n (pc := 6) (i := 0) dX12_fits_6 rfl rfl ?_
    refine T_iload_n (pc := 7) (i := 3) dX12_fits_7 rfl rfl ?_
    refine R_callV1 (pc := 8) (As := [.int (y)]) (rest := [.ref 572]) (Or.inl lk_X12_373) mk_X12_noRule hn kc_572 ⟨by decide, rfl⟩ lc_572 dX12_fits_8 rfl rfl (Nat.le_of_ble_eq_true rfl) (by decide) rfl (Nat.le_refl _) (Nat.le_refl _) ?_
    refine T_iconst (pc := 11) (v := nI 1) dX12_fits_11 (by decide) ?_
    refine R_callV1 (pc := 12) (As := [.int (bI true), .int (nI 1)]) (rest := []) (Or.inl lk_X12_302) mk_X12_throwsIf m_throws1 kc_572 ⟨by decide, rfl⟩ lc_572 dX12_fits_12 rfl rfl (Nat.le_of_ble_eq_true rfl) (by decide) rfl (Nat.le_refl _) (Nat.le_refl _) ?_
    refine R_ifb_ne (pc := 15) (tgt := 38) dX12_fits_15 (by decide) (fun h1 => ?_) (fun h1 => ?_)
    · skip
      refine T_iconst (pc := 38) (v := nI 0) dX12_fits_38 (by decide) ?_
      exact T_iret (pc := 39) (ty := .boolean) dX12_fits_39 rfl (by decide) (Nat.le_refl _) (Nat.le_refl _) ⟨_, rfl, rfl, Tn.two.n⟩
    · exact absurd h1 (by decide)
  | true =>
    rw [e, Bool.not_true] at hn
    obtain ⟨k, hk, rfl⟩ := inB_of (by omega) e
    rw [Bool.true_and, nI_clamp (n := k) (by omega)]
    cases e2 : codeB x with
    | false =>
      rw [Bool.false_and]
      refine Ex.of (by decide +kernel) rfl (Nat.le_of_ble_eq_true rfl) ?_
      show T _ _ _ _ _ _ _ _ _ [some (.ref 572), some (.long (x)), none, some (.int (nI k)), some (.int (z))] [] (rm μ)
      refine T_aload_n (pc := 0) (i := 0) dX12_fits_0 rfl rfl ?_
      refine T_iconst (pc := 1) (v := nI 0) dX12_fits_1 (by decide) ?_
      refine R_putI (pc := 2) fl_X12_3 ⟨rfl, rfl⟩ (Or.inl rfl) kc_572 lc_572 dX12_fits_2 ?_
      refine T_aload_n (pc := 5) (i := 0) dX12_fits_5 rfl rfl ?_
      refine T_aload_n (pc := 6) (i := 0) dX12_fits_6 rfl rfl ?_
      refine T_iload_n (pc := 7) (i := 3) dX12_fits_7 rfl rfl ?_
      refine R_callV1 (pc := 8) (As := [.int (nI k)]) (rest := [.ref 572]) (Or.inl lk_X12_373) mk_X12_noRule hn kc_572 ⟨by decide, rfl⟩ lc_572 dX12_fits_8 rfl rfl (Nat.le_of_ble_eq_true rfl) (by decide) rfl (Nat.le_refl _) (Nat.le_refl _) ?_
      refine T_iconst (pc := 11) (v := nI 1) dX12_fits_11 (by decide) ?_
      refine R_callV1 (pc := 12) (As := [.int (bI false), .int (nI 1)]) (rest := []) (Or.inl lk_X12_302) mk_X12_throwsIf m_throws0 kc_572 ⟨by decide, rfl⟩ lc_572 dX12_fits_12 rfl rfl (Nat.le_of_ble_eq_true rfl) (by decide) rfl (Nat.le_refl _) (Nat.le_refl _) ?_
      refine R_ifb_ne (pc := 15) (tgt := 38) dX12_fits_15 (by decide) (fun h1 => ?_) (fun h1 => ?_)
      · exact absurd h1 (by decide)
      · skip
        refine T_aload_n (pc := 18) (i := 0) dX12_fits_18 rfl rfl ?_
        refine T_lload_n (pc := 19) (i := 1) dX12_fits_19 rfl rfl ?_
        refine R_callS1 (pc := 20) (av := [.long (x)]) (rest := [.ref 572]) (Or.inl lk_X12_382) mk_X12_isCode (m_isCodeE e2) dX12_fits_20 rfl rfl (Nat.le_of_ble_eq_true rfl) (by decide) rfl (Nat.le_refl _) (Nat.le_refl _) ?_
        refine R_ifb_ne (pc := 23) (tgt := 30) dX12_fits_23 (by decide) (fun h2 => ?_) (fun h2 => ?_)
        · exact absurd h2 (by decide)
        · skip
          refine T_iconst (pc := 26) (v := nI 1) dX12_fits_26 (by decide) ?_
          refine T_goto (pc := 27) (tgt := 31) dX12_fits_27 (by decide) ?_
          refine T_iconst (pc := 31) (v := nI 2) dX12_fits_31 (by decide) ?_
          refine R_callV1 (pc := 32) (As := [.int (nI 1), .int (nI 2)]) (rest := []) (Or.inl lk_X12_302) mk_X12_throwsIf m_throws1n kc_572 ⟨by decide, rfl⟩ lc_572 dX12_fits_32 rfl rfl (Nat.le_of_ble_eq_true rfl) (by decide) rfl (Nat.le_refl _) (Nat.le_refl _) ?_
          refine R_ifb_eq (pc := 35) (tgt := 40) dX12_fits_35 (by decide) (fun h3 => ?_) (fun h3 => ?_)
          · exact absurd h3 (by decide)
          · skip
            refine T_iconst (pc := 38) (v := nI 0) dX12_fits_38 (by decide) ?_
            exact T_iret (pc := 39) (ty := .boolean) dX12_fits_39 rfl (by decide) (Nat.le_refl _) (Nat.le_refl _) ⟨_, rfl, rfl, Tn.two.n⟩
    | true =>
      rw [Bool.true_and]
      obtain ⟨l, hl, rfl⟩ := codeB_iff.mp e2
      rw [ml_cd hl]
      refine Ex.of (by decide +kernel) rfl (Nat.le_of_ble_eq_true rfl) ?_
      show T _ _ _ _ _ _ _ _ _ [some (.ref 572), some (.long (lN (cd l))), none, some (.int (nI k)), some (.int (z))] [] (rm μ)
      refine T_aload_n (pc := 0) (i := 0) dX12_fits_0 rfl rfl ?_
      refine T_iconst (pc := 1) (v := nI 0) dX12_fits_1 (by decide) ?_
      refine R_putI (pc := 2) fl_X12_3 ⟨rfl, rfl⟩ (Or.inl rfl) kc_572 lc_572 dX12_fits_2 ?_
      refine T_aload_n (pc := 5) (i := 0) dX12_fits_5 rfl rfl ?_
      refine T_aload_n (pc := 6) (i := 0) dX12_fits_6 rfl rfl ?_
      refine T_iload_n (pc := 7) (i := 3) dX12_fits_7 rfl rfl ?_
      refine R_callV1 (pc := 8) (As := [.int (nI k)]) (rest := [.ref 572]) (Or.inl lk_X12_373) mk_X12_noRule hn kc_572 ⟨by decide, rfl⟩ lc_572 dX12_fits_8 rfl rfl (Nat.le_of_ble_eq_true rfl) (by decide) rfl (Nat.le_refl _) (Nat.le_refl _) ?_
      refine T_iconst (pc := 11) (v := nI 1) dX12_fits_11 (by decide) ?_
      refine R_callV1 (pc := 12) (As := [.int (bI false), .int (nI 1)]) (rest := []) (Or.inl lk_X12_302) mk_X12_throwsIf m_throws0 kc_572 ⟨by decide, rfl⟩ lc_572 dX12_fits_12 rfl rfl (Nat.le_of_ble_eq_true rfl) (by decide) rfl (Nat.le_refl _) (Nat.le_refl _) ?_
      refine R_ifb_ne (pc := 15) (tgt := 38) dX12_fits_15 (by decide) (fun h1 => ?_) (fun h1 => ?_)
      · exact absurd h1 (by decide)
      · skip
        refine T_aload_n (pc := 18) (i := 0) dX12_fits_18 rfl rfl ?_
        refine T_lload_n (pc := 19) (i := 1) dX12_fits_19 rfl rfl ?_
        refine R_callS1 (pc := 20) (av := [.long (lN (cd l))]) (rest := [.ref 572]) (Or.inl lk_X12_382) mk_X12_isCode (m_isCodeE e2) dX12_fits_20 rfl rfl (Nat.le_of_ble_eq_true rfl) (by decide) rfl (Nat.le_refl _) (Nat.le_refl _) ?_
        refine R_ifb_ne (pc := 23) (tgt := 30) dX12_fits_23 (by decide) (fun h2 => ?_) (fun h2 => ?_)
        · skip
          refine T_iconst (pc := 30) (v := nI 0) dX12_fits_30 (by decide) ?_
          refine T_iconst (pc := 31) (v := nI 2) dX12_fits_31 (by decide) ?_
          refine R_callV1 (pc := 32) (As := [.int (nI 0), .int (nI 2)]) (rest := []) (Or.inl lk_X12_302) mk_X12_throwsIf m_throws0n kc_572 ⟨by decide, rfl⟩ lc_572 dX12_fits_32 rfl rfl (Nat.le_of_ble_eq_true rfl) (by decide) rfl (Nat.le_refl _) (Nat.le_refl _) ?_
          refine R_ifb_eq (pc := 35) (tgt := 40) dX12_fits_35 (by decide) (fun h3 => ?_) (fun h3 => ?_)
          · skip
            refine T_aload_n (pc := 40) (i := 0) dX12_fits_40 rfl rfl ?_
            refine R_callVm0 (pc := 41) (As := []) (rest := []) (Or.inl lk_X12_386) mk_X12_asTold (m_asTold hX2 hL2) kc_572 ⟨by decide, rfl⟩ lc_572 dX12_fits_41 rfl rfl (Nat.le_of_ble_eq_true rfl) (by decide) rfl (Nat.le_refl _) (Nat.le_refl _) (fun m h => ?_)
            obtain ⟨hE, hO⟩ := h
            refine T_aload_n (pc := 44) (i := 0) dX12_fits_44 rfl rfl ?_
            refine T_lload_n (pc := 45) (i := 1) dX12_fits_45 rfl rfl ?_
            refine T_iload_n (pc := 46) (i := 3) dX12_fits_46 rfl rfl ?_
            refine T_iload (pc := 47) (i := 4) dX12_fits_47 rfl ?_
            refine R_callVm1 (pc := 49) (As := [.long (lN (cd l)), .int (nI k), .int (z)]) (rest := []) (Or.inl lk_X12_339) mk_X12_isFit (m_isFitZ hE hl hk) kc_572 ⟨by decide, rfl⟩ lc_572 dX12_fits_49 rfl rfl (Nat.le_of_ble_eq_true rfl) (by decide) rfl (Nat.le_refl _) (Nat.le_refl _) (fun m2 hO2 => ?_)
            exact T_iret (pc := 52) (ty := .boolean) dX12_fits_52 rfl (nar_b _) (Nat.le_refl _) (Nat.le_refl _) ⟨_, rfl, rfl, MdN.of (F := Fa) (S := S9) ((hO.mono (fun j hj => hj.elim Or.inl (fun z => Or.inr (Or.inl z))) (fun k z => z.elim)).trans hO2.k) (by unfold Fa Fs; omega) (fun j => Fa_Fz) (fun k => S9_Sz)⟩
          · exact absurd h3 (by decide)
        · exact absurd h2 (by decide)
theorem m_settles {x : Int64} {y : Int32} {b : Bool} {X : Td} {LL : List (List Int32)} (hX : mdT (μ.1 573) X) (hL : LawM (μ.1 573) LL) : Ex γ 13 0 0 M_X12_settles [.ref 572, .long x, .int y, .int (bI b)] (rm μ) (Rm (some (.long (if (codeB x && chkN y 0 500) = true then setV (stl (nxR X.R (wOf X LL)) y.toNatClampNeg (ml x)) b else lN 0))) (fun m => MdN μ m (mT1 (codeB x && chkN y 0 500)))) := by
  have hX2 : mdT ((wI μ 572 0 (nI 0)).1 573) X := by rw [w573]; exact hX
  have hL2 : LawM ((wI μ 572 0 (nI 0)).1 573) LL := by rw [w573]; exact hL
  cases e2 : codeB x with
  | false =>
    rw [Bool.false_and, if_neg Bool.false_ne_true]
    refine Ex.of (by decide +kernel) rfl (Nat.le_of_ble_eq_true rfl) ?_
    show T _ _ _ _ _ _ _ _ _ [some (.ref 572), some (.long (x)), none, some (.int (y)), some (.int (bI b))] [] (rm μ)
    refine T_aload_n (pc := 0) (i := 0) dX12_settles_0 rfl rfl ?_
    refine T_iconst (pc := 1) (v := nI 0) dX12_settles_1 (by decide) ?_
    refine R_putI (pc := 2) fl_X12_3 ⟨rfl, rfl⟩ (Or.inl rfl) kc_572 lc_572 dX12_settles_2 ?_
    refine T_aload_n (pc := 5) (i := 0) dX12_settles_5 rfl rfl ?_
    refine T_lload_n (pc := 6) (i := 1) dX12_settles_6 rfl rfl ?_
    refine R_callS1 (pc := 7) (av := [.long (x)]) (rest := [.ref 572]) (Or.inl lk_X12_382) mk_X12_isCode (m_isCodeE e2) dX12_settles_7 rfl rfl (Nat.le_of_ble_eq_true rfl) (by decide) rfl (Nat.le_refl _) (Nat.le_refl _) ?_
    refine R_ifb_eq (pc := 10) (tgt := 24) dX12_settles_10 (by decide) (fun h1 => ?_) (fun h1 => ?_)
    · skip
      refine T_iconst (pc := 24) (v := nI 1) dX12_settles_24 (by decide) ?_
      refine T_goto (pc := 25) (tgt := 29) dX12_settles_25 (by decide) ?_
      refine T_iconst (pc := 29) (v := nI 1) dX12_settles_29 (by decide) ?_
      refine R_callV1 (pc := 30) (As := [.int (nI 1), .int (nI 1)]) (rest := []) (Or.inl lk_X12_302) mk_X12_throwsIf m_throws1n kc_572 ⟨by decide, rfl⟩ lc_572 dX12_settles_30 rfl rfl (Nat.le_of_ble_eq_true rfl) (by decide) rfl (Nat.le_refl _) (Nat.le_refl _) ?_
      refine R_ifb_eq (pc := 33) (tgt := 38) dX12_settles_33 (by decide) (fun h3 => ?_) (fun h3 => ?_)
      · exact absurd h3 (by decide)
      · skip
        refine T_lconst (pc := 36) (v := lN 0) dX12_settles_36 rfl ?_
        exact T_lret dX12_settles_37 rfl (Nat.le_refl _) (Nat.le_refl _) ⟨_, rfl, rfl, Tn.two.n⟩
    · exact absurd h1 (by decide)
  | true =>
    obtain ⟨l, hl, rfl⟩ := codeB_iff.mp e2
    rw [Bool.true_and, ml_cd hl]
    refine Ex.of (by decide +kernel) rfl (Nat.le_of_ble_eq_true rfl) ?_
    show T _ _ _ _ _ _ _ _ _ [some (.ref 572), some (.long (lN (cd l))), none, some (.int (y)), some (.int (bI b))] [] (rm μ)
    refine T_aload_n (pc := 0) (i := 0) dX12_settles_0 rfl rfl ?_
    refine T_iconst (pc := 1) (v := nI 0) dX12_settles_1 (by decide) ?_
    refine R_putI (pc := 2) fl_X12_3 ⟨rfl, rfl⟩ (Or.inl rfl) kc_572 lc_572 dX12_settles_2 ?_
    refine T_aload_n (pc := 5) (i := 0) dX12_settles_5 rfl rfl ?_
    refine T_lload_n (pc := 6) (i := 1) dX12_settles_6 rfl rfl ?_
    refine R_callS1 (pc := 7) (av := [.long (lN (cd l))]) (rest := [.ref 572]) (Or.inl lk_X12_382) mk_X12_isCode (m_isCodeE e2) dX12_settles_7 rfl rfl (Nat.le_of_ble_eq_true rfl) (by decide) rfl (Nat.le_refl _) (Nat.le_refl _) ?_
    refine R_ifb_eq (pc := 10) (tgt := 24) dX12_settles_10 (by decide) (fun h1 => ?_) (fun h1 => ?_)
    · exact absurd h1 (by decide)
    · skip
      refine T_iload_n (pc := 13) (i := 3) dX12_settles_13 rfl rfl ?_
      refine T_iconst (pc := 14) (v := nI 0) dX12_settles_14 (by decide) ?_
      refine T_sipush (pc := 15) (v := nI 500) dX12_settles_15 (by decide) ?_
      refine R_callS1 (pc := 18) (av := [.int (y), .int (nI 0), .int (nI 500)]) (rest := [.ref 572]) (Or.inl lk_X12_125) mk_X12_in m_inK dX12_settles_18 rfl rfl (Nat.le_of_ble_eq_true rfl) (by decide) rfl (Nat.le_refl _) (Nat.le_refl _) ?_
      cases e : chkN y 0 500 with
      | false =>
        rw [if_neg Bool.false_ne_true]
        show T _ _ _ _ _ _ _ _ 21 [some (.ref 572), some (.long (lN (cd l))), none, some (.int (y)), some (.int (bI b))] [.int (bI false), .ref 572] (rm (wI μ 572 0 (nI 0)))
        refine R_ifb_ne (pc := 21) (tgt := 28) dX12_settles_21 (by decide) (fun h4 => ?_) (fun h4 => ?_)
        · exact absurd h4 (by decide)
        · skip
          refine T_iconst (pc := 24) (v := nI 1) dX12_settles_24 (by decide) ?_
          refine T_goto (pc := 25) (tgt := 29) dX12_settles_25 (by decide) ?_
          refine T_iconst (pc := 29) (v := nI 1) dX12_settles_29 (by decide) ?_
          refine R_callV1 (pc := 30) (As := [.int (nI 1), .int (nI 1)]) (rest := []) (Or.inl lk_X12_302) mk_X12_throwsIf m_throws1n kc_572 ⟨by decide, rfl⟩ lc_572 dX12_settles_30 rfl rfl (Nat.le_of_ble_eq_true rfl) (by decide) rfl (Nat.le_refl _) (Nat.le_refl _) ?_
          refine R_ifb_eq (pc := 33) (tgt := 38) dX12_settles_33 (by decide) (fun h3 => ?_) (fun h3 => ?_)
          · exact absurd h3 (by decide)
          · skip
            refine T_lconst (pc := 36) (v := lN 0) dX12_settles_36 rfl ?_
            exact T_lret dX12_settles_37 rfl (Nat.le_refl _) (Nat.le_refl _) ⟨_, rfl, rfl, Tn.two.n⟩
      | true =>
        obtain ⟨N, hN0, hN, rfl⟩ := chk_of (by decide) (by decide) e
        rw [if_pos (c := true = true) rfl, nI_clamp (n := N) (by omega)]
        show T _ _ _ _ _ _ _ _ 21 [some (.ref 572), some (.long (lN (cd l))), none, some (.int (nI N)), some (.int (bI b))] [.int (bI true), .ref 572] (rm (wI μ 572 0 (nI 0)))
        refine R_ifb_ne (pc := 21) (tgt := 28) dX12_settles_21 (by decide) (fun h4 => ?_) (fun h4 => ?_)
        · skip
          refine T_iconst (pc := 28) (v := nI 0) dX12_settles_28 (by decide) ?_
          refine T_iconst (pc := 29) (v := nI 1) dX12_settles_29 (by decide) ?_
          refine R_callV1 (pc := 30) (As := [.int (nI 0), .int (nI 1)]) (rest := []) (Or.inl lk_X12_302) mk_X12_throwsIf m_throws0n kc_572 ⟨by decide, rfl⟩ lc_572 dX12_settles_30 rfl rfl (Nat.le_of_ble_eq_true rfl) (by decide) rfl (Nat.le_refl _) (Nat.le_refl _) ?_
          refine R_ifb_eq (pc := 33) (tgt := 38) dX12_settles_33 (by decide) (fun h3 => ?_) (fun h3 => ?_)
          · skip
            refine T_aload_n (pc := 38) (i := 0) dX12_settles_38 rfl rfl ?_
            refine R_callVm0 (pc := 39) (As := []) (rest := []) (Or.inl lk_X12_386) mk_X12_asTold (m_asTold hX2 hL2) kc_572 ⟨by decide, rfl⟩ lc_572 dX12_settles_39 rfl rfl (Nat.le_of_ble_eq_true rfl) (by decide) rfl (Nat.le_refl _) (Nat.le_refl _) (fun m h => ?_)
            obtain ⟨hE, hO⟩ := h
            refine T_aload_n (pc := 42) (i := 0) dX12_settles_42 rfl rfl ?_
            refine T_lload_n (pc := 43) (i := 1) dX12_settles_43 rfl rfl ?_
            refine T_iload_n (pc := 44) (i := 3) dX12_settles_44 rfl rfl ?_
            refine T_aload_n (pc := 45) (i := 0) dX12_settles_45 rfl rfl ?_
            refine R_getR (pc := 46) (i := 573) fl_X12_29 rfl kc_572 lc_572 rc_572_1 dX12_settles_46 ?_
            refine T_iconst (pc := 49) (v := nI 5) dX12_settles_49 (by decide) ?_
            refine R_iald (pc := 50) (x := nI X.way) kc_573 lc_573 (by omega) (by first | decide | assumption) ((hO.i (by decide) id 5).trans hX2.2.2.2.2.2.2.1) dX12_settles_50 ?_
            refine R_callVm1 (pc := 51) (As := [.long (lN (cd l)), .int (nI N), .int (nI X.way)]) (rest := []) (Or.inl lk_X12_423) mk_X12_isSettling (m_isSettling hE hl hN) kc_572 ⟨by decide, rfl⟩ lc_572 dX12_settles_51 rfl rfl (Nat.le_of_ble_eq_true rfl) (by decide) rfl (Nat.le_refl _) (Nat.le_refl _) (fun m2 hO2 => ?_)
            have hfin : MdN μ m2 0 := MdN.of (F := Fa) (S := S9) ((hO.mono (fun j hj => hj.elim Or.inl (fun z => Or.inr (Or.inl z))) (fun k z => z.elim)).trans (hO2.2.mono (fun j hj => Or.inr (Or.inr hj)) (fun k hk => hk))) (by unfold Fa Fs; omega) (fun j => Fa_Fz) (fun k => S9_Sz)
            cases e5 : stl (nxR X.R (wOf X LL)) N l with
            | none =>
              show T _ _ _ _ _ _ _ _ 54 [some (.ref 572), some (.long (lN (cd l))), none, some (.int (nI N)), some (.int (bI b))] [.int (bI false)] (rm m2)
              refine R_ifb_ne (pc := 54) (tgt := 61) dX12_settles_54 (by decide) (fun h5 => ?_) (fun h5 => ?_)
              · exact absurd h5 (by decide)
              · skip
                refine T_ldc2 (pc := 57) dX12_settles_57 cn_X12_171 ?_
                exact T_lret dX12_settles_60 rfl (Nat.le_refl _) (Nat.le_refl _) ⟨_, rfl, rfl, hfin⟩
            | some q =>
              obtain ⟨k, t⟩ := q
              have hq := stl_mw hE.1.2.1 hl e5
              have hkN : k ≤ N := hq.2
              have hf := hO2.1 (k, t) e5
              show T _ _ _ _ _ _ _ _ 54 [some (.ref 572), some (.long (lN (cd l))), none, some (.int (nI N)), some (.int (bI b))] [.int (bI true)] (rm m2)
              refine R_ifb_ne (pc := 54) (tgt := 61) dX12_settles_54 (by decide) (fun h5 => ?_) (fun h5 => ?_)
              · skip
                refine T_iload (pc := 61) (i := 4) dX12_settles_61 rfl ?_
                refine R_ifb_eq (pc := 63) (tgt := 73) dX12_settles_63 (by decide) (fun h6 => ?_) (fun h6 => ?_)
                · skip
                  refine T_aload_n (pc := 73) (i := 0) dX12_settles_73 rfl rfl ?_
                  refine R_getI (pc := 74) (x := nI k) fl_X12_367 rfl kc_572 lc_572 hf.1 dX12_settles_74 ?_
                  refine R_i2l (pc := 77) (by omega) dX12_settles_77 ?_
                  subst h6
                  exact T_lret dX12_settles_78 rfl (Nat.le_refl _) (Nat.le_refl _) ⟨_, rfl, rfl, hfin⟩
                · skip
                  refine T_aload_n (pc := 66) (i := 0) dX12_settles_66 rfl rfl ?_
                  refine R_getL (pc := 67) (x := lN (cd t)) fl_X12_363 rfl kc_572 lc_572 hf.2 dX12_settles_67 ?_
                  refine T_goto (pc := 70) (tgt := 78) dX12_settles_70 (by decide) ?_
                  subst h6
                  exact T_lret dX12_settles_78 rfl (Nat.le_refl _) (Nat.le_refl _) ⟨_, rfl, rfl, hfin⟩
              · exact absurd h5 (by decide)
          · exact absurd h3 (by decide)
        · exact absurd h4 (by decide)
theorem m_alike {x y : Int64} {X : Td} {LL : List (List Int32)} (hX : mdT (μ.1 573) X) (hL : LawM (μ.1 573) LL) : Ex γ 13 0 0 M_X12_alike [.ref 572, .long x, .long y] (rm μ) (Rm (some (.int (bI ((codeB x && codeB y) && alkB X.R (wOf X LL) (ml x) (ml y))))) (fun m => MdN μ m (mT1 (codeB x && codeB y)))) := by
  have hX2 : mdT ((wI μ 572 0 (nI 0)).1 573) X := by rw [w573]; exact hX
  have hL2 : LawM ((wI μ 572 0 (nI 0)).1 573) LL := by rw [w573]; exact hL
  cases e2 : codeB x with
  | false =>
    rw [Bool.false_and, Bool.false_and]
    refine Ex.of (by decide +kernel) rfl (Nat.le_of_ble_eq_true rfl) ?_
    show T _ _ _ _ _ _ _ _ _ [some (.ref 572), some (.long (x)), none, some (.long (y)), none, none, none] [] (rm μ)
    refine T_aload_n (pc := 0) (i := 0) dX12_alike_0 rfl rfl ?_
    refine T_iconst (pc := 1) (v := nI 0) dX12_alike_1 (by decide) ?_
    refine R_putI (pc := 2) fl_X12_3 ⟨rfl, rfl⟩ (Or.inl rfl) kc_572 lc_572 dX12_alike_2 ?_
    refine T_aload_n (pc := 5) (i := 0) dX12_alike_5 rfl rfl ?_
    refine T_lload_n (pc := 6) (i := 1) dX12_alike_6 rfl rfl ?_
    refine R_callS1 (pc := 7) (av := [.long (x)]) (rest := [.ref 572]) (Or.inl lk_X12_382) mk_X12_isCode (m_isCodeE e2) dX12_alike_7 rfl rfl (Nat.le_of_ble_eq_true rfl) (by decide) rfl (Nat.le_refl _) (Nat.le_refl _) ?_
    refine R_ifb_eq (pc := 10) (tgt := 20) dX12_alike_10 (by decide) (fun h1 => ?_) (fun h1 => ?_)
    · skip
      refine T_iconst (pc := 20) (v := nI 1) dX12_alike_20 (by decide) ?_
      refine T_goto (pc := 21) (tgt := 25) dX12_alike_21 (by decide) ?_
      refine T_iconst (pc := 25) (v := nI 1) dX12_alike_25 (by decide) ?_
      refine R_callV1 (pc := 26) (As := [.int (nI 1), .int (nI 1)]) (rest := []) (Or.inl lk_X12_302) mk_X12_throwsIf m_throws1n kc_572 ⟨by decide, rfl⟩ lc_572 dX12_alike_26 rfl rfl (Nat.le_of_ble_eq_true rfl) (by decide) rfl (Nat.le_refl _) (Nat.le_refl _) ?_
      refine R_ifb_eq (pc := 29) (tgt := 34) dX12_alike_29 (by decide) (fun h3 => ?_) (fun h3 => ?_)
      · exact absurd h3 (by decide)
      · skip
        refine T_iconst (pc := 32) (v := nI 0) dX12_alike_32 (by decide) ?_
        exact T_iret (pc := 33) (ty := .boolean) dX12_alike_33 rfl (by decide) (Nat.le_refl _) (Nat.le_refl _) ⟨_, rfl, rfl, Tn.two.n⟩
    · exact absurd h1 (by decide)
  | true =>
    obtain ⟨l, hl, rfl⟩ := codeB_iff.mp e2
    rw [Bool.true_and, ml_cd hl]
    cases e3 : codeB y with
    | false =>
      rw [Bool.false_and]
      refine Ex.of (by decide +kernel) rfl (Nat.le_of_ble_eq_true rfl) ?_
      show T _ _ _ _ _ _ _ _ _ [some (.ref 572), some (.long (lN (cd l))), none, some (.long (y)), none, none, none] [] (rm μ)
      refine T_aload_n (pc := 0) (i := 0) dX12_alike_0 rfl rfl ?_
      refine T_iconst (pc := 1) (v := nI 0) dX12_alike_1 (by decide) ?_
      refine R_putI (pc := 2) fl_X12_3 ⟨rfl, rfl⟩ (Or.inl rfl) kc_572 lc_572 dX12_alike_2 ?_
      refine T_aload_n (pc := 5) (i := 0) dX12_alike_5 rfl rfl ?_
      refine T_lload_n (pc := 6) (i := 1) dX12_alike_6 rfl rfl ?_
      refine R_callS1 (pc := 7) (av := [.long (lN (cd l))]) (rest := [.ref 572]) (Or.inl lk_X12_382) mk_X12_isCode (m_isCodeE e2) dX12_alike_7 rfl rfl (Nat.le_of_ble_eq_true rfl) (by decide) rfl (Nat.le_refl _) (Nat.le_refl _) ?_
      refine R_ifb_eq (pc := 10) (tgt := 20) dX12_alike_10 (by decide) (fun h1 => ?_) (fun h1 => ?_)
      · exact absurd h1 (by decide)
      · skip
        refine T_lload_n (pc := 13) (i := 3) dX12_alike_13 rfl rfl ?_
        refine R_callS1 (pc := 14) (av := [.long (y)]) (rest := [.ref 572]) (Or.inl lk_X12_382) mk_X12_isCode (m_isCodeE e3) dX12_alike_14 rfl rfl (Nat.le_of_ble_eq_true rfl) (by decide) rfl (Nat.le_refl _) (Nat.le_refl _) ?_
        refine R_ifb_ne (pc := 17) (tgt := 24) dX12_alike_17 (by decide) (fun h4 => ?_) (fun h4 => ?_)
        · exact absurd h4 (by decide)
        · skip
          refine T_iconst (pc := 20) (v := nI 1) dX12_alike_20 (by decide) ?_
          refine T_goto (pc := 21) (tgt := 25) dX12_alike_21 (by decide) ?_
          refine T_iconst (pc := 25) (v := nI 1) dX12_alike_25 (by decide) ?_
          refine R_callV1 (pc := 26) (As := [.int (nI 1), .int (nI 1)]) (rest := []) (Or.inl lk_X12_302) mk_X12_throwsIf m_throws1n kc_572 ⟨by decide, rfl⟩ lc_572 dX12_alike_26 rfl rfl (Nat.le_of_ble_eq_true rfl) (by decide) rfl (Nat.le_refl _) (Nat.le_refl _) ?_
          refine R_ifb_eq (pc := 29) (tgt := 34) dX12_alike_29 (by decide) (fun h3 => ?_) (fun h3 => ?_)
          · exact absurd h3 (by decide)
          · skip
            refine T_iconst (pc := 32) (v := nI 0) dX12_alike_32 (by decide) ?_
            exact T_iret (pc := 33) (ty := .boolean) dX12_alike_33 rfl (by decide) (Nat.le_refl _) (Nat.le_refl _) ⟨_, rfl, rfl, Tn.two.n⟩
    | true =>
      obtain ⟨d, hd, rfl⟩ := codeB_iff.mp e3
      rw [Bool.true_and, ml_cd hd]
      refine Ex.of (by decide +kernel) rfl (Nat.le_of_ble_eq_true rfl) ?_
      show T _ _ _ _ _ _ _ _ _ [some (.ref 572), some (.long (lN (cd l))), none, some (.long (lN (cd d))), none, none, none] [] (rm μ)
      refine T_aload_n (pc := 0) (i := 0) dX12_alike_0 rfl rfl ?_
      refine T_iconst (pc := 1) (v := nI 0) dX12_alike_1 (by decide) ?_
      refine R_putI (pc := 2) fl_X12_3 ⟨rfl, rfl⟩ (Or.inl rfl) kc_572 lc_572 dX12_alike_2 ?_
      refine T_aload_n (pc := 5) (i := 0) dX12_alike_5 rfl rfl ?_
      refine T_lload_n (pc := 6) (i := 1) dX12_alike_6 rfl rfl ?_
      refine R_callS1 (pc := 7) (av := [.long (lN (cd l))]) (rest := [.ref 572]) (Or.inl lk_X12_382) mk_X12_isCode (m_isCodeE e2) dX12_alike_7 rfl rfl (Nat.le_of_ble_eq_true rfl) (by decide) rfl (Nat.le_refl _) (Nat.le_refl _) ?_
      refine R_ifb_eq (pc := 10) (tgt := 20) dX12_alike_10 (by decide) (fun h1 => ?_) (fun h1 => ?_)
      · exact absurd h1 (by decide)
      · skip
        refine T_lload_n (pc := 13) (i := 3) dX12_alike_13 rfl rfl ?_
        refine R_callS1 (pc := 14) (av := [.long (lN (cd d))]) (rest := [.ref 572]) (Or.inl lk_X12_382) mk_X12_isCode (m_isCodeE e3) dX12_alike_14 rfl rfl (Nat.le_of_ble_eq_true rfl) (by decide) rfl (Nat.le_refl _) (Nat.le_refl _) ?_
        refine R_ifb_ne (pc := 17) (tgt := 24) dX12_alike_17 (by decide) (fun h4 => ?_) (fun h4 => ?_)
        · skip
          refine T_iconst (pc := 24) (v := nI 0) dX12_alike_24 (by decide) ?_
          refine T_iconst (pc := 25) (v := nI 1) dX12_alike_25 (by decide) ?_
          refine R_callV1 (pc := 26) (As := [.int (nI 0), .int (nI 1)]) (rest := []) (Or.inl lk_X12_302) mk_X12_throwsIf m_throws0n kc_572 ⟨by decide, rfl⟩ lc_572 dX12_alike_26 rfl rfl (Nat.le_of_ble_eq_true rfl) (by decide) rfl (Nat.le_refl _) (Nat.le_refl _) ?_
          refine R_ifb_eq (pc := 29) (tgt := 34) dX12_alike_29 (by decide) (fun h3 => ?_) (fun h3 => ?_)
          · skip
            refine T_aload_n (pc := 34) (i := 0) dX12_alike_34 rfl rfl ?_
            refine R_callVm0 (pc := 35) (As := []) (rest := []) (Or.inl lk_X12_386) mk_X12_asTold (m_asTold hX2 hL2) kc_572 ⟨by decide, rfl⟩ lc_572 dX12_alike_35 rfl rfl (Nat.le_of_ble_eq_true rfl) (by decide) rfl (Nat.le_refl _) (Nat.le_refl _) (fun m h => ?_)
            obtain ⟨hE, hO⟩ := h
            refine T_aload_n (pc := 38) (i := 0) dX12_alike_38 rfl rfl ?_
            refine T_lload_n (pc := 39) (i := 1) dX12_alike_39 rfl rfl ?_
            refine T_sipush (pc := 40) (v := nI 200) dX12_alike_40 (by decide) ?_
            refine T_aload_n (pc := 43) (i := 0) dX12_alike_43 rfl rfl ?_
            refine R_getR (pc := 44) (i := 573) fl_X12_29 rfl kc_572 lc_572 rc_572_1 dX12_alike_44 ?_
            refine T_iconst (pc := 47) (v := nI 5) dX12_alike_47 (by decide) ?_
            refine R_iald (pc := 48) (x := nI X.way) kc_573 lc_573 (by omega) (by first | decide | assumption) ((hO.i (by decide) id 5).trans hX2.2.2.2.2.2.2.1) dX12_alike_48 ?_
            refine R_callVm1 (pc := 49) (As := [.long (lN (cd l)), .int (nI 200), .int (nI X.way)]) (rest := []) (Or.inl lk_X12_423) mk_X12_isSettling (m_isSettling hE hl (by decide)) kc_572 ⟨by decide, rfl⟩ lc_572 dX12_alike_49 rfl rfl (Nat.le_of_ble_eq_true rfl) (by decide) rfl (Nat.le_refl _) (Nat.le_refl _) (fun m2 hO2 => ?_)
            have ho2 : OfM Fa S9 (wI μ 572 0 (nI 0)) m2 := (hO.mono (fun j hj => hj.elim Or.inl (fun z => Or.inr (Or.inl z))) (fun k z => z.elim)).trans (hO2.2.mono (fun j hj => Or.inr (Or.inr hj)) (fun k hk => hk))
            cases e5 : stl (nxR X.R (wOf X LL)) 200 l with
            | none =>
              have ea : alkB X.R (wOf X LL) l d = false := by unfold alkB; rw [e5]
              rw [ea]
              show T _ _ _ _ _ _ _ _ 52 [some (.ref 572), some (.long (lN (cd l))), none, some (.long (lN (cd d))), none, none, none] [.int (bI false)] (rm m2)
              refine R_ifb_ne (pc := 52) (tgt := 57) dX12_alike_52 (by decide) (fun h5 => ?_) (fun h5 => ?_)
              · exact absurd h5 (by decide)
              · skip
                refine T_iconst (pc := 55) (v := nI 0) dX12_alike_55 (by decide) ?_
                exact T_iret (pc := 56) (ty := .boolean) dX12_alike_56 rfl (by decide) (Nat.le_refl _) (Nat.le_refl _) ⟨_, rfl, rfl, MdN.of ho2 (by unfold Fa Fs; omega) (fun j => Fa_Fz) (fun k => S9_Sz)⟩
            | some q =>
              obtain ⟨k, t⟩ := q
              have hq := stl_mw hE.1.2.1 hl e5
              have hct : cd t < 2 ^ 61 := cd_lt hq.1
              have hf := hO2.1 (k, t) e5
              have hE2 := hE.k hO2.2 (by unfold Fs; omega) (by unfold Fs; omega)
              have ea : alkB X.R (wOf X LL) l d = stT (nxR X.R (wOf X LL)) 200 d t := by unfold alkB; rw [e5]
              rw [ea]
              show T _ _ _ _ _ _ _ _ 52 [some (.ref 572), some (.long (lN (cd l))), none, some (.long (lN (cd d))), none, none, none] [.int (bI true)] (rm m2)
              refine R_ifb_ne (pc := 52) (tgt := 57) dX12_alike_52 (by decide) (fun h5 => ?_) (fun h5 => ?_)
              · skip
                refine T_aload_n (pc := 57) (i := 0) dX12_alike_57 rfl rfl ?_
                refine R_getL (pc := 58) (x := lN (cd t)) fl_X12_363 rfl kc_572 lc_572 hf.2 dX12_alike_58 ?_
                refine T_lstore (pc := 61) (i := 5) (ls' := [some (.ref 572), some (.long (lN (cd l))), none, some (.long (lN (cd d))), none, some (.long (lN (cd t))), none]) dX12_alike_61 (by decide) rfl ?_
                refine T_aload_n (pc := 63) (i := 0) dX12_alike_63 rfl rfl ?_
                refine T_lload_n (pc := 64) (i := 3) dX12_alike_64 rfl rfl ?_
                refine T_sipush (pc := 65) (v := nI 200) dX12_alike_65 (by decide) ?_
                refine T_aload_n (pc := 68) (i := 0) dX12_alike_68 rfl rfl ?_
                refine R_getR (pc := 69) (i := 573) fl_X12_29 rfl kc_572 lc_572 rc_572_1 dX12_alike_69 ?_
                refine T_iconst (pc := 72) (v := nI 5) dX12_alike_72 (by decide) ?_
                refine R_iald (pc := 73) (x := nI X.way) kc_573 lc_573 (by omega) (by first | decide | assumption) ((hO2.2.i (by decide) (by unfold S9; omega) 5).trans ((hO.i (by decide) id 5).trans hX2.2.2.2.2.2.2.1)) dX12_alike_73 ?_
                refine R_callVm1 (pc := 74) (As := [.long (lN (cd d)), .int (nI 200), .int (nI X.way)]) (rest := []) (Or.inl lk_X12_423) mk_X12_isSettling (m_isSettling hE2 hd (by decide)) kc_572 ⟨by decide, rfl⟩ lc_572 dX12_alike_74 rfl rfl (Nat.le_of_ble_eq_true rfl) (by decide) rfl (Nat.le_refl _) (Nat.le_refl _) (fun m3 hO3 => ?_)
                have ho3 : OfM Fa S9 (wI μ 572 0 (nI 0)) m3 := ho2.trans (hO3.2.mono (fun j hj => Or.inr (Or.inr hj)) (fun k hk => hk))
                have hfin : MdN μ m3 0 := MdN.of ho3 (by unfold Fa Fs; omega) (fun j => Fa_Fz) (fun k => S9_Sz)
                cases e6 : stl (nxR X.R (wOf X LL)) 200 d with
                | none =>
                  have eb : stT (nxR X.R (wOf X LL)) 200 d t = false := by unfold stT; rw [e6]; rfl
                  rw [eb]
                  show T _ _ _ _ _ _ _ _ 77 [some (.ref 572), some (.long (lN (cd l))), none, some (.long (lN (cd d))), none, some (.long (lN (cd t))), none] [.int (bI false)] (rm m3)
                  refine R_ifb_eq (pc := 77) (tgt := 94) dX12_alike_77 (by decide) (fun h6 => ?_) (fun h6 => ?_)
                  · skip
                    refine T_iconst (pc := 94) (v := nI 0) dX12_alike_94 (by decide) ?_
                    exact T_iret (pc := 95) (ty := .boolean) dX12_alike_95 rfl (by decide) (Nat.le_refl _) (Nat.le_refl _) ⟨_, rfl, rfl, hfin⟩
                  · exact absurd h6 (by decide)
                | some q2 =>
                  obtain ⟨k2, t2⟩ := q2
                  have hq2 := stl_mw hE.1.2.1 hd e6
                  have hct2 : cd t2 < 2 ^ 61 := cd_lt hq2.1
                  have hf2 := hO3.1 (k2, t2) e6
                  show T _ _ _ _ _ _ _ _ 77 [some (.ref 572), some (.long (lN (cd l))), none, some (.long (lN (cd d))), none, some (.long (lN (cd t))), none] [.int (bI true)] (rm m3)
                  refine R_ifb_eq (pc := 77) (tgt := 94) dX12_alike_77 (by decide) (fun h6 => ?_) (fun h6 => ?_)
                  · exact absurd h6 (by decide)
                  · skip
                    refine T_aload_n (pc := 80) (i := 0) dX12_alike_80 rfl rfl ?_
                    refine R_getL (pc := 81) (x := lN (cd t2)) fl_X12_363 rfl kc_572 lc_572 hf2.2 dX12_alike_81 ?_
                    refine T_lload (pc := 84) (i := 5) dX12_alike_84 rfl ?_
                    refine T_lcmp (pc := 86) dX12_alike_86 ?_
                    refine R_ln_ne (pc := 87) (tgt := 94) (by omega) (by omega) dX12_alike_87 (by decide) (fun h7 => ?_) (fun h7 => ?_)
                    · skip
                      refine T_iconst (pc := 94) (v := nI 0) dX12_alike_94 (by decide) ?_
                      have eb : stT (nxR X.R (wOf X LL)) 200 d t = false := by unfold stT; rw [e6]; exact decide_eq_false (fun z => h7 (by cases z; rfl))
                      rw [eb]
                      exact T_iret (pc := 95) (ty := .boolean) dX12_alike_95 rfl (by decide) (Nat.le_refl _) (Nat.le_refl _) ⟨_, rfl, rfl, hfin⟩
                    · skip
                      refine T_iconst (pc := 90) (v := nI 1) dX12_alike_90 (by decide) ?_
                      refine T_goto (pc := 91) (tgt := 95) dX12_alike_91 (by decide) ?_
                      have eb : stT (nxR X.R (wOf X LL)) 200 d t = true := by unfold stT; rw [e6]; exact decide_eq_true (congrArg some (cd_inj hq2.1.2 hq.1.2 h7))
                      rw [eb]
                      exact T_iret (pc := 95) (ty := .boolean) dX12_alike_95 rfl (by decide) (Nat.le_refl _) (Nat.le_refl _) ⟨_, rfl, rfl, hfin⟩
              · exact absurd h5 (by decide)
          · exact absurd h3 (by decide)
        · exact absurd h4 (by decide)
end MP1

