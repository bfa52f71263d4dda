/-! THE MODEL: becomes, fewest -/
theorem row_mx {H : Hd} (g : ∀ i, i < H.length → Mw (hA H i).1) : ∀ i, i ≤ H.length → mxN H i ≤ 20
  | 0, _ => Nat.zero_le _
  | i + 1, hi => by
    have h1 := row_mx g i (by omega)
    have h2 := (g i (by omega)).1
    show max (mxN H i) (hA H i).1.length ≤ 20
    omega
theorem row_ls {H : Hd} {R : List Ru} {w : Wk} (g : ∀ i, i < H.length → Mw (hA H i).1) : ∀ i, i ≤ H.length → ∀ t, lsN R w H i = some t → Mw t
  | 0, _, t, e => by cases e
  | i + 1, hi, t, e => by
    have e2 : (if (ltO (hA H i).1 (lsN R w H i) && (nxR R w (hA H i).1).isNone) = true then some (hA H i).1 else lsN R w H i) = some t := e
    split at e2
    · cases e2
      exact g i (by omega)
    · exact row_ls g i (by omega) t e2
theorem lsN_s {R : List Ru} {w : Wk} {H : Hd} {i : Nat} : lsN R w H (i + 1) = if (ltO (hA H i).1 (lsN R w H i) && (nxR R w (hA H i).1).isNone) = true then some (hA H i).1 else lsN R w H i := rfl
theorem csN_s {R : List Ru} {w : Wk} {H : Hd} {i : Nat} : csN R w H (i + 1) = csN R w H i + (if (nxR R w (hA H i).1).isNone = true then 1 else 0) := rfl
theorem becV_n {R : List Ru} {w : Wk} {l : List Nat} {n k : Nat} (e : spd R w l n = none) : becV R w l n k = -3 := by unfold becV; rw [e]
theorem becV_s {R : List Ru} {w : Wk} {l : List Nat} {n k : Nat} {H : Hd} (e : spd R w l n = some H) : becV R w l n k = if k = 0 then lN H.length else if k = 1 then lN (mxN H H.length) else if k = 2 then lN (csN R w H H.length) else vO (lsN R w H H.length) := by unfold becV; rw [e]
def Fbe (j : Nat) : Prop := Fsr j ∨ Fs j
def Sbe (k : Nat) : Prop := Ssp k
theorem Fbe_Fz {j : Nat} (h : Fbe j) : Fz j := by unfold Fbe Fsr Fs at h; unfold Fz; omega
theorem Ssp_Sz {k : Nat} (h : Ssp k) : Sz k := by unfold Ssp Sht at h; unfold Sz; omega
theorem S9_Ssp {k : Nat} (h : S9 k) : Ssp k := by unfold S9 at h; unfold Ssp; omega
section MB9
variable {γ : Ga} {μ : SM2}
theorem m_isSettled {R : List Ru} {LL : List (List Int32)} {w : Wk} {l : List Nat} (hE : mEw μ R LL w) (hl : Mw l) : Ex γ 12 0 0 M_X12_isSettled [.ref 572, .long (lN (cd l))] (rm μ) (Rm (some (.int (bI (nxR R w l).isNone))) (fun m => OfM Fk S9 μ m)) := by
  have hok := hE.1.1.2.1
  have hw4 := hE.1.2.2.1.1
  refine Ex.of (by decide +kernel) rfl (Nat.le_of_ble_eq_true rfl) ?_
  show T _ _ _ _ _ _ _ _ _ [some (.ref 572), some (.long (lN (cd l))), none] [] (rm μ)
  refine T_aload_n (pc := 0) (i := 0) dX12_isSettled_0 rfl rfl ?_
  refine T_lload_n (pc := 1) (i := 1) dX12_isSettled_1 rfl rfl ?_
  refine T_aload_n (pc := 2) (i := 0) dX12_isSettled_2 rfl rfl ?_
  refine R_getR (pc := 3) (i := 573) fl_X12_29 rfl kc_572 lc_572 rc_572_1 dX12_isSettled_3 ?_
  refine T_iconst (pc := 6) (v := nI 5) dX12_isSettled_6 (by decide) ?_
  refine R_iald (pc := 7) (x := nI w.1) kc_573 lc_573 (by omega) (by first | decide | assumption) hE.2 dX12_isSettled_7 ?_
  refine R_callVm1 (pc := 8) (As := [.long (lN (cd l)), .int (nI w.1)]) (rest := []) (Or.inl lk_X12_370) mk_X12_next (m_next hE.1 hl) kc_572 ⟨by decide, rfl⟩ lc_572 dX12_isSettled_8 rfl rfl (Nat.le_of_ble_eq_true rfl) (by decide) rfl (Nat.le_refl _) (Nat.le_refl _) (fun m hm => ?_)
  cases e : nxR R w l with
  | none =>
    show T _ _ _ _ _ _ _ _ 11 [some (.ref 572), some (.long (lN (cd l))), none] [.long ((-1))] (rm m)
    refine T_lconst (pc := 11) (v := lN 0) dX12_isSettled_11 rfl ?_
    refine T_lcmp (pc := 12) dX12_isSettled_12 ?_
    refine R_lx_ge (pc := 13) (tgt := 20) dX12_isSettled_13 (by decide) (fun h1 => ?_) (fun h1 => ?_)
    · exact absurd (by decide) h1
    · skip
      refine T_iconst (pc := 16) (v := nI 1) dX12_isSettled_16 (by decide) ?_
      refine T_goto (pc := 17) (tgt := 21) dX12_isSettled_17 (by decide) ?_
      exact T_iret (pc := 21) (ty := .boolean) dX12_isSettled_21 rfl (by decide) (Nat.le_refl _) (Nat.le_refl _) ⟨_, rfl, rfl, hm.2⟩
  | some t =>
    have ht := nxR_mw hl hok e
    have hct := cd_lt ht
    show T _ _ _ _ _ _ _ _ 11 [some (.ref 572), some (.long (lN (cd l))), none] [.long (lN (cd t))] (rm m)
    refine T_lconst (pc := 11) (v := lN 0) dX12_isSettled_11 rfl ?_
    refine T_lcmp (pc := 12) dX12_isSettled_12 ?_
    refine R_ln_ge (pc := 13) (tgt := 20) (by omega) (by omega) dX12_isSettled_13 (by decide) (fun h1 => ?_) (fun h1 => ?_)
    · skip
      refine T_iconst (pc := 20) (v := nI 0) dX12_isSettled_20 (by decide) ?_
      exact T_iret (pc := 21) (ty := .boolean) dX12_isSettled_21 rfl (by decide) (Nat.le_refl _) (Nat.le_refl _) ⟨_, rfl, rfl, hm.2⟩
    · exact absurd h1 (by omega)
theorem m_becomes {x : Int64} {y z : Int32} {X : Td} {LL : List (List Int32)} (hX : mdT (μ.1 573) X) (hL : LawM (μ.1 573) LL) : Ex γ 13 0 0 M_X12_becomes [.ref 572, .long x, .int y, .int z] (rm μ) (Rm (some (.long (if ((codeB x && chkN y 0 40) && inB z 4) = true then becV X.R (wOf X LL) (ml x) y.toNatClampNeg z.toNatClampNeg else lN 0))) (fun m => MdN μ m (mT2 (codeB x && chkN y 0 40) (inB z 4)))) := by
  have hX2 : mdT ((wI μ 572 0 (nI 0)).1 573) X := by rw [w573]; exact hX
  have hL2 : LawM ((wI μ 572 0 (nI 0)).1 573) LL := by rw [w573]; exact hL
  obtain ⟨Q, hQ⟩ : ∃ Q, Q = Rm (some (.long (if ((codeB x && chkN y 0 40) && inB z 4) = true then becV X.R (wOf X LL) (ml x) y.toNatClampNeg z.toNatClampNeg else lN 0))) (fun m => MdN μ m (mT2 (codeB x && chkN y 0 40) (inB z 4))) := ⟨_, rfl⟩
  rw [← hQ]
  have bad1 : (codeB x && chkN y 0 40) = false → T γ 13 0 0 M_X12_becomes Q 0 0 23 [some (.ref 572), some (.long x), none, some (.int y), some (.int z), none, none, none, none, none] [.ref 572] (rm (wI μ 572 0 (nI 0))) := fun eb => by
    rw [hQ, eb]
    simp only [Bool.false_and, Bool.false_eq_true, if_false]
    refine T_iconst (pc := 23) (v := nI 1) dX12_becomes_23 (by decide) ?_
    refine T_goto (pc := 24) (tgt := 28) dX12_becomes_24 (by decide) ?_
    refine T_iconst (pc := 28) (v := nI 1) dX12_becomes_28 (by decide) ?_
    refine R_callV1 (pc := 29) (As := [.int (nI 1), .int (nI 1)]) (rest := []) (Or.inl lk_X12_302) mk_X12_throwsIf m_throws1n kc_572 ⟨by decide, rfl⟩ lc_572 dX12_becomes_29 rfl rfl (Nat.le_of_ble_eq_true rfl) (by decide) rfl (Nat.le_refl _) (Nat.le_refl _) ?_
    refine R_ifb_ne (pc := 32) (tgt := 58) dX12_becomes_32 (by decide) (fun h3 => ?_) (fun h3 => ?_)
    · skip
      refine T_lconst (pc := 58) (v := lN 0) dX12_becomes_58 rfl ?_
      exact T_lret dX12_becomes_59 rfl (Nat.le_refl _) (Nat.le_refl _) ⟨_, rfl, rfl, Tn.two.n⟩
    · exact absurd h3 (by decide)
  refine Ex.of (by decide +kernel) rfl (Nat.le_of_ble_eq_true rfl) ?_
  show T _ _ _ _ _ _ _ _ _ [some (.ref 572), some (.long (x)), none, some (.int (y)), some (.int (z)), none, none, none, none, none] [] (rm μ)
  refine T_aload_n (pc := 0) (i := 0) dX12_becomes_0 rfl rfl ?_
  refine T_iconst (pc := 1) (v := nI 0) dX12_becomes_1 (by decide) ?_
  refine R_putI (pc := 2) fl_X12_3 ⟨rfl, rfl⟩ (Or.inl rfl) kc_572 lc_572 dX12_becomes_2 ?_
  refine T_aload_n (pc := 5) (i := 0) dX12_becomes_5 rfl rfl ?_
  refine T_lload_n (pc := 6) (i := 1) dX12_becomes_6 rfl rfl ?_
  cases e1 : codeB x with
  | false =>
    rw [e1] at bad1
    refine R_callS1 (pc := 7) (av := [.long (x)]) (rest := [.ref 572]) (Or.inl lk_X12_382) mk_X12_isCode (m_isCodeE e1) dX12_becomes_7 rfl rfl (Nat.le_of_ble_eq_true rfl) (by decide) rfl (Nat.le_refl _) (Nat.le_refl _) ?_
    refine R_ifb_eq (pc := 10) (tgt := 23) dX12_becomes_10 (by decide) (fun h1 => ?_) (fun h1 => ?_)
    · skip
      exact bad1 rfl
    · exact absurd h1 (by decide)
  | true =>
    rw [e1] at bad1 hQ
    rw [Bool.true_and] at bad1
    rw [Bool.true_and] at hQ
    refine R_callS1 (pc := 7) (av := [.long (x)]) (rest := [.ref 572]) (Or.inl lk_X12_382) mk_X12_isCode (m_isCodeE e1) dX12_becomes_7 rfl rfl (Nat.le_of_ble_eq_true rfl) (by decide) rfl (Nat.le_refl _) (Nat.le_refl _) ?_
    refine R_ifb_eq (pc := 10) (tgt := 23) dX12_becomes_10 (by decide) (fun h1 => ?_) (fun h1 => ?_)
    · exact absurd h1 (by decide)
    · skip
      refine T_iload_n (pc := 13) (i := 3) dX12_becomes_13 rfl rfl ?_
      refine T_iconst (pc := 14) (v := nI 0) dX12_becomes_14 (by decide) ?_
      refine T_bipush (pc := 15) (v := nI 40) dX12_becomes_15 (by decide) ?_
      refine R_callS1 (pc := 17) (av := [.int (y), .int (nI 0), .int (nI 40)]) (rest := [.ref 572]) (Or.inl lk_X12_125) mk_X12_in m_inK dX12_becomes_17 rfl rfl (Nat.le_of_ble_eq_true rfl) (by decide) rfl (Nat.le_refl _) (Nat.le_refl _) ?_
      cases e2 : chkN y 0 40 with
      | false =>
        rw [e2] at bad1
        show T _ _ _ _ _ _ _ _ 20 [some (.ref 572), some (.long (x)), none, some (.int (y)), some (.int (z)), none, none, none, none, none] [.int (bI false), .ref 572] (rm (wI μ 572 0 (nI 0)))
        refine R_ifb_ne (pc := 20) (tgt := 27) dX12_becomes_20 (by decide) (fun h2 => ?_) (fun h2 => ?_)
        · exact absurd h2 (by decide)
        · skip
          exact bad1 rfl
      | true =>
        rw [e2, Bool.true_and] at hQ
        show T _ _ _ _ _ _ _ _ 20 [some (.ref 572), some (.long (x)), none, some (.int (y)), some (.int (z)), none, none, none, none, none] [.int (bI true), .ref 572] (rm (wI μ 572 0 (nI 0)))
        refine R_ifb_ne (pc := 20) (tgt := 27) dX12_becomes_20 (by decide) (fun h2 => ?_) (fun h2 => ?_)
        · skip
          refine T_iconst (pc := 27) (v := nI 0) dX12_becomes_27 (by decide) ?_
          refine T_iconst (pc := 28) (v := nI 1) dX12_becomes_28 (by decide) ?_
          refine R_callV1 (pc := 29) (As := [.int (nI 0), .int (nI 1)]) (rest := []) (Or.inl lk_X12_302) mk_X12_throwsIf m_throws0n kc_572 ⟨by decide, rfl⟩ lc_572 dX12_becomes_29 rfl rfl (Nat.le_of_ble_eq_true rfl) (by decide) rfl (Nat.le_refl _) (Nat.le_refl _) ?_
          refine R_ifb_ne (pc := 32) (tgt := 58) dX12_becomes_32 (by decide) (fun h3 => ?_) (fun h3 => ?_)
          · exact absurd h3 (by decide)
          · skip
            refine T_aload_n (pc := 35) (i := 0) dX12_becomes_35 rfl rfl ?_
            refine T_iload (pc := 36) (i := 4) dX12_becomes_36 rfl ?_
            refine T_iconst (pc := 38) (v := nI 0) dX12_becomes_38 (by decide) ?_
            refine T_iconst (pc := 39) (v := nI 3) dX12_becomes_39 (by decide) ?_
            refine R_callS1 (pc := 40) (av := [.int (z), .int (nI 0), .int (nI 3)]) (rest := [.ref 572]) (Or.inl lk_X12_125) mk_X12_in m_inK dX12_becomes_40 rfl rfl (Nat.le_of_ble_eq_true rfl) (by decide) rfl (Nat.le_refl _) (Nat.le_refl _) ?_
            rw [chk4]
            cases e3 : inB z 4 with
            | false =>
              rw [e3] at hQ
              simp only [Bool.false_eq_true, if_false] at hQ
              rw [hQ]
              show T _ _ _ _ _ _ _ _ 43 [some (.ref 572), some (.long (x)), none, some (.int (y)), some (.int (z)), none, none, none, none, none] [.int (bI false), .ref 572] (rm (wI μ 572 0 (nI 0)))
              refine R_ifb_ne (pc := 43) (tgt := 50) dX12_becomes_43 (by decide) (fun h4 => ?_) (fun h4 => ?_)
              · exact absurd h4 (by decide)
              · skip
                refine T_iconst (pc := 46) (v := nI 1) dX12_becomes_46 (by decide) ?_
                refine T_goto (pc := 47) (tgt := 51) dX12_becomes_47 (by decide) ?_
                refine T_iconst (pc := 51) (v := nI 2) dX12_becomes_51 (by decide) ?_
                refine R_callV1 (pc := 52) (As := [.int (nI 1), .int (nI 2)]) (rest := []) (Or.inl lk_X12_302) mk_X12_throwsIf m_throws1n kc_572 ⟨by decide, rfl⟩ lc_572 dX12_becomes_52 rfl rfl (Nat.le_of_ble_eq_true rfl) (by decide) rfl (Nat.le_refl _) (Nat.le_refl _) ?_
                refine R_ifb_eq (pc := 55) (tgt := 60) dX12_becomes_55 (by decide) (fun h5 => ?_) (fun h5 => ?_)
                · exact absurd h5 (by decide)
                · skip
                  refine T_lconst (pc := 58) (v := lN 0) dX12_becomes_58 rfl ?_
                  exact T_lret dX12_becomes_59 rfl (Nat.le_refl _) (Nat.le_refl _) ⟨_, rfl, rfl, Tn.two.n⟩
            | true =>
              rw [e3] at hQ
              simp only [if_true] at hQ
              obtain ⟨l, hl, rfl⟩ := codeB_iff.mp e1
              obtain ⟨N, -, hN, rfl⟩ := chk_of (by decide) (by decide) e2
              obtain ⟨k, hk, rfl⟩ := inB_of (n := 4) (by decide) e3
              rw [ml_cd hl, nI_clamp (n := N) (by omega), nI_clamp (n := k) (by omega)] at hQ
              have hQ2 : Q = Rm (some (.long (becV X.R (wOf X LL) l N k))) (fun m => MdN μ m 0) := hQ
              clear bad1 hQ
              show T _ _ _ _ _ _ _ _ 43 [some (.ref 572), some (.long (lN (cd l))), none, some (.int (nI N)), some (.int (nI k)), none, none, none, none, none] [.int (bI true), .ref 572] (rm (wI μ 572 0 (nI 0)))
              refine R_ifb_ne (pc := 43) (tgt := 50) dX12_becomes_43 (by decide) (fun h4 => ?_) (fun h4 => ?_)
              · skip
                refine T_iconst (pc := 50) (v := nI 0) dX12_becomes_50 (by decide) ?_
                refine T_iconst (pc := 51) (v := nI 2) dX12_becomes_51 (by decide) ?_
                refine R_callV1 (pc := 52) (As := [.int (nI 0), .int (nI 2)]) (rest := []) (Or.inl lk_X12_302) mk_X12_throwsIf m_throws0n kc_572 ⟨by decide, rfl⟩ lc_572 dX12_becomes_52 rfl rfl (Nat.le_of_ble_eq_true rfl) (by decide) rfl (Nat.le_refl _) (Nat.le_refl _) ?_
                refine R_ifb_eq (pc := 55) (tgt := 60) dX12_becomes_55 (by decide) (fun h5 => ?_) (fun h5 => ?_)
                · skip
                  refine T_aload_n (pc := 60) (i := 0) dX12_becomes_60 rfl rfl ?_
                  refine T_lload_n (pc := 61) (i := 1) dX12_becomes_61 rfl rfl ?_
                  refine T_iload_n (pc := 62) (i := 3) dX12_becomes_62 rfl rfl ?_
                  refine R_callVm1 (pc := 63) (As := [.long (lN (cd l)), .int (nI N)]) (rest := []) (Or.inl lk_X12_444) mk_X12_searches (m_searches hX2 hL2 hl (by omega)) kc_572 ⟨by decide, rfl⟩ lc_572 dX12_becomes_63 rfl rfl (Nat.le_of_ble_eq_true rfl) (by decide) rfl (Nat.le_refl _) (Nat.le_refl _) (fun m1 h6 => ?_)
                  obtain ⟨hH, hE, hO⟩ := h6
                  have hw5 : m1.1 573 5 = nI X.way := (hO.i (by decide) (by unfold Ssp Sht; omega) 5).trans hX2.2.2.2.2.2.2.1
                  have hEw : mEw m1 X.R LL (wOf X LL) := ⟨hE, hw5⟩
                  have fin : ∀ m : SM2, OfM Fs S9 m1 m → MdN μ m 0 := fun m g => MdN.of (F := Fbe) (S := Ssp) ((hO.mono (fun j hj => Or.inl hj) (fun k hk => hk)).trans (g.mono (fun j hj => Or.inr hj) (fun k => S9_Ssp))) (by unfold Fbe Fsr Fs; omega) (fun j => Fbe_Fz) (fun k => Ssp_Sz)
                  cases es : spd X.R (wOf X LL) l N with
                  | none =>
                    rw [becV_n es] at hQ2
                    show T _ _ _ _ _ _ _ _ 66 [some (.ref 572), some (.long (lN (cd l))), none, some (.int (nI N)), some (.int (nI k)), none, none, none, none, none] [.int (bI false)] (rm m1)
                    refine R_ifb_ne (pc := 66) (tgt := 73) dX12_becomes_66 (by decide) (fun h6 => ?_) (fun h6 => ?_)
                    · exact absurd h6 (by decide)
                    · skip
                      refine T_ldc2 (pc := 69) dX12_becomes_69 cn_X12_447 ?_
                      rw [hQ2]
                      exact T_lret dX12_becomes_72 rfl (Nat.le_refl _) (Nat.le_refl _) ⟨_, rfl, rfl, fin _ (OfM.refl _ _ _)⟩
                  | some H =>
                    have hT := hH H es
                    have h15 := hT.len
                    have hrw : ∀ i, i < H.length → Mw (hA H i).1 := fun i hi => (hT.row i hi).1
                    rw [becV_s es] at hQ2
                    show T _ _ _ _ _ _ _ _ 66 [some (.ref 572), some (.long (lN (cd l))), none, some (.int (nI N)), some (.int (nI k)), none, none, none, none, none] [.int (bI true)] (rm m1)
                    refine R_ifb_ne (pc := 66) (tgt := 73) dX12_becomes_66 (by decide) (fun h6 => ?_) (fun h6 => ?_)
                    · skip
                      refine T_iconst (pc := 73) (v := nI 0) dX12_becomes_73 (by decide) ?_
                      refine T_istore (pc := 74) (i := 5) (ls' := [some (.ref 572), some (.long (lN (cd l))), none, some (.int (nI N)), some (.int (nI k)), some (.int (nI 0)), none, none, none, none]) dX12_becomes_74 (by decide) rfl ?_
                      refine T_iconst (pc := 76) (v := nI 0) dX12_becomes_76 (by decide) ?_
                      refine T_istore (pc := 77) (i := 6) (ls' := [some (.ref 572), some (.long (lN (cd l))), none, some (.int (nI N)), some (.int (nI k)), some (.int (nI 0)), some (.int (nI 0)), none, none, none]) dX12_becomes_77 (by decide) rfl ?_
                      refine T_ldc2 (pc := 79) dX12_becomes_79 cn_X12_171 ?_
                      refine T_lstore (pc := 82) (i := 7) (ls' := [some (.ref 572), some (.long (lN (cd l))), none, some (.int (nI N)), some (.int (nI k)), some (.int (nI 0)), some (.int (nI 0)), some (.long ((-1))), none, none]) dX12_becomes_82 (by decide) rfl ?_
                      refine T_iconst (pc := 84) (v := nI 0) dX12_becomes_84 (by decide) ?_
                      refine T_istore (pc := 85) (i := 9) (ls' := [some (.ref 572), some (.long (lN (cd l))), none, some (.int (nI N)), some (.int (nI k)), some (.int (nI 0)), some (.int (nI 0)), some (.long ((-1))), none, some (.int (nI 0))]) dX12_becomes_85 (by decide) rfl ?_
                      suffices loop : ∀ (g i u : Nat) (v : Option (List Nat)) (m : SM2), i + g = H.length → u ≤ i → (∀ t, v = some t → Mw t) → (2 ≤ k → u = csN X.R (wOf X LL) H i ∧ v = lsN X.R (wOf X LL) H i) → OfM Fs S9 m1 m → T γ 13 0 0 M_X12_becomes Q 0 0 87 [some (.ref 572), some (.long (lN (cd l))), none, some (.int (nI N)), some (.int (nI k)), some (.int (nI (mxN H i))), some (.int (nI u)), some (.long (vO v)), none, some (.int (nI i))] [] (rm m) by
                        exact loop H.length 0 0 none m1 (Nat.zero_add _) (Nat.le_refl _) (fun t z => by cases z) (fun _ => ⟨rfl, rfl⟩) (OfM.refl _ _ _)
                      intro g
                      induction g with
                      | zero =>
                        intro i u v m hi hu hv hk2 hO2
                        obtain rfl : i = H.length := by omega
                        have h20 := row_mx hrw H.length (Nat.le_refl _)
                        have hT2 := hT.of hO2 (by unfold Fs; omega) (fun k hk => by unfold Sht at hk; unfold S9; omega)
                        refine T_iload (pc := 87) (i := 9) dX12_becomes_87 rfl ?_
                        refine T_aload_n (pc := 89) (i := 0) dX12_becomes_89 rfl rfl ?_
                        refine R_getI (pc := 90) (x := nI H.length) fl_X12_431 rfl kc_572 lc_572 hT2.size dX12_becomes_90 ?_
                        refine R_icmp_ge (pc := 93) (tgt := 176) (by omega) (by omega) dX12_becomes_93 (by decide) (fun g1 => ?_) (fun g1 => ?_)
                        · skip
                          refine T_iload (pc := 176) (i := 4) dX12_becomes_176 rfl ?_
                          refine R_if_ne (pc := 178) (tgt := 189) (by omega) dX12_becomes_178 (by decide) (fun g2 => ?_) (fun g2 => ?_)
                          · skip
                            refine T_iload (pc := 189) (i := 4) dX12_becomes_189 rfl ?_
                            refine T_iconst (pc := 191) (v := nI 1) dX12_becomes_191 (by decide) ?_
                            refine R_icmp_ne (pc := 192) (tgt := 201) (by omega) (by omega) dX12_becomes_192 (by decide) (fun g3 => ?_) (fun g3 => ?_)
                            · skip
                              refine T_iload (pc := 201) (i := 4) dX12_becomes_201 rfl ?_
                              refine T_iconst (pc := 203) (v := nI 2) dX12_becomes_203 (by decide) ?_
                              refine R_icmp_ne (pc := 204) (tgt := 213) (by omega) (by omega) dX12_becomes_204 (by decide) (fun g4 => ?_) (fun g4 => ?_)
                              · skip
                                refine T_lload (pc := 213) (i := 7) dX12_becomes_213 rfl ?_
                                rw [hQ2, if_neg (by omega), if_neg (by omega), if_neg (by omega), ← (hk2 (by omega)).2]
                                exact T_lret dX12_becomes_215 rfl (Nat.le_refl _) (Nat.le_refl _) ⟨_, rfl, rfl, fin _ hO2⟩
                              · skip
                                refine T_iload (pc := 207) (i := 6) dX12_becomes_207 rfl ?_
                                refine R_i2l (pc := 209) (by omega) dX12_becomes_209 ?_
                                refine T_goto (pc := 210) (tgt := 215) dX12_becomes_210 (by decide) ?_
                                rw [hQ2, if_neg (by omega), if_neg (by omega), if_pos (by omega), ← (hk2 (by omega)).1]
                                exact T_lret dX12_becomes_215 rfl (Nat.le_refl _) (Nat.le_refl _) ⟨_, rfl, rfl, fin _ hO2⟩
                            · skip
                              refine T_iload (pc := 195) (i := 5) dX12_becomes_195 rfl ?_
                              refine R_i2l (pc := 197) (by omega) dX12_becomes_197 ?_
                              refine T_goto (pc := 198) (tgt := 215) dX12_becomes_198 (by decide) ?_
                              rw [hQ2, if_neg (by omega), if_pos (by omega)]
                              exact T_lret dX12_becomes_215 rfl (Nat.le_refl _) (Nat.le_refl _) ⟨_, rfl, rfl, fin _ hO2⟩
                          · skip
                            refine T_aload_n (pc := 181) (i := 0) dX12_becomes_181 rfl rfl ?_
                            refine R_getI (pc := 182) (x := nI H.length) fl_X12_431 rfl kc_572 lc_572 hT2.size dX12_becomes_182 ?_
                            refine R_i2l (pc := 185) (by omega) dX12_becomes_185 ?_
                            refine T_goto (pc := 186) (tgt := 215) dX12_becomes_186 (by decide) ?_
                            rw [hQ2, if_pos (by omega)]
                            exact T_lret dX12_becomes_215 rfl (Nat.le_refl _) (Nat.le_refl _) ⟨_, rfl, rfl, fin _ hO2⟩
                        · exact absurd g1 (by omega)
                      | succ g ih =>
                        intro i u v m hi hu hv hk2 hO2
                        have hT2 := hT.of hO2 (by unfold Fs; omega) (fun k hk => by unfold Sht at hk; unfold S9; omega)
                        have hi1 : i < H.length := by omega
                        have row := hT2.row i hi1
                        have hl20 := row.1.1
                        have h20 := row_mx hrw i (by omega)
                        have b1 := cd_lt row.1
                        have end9 : ∀ (u2 : Nat) (v2 : Option (List Nat)) (m2 : SM2), u2 ≤ i + 1 → (∀ t, v2 = some t → Mw t) → (2 ≤ k → u2 = csN X.R (wOf X LL) H (i + 1) ∧ v2 = lsN X.R (wOf X LL) H (i + 1)) → OfM Fs S9 m1 m2 → T γ 13 0 0 M_X12_becomes Q 0 0 170 [some (.ref 572), some (.long (lN (cd l))), none, some (.int (nI N)), some (.int (nI k)), some (.int (nI (mxN H (i + 1)))), some (.int (nI u2)), some (.long (vO v2)), none, some (.int (nI i))] [] (rm m2) := fun u2 v2 m2 a b c dd => by
                          refine R_iinc (pc := 170) (i := 9) (n := 1) (ls' := [some (.ref 572), some (.long (lN (cd l))), none, some (.int (nI N)), some (.int (nI k)), some (.int (nI (mxN H (i + 1)))), some (.int (nI u2)), some (.long ((vO v2))), none, some (.int (nI (i + 1)))]) dX12_becomes_170 rfl rfl ?_
                          refine T_goto (pc := 173) (tgt := 87) dX12_becomes_173 (by decide) ?_
                          exact ih (i + 1) u2 v2 m2 (by omega) a b c dd
                        have end8 : ∀ (u2 : Nat) (v2 : Option (List Nat)) (old : Int64) (m2 : SM2), u2 ≤ i + 1 → (∀ t, v2 = some t → Mw t) → (2 ≤ k → u2 = csN X.R (wOf X LL) H (i + 1) ∧ v2 = lsN X.R (wOf X LL) H (i + 1)) → OfM Fs S9 m1 m2 → T γ 13 0 0 M_X12_becomes Q 0 0 168 [some (.ref 572), some (.long (lN (cd l))), none, some (.int (nI N)), some (.int (nI k)), some (.int (nI (mxN H (i + 1)))), some (.int (nI u2)), some (.long old), none, some (.int (nI i))] [.long (vO v2)] (rm m2) := fun u2 v2 old m2 a b c dd => by
                          refine T_lstore (pc := 168) (i := 7) (ls' := [some (.ref 572), some (.long (lN (cd l))), none, some (.int (nI N)), some (.int (nI k)), some (.int (nI (mxN H (i + 1)))), some (.int (nI u2)), some (.long ((vO v2))), none, some (.int (nI i))]) dX12_becomes_168 (by decide) rfl ?_
                          refine R_iinc (pc := 170) (i := 9) (n := 1) (ls' := [some (.ref 572), some (.long (lN (cd l))), none, some (.int (nI N)), some (.int (nI k)), some (.int (nI (mxN H (i + 1)))), some (.int (nI u2)), some (.long ((vO v2))), none, some (.int (nI (i + 1)))]) dX12_becomes_170 rfl rfl ?_
                          refine T_goto (pc := 173) (tgt := 87) dX12_becomes_173 (by decide) ?_
                          exact ih (i + 1) u2 v2 m2 (by omega) a b c dd
                        refine T_iload (pc := 87) (i := 9) dX12_becomes_87 rfl ?_
                        refine T_aload_n (pc := 89) (i := 0) dX12_becomes_89 rfl rfl ?_
                        refine R_getI (pc := 90) (x := nI H.length) fl_X12_431 rfl kc_572 lc_572 hT2.size dX12_becomes_90 ?_
                        refine R_icmp_ge (pc := 93) (tgt := 176) (by omega) (by omega) dX12_becomes_93 (by decide) (fun g1 => ?_) (fun g1 => ?_)
                        · exact absurd g1 (by omega)
                        · skip
                          refine T_iload (pc := 96) (i := 5) dX12_becomes_96 rfl ?_
                          refine T_aload_n (pc := 98) (i := 0) dX12_becomes_98 rfl rfl ?_
                          refine R_getR (pc := 99) (i := 582) fl_X12_62 rfl kc_572 lc_572 rc_572_26 dX12_becomes_99 ?_
                          refine T_iload (pc := 102) (i := 9) dX12_becomes_102 rfl ?_
                          refine R_lald (pc := 104) (x := lN (cd (hA H i).1)) kc_582 lc_582 (by omega) (by first | decide | assumption) row.2.1 dX12_becomes_104 ?_
                          refine R_callS1 (pc := 105) (av := [.long (lN (cd (hA H i).1))]) (rest := [.int (nI (mxN H i))]) (Or.inl lk_X12_13) mk_X12_size (m_size row.1) dX12_becomes_105 rfl rfl (Nat.le_of_ble_eq_true rfl) (by decide) rfl (Nat.le_refl _) (Nat.le_refl _) ?_
                          refine R_mmax (pc := 108) lk_X12_449 (by omega) (by omega) (by first | decide | exact Nat.le_of_ble_eq_true rfl) (Nat.le_refl _) (Nat.le_refl _) dX12_becomes_108 ?_
                          refine T_istore (pc := 111) (i := 5) (ls' := [some (.ref 572), some (.long (lN (cd l))), none, some (.int (nI N)), some (.int (nI k)), some (.int (nI (max (mxN H i) ((hA H i).1.length)))), some (.int (nI u)), some (.long ((vO v))), none, some (.int (nI i))]) dX12_becomes_111 (by decide) rfl ?_
                          refine T_iload (pc := 113) (i := 4) dX12_becomes_113 rfl ?_
                          refine T_iconst (pc := 115) (v := nI 2) dX12_becomes_115 (by decide) ?_
                          refine R_icmp_lt (pc := 116) (tgt := 170) (by omega) (by omega) dX12_becomes_116 (by decide) (fun g2 => ?_) (fun g2 => ?_)
                          · skip
                            exact end9 u v m (by omega) hv (fun z => absurd z (by omega)) hO2
                          · skip
                            obtain ⟨hu2, hv2⟩ := hk2 (by omega)
                            have hEm : mEw m X.R LL (wOf X LL) := hEw.s hO2
                            refine T_aload_n (pc := 119) (i := 0) dX12_becomes_119 rfl rfl ?_
                            refine T_aload_n (pc := 120) (i := 0) dX12_becomes_120 rfl rfl ?_
                            refine R_getR (pc := 121) (i := 582) fl_X12_62 rfl kc_572 lc_572 rc_572_26 dX12_becomes_121 ?_
                            refine T_iload (pc := 124) (i := 9) dX12_becomes_124 rfl ?_
                            refine R_lald (pc := 126) (x := lN (cd (hA H i).1)) kc_582 lc_582 (by omega) (by first | decide | assumption) row.2.1 dX12_becomes_126 ?_
                            refine R_callVm1 (pc := 127) (As := [.long (lN (cd (hA H i).1))]) (rest := []) (Or.inl lk_X12_454) mk_X12_isSettled (m_isSettled hEm row.1) kc_572 ⟨by decide, rfl⟩ lc_572 dX12_becomes_127 rfl rfl (Nat.le_of_ble_eq_true rfl) (by decide) rfl (Nat.le_refl _) (Nat.le_refl _) (fun m3 hm3 => ?_)
                            have hO3 : OfM Fs S9 m1 m3 := hO2.trans (hm3.mono (fun j => Fk_Fs) (fun k h => h))
                            have hT3 := hT.of hO3 (by unfold Fs; omega) (fun k hk => by unfold Sht at hk; unfold S9; omega)
                            have eC := csN_s (R := X.R) (w := wOf X LL) (H := H) (i := i)
                            have eL := lsN_s (R := X.R) (w := wOf X LL) (H := H) (i := i)
                            refine R_ifb_ne (pc := 130) (tgt := 136) dX12_becomes_130 (by decide) (fun g3 => ?_) (fun g3 => ?_)
                            · skip
                              rw [g3, if_pos rfl] at eC
                              rw [g3, Bool.and_true] at eL
                              cases v with
                              | none =>
                                rw [← hv2] at eL
                                have eL2 : lsN X.R (wOf X LL) H (i + 1) = some (hA H i).1 := eL
                                refine R_iinc (pc := 136) (i := 6) (n := 1) (ls' := [some (.ref 572), some (.long (lN (cd l))), none, some (.int (nI N)), some (.int (nI k)), some (.int (nI (mxN H (i + 1)))), some (.int (nI (u + 1))), some (.long ((-1))), none, some (.int (nI i))]) dX12_becomes_136 rfl rfl ?_
                                refine T_lload (pc := 139) (i := 7) dX12_becomes_139 rfl ?_
                                refine T_lconst (pc := 141) (v := lN 0) dX12_becomes_141 rfl ?_
                                refine T_lcmp (pc := 142) dX12_becomes_142 ?_
                                refine R_lx_ge (pc := 143) (tgt := 156) dX12_becomes_143 (by decide) (fun g4 => ?_) (fun g4 => ?_)
                                · exact absurd (by decide) g4
                                · skip
                                  refine T_aload_n (pc := 146) (i := 0) dX12_becomes_146 rfl rfl ?_
                                  refine R_getR (pc := 147) (i := 582) fl_X12_62 rfl kc_572 lc_572 rc_572_26 dX12_becomes_147 ?_
                                  refine T_iload (pc := 150) (i := 9) dX12_becomes_150 rfl ?_
                                  refine R_lald (pc := 152) (x := lN (cd (hA H i).1)) kc_582 lc_582 (by omega) (by first | decide | assumption) ((hT3.row i hi1).2.1) dX12_becomes_152 ?_
                                  refine T_goto (pc := 153) (tgt := 168) dX12_becomes_153 (by decide) ?_
                                  exact end8 (u + 1) (some (hA H i).1) _ m3 (by omega) (fun t z => by cases z; exact row.1) (fun _ => ⟨by omega, eL2.symm⟩) hO3
                              | some t =>
                                have ht := hv t rfl
                                have b2 := cd_lt ht
                                rw [← hv2] at eL
                                have eL2 : lsN X.R (wOf X LL) H (i + 1) = if decide (cd (hA H i).1 < cd t) = true then some (hA H i).1 else some t := eL
                                refine R_iinc (pc := 136) (i := 6) (n := 1) (ls' := [some (.ref 572), some (.long (lN (cd l))), none, some (.int (nI N)), some (.int (nI k)), some (.int (nI (mxN H (i + 1)))), some (.int (nI (u + 1))), some (.long (lN (cd t))), none, some (.int (nI i))]) dX12_becomes_136 rfl rfl ?_
                                refine T_lload (pc := 139) (i := 7) dX12_becomes_139 rfl ?_
                                refine T_lconst (pc := 141) (v := lN 0) dX12_becomes_141 rfl ?_
                                refine T_lcmp (pc := 142) dX12_becomes_142 ?_
                                refine R_ln_ge (pc := 143) (tgt := 156) (by omega) (by omega) dX12_becomes_143 (by decide) (fun g4 => ?_) (fun g4 => ?_)
                                · skip
                                  refine T_lload (pc := 156) (i := 7) dX12_becomes_156 rfl ?_
                                  refine T_aload_n (pc := 158) (i := 0) dX12_becomes_158 rfl rfl ?_
                                  refine R_getR (pc := 159) (i := 582) fl_X12_62 rfl kc_572 lc_572 rc_572_26 dX12_becomes_159 ?_
                                  refine T_iload (pc := 162) (i := 9) dX12_becomes_162 rfl ?_
                                  refine R_lald (pc := 164) (x := lN (cd (hA H i).1)) kc_582 lc_582 (by omega) (by first | decide | assumption) ((hT3.row i hi1).2.1) dX12_becomes_164 ?_
                                  refine T_mminL (pc := 165) lk_X12_457 (by decide) (Nat.le_refl _) (Nat.le_refl _) dX12_becomes_165 ?_
                                  by_cases hlt : cd (hA H i).1 < cd t
                                  · rw [if_pos (show lN (cd (hA H i).1) < lN (cd t) from (pk_lLT (by omega) (by omega)).mpr hlt)]
                                    exact end8 (u + 1) (some (hA H i).1) _ m3 (by omega) (fun t z => by cases z; exact row.1) (fun _ => ⟨by omega, by rw [eL2, if_pos (decide_eq_true hlt)]⟩) hO3
                                  · rw [if_neg (show ¬ lN (cd (hA H i).1) < lN (cd t) from fun z => hlt ((pk_lLT (by omega) (by omega)).mp z))]
                                    exact end8 (u + 1) (some t) _ m3 (by omega) (fun t2 z => by cases z; exact ht) (fun _ => ⟨by omega, by rw [eL2, if_neg (by simpa using hlt)]⟩) hO3
                                · exact absurd g4 (by omega)
                            · skip
                              rw [g3, if_neg (by decide)] at eC
                              rw [g3, Bool.and_false, if_neg (by decide)] at eL
                              refine T_goto (pc := 133) (tgt := 170) dX12_becomes_133 (by decide) ?_
                              refine R_iinc (pc := 170) (i := 9) (n := 1) (ls' := [some (.ref 572), some (.long (lN (cd l))), none, some (.int (nI N)), some (.int (nI k)), some (.int (nI (max (mxN H i) ((hA H i).1.length)))), some (.int (nI u)), some (.long ((vO v))), none, some (.int (nI (i + 1)))]) dX12_becomes_170 rfl rfl ?_
                              refine T_goto (pc := 173) (tgt := 87) dX12_becomes_173 (by decide) ?_
                              exact ih (i + 1) u v m3 (by omega) (by omega) hv (fun _ => ⟨by omega, by rw [eL]; exact hv2⟩) hO3
                    · exact absurd h6 (by decide)
                · exact absurd h5 (by decide)
              · exact absurd h4 (by decide)
        · exact absurd h2 (by decide)
theorem m_fewest {x y : Int64} {X : Td} {LL : List (List Int32)} (hX : mdT (μ.1 573) X) (hL : LawM (μ.1 573) LL) : Ex γ 11 0 0 M_X12_fewest [.ref 572, .long x, .long y] (rm μ) (Rm (some (.int (if (codeB x && codeB y) = true then fwN X.R (wOf X LL) (ml y) 1501 [(ml x, 0)] 0 0 else nI 0))) (fun m => MdN μ m (mT1 (codeB x && codeB y)))) := by
  have hX2 : mdT ((wI μ 572 0 (nI 0)).1 573) X := by rw [w573]; exact hX
  have hL2 : LawM ((wI μ 572 0 (nI 0)).1 573) LL := by rw [w573]; exact hL
  obtain ⟨Q, hQ⟩ : ∃ Q, Q = Rm (some (.int (if (codeB x && codeB y) = true then fwN X.R (wOf X LL) (ml y) 1501 [(ml x, 0)] 0 0 else nI 0))) (fun m => MdN μ m (mT1 (codeB x && codeB y))) := ⟨_, rfl⟩
  rw [← hQ]
  have bad1 : (codeB x && codeB y) = false → T γ 11 0 0 M_X12_fewest Q 0 0 20 [some (.ref 572), some (.long x), none, some (.long y), none, none, none] [.ref 572] (rm (wI μ 572 0 (nI 0))) := fun eb => by
    rw [hQ, eb]
    simp only [Bool.false_eq_true, if_false]
    refine T_iconst (pc := 20) (v := nI 1) dX12_fewest_20 (by decide) ?_
    refine T_goto (pc := 21) (tgt := 25) dX12_fewest_21 (by decide) ?_
    refine T_iconst (pc := 25) (v := nI 1) dX12_fewest_25 (by decide) ?_
    refine R_callV1 (pc := 26) (As := [.int (nI 1), .int (nI 1)]) (rest := []) (Or.inl lk_X12_302) mk_X12_throwsIf m_throws1n kc_572 ⟨by decide, rfl⟩ lc_572 dX12_fewest_26 rfl rfl (Nat.le_of_ble_eq_true rfl) (by decide) rfl (Nat.le_refl _) (Nat.le_refl _) ?_
    refine R_ifb_eq (pc := 29) (tgt := 34) dX12_fewest_29 (by decide) (fun h3 => ?_) (fun h3 => ?_)
    · exact absurd h3 (by decide)
    · skip
      refine T_iconst (pc := 32) (v := nI 0) dX12_fewest_32 (by decide) ?_
      exact T_iret (pc := 33) (ty := .int) dX12_fewest_33 rfl rfl (Nat.le_refl _) (Nat.le_refl _) ⟨_, rfl, rfl, Tn.two.n⟩
  refine Ex.of (by decide +kernel) rfl (Nat.le_of_ble_eq_true rfl) ?_
  show T _ _ _ _ _ _ _ _ _ [some (.ref 572), some (.long (x)), none, some (.long (y)), none, none, none] [] (rm μ)
  refine T_aload_n (pc := 0) (i := 0) dX12_fewest_0 rfl rfl ?_
  refine T_iconst (pc := 1) (v := nI 0) dX12_fewest_1 (by decide) ?_
  refine R_putI (pc := 2) fl_X12_3 ⟨rfl, rfl⟩ (Or.inl rfl) kc_572 lc_572 dX12_fewest_2 ?_
  refine T_aload_n (pc := 5) (i := 0) dX12_fewest_5 rfl rfl ?_
  refine T_lload_n (pc := 6) (i := 1) dX12_fewest_6 rfl rfl ?_
  cases e1 : codeB x with
  | false =>
    rw [e1] at bad1
    refine R_callS1 (pc := 7) (av := [.long (x)]) (rest := [.ref 572]) (Or.inl lk_X12_382) mk_X12_isCode (m_isCodeE e1) dX12_fewest_7 rfl rfl (Nat.le_of_ble_eq_true rfl) (by decide) rfl (Nat.le_refl _) (Nat.le_refl _) ?_
    refine R_ifb_eq (pc := 10) (tgt := 20) dX12_fewest_10 (by decide) (fun h1 => ?_) (fun h1 => ?_)
    · skip
      exact bad1 rfl
    · exact absurd h1 (by decide)
  | true =>
    rw [e1] at bad1 hQ
    rw [Bool.true_and] at bad1
    rw [Bool.true_and] at hQ
    refine R_callS1 (pc := 7) (av := [.long (x)]) (rest := [.ref 572]) (Or.inl lk_X12_382) mk_X12_isCode (m_isCodeE e1) dX12_fewest_7 rfl rfl (Nat.le_of_ble_eq_true rfl) (by decide) rfl (Nat.le_refl _) (Nat.le_refl _) ?_
    refine R_ifb_eq (pc := 10) (tgt := 20) dX12_fewest_10 (by decide) (fun h1 => ?_) (fun h1 => ?_)
    · exact absurd h1 (by decide)
    · skip
      refine T_lload_n (pc := 13) (i := 3) dX12_fewest_13 rfl rfl ?_
      cases e2 : codeB y with
      | false =>
        rw [e2] at bad1
        refine R_callS1 (pc := 14) (av := [.long (y)]) (rest := [.ref 572]) (Or.inl lk_X12_382) mk_X12_isCode (m_isCodeE e2) dX12_fewest_14 rfl rfl (Nat.le_of_ble_eq_true rfl) (by decide) rfl (Nat.le_refl _) (Nat.le_refl _) ?_
        refine R_ifb_ne (pc := 17) (tgt := 24) dX12_fewest_17 (by decide) (fun h2 => ?_) (fun h2 => ?_)
        · exact absurd h2 (by decide)
        · skip
          exact bad1 rfl
      | true =>
        rw [e2] at hQ
        simp only [if_true] at hQ
        refine R_callS1 (pc := 14) (av := [.long (y)]) (rest := [.ref 572]) (Or.inl lk_X12_382) mk_X12_isCode (m_isCodeE e2) dX12_fewest_14 rfl rfl (Nat.le_of_ble_eq_true rfl) (by decide) rfl (Nat.le_refl _) (Nat.le_refl _) ?_
        refine R_ifb_ne (pc := 17) (tgt := 24) dX12_fewest_17 (by decide) (fun h2 => ?_) (fun h2 => ?_)
        · skip
          obtain ⟨a, ha, rfl⟩ := codeB_iff.mp e1
          obtain ⟨t, ht, rfl⟩ := codeB_iff.mp e2
          rw [ml_cd ha, ml_cd ht] at hQ
          have hQ2 : Q = Rm (some (.int (fwN X.R (wOf X LL) t 1501 [(a, 0)] 0 0))) (fun m => MdN μ m 0) := hQ
          clear bad1 hQ
          rw [hQ2]
          refine T_iconst (pc := 24) (v := nI 0) dX12_fewest_24 (by decide) ?_
          refine T_iconst (pc := 25) (v := nI 1) dX12_fewest_25 (by decide) ?_
          refine R_callV1 (pc := 26) (As := [.int (nI 0), .int (nI 1)]) (rest := []) (Or.inl lk_X12_302) mk_X12_throwsIf m_throws0n kc_572 ⟨by decide, rfl⟩ lc_572 dX12_fewest_26 rfl rfl (Nat.le_of_ble_eq_true rfl) (by decide) rfl (Nat.le_refl _) (Nat.le_refl _) ?_
          refine R_ifb_eq (pc := 29) (tgt := 34) dX12_fewest_29 (by decide) (fun h3 => ?_) (fun h3 => ?_)
          · skip
            refine T_aload_n (pc := 34) (i := 0) dX12_fewest_34 rfl rfl ?_
            refine R_callVm0 (pc := 35) (As := []) (rest := []) (Or.inl lk_X12_386) mk_X12_asTold (m_asTold hX2 hL2) kc_572 ⟨by decide, rfl⟩ lc_572 dX12_fewest_35 rfl rfl (Nat.le_of_ble_eq_true rfl) (by decide) rfl (Nat.le_refl _) (Nat.le_refl _) (fun m0 h4 => ?_)
            obtain ⟨hE, hO0⟩ := h4
            have hO : OfM Fsr Ssp (wI μ 572 0 (nI 0)) m0 := hO0.mono (fun j hj => hj.elim Or.inl (fun z => Or.inr (Or.inl z))) (fun k z => z.elim)
            refine T_aload_n (pc := 38) (i := 0) dX12_fewest_38 rfl rfl ?_
            refine T_lload_n (pc := 39) (i := 1) dX12_fewest_39 rfl rfl ?_
            refine R_callVm0 (pc := 40) (As := [.long (lN (cd a))]) (rest := []) (Or.inl lk_X12_437) mk_X12_beginsAt (m_beginsAt ha) kc_572 ⟨by decide, rfl⟩ lc_572 dX12_fewest_40 rfl rfl (Nat.le_of_ble_eq_true rfl) (by decide) rfl (Nat.le_refl _) (Nat.le_refl _) (fun m1 h5 => ?_)
            have hO1 : OfM F29 Ssp m0 m1 := h5.2.mono (fun j hj => hj) (fun k hk => Or.inr hk)
            have fin : ∀ m : SM2, OfM F29 Ssp m0 m → MdN μ m 0 := fun m g => MdN.of (F := Fbe) (S := Ssp) ((hO.mono (fun j hj => Or.inl hj) (fun k hk => hk)).trans (g.mono (fun j hj => Or.inl (Or.inr (Or.inr hj))) (fun k hk => hk))) (by unfold Fbe Fsr Fs; omega) (fun j => Fbe_Fz) (fun k => Ssp_Sz)
            refine T_iconst (pc := 43) (v := nI 0) dX12_fewest_43 (by decide) ?_
            refine T_istore (pc := 44) (i := 5) (ls' := [some (.ref 572), some (.long (lN (cd a))), none, some (.long (lN (cd t))), none, some (.int (nI 0)), none]) dX12_fewest_44 (by decide) rfl ?_
            refine T_iconst (pc := 46) (v := nI 0) dX12_fewest_46 (by decide) ?_
            refine T_istore (pc := 47) (i := 6) (ls' := [some (.ref 572), some (.long (lN (cd a))), none, some (.long (lN (cd t))), none, some (.int (nI 0)), some (.int (nI 0))]) dX12_fewest_47 (by decide) rfl ?_
            suffices outer : ∀ (g ls lb : Nat) (H : Hd) (m : SM2), ls + g = 1501 → ls ≤ lb → lb ≤ H.length → (∀ i, i < H.length → (hA H i).2 ≤ ls) → (∀ i, lb ≤ i → i < H.length → (hA H i).2 = ls) → (∀ i, i < lb → (hA H i).1 ≠ t) → MHd m H → OfM F29 Ssp m0 m → T γ 11 0 0 M_X12_fewest (Rm (some (.int (fwN X.R (wOf X LL) t g H lb ls))) (fun m => MdN μ m 0)) 0 0 49 [some (.ref 572), some (.long (lN (cd a))), none, some (.long (lN (cd t))), none, some (.int (nI lb)), some (.int (nI ls))] [] (rm m) by
              exact outer 1501 0 0 [(a, 0)] m1 (Nat.zero_add _) (Nat.le_refl _) (Nat.zero_le _) (fun i hi => by
                have hi2 : i < 1 := hi
                obtain rfl : i = 0 := by omega
                exact Nat.le_refl _) (fun i _ hi => by
                have hi2 : i < 1 := hi
                obtain rfl : i = 0 := by omega
                rfl) (fun i z => absurd z (Nat.not_lt_zero i)) h5.1 hO1
            intro g
            induction g with
            | zero =>
              intro ls lb H m hls hlb hlb2 hd1 hd2 hnt hT hO2
              have h15 := hT.len
              exact absurd hlb (by omega)
            | succ g ihg =>
              intro ls lb H m hls hlb hlb2 hd1 hd2 hnt hT hO2
              have h15 := hT.len
              have eS : fwN X.R (wOf X LL) t (g + 1) H lb ls = if (inK (hKs H) t).isSome = true then nI ls else if lb < H.length then (match spI X.R (wOf X LL) (ls + 1) H lb (H.length - lb) with | none => -3 | some H' => fwN X.R (wOf X LL) t g H' H.length (ls + 1)) else -1 := rfl
              rw [eS]
              refine T_aload_n (pc := 49) (i := 0) dX12_fewest_49 rfl rfl ?_
              refine T_lload_n (pc := 50) (i := 3) dX12_fewest_50 rfl rfl ?_
              refine R_callV1 (pc := 51) (As := [.long (lN (cd t))]) (rest := []) (Or.inl lk_X12_460) mk_X12_indexOf (m_indexOf hT ht) kc_572 ⟨by decide, rfl⟩ lc_572 dX12_fewest_51 rfl rfl (Nat.le_of_ble_eq_true rfl) (by decide) rfl (Nat.le_refl _) (Nat.le_refl _) ?_
              rcases inK_of (K := hKs H) (l := t) with ⟨j, k1, k2, k3⟩ | ⟨k1, k3⟩
              · rw [k3, if_pos (Option.isSome_some (a := j))]
                have hj : j < H.length := by rw [List.length_map] at k1; exact k1
                rw [hK_hA hj] at k2
                have hjb : lb ≤ j := by
                  by_cases z : j < lb
                  · exact absurd k2 (hnt j z)
                  · omega
                show T _ _ _ _ _ _ _ _ 54 [some (.ref 572), some (.long (lN (cd a))), none, some (.long (lN (cd t))), none, some (.int (nI lb)), some (.int (nI ls))] [.int (nI j)] (rm m)
                refine R_if_ge (pc := 54) (tgt := 113) (by omega) dX12_fewest_54 (by decide) (fun g1 => ?_) (fun g1 => ?_)
                · skip
                  refine T_aload_n (pc := 113) (i := 0) dX12_fewest_113 rfl rfl ?_
                  refine R_getR (pc := 114) (i := 583) fl_X12_65 rfl kc_572 lc_572 rc_572_27 dX12_fewest_114 ?_
                  refine T_aload_n (pc := 117) (i := 0) dX12_fewest_117 rfl rfl ?_
                  refine T_lload_n (pc := 118) (i := 3) dX12_fewest_118 rfl rfl ?_
                  refine R_callV1 (pc := 119) (As := [.long (lN (cd t))]) (rest := [.ref 583]) (Or.inl lk_X12_460) mk_X12_indexOf (m_indexOf hT ht) kc_572 ⟨by decide, rfl⟩ lc_572 dX12_fewest_119 rfl rfl (Nat.le_of_ble_eq_true rfl) (by decide) rfl (Nat.le_refl _) (Nat.le_refl _) ?_
                  rw [k3]
                  show T _ _ _ _ _ _ _ _ 122 [some (.ref 572), some (.long (lN (cd a))), none, some (.long (lN (cd t))), none, some (.int (nI lb)), some (.int (nI ls))] [.int (nI j), .ref 583] (rm m)
                  refine R_iald (pc := 122) (x := nI ((hA H j).2)) kc_583 lc_583 (by omega) (by first | decide | assumption) ((hT.row j hj).2.2) dX12_fewest_122 ?_
                  rw [hd2 j hjb hj]
                  exact T_iret (pc := 123) (ty := .int) dX12_fewest_123 rfl rfl (Nat.le_refl _) (Nat.le_refl _) ⟨_, rfl, rfl, fin _ hO2⟩
                · exact g1.elim
              · rw [k3, if_neg (c := (none : Option Nat).isSome = true) (by decide)]
                show T _ _ _ _ _ _ _ _ 54 [some (.ref 572), some (.long (lN (cd a))), none, some (.long (lN (cd t))), none, some (.int (nI lb)), some (.int (nI ls))] [.int ((-1))] (rm m)
                refine T_if_ge (pc := 54) (tgt := 113) dX12_fewest_54 (by decide) (fun g1 => ?_) (fun g1 => ?_)
                · exact absurd g1 (by decide)
                · skip
                  refine T_iload (pc := 57) (i := 5) dX12_fewest_57 rfl ?_
                  refine T_aload_n (pc := 59) (i := 0) dX12_fewest_59 rfl rfl ?_
                  refine R_getI (pc := 60) (x := nI H.length) fl_X12_431 rfl kc_572 lc_572 hT.size dX12_fewest_60 ?_
                  refine R_icmp_ne (pc := 63) (tgt := 68) (by omega) (by omega) dX12_fewest_63 (by decide) (fun g2 => ?_) (fun g2 => ?_)
                  · skip
                    rw [if_pos (by omega)]
                    have hO3 := hO2
                    suffices inner : ∀ (f i : Nat) (H1 : Hd) (m : SM2), i + f = H.length → lb ≤ i → H.length ≤ H1.length → (∀ j, j < H.length → hA H1 j = hA H j) → (∀ j, H.length ≤ j → j < H1.length → (hA H1 j).2 = ls + 1) → MHd m H1 → OfM F29 Ssp m0 m → T γ 11 0 0 M_X12_fewest (Rm (some (.int (match spI X.R (wOf X LL) (ls + 1) H1 i f with | none => -3 | some H' => fwN X.R (wOf X LL) t g H' H.length (ls + 1)))) (fun m => MdN μ m 0)) 0 0 68 [some (.ref 572), some (.long (lN (cd a))), none, some (.long (lN (cd t))), none, some (.int (nI i)), some (.int (nI ls))] [] (rm m) by
                      exact inner (H.length - lb) lb H m (by omega) (Nat.le_refl _) (Nat.le_refl _) (fun j _ => rfl) (fun j h6 h7 => absurd h6 (by omega)) hT hO2
                    intro f
                    induction f with
                    | zero =>
                      intro i H1 m hi hbi hle hq hq2 hT1 hO4
                      have h16 := hT1.len
                      obtain rfl : i = H.length := by omega
                      rw [show spI X.R (wOf X LL) (ls + 1) H1 H.length 0 = some H1 from rfl]
                      have h9 := ihg (ls + 1) H.length H1 m (by omega) (by omega) hle (fun j hj => by
                        by_cases z : j < H.length
                        · rw [hq j z]
                          have := hd1 j z
                          omega
                        · rw [hq2 j (by omega) hj]
                          exact Nat.le_refl _) (fun j h6 h7 => hq2 j h6 h7) (fun j hj => by
                        rw [hq j hj, ← hK_hA hj]
                        exact k1 j (by rw [List.length_map]; exact hj)) hT1 hO4
                      refine T_iload (pc := 68) (i := 5) dX12_fewest_68 rfl ?_
                      refine T_aload_n (pc := 70) (i := 0) dX12_fewest_70 rfl rfl ?_
                      refine R_getI (pc := 71) (x := nI H1.length) fl_X12_431 rfl kc_572 lc_572 hT1.size dX12_fewest_71 ?_
                      refine R_icmp_ge (pc := 74) (tgt := 107) (by omega) (by omega) dX12_fewest_74 (by decide) (fun g3 => ?_) (fun g3 => ?_)
                      · skip
                        refine R_iinc (pc := 107) (i := 6) (n := 1) (ls' := [some (.ref 572), some (.long (lN (cd a))), none, some (.long (lN (cd t))), none, some (.int (nI H.length)), some (.int (nI (ls + 1)))]) dX12_fewest_107 rfl rfl ?_
                        refine T_goto (pc := 110) (tgt := 49) dX12_fewest_110 (by decide) ?_
                        exact h9
                      · skip
                        have e7 := hq2 H.length (Nat.le_refl _) g3
                        refine T_aload_n (pc := 77) (i := 0) dX12_fewest_77 rfl rfl ?_
                        refine R_getR (pc := 78) (i := 583) fl_X12_65 rfl kc_572 lc_572 rc_572_27 dX12_fewest_78 ?_
                        refine T_iload (pc := 81) (i := 5) dX12_fewest_81 rfl ?_
                        refine R_iald (pc := 83) (x := nI ((hA H1 H.length).2)) kc_583 lc_583 (by omega) (by first | decide | assumption) ((hT1.row H.length g3).2.2) dX12_fewest_83 ?_
                        refine T_iload (pc := 84) (i := 6) dX12_fewest_84 rfl ?_
                        refine R_icmp_ne (pc := 86) (tgt := 107) (by omega) (by omega) dX12_fewest_86 (by decide) (fun g4 => ?_) (fun g4 => ?_)
                        · skip
                          refine R_iinc (pc := 107) (i := 6) (n := 1) (ls' := [some (.ref 572), some (.long (lN (cd a))), none, some (.long (lN (cd t))), none, some (.int (nI H.length)), some (.int (nI (ls + 1)))]) dX12_fewest_107 rfl rfl ?_
                          refine T_goto (pc := 110) (tgt := 49) dX12_fewest_110 (by decide) ?_
                          exact h9
                        · exact absurd g4 (by omega)
                    | succ f ihf =>
                      intro i H1 m hi hbi hle hq hq2 hT1 hO4
                      have h16 := hT1.len
                      have hi1 : i < H1.length := by omega
                      have hdi : (hA H1 i).2 = ls := by rw [hq i (by omega)]; exact hd2 i hbi (by omega)
                      rw [spI_s]
                      refine T_iload (pc := 68) (i := 5) dX12_fewest_68 rfl ?_
                      refine T_aload_n (pc := 70) (i := 0) dX12_fewest_70 rfl rfl ?_
                      refine R_getI (pc := 71) (x := nI H1.length) fl_X12_431 rfl kc_572 lc_572 hT1.size dX12_fewest_71 ?_
                      refine R_icmp_ge (pc := 74) (tgt := 107) (by omega) (by omega) dX12_fewest_74 (by decide) (fun g3 => ?_) (fun g3 => ?_)
                      · exact absurd g3 (by omega)
                      · skip
                        refine T_aload_n (pc := 77) (i := 0) dX12_fewest_77 rfl rfl ?_
                        refine R_getR (pc := 78) (i := 583) fl_X12_65 rfl kc_572 lc_572 rc_572_27 dX12_fewest_78 ?_
                        refine T_iload (pc := 81) (i := 5) dX12_fewest_81 rfl ?_
                        refine R_iald (pc := 83) (x := nI ((hA H1 i).2)) kc_583 lc_583 (by omega) (by first | decide | assumption) ((hT1.row i hi1).2.2) dX12_fewest_83 ?_
                        refine T_iload (pc := 84) (i := 6) dX12_fewest_84 rfl ?_
                        refine R_icmp_ne (pc := 86) (tgt := 107) (by omega) (by omega) dX12_fewest_86 (by decide) (fun g4 => ?_) (fun g4 => ?_)
                        · exact absurd g4 (by omega)
                        · skip
                          have hsp := m_spreads (γ := γ) (hE.sp hO4) hT1 hi1 (by omega)
                          rw [hdi] at hsp
                          refine T_aload_n (pc := 89) (i := 0) dX12_fewest_89 rfl rfl ?_
                          refine T_iload (pc := 90) (i := 5) dX12_fewest_90 rfl ?_
                          refine R_callVm1 (pc := 92) (As := [.int (nI i)]) (rest := []) (Or.inl lk_X12_441) mk_X12_spreads hsp kc_572 ⟨by decide, rfl⟩ lc_572 dX12_fewest_92 rfl rfl (Nat.le_of_ble_eq_true rfl) (by decide) rfl (Nat.le_refl _) (Nat.le_refl _) (fun m3 h6 => ?_)
                          have hO5 := hO4.trans h6.2
                          cases e5 : tkL (ls + 1) H1 (sucW X.R (wOf X LL) (hA H1 i).1) with
                          | none =>
                            show T _ _ _ _ _ _ _ _ 95 [some (.ref 572), some (.long (lN (cd a))), none, some (.long (lN (cd t))), none, some (.int (nI i)), some (.int (nI ls))] [.int (bI false)] (rm m3)
                            refine R_ifb_ne (pc := 95) (tgt := 101) dX12_fewest_95 (by decide) (fun g5 => ?_) (fun g5 => ?_)
                            · exact absurd g5 (by decide)
                            · skip
                              refine T_bipush (pc := 98) (v := (-3)) dX12_fewest_98 (by decide) ?_
                              exact T_iret (pc := 100) (ty := .int) dX12_fewest_100 rfl rfl (Nat.le_refl _) (Nat.le_refl _) ⟨_, rfl, rfl, fin _ hO5⟩
                          | some H2 =>
                            have hge := tkL_get e5
                            have hnw := tkL_new e5
                            show T _ _ _ _ _ _ _ _ 95 [some (.ref 572), some (.long (lN (cd a))), none, some (.long (lN (cd t))), none, some (.int (nI i)), some (.int (nI ls))] [.int (bI true)] (rm m3)
                            refine R_ifb_ne (pc := 95) (tgt := 101) dX12_fewest_95 (by decide) (fun g5 => ?_) (fun g5 => ?_)
                            · skip
                              refine R_iinc (pc := 101) (i := 5) (n := 1) (ls' := [some (.ref 572), some (.long (lN (cd a))), none, some (.long (lN (cd t))), none, some (.int (nI (i + 1))), some (.int (nI ls))]) dX12_fewest_101 rfl rfl ?_
                              refine T_goto (pc := 104) (tgt := 68) dX12_fewest_104 (by decide) ?_
                              exact ihf (i + 1) H2 m3 (by omega) (by omega) (by omega) (fun j h7 => (hge.2 j (by omega)).trans (hq j h7)) (fun j h7 h8 => by
                                by_cases g9 : j < H1.length
                                · rw [hge.2 j g9]
                                  exact hq2 j h7 g9
                                · exact hnw j (by omega) h8) (h6.1 H2 e5) hO5
                            · exact absurd g5 (by decide)
                  · skip
                    rw [if_neg (by omega)]
                    refine T_iconst (pc := 66) (v := (-1)) dX12_fewest_66 (by decide) ?_
                    exact T_iret (pc := 67) (ty := .int) dX12_fewest_67 rfl rfl (Nat.le_refl _) (Nat.le_refl _) ⟨_, rfl, rfl, fin _ hO2⟩
          · exact absurd h3 (by decide)
        · exact absurd h2 (by decide)
end MB9

