/-! THE MODEL: overlaps, complete -/
theorem Flo_Fz {j : Nat} (h : Flo j) : Fz j := by unfold Flo Fov Fs at h; unfold Fz; omega
theorem crV_1 {R : List Ru} : (crV R false).1 = (crV R true).1 := by
  have h1 := (crF_n R false (ovI R (R.length * R.length) ++ wiI R (R.length * R.length)) (0, 0, none, none)).1
  have h2 := (crF_n R true (ovI R (R.length * R.length) ++ wiI R (R.length * R.length)) (0, 0, none, none)).1
  exact h1.trans h2.symm
theorem MdN.thr {μ m : SM2} {s t : Nat} (h : MdN μ m s) : MdN μ (wI m 572 0 (nI t)) t :=
  ⟨e_wI ⟨rfl, rfl⟩, OfS.sI h.2.1 (Or.inl rfl), fun j hj => (n_wI (by unfold Fz at hj; omega)).trans (h.2.2 j hj)⟩
theorem chk14 {n : Nat} (h : n ≤ 20) : chkN (nI n) 1 4 = decide (1 ≤ n ∧ n ≤ 4) := by
  have g : ∀ k : Fin 21, chkN (nI k.1) 1 4 = decide (1 ≤ k.1 ∧ k.1 ≤ 4) := by decide
  exact g ⟨n, by omega⟩
section MCO
variable {γ : Ga} {μ : SM2}
theorem m_overlaps {z : Int32} {X : Td} {LL : List (List Int32)} (hX : mdT (μ.1 573) X) (hL : LawM (μ.1 573) LL) : Ex γ 17 0 0 M_X12_overlaps [.ref 572, .int z] (rm μ) (Rm (some (.long (if inB z 3 = true then ovV X.R z.toNatClampNeg else lN 0))) (fun m => MdN μ m (mT1 (inB z 3)))) := by
  have hX2 : mdT ((wI μ 572 0 (nI 0)).1 573) X := by rw [w573]; exact hX
  have hL2 : LawM ((wI μ 572 0 (nI 0)).1 573) LL := by rw [w573]; exact hL
  refine Ex.of (by decide +kernel) rfl (Nat.le_of_ble_eq_true rfl) ?_
  show T _ _ _ _ _ _ _ _ _ [some (.ref 572), some (.int (z))] [] (rm μ)
  refine T_aload_n (pc := 0) (i := 0) dX12_overlaps_0 rfl rfl ?_
  refine T_iconst (pc := 1) (v := nI 0) dX12_overlaps_1 (by decide) ?_
  refine R_putI (pc := 2) fl_X12_3 ⟨rfl, rfl⟩ (Or.inl rfl) kc_572 lc_572 dX12_overlaps_2 ?_
  refine T_aload_n (pc := 5) (i := 0) dX12_overlaps_5 rfl rfl ?_
  refine T_iload_n (pc := 6) (i := 1) dX12_overlaps_6 rfl rfl ?_
  refine T_iconst (pc := 7) (v := nI 0) dX12_overlaps_7 (by decide) ?_
  refine T_iconst (pc := 8) (v := nI 2) dX12_overlaps_8 (by decide) ?_
  refine R_callS1 (pc := 9) (av := [.int (z), .int (nI 0), .int (nI 2)]) (rest := [.ref 572]) (Or.inl lk_X12_125) mk_X12_in m_inK dX12_overlaps_9 rfl rfl (Nat.le_of_ble_eq_true rfl) (by decide) rfl (Nat.le_refl _) (Nat.le_refl _) ?_
  rw [chk3]
  cases e : inB z 3 with
  | false =>
    rw [if_neg Bool.false_ne_true]
    show T _ _ _ _ _ _ _ _ 12 [some (.ref 572), some (.int (z))] [.int (bI false), .ref 572] (rm (wI μ 572 0 (nI 0)))
    refine R_ifb_ne (pc := 12) (tgt := 19) dX12_overlaps_12 (by decide) (fun g1 => ?_) (fun g1 => ?_)
    · exact absurd g1 (by decide)
    · skip
      refine T_iconst (pc := 15) (v := nI 1) dX12_overlaps_15 (by decide) ?_
      refine T_goto (pc := 16) (tgt := 20) dX12_overlaps_16 (by decide) ?_
      refine T_iconst (pc := 20) (v := nI 1) dX12_overlaps_20 (by decide) ?_
      refine R_callV1 (pc := 21) (As := [.int (nI 1), .int (nI 1)]) (rest := []) (Or.inl lk_X12_302) mk_X12_throwsIf m_throws1n kc_572 ⟨by decide, rfl⟩ lc_572 dX12_overlaps_21 rfl rfl (Nat.le_of_ble_eq_true rfl) (by decide) rfl (Nat.le_refl _) (Nat.le_refl _) ?_
      refine R_ifb_eq (pc := 24) (tgt := 29) dX12_overlaps_24 (by decide) (fun h3 => ?_) (fun h3 => ?_)
      · exact absurd h3 (by decide)
      · skip
        refine T_lconst (pc := 27) (v := lN 0) dX12_overlaps_27 rfl ?_
        exact T_lret dX12_overlaps_28 rfl (Nat.le_refl _) (Nat.le_refl _) ⟨_, rfl, rfl, Tn.two.n⟩
  | true =>
    obtain ⟨k, hk, rfl⟩ := inB_of (n := 3) (by decide) e
    rw [if_pos (c := true = true) rfl, nI_clamp (n := k) (by omega)]
    show T _ _ _ _ _ _ _ _ 12 [some (.ref 572), some (.int (nI k))] [.int (bI true), .ref 572] (rm (wI μ 572 0 (nI 0)))
    refine R_ifb_ne (pc := 12) (tgt := 19) dX12_overlaps_12 (by decide) (fun g1 => ?_) (fun g1 => ?_)
    · skip
      refine T_iconst (pc := 19) (v := nI 0) dX12_overlaps_19 (by decide) ?_
      refine T_iconst (pc := 20) (v := nI 1) dX12_overlaps_20 (by decide) ?_
      refine R_callV1 (pc := 21) (As := [.int (nI 0), .int (nI 1)]) (rest := []) (Or.inl lk_X12_302) mk_X12_throwsIf m_throws0n kc_572 ⟨by decide, rfl⟩ lc_572 dX12_overlaps_21 rfl rfl (Nat.le_of_ble_eq_true rfl) (by decide) rfl (Nat.le_refl _) (Nat.le_refl _) ?_
      refine R_ifb_eq (pc := 24) (tgt := 29) dX12_overlaps_24 (by decide) (fun h3 => ?_) (fun h3 => ?_)
      · skip
        refine T_aload_n (pc := 29) (i := 0) dX12_overlaps_29 rfl rfl ?_
        refine R_callVm0 (pc := 30) (As := []) (rest := []) (Or.inl lk_X12_504) mk_X12_looksOver (m_looksOver hX2 hL2) kc_572 ⟨by decide, rfl⟩ lc_572 dX12_overlaps_30 rfl rfl (Nat.le_of_ble_eq_true rfl) (by decide) rfl (Nat.le_refl _) (Nat.le_refl _) (fun m hm => ?_)
        obtain ⟨hC, hO⟩ := hm
        have hN : MdN μ m 0 := MdN.of hO (by unfold Flo Fov Fs; omega) (fun j => Flo_Fz) (fun k => S9_Sz)
        have hn := crV_n hX.1.2.1 hX.1.1.2 true
        refine T_iload_n (pc := 33) (i := 1) dX12_overlaps_33 rfl rfl ?_
        refine R_if_ne (pc := 34) (tgt := 45) (by omega) dX12_overlaps_34 (by decide) (fun k1 => ?_) (fun k1 => ?_)
        · skip
          refine T_iload_n (pc := 45) (i := 1) dX12_overlaps_45 rfl rfl ?_
          refine T_iconst (pc := 46) (v := nI 1) dX12_overlaps_46 (by decide) ?_
          refine R_icmp_ne (pc := 47) (tgt := 58) (by omega) (by omega) dX12_overlaps_47 (by decide) (fun k2 => ?_) (fun k2 => ?_)
          · skip
            refine T_aload_n (pc := 58) (i := 0) dX12_overlaps_58 rfl rfl ?_
            refine R_getL (pc := 59) (x := (vO (crV X.R true).2.2.1)) fl_X12_490 rfl kc_572 lc_572 hC.1.2.2.1 dX12_overlaps_59 ?_
            rw [show ovV X.R k = vO (crV X.R true).2.2.1 by unfold ovV; rw [if_neg (by omega), if_neg (by omega)]]
            exact T_lret dX12_overlaps_62 rfl (Nat.le_refl _) (Nat.le_refl _) ⟨_, rfl, rfl, hN⟩
          · skip
            refine T_aload_n (pc := 50) (i := 0) dX12_overlaps_50 rfl rfl ?_
            refine R_getI (pc := 51) (x := nI ((crV X.R true).2.1)) fl_X12_484 rfl kc_572 lc_572 hC.1.2.1 dX12_overlaps_51 ?_
            refine R_i2l (pc := 54) (by omega) dX12_overlaps_54 ?_
            refine T_goto (pc := 55) (tgt := 62) dX12_overlaps_55 (by decide) ?_
            rw [show ovV X.R k = lN (crV X.R true).2.1 by unfold ovV; rw [if_neg (by omega), if_pos (by omega)]]
            exact T_lret dX12_overlaps_62 rfl (Nat.le_refl _) (Nat.le_refl _) ⟨_, rfl, rfl, hN⟩
        · skip
          refine T_aload_n (pc := 37) (i := 0) dX12_overlaps_37 rfl rfl ?_
          refine R_getI (pc := 38) (x := nI ((crV X.R true).1)) fl_X12_478 rfl kc_572 lc_572 hC.1.1 dX12_overlaps_38 ?_
          refine R_i2l (pc := 41) (by omega) dX12_overlaps_41 ?_
          refine T_goto (pc := 42) (tgt := 62) dX12_overlaps_42 (by decide) ?_
          rw [show ovV X.R k = lN (crV X.R true).1 by unfold ovV; rw [if_pos (by omega), crV_1]]
          exact T_lret dX12_overlaps_62 rfl (Nat.le_refl _) (Nat.le_refl _) ⟨_, rfl, rfl, hN⟩
      · exact absurd h3 (by decide)
    · exact absurd g1 (by decide)
/-- whether there is a RULE to add and no place for it -/
def cmT (X : Td) : Nat := if (cmpl X.R).isSome = true ∧ ¬ X.R.length < 12 then 1 else 0
def cmI (R : List Ru) : Int32 := match cmpl R with
  | none => -1
  | some _ => if R.length < 12 then nI R.length else nI 0
theorem m_complete {X : Td} {U : List Td} {LL : List (List Int32)} (hX : mdT (μ.1 573) X) (hL : LawM (μ.1 573) LL) (hA : mdA μ U) : Ex γ 17 0 0 M_X12_complete [.ref 572] (rm μ) (Rm (some (.int (cmI X.R))) (fun m => (mdT (m.1 573) (cmX X) ∧ mdA m (cmU X U)) ∧ MdU μ m (cmT X))) := by
  have hX2 : mdT ((wI μ 572 0 (nI 0)).1 573) X := by rw [w573]; exact hX
  have hL2 : LawM ((wI μ 572 0 (nI 0)).1 573) LL := by rw [w573]; exact hL
  have h12 := hX.1.1.2
  obtain ⟨Q, hQ⟩ : ∃ Q, Q = Rm (some (.int (cmI X.R))) (fun m => (mdT (m.1 573) (cmX X) ∧ mdA m (cmU X U)) ∧ MdU μ m (cmT X)) := ⟨_, rfl⟩
  rw [← hQ]
  refine Ex.of (by decide +kernel) rfl (Nat.le_of_ble_eq_true rfl) ?_
  show T _ _ _ _ _ _ _ _ _ [some (.ref 572), none, none, none, none] [] (rm μ)
  refine T_aload_n (pc := 0) (i := 0) dX12_complete_0 rfl rfl ?_
  refine T_iconst (pc := 1) (v := nI 0) dX12_complete_1 (by decide) ?_
  refine R_putI (pc := 2) fl_X12_3 ⟨rfl, rfl⟩ (Or.inl rfl) kc_572 lc_572 dX12_complete_2 ?_
  refine T_aload_n (pc := 5) (i := 0) dX12_complete_5 rfl rfl ?_
  refine R_callVm0 (pc := 6) (As := []) (rest := []) (Or.inl lk_X12_504) mk_X12_looksOver (m_looksOver hX2 hL2) kc_572 ⟨by decide, rfl⟩ lc_572 dX12_complete_6 rfl rfl (Nat.le_of_ble_eq_true rfl) (by decide) rfl (Nat.le_refl _) (Nat.le_refl _) (fun m hm => ?_)
  obtain ⟨hC, hO⟩ := hm
  have hN : MdN μ m 0 := MdN.of hO (by unfold Flo Fov Fs; omega) (fun j => Flo_Fz) (fun k => S9_Sz)
  have none9 : cmpl X.R = none → ∀ u v : Int64, T γ 17 0 0 M_X12_complete Q 0 0 60 [some (.ref 572), some (.long u), none, some (.long v), none] [] (rm m) := fun e u v => by
    have e1 : cmI X.R = -1 := by unfold cmI; rw [e]
    have e2 : cmX X = X := by unfold cmX; rw [e]
    have e3 : cmU X U = U := by unfold cmU; rw [e]
    have e4 : cmT X = 0 := by unfold cmT; rw [e]; rfl
    rw [e1, e2, e3, e4] at hQ
    refine T_iconst (pc := 60) (v := (-1)) dX12_complete_60 (by decide) ?_
    rw [hQ]
    exact T_iret (pc := 61) (ty := .int) dX12_complete_61 rfl rfl (Nat.le_refl _) (Nat.le_refl _) ⟨_, rfl, rfl, hN.s hX hA⟩
  have hP := hC.1.2.2.2
  cases eg : (crV X.R true).2.2.2 with
  | none =>
    have ec : cmpl X.R = none := by unfold cmpl; rw [eg]
    rw [eg] at hP
    obtain ⟨u, eu⟩ : ∃ u, m.2 572 38 = u := ⟨_, rfl⟩
    obtain ⟨v, ev⟩ : ∃ v, m.2 572 39 = v := ⟨_, rfl⟩
    refine T_aload_n (pc := 9) (i := 0) dX12_complete_9 rfl rfl ?_
    refine R_getL (pc := 10) (x := u) fl_X12_472 rfl kc_572 lc_572 eu dX12_complete_10 ?_
    refine T_aload_n (pc := 13) (i := 0) dX12_complete_13 rfl rfl ?_
    refine R_getL (pc := 14) (x := v) fl_X12_475 rfl kc_572 lc_572 ev dX12_complete_14 ?_
    refine T_mmaxL (st := []) (pc := 17) lk_X12_507 (by decide) (Nat.le_refl _) (Nat.le_refl _) dX12_complete_17 ?_
    generalize (if v < u then u else v) = g9
    refine T_lstore_n (pc := 20) (i := 1) (ls' := [some (.ref 572), some (.long (g9)), none, none, none]) dX12_complete_20 rfl (by decide) rfl ?_
    refine T_aload_n (pc := 21) (i := 0) dX12_complete_21 rfl rfl ?_
    refine R_getL (pc := 22) (x := u) fl_X12_472 rfl kc_572 lc_572 eu dX12_complete_22 ?_
    refine T_aload_n (pc := 25) (i := 0) dX12_complete_25 rfl rfl ?_
    refine R_getL (pc := 26) (x := v) fl_X12_475 rfl kc_572 lc_572 ev dX12_complete_26 ?_
    refine T_mminL (st := []) (pc := 29) lk_X12_457 (by decide) (Nat.le_refl _) (Nat.le_refl _) dX12_complete_29 ?_
    generalize (if v < u then v else u) = l9
    refine T_lstore_n (pc := 32) (i := 3) (ls' := [some (.ref 572), some (.long (g9)), none, some (.long (l9)), none]) dX12_complete_32 rfl (by decide) rfl ?_
    refine T_aload_n (pc := 33) (i := 0) dX12_complete_33 rfl rfl ?_
    refine R_getI (pc := 34) (x := bI false) fl_X12_469 rfl kc_572 lc_572 hP.1 dX12_complete_34 ?_
    refine R_ifb_eq (pc := 37) (tgt := 60) dX12_complete_37 (by decide) (fun k1 => ?_) (fun k1 => ?_)
    · skip
      exact none9 ec _ _
    · exact absurd k1 (by decide)
  | some g =>
    rw [eg] at hP
    obtain ⟨⟨w1, w2, hlt⟩, hor⟩ := hP.2 g rfl
    have b1 := cd_lt w1
    have b2 := cd_lt w2
    have s1 := w1.1
    have s2 := w2.1
    have hg1 : 1 ≤ g.1.length := by
      cases e1 : g.1 with
      | nil =>
        have := cd_pos g.2
        rw [e1] at hlt
        have e2 : cd [] = 1 := rfl
        omega
      | cons a t => exact Nat.succ_pos _
    have hg2 : g.2.length ≤ g.1.length := by
      have a1 := cd_lo g.2
      have a2 := cd_hi w1.2
      rcases Nat.lt_or_ge g.1.length g.2.length with z | z
      · have a3 : 8 ^ (g.1.length + 1) ≤ 8 ^ g.2.length := Nat.pow_le_pow_right (by decide) z
        rw [Nat.pow_succ] at a3
        omega
      · omega
    have t32 : T γ 17 0 0 M_X12_complete Q 0 0 32 [some (.ref 572), some (.long (lN (cd g.1))), none, none, none] [.long (lN (cd g.2))] (rm m) := by
      refine T_lstore_n (pc := 32) (i := 3) (ls' := [some (.ref 572), some (.long (lN (cd g.1))), none, some (.long (lN (cd g.2))), none]) dX12_complete_32 rfl (by decide) rfl ?_
      refine T_aload_n (pc := 33) (i := 0) dX12_complete_33 rfl rfl ?_
      refine R_getI (pc := 34) (x := bI true) fl_X12_469 rfl kc_572 lc_572 hP.1 dX12_complete_34 ?_
      refine R_ifb_eq (pc := 37) (tgt := 60) dX12_complete_37 (by decide) (fun k1 => ?_) (fun k1 => ?_)
      · exact absurd k1 (by decide)
      · skip
        refine T_lload_n (pc := 40) (i := 1) dX12_complete_40 rfl rfl ?_
        refine R_callS1 (pc := 41) (av := [.long (lN (cd g.1))]) (rest := []) (Or.inl lk_X12_13) mk_X12_size (m_size w1) dX12_complete_41 rfl rfl (Nat.le_of_ble_eq_true rfl) (by decide) rfl (Nat.le_refl _) (Nat.le_refl _) ?_
        refine T_iconst (pc := 44) (v := nI 1) dX12_complete_44 (by decide) ?_
        refine T_iconst (pc := 45) (v := nI 4) dX12_complete_45 (by decide) ?_
        refine R_callS1 (pc := 46) (av := [.int (nI g.1.length), .int (nI 1), .int (nI 4)]) (rest := []) (Or.inl lk_X12_125) mk_X12_in m_inK dX12_complete_46 rfl rfl (Nat.le_of_ble_eq_true rfl) (by decide) rfl (Nat.le_refl _) (Nat.le_refl _) ?_
        rw [chk14 s1]
        by_cases h4 : g.1.length ≤ 4
        · have ec : cmpl X.R = some g := by unfold cmpl; rw [eg]; exact if_pos h4
          rw [decide_eq_true (p := 1 ≤ g.1.length ∧ g.1.length ≤ 4) ⟨hg1, h4⟩]
          show T _ _ _ _ _ _ _ _ 49 [some (.ref 572), some (.long (lN (cd g.1))), none, some (.long (lN (cd g.2))), none] [.int (bI true)] (rm m)
          refine R_ifb_eq (pc := 49) (tgt := 60) dX12_complete_49 (by decide) (fun k2 => ?_) (fun k2 => ?_)
          · exact absurd k2 (by decide)
          · skip
            refine T_lload_n (pc := 52) (i := 3) dX12_complete_52 rfl rfl ?_
            refine R_callS1 (pc := 53) (av := [.long (lN (cd g.2))]) (rest := []) (Or.inl lk_X12_13) mk_X12_size (m_size w2) dX12_complete_53 rfl rfl (Nat.le_of_ble_eq_true rfl) (by decide) rfl (Nat.le_refl _) (Nat.le_refl _) ?_
            refine T_iconst (pc := 56) (v := nI 5) dX12_complete_56 (by decide) ?_
            refine R_icmp_le (pc := 57) (tgt := 62) (by omega) (by omega) dX12_complete_57 (by decide) (fun k3 => ?_) (fun k3 => ?_)
            · skip
              have e1 : cmI X.R = if X.R.length < 12 then nI X.R.length else nI 0 := by unfold cmI; rw [ec]
              have e2 : cmX X = if X.R.length < 12 then (X.R ++ [g], X.2) else X := by unfold cmX; rw [ec]
              have e3 : cmU X U = if X.R.length < 12 then (X :: U).take 16 else U := by unfold cmU; rw [ec]
              have e4 : cmT X = if X.R.length < 12 then 0 else 1 := by
                unfold cmT
                rw [ec]
                by_cases z : X.R.length < 12
                · rw [if_pos z, if_neg (fun y => y.2 z)]
                · rw [if_neg z, if_pos ⟨rfl, z⟩]
              have hX0 : mdT (m.1 573) X := by rw [(hN.2.1 573 (by unfold Sz; omega)).1]; exact hX
              rw [e1, e2, e3, e4] at hQ
              refine T_aload_n (pc := 62) (i := 0) dX12_complete_62 rfl rfl ?_
              refine T_aload_n (pc := 63) (i := 0) dX12_complete_63 rfl rfl ?_
              refine R_callV1 (pc := 64) (As := []) (rest := [.ref 572]) (Or.inl lk_X12_121) mk_X12_rules (m_rules hX0.1) kc_572 ⟨by decide, rfl⟩ lc_572 dX12_complete_64 rfl rfl (Nat.le_of_ble_eq_true rfl) (by decide) rfl (Nat.le_refl _) (Nat.le_refl _) ?_
              refine T_bipush (pc := 67) (v := nI 12) dX12_complete_67 (by decide) ?_
              refine R_icmp_ne (pc := 69) (tgt := 76) (by omega) (by omega) dX12_complete_69 (by decide) (fun k4 => ?_) (fun k4 => ?_)
              · skip
                rw [if_pos (by omega), if_pos (by omega), if_pos (by omega), if_pos (by omega)] at hQ
                refine T_iconst (pc := 76) (v := nI 0) dX12_complete_76 (by decide) ?_
                refine T_iconst (pc := 77) (v := nI 1) dX12_complete_77 (by decide) ?_
                refine R_callV1 (pc := 78) (As := [.int (nI 0), .int (nI 1)]) (rest := []) (Or.inl lk_X12_302) mk_X12_throwsIf m_throws0n kc_572 ⟨by decide, rfl⟩ lc_572 dX12_complete_78 rfl rfl (Nat.le_of_ble_eq_true rfl) (by decide) rfl (Nat.le_refl _) (Nat.le_refl _) ?_
                refine R_ifb_eq (pc := 81) (tgt := 86) dX12_complete_81 (by decide) (fun k5 => ?_) (fun k5 => ?_)
                · skip
                  refine T_aload_n (pc := 86) (i := 0) dX12_complete_86 rfl rfl ?_
                  refine R_callVm0 (pc := 87) (As := []) (rest := []) (Or.inl lk_X12_408) mk_X12_remembers (m_remembers ((hN.2.2 6 (by unfold Fz; omega)).trans hA.1.1) hA.1.2) kc_572 ⟨by decide, rfl⟩ lc_572 dX12_complete_87 rfl rfl (Nat.le_of_ble_eq_true rfl) (by decide) rfl (Nat.le_refl _) (Nat.le_refl _) (fun m1 h5 => ?_)
                  have hR := m_remR hN hX hA h5
                  refine T_aload_n (pc := 90) (i := 0) dX12_complete_90 rfl rfl ?_
                  refine T_lload_n (pc := 91) (i := 1) dX12_complete_91 rfl rfl ?_
                  refine T_lload_n (pc := 92) (i := 3) dX12_complete_92 rfl rfl ?_
                  refine R_callVm0 (pc := 93) (As := [.long (lN (cd g.1)), .long (lN (cd g.2))]) (rest := []) (Or.inl lk_X12_182) mk_X12_adds (m_adds (y := g) hR.1.1 ⟨w1.2, hg1, h4, w2.2, by omega⟩ (by omega)) kc_572 ⟨by decide, rfl⟩ lc_572 dX12_complete_93 rfl rfl (Nat.le_of_ble_eq_true rfl) (by decide) rfl (Nat.le_refl _) (Nat.le_refl _) (fun m2 h6 => ?_)
                  have hRm : m2.1 573 0 = nI (X.R.length + 1) := h6.1.1.1.1.trans (congrArg nI (by rw [List.length_append]; rfl))
                  refine T_aload_n (pc := 96) (i := 0) dX12_complete_96 rfl rfl ?_
                  refine R_callV1 (pc := 97) (As := []) (rest := []) (Or.inl lk_X12_121) mk_X12_rules (m_rulesN hRm) kc_572 ⟨by decide, rfl⟩ lc_572 dX12_complete_97 rfl rfl (Nat.le_of_ble_eq_true rfl) (by decide) rfl (Nat.le_refl _) (Nat.le_refl _) ?_
                  refine T_iconst (pc := 100) (v := nI 1) dX12_complete_100 (by decide) ?_
                  refine R_isub (pc := 101) (by omega) dX12_complete_101 ?_
                  have hu := hR.u (m2 := m2) (h6.2.1.mono (fun k hk => Or.inr (Or.inl hk))) (fun j _ => h6.2.1.i (by unfold S573; omega) j) h6.2.2
                  rw [hQ]
                  exact T_iret (pc := 102) (ty := .int) dX12_complete_102 rfl rfl (Nat.le_refl _) (Nat.le_refl _) ⟨_, rfl, rfl, ⟨h6.1, hu.1⟩, hu.2⟩
                · exact absurd k5 (by decide)
              · skip
                rw [if_neg (by omega), if_neg (by omega), if_neg (by omega), if_neg (by omega)] at hQ
                refine T_iconst (pc := 72) (v := nI 1) dX12_complete_72 (by decide) ?_
                refine T_goto (pc := 73) (tgt := 77) dX12_complete_73 (by decide) ?_
                refine T_iconst (pc := 77) (v := nI 1) dX12_complete_77 (by decide) ?_
                refine R_callV1 (pc := 78) (As := [.int (nI 1), .int (nI 1)]) (rest := []) (Or.inl lk_X12_302) mk_X12_throwsIf m_throws1n kc_572 ⟨by decide, rfl⟩ lc_572 dX12_complete_78 rfl rfl (Nat.le_of_ble_eq_true rfl) (by decide) rfl (Nat.le_refl _) (Nat.le_refl _) ?_
                refine R_ifb_eq (pc := 81) (tgt := 86) dX12_complete_81 (by decide) (fun k5 => ?_) (fun k5 => ?_)
                · exact absurd k5 (by decide)
                · skip
                  refine T_iconst (pc := 84) (v := nI 0) dX12_complete_84 (by decide) ?_
                  rw [hQ]
                  exact T_iret (pc := 85) (ty := .int) dX12_complete_85 rfl rfl (Nat.le_refl _) (Nat.le_refl _) ⟨_, rfl, rfl, hN.thr.s hX hA⟩
            · exact absurd k3 (by omega)
        · have ec : cmpl X.R = none := by unfold cmpl; rw [eg]; exact if_neg h4
          rw [decide_eq_false (p := 1 ≤ g.1.length ∧ g.1.length ≤ 4) (fun z => h4 z.2)]
          show T _ _ _ _ _ _ _ _ 49 [some (.ref 572), some (.long (lN (cd g.1))), none, some (.long (lN (cd g.2))), none] [.int (bI false)] (rm m)
          refine R_ifb_eq (pc := 49) (tgt := 60) dX12_complete_49 (by decide) (fun k2 => ?_) (fun k2 => ?_)
          · skip
            exact none9 ec _ _
          · exact absurd k2 (by decide)
    rcases hor with ⟨o1, o2⟩ | ⟨o1, o2⟩
    · skip
      refine T_aload_n (pc := 9) (i := 0) dX12_complete_9 rfl rfl ?_
      refine R_getL (pc := 10) (x := lN (cd g.1)) fl_X12_472 rfl kc_572 lc_572 o1 dX12_complete_10 ?_
      refine T_aload_n (pc := 13) (i := 0) dX12_complete_13 rfl rfl ?_
      refine R_getL (pc := 14) (x := lN (cd g.2)) fl_X12_475 rfl kc_572 lc_572 o2 dX12_complete_14 ?_
      refine T_mmaxL (st := []) (pc := 17) lk_X12_507 (by decide) (Nat.le_refl _) (Nat.le_refl _) dX12_complete_17 ?_
      rw [if_pos (show lN (cd g.2) < lN (cd g.1) from (pk_lLT (by omega) (by omega)).mpr hlt)]
      refine T_lstore_n (pc := 20) (i := 1) (ls' := [some (.ref 572), some (.long (lN (cd g.1))), none, none, none]) dX12_complete_20 rfl (by decide) rfl ?_
      refine T_aload_n (pc := 21) (i := 0) dX12_complete_21 rfl rfl ?_
      refine R_getL (pc := 22) (x := lN (cd g.1)) fl_X12_472 rfl kc_572 lc_572 o1 dX12_complete_22 ?_
      refine T_aload_n (pc := 25) (i := 0) dX12_complete_25 rfl rfl ?_
      refine R_getL (pc := 26) (x := lN (cd g.2)) fl_X12_475 rfl kc_572 lc_572 o2 dX12_complete_26 ?_
      refine T_mminL (st := []) (pc := 29) lk_X12_457 (by decide) (Nat.le_refl _) (Nat.le_refl _) dX12_complete_29 ?_
      rw [if_pos (show lN (cd g.2) < lN (cd g.1) from (pk_lLT (by omega) (by omega)).mpr hlt)]
      exact t32
    · skip
      refine T_aload_n (pc := 9) (i := 0) dX12_complete_9 rfl rfl ?_
      refine R_getL (pc := 10) (x := lN (cd g.2)) fl_X12_472 rfl kc_572 lc_572 o1 dX12_complete_10 ?_
      refine T_aload_n (pc := 13) (i := 0) dX12_complete_13 rfl rfl ?_
      refine R_getL (pc := 14) (x := lN (cd g.1)) fl_X12_475 rfl kc_572 lc_572 o2 dX12_complete_14 ?_
      refine T_mmaxL (st := []) (pc := 17) lk_X12_507 (by decide) (Nat.le_refl _) (Nat.le_refl _) dX12_complete_17 ?_
      rw [if_neg (show ¬ lN (cd g.1) < lN (cd g.2) from fun z => absurd ((pk_lLT (by omega) (by omega)).mp z) (by omega))]
      refine T_lstore_n (pc := 20) (i := 1) (ls' := [some (.ref 572), some (.long (lN (cd g.1))), none, none, none]) dX12_complete_20 rfl (by decide) rfl ?_
      refine T_aload_n (pc := 21) (i := 0) dX12_complete_21 rfl rfl ?_
      refine R_getL (pc := 22) (x := lN (cd g.2)) fl_X12_472 rfl kc_572 lc_572 o1 dX12_complete_22 ?_
      refine T_aload_n (pc := 25) (i := 0) dX12_complete_25 rfl rfl ?_
      refine R_getL (pc := 26) (x := lN (cd g.1)) fl_X12_475 rfl kc_572 lc_572 o2 dX12_complete_26 ?_
      refine T_mminL (st := []) (pc := 29) lk_X12_457 (by decide) (Nat.le_refl _) (Nat.le_refl _) dX12_complete_29 ?_
      rw [if_neg (show ¬ lN (cd g.1) < lN (cd g.2) from fun z => absurd ((pk_lLT (by omega) (by omega)).mp z) (by omega))]
      exact t32
end MCO

