/-! THE MODEL: OVERLAPS, how two settle -/
abbrev w00 : Wk := (0, 0, fun _ _ _ => false)
def PrM (m : SM2) (p : Option (List Nat × List Nat)) : Prop := m.1 572 40 = bI p.isSome ∧ ∀ q, p = some q → (Mw q.1 ∧ Mw q.2 ∧ cd q.2 < cd q.1) ∧ ((m.2 572 38 = lN (cd q.1) ∧ m.2 572 39 = lN (cd q.2)) ∨ (m.2 572 38 = lN (cd q.2) ∧ m.2 572 39 = lN (cd q.1)))
theorem PrM.of {F S : Nat → Prop} {μ m : SM2} {p : Option (List Nat × List Nat)} (h : PrM μ p) (g : OfM F S μ m) (h1 : ∀ j, F j → ¬ (38 ≤ j ∧ j ≤ 40)) : PrM m p :=
  ⟨(g.fi (fun z => h1 40 z (by omega))).trans h.1, fun q e => ⟨(h.2 q e).1, (h.2 q e).2.elim (fun z => Or.inl ⟨(g.fl (fun z => h1 38 z (by omega))).trans z.1, (g.fl (fun z => h1 39 z (by omega))).trans z.2⟩) (fun z => Or.inr ⟨(g.fl (fun z => h1 38 z (by omega))).trans z.1, (g.fl (fun z => h1 39 z (by omega))).trans z.2⟩)⟩⟩
def CrM (m : SM2) (c : Cr) : Prop := (m.1 572 35 = nI c.1 ∧ m.1 572 36 = nI c.2.1 ∧ m.2 572 37 = vO c.2.2.1 ∧ PrM m c.2.2.2) ∧ (c.2.1 = 0 ↔ c.2.2.1 = none)
theorem CrM.of {F S : Nat → Prop} {μ m : SM2} {c : Cr} (h : CrM μ c) (g : OfM F S μ m) (h1 : ∀ j, F j → ¬ (35 ≤ j ∧ j ≤ 40)) : CrM m c :=
  ⟨⟨(g.fi (fun z => h1 35 z (by omega))).trans h.1.1, (g.fi (fun z => h1 36 z (by omega))).trans h.1.2.1, (g.fl (fun z => h1 37 z (by omega))).trans h.1.2.2.1, h.1.2.2.2.of g (fun j hj z => h1 j hj (by omega))⟩, h.2⟩
def Fsa (j : Nat) : Prop := Fs j ∨ (38 ≤ j ∧ j ≤ 40)
def Fov (j : Nat) : Prop := Fs j ∨ (32 ≤ j ∧ j ≤ 40)
theorem mEnv.lawless {m : SM2} {X : Td} {LL : List (List Int32)} (h : mEnv m X.R LL (wOf X LL)) : mEnv (wI m 572 17 (nI 0)) X.R LL w00 := by
  have e : (wI m 572 17 (nI 0)).1 573 = m.1 573 := funext (fun j => n_wI (by omega))
  obtain ⟨t, h1, h2, h3⟩ := h.2.2.2.1
  refine ⟨by rw [e]; exact h.1, by rw [e]; exact h.2.1, ⟨by decide, by decide⟩, ⟨t, h1, (n_wI (by omega)).trans h2, h3⟩, Or.inr ⟨e_wI ⟨rfl, rfl⟩, fun _ _ _ => rfl⟩⟩
section MCR
variable {γ : Ga} {μ : SM2}
theorem m_settleAlike {R : List Ru} {LL : List (List Int32)} {a b : List Nat} {p : Option (List Nat × List Nat)} (hE : mEnv μ R LL w00) (ea : μ.2 572 33 = lN (cd a)) (eb : μ.2 572 34 = lN (cd b)) (ha : Mw a) (hb : Mw b) (hp : PrM μ p) : Ex γ 13 0 0 M_X12_settleAlike [.ref 572] (rm μ) (Rm (some (.int (bI (crL (stl (nxR R w00) 100 a) (stl (nxR R w00) 100 b))))) (fun m => PrM m (if crL (stl (nxR R w00) 100 a) (stl (nxR R w00) 100 b) = true then p else crG (stl (nxR R w00) 100 a) (stl (nxR R w00) 100 b) p) ∧ OfM Fsa S9 μ m)) := by
  obtain ⟨A, hA9⟩ : ∃ A, A = stl (nxR R w00) 100 a := ⟨_, rfl⟩
  obtain ⟨B, hB9⟩ : ∃ B, B = stl (nxR R w00) 100 b := ⟨_, rfl⟩
  have aw : ∀ x, A = some x → Mw x.2 := fun x hx => (stl_mw hE.1.2.1 ha (by rw [← hA9]; exact hx)).1
  have bw : ∀ x, B = some x → Mw x.2 := fun x hx => (stl_mw hE.1.2.1 hb (by rw [← hB9]; exact hx)).1
  have kA := m_isSettling (γ := γ) (N := 100) hE ha (by decide)
  rw [← hA9] at kA ⊢
  rw [← hB9]
  obtain ⟨Q, hQ⟩ : ∃ Q, Q = Rm (some (.int (bI (crL A B)))) (fun m => PrM m (if crL A B = true then p else crG A B p) ∧ OfM Fsa S9 μ m) := ⟨_, rfl⟩
  rw [← hQ]
  refine Ex.of (by decide +kernel) rfl (Nat.le_of_ble_eq_true rfl) ?_
  show T _ _ _ _ _ _ _ _ _ [some (.ref 572), none, none, none, none, none] [] (rm μ)
  refine T_aload_n (pc := 0) (i := 0) dX12_settleAlike_0 rfl rfl ?_
  refine T_aload_n (pc := 1) (i := 0) dX12_settleAlike_1 rfl rfl ?_
  refine R_getL (pc := 2) (x := lN (cd a)) fl_X12_463 rfl kc_572 lc_572 ea dX12_settleAlike_2 ?_
  refine T_bipush (pc := 5) (v := nI 100) dX12_settleAlike_5 (by decide) ?_
  refine T_iconst (pc := 7) (v := nI 0) dX12_settleAlike_7 (by decide) ?_
  refine R_callVm1 (pc := 8) (As := [.long (lN (cd a)), .int (nI 100), .int (nI 0)]) (rest := []) (Or.inl lk_X12_423) mk_X12_isSettling kA kc_572 ⟨by decide, rfl⟩ lc_572 dX12_settleAlike_8 rfl rfl (Nat.le_of_ble_eq_true rfl) (by decide) rfl (Nat.le_refl _) (Nat.le_refl _) (fun m1 h1 => ?_)
  obtain ⟨v1, hO1⟩ := h1
  have hE1 : mEnv m1 R LL w00 := hE.k hO1 (by unfold Fs; omega) (by unfold Fs; omega)
  have kB := m_isSettling (γ := γ) (N := 100) hE1 hb (by decide)
  rw [← hB9] at kB
  obtain ⟨v, ev⟩ : ∃ v, m1.2 572 21 = v := ⟨_, rfl⟩
  refine T_istore_n (pc := 11) (i := 1) (ls' := [some (.ref 572), some (.int (bI A.isSome)), none, none, none, none]) dX12_settleAlike_11 rfl (by decide) rfl ?_
  refine T_aload_n (pc := 12) (i := 0) dX12_settleAlike_12 rfl rfl ?_
  refine R_getL (pc := 13) (x := v) fl_X12_363 rfl kc_572 lc_572 ev dX12_settleAlike_13 ?_
  refine T_lstore_n (pc := 16) (i := 2) (ls' := [some (.ref 572), some (.int (bI A.isSome)), some (.long (v)), none, none, none]) dX12_settleAlike_16 rfl (by decide) rfl ?_
  refine T_aload_n (pc := 17) (i := 0) dX12_settleAlike_17 rfl rfl ?_
  refine T_aload_n (pc := 18) (i := 0) dX12_settleAlike_18 rfl rfl ?_
  refine R_getL (pc := 19) (x := lN (cd b)) fl_X12_466 rfl kc_572 lc_572 ((hO1.fl (by unfold Fs; omega)).trans eb) dX12_settleAlike_19 ?_
  refine T_bipush (pc := 22) (v := nI 100) dX12_settleAlike_22 (by decide) ?_
  refine T_iconst (pc := 24) (v := nI 0) dX12_settleAlike_24 (by decide) ?_
  refine R_callVm1 (pc := 25) (As := [.long (lN (cd b)), .int (nI 100), .int (nI 0)]) (rest := []) (Or.inl lk_X12_423) mk_X12_isSettling kB kc_572 ⟨by decide, rfl⟩ lc_572 dX12_settleAlike_25 rfl rfl (Nat.le_of_ble_eq_true rfl) (by decide) rfl (Nat.le_refl _) (Nat.le_refl _) (fun m2 h2 => ?_)
  obtain ⟨v2, hO2⟩ := h2
  have hO : OfM Fs S9 μ m2 := hO1.trans hO2
  have hOa : OfM Fsa S9 μ m2 := hO.mono (fun j hj => Or.inl hj) (fun k hk => hk)
  have hp2 : PrM m2 p := hp.of hO (fun j hj => by unfold Fs at hj; omega)
  have last : ∀ (b1 b2 : Bool) (u : Int64) (m : SM2), PrM m (if crL A B = true then p else crG A B p) → OfM Fsa S9 μ m → T γ 13 0 0 M_X12_settleAlike Q 0 0 94 [some (.ref 572), some (.int (bI b1)), some (.long u), none, some (.int (bI b2)), some (.int (bI (crL A B)))] [] (rm m) := fun b1 b2 u m g1 g2 => by
    refine T_iload (pc := 94) (i := 5) dX12_settleAlike_94 rfl ?_
    rw [hQ]
    exact T_iret (pc := 96) (ty := .boolean) dX12_settleAlike_96 rfl (nar_b _) (Nat.le_refl _) (Nat.le_refl _) ⟨_, rfl, rfl, g1, g2⟩
  cases A with
  | none =>
    have g1 : PrM m2 (if crL none B = true then p else crG none B p) := by
      have e : (if crL none B = true then p else crG none B p) = p := by
        rw [if_neg (by show ¬ false = true; decide)]
        cases p with
        | none => rfl
        | some q => rfl
      rw [e]
      exact hp2
    show T _ _ _ _ _ _ _ _ 28 [some (.ref 572), some (.int (bI false)), some (.long (v)), none, none, none] [.int (bI B.isSome)] (rm m2)
    refine T_istore (pc := 28) (i := 4) (ls' := [some (.ref 572), some (.int (bI false)), some (.long (v)), none, some (.int (bI B.isSome)), none]) dX12_settleAlike_28 (by decide) rfl ?_
    refine T_iload_n (pc := 30) (i := 1) dX12_settleAlike_30 rfl rfl ?_
    refine R_ifb_eq (pc := 31) (tgt := 52) dX12_settleAlike_31 (by decide) (fun k1 => ?_) (fun k1 => ?_)
    · skip
      refine T_iconst (pc := 52) (v := nI 0) dX12_settleAlike_52 (by decide) ?_
      refine T_istore (pc := 53) (i := 5) (ls' := [some (.ref 572), some (.int (bI false)), some (.long (v)), none, some (.int (bI B.isSome)), some (.int (nI 0))]) dX12_settleAlike_53 (by decide) rfl ?_
      refine T_iload_n (pc := 55) (i := 1) dX12_settleAlike_55 rfl rfl ?_
      refine R_ifb_eq (pc := 56) (tgt := 94) dX12_settleAlike_56 (by decide) (fun k2 => ?_) (fun k2 => ?_)
      · skip
        exact last false B.isSome v m2 g1 hOa
      · exact absurd k2 (by decide)
    · exact absurd k1 (by decide)
  | some x =>
    have hx := v1 x rfl
    have hxl := cd_lt (aw x rfl)
    have evx : v = lN (cd x.2) := ev.symm.trans hx.2
    cases B with
    | none =>
      have g1 : PrM m2 (if crL (some x) none = true then p else crG (some x) none p) := by
        have e : (if crL (some x) none = true then p else crG (some x) none p) = p := by
          rw [if_neg (by show ¬ false = true; decide)]
          cases p with
          | none => rfl
          | some q => rfl
        rw [e]
        exact hp2
      show T _ _ _ _ _ _ _ _ 28 [some (.ref 572), some (.int (bI true)), some (.long (v)), none, none, none] [.int (bI false)] (rm m2)
      refine T_istore (pc := 28) (i := 4) (ls' := [some (.ref 572), some (.int (bI true)), some (.long (v)), none, some (.int (bI false)), none]) dX12_settleAlike_28 (by decide) rfl ?_
      refine T_iload_n (pc := 30) (i := 1) dX12_settleAlike_30 rfl rfl ?_
      refine R_ifb_eq (pc := 31) (tgt := 52) dX12_settleAlike_31 (by decide) (fun k1 => ?_) (fun k1 => ?_)
      · exact absurd k1 (by decide)
      · skip
        refine T_iload (pc := 34) (i := 4) dX12_settleAlike_34 rfl ?_
        refine R_ifb_eq (pc := 36) (tgt := 52) dX12_settleAlike_36 (by decide) (fun k2 => ?_) (fun k2 => ?_)
        · skip
          refine T_iconst (pc := 52) (v := nI 0) dX12_settleAlike_52 (by decide) ?_
          refine T_istore (pc := 53) (i := 5) (ls' := [some (.ref 572), some (.int (bI true)), some (.long (v)), none, some (.int (bI false)), some (.int (nI 0))]) dX12_settleAlike_53 (by decide) rfl ?_
          refine T_iload_n (pc := 55) (i := 1) dX12_settleAlike_55 rfl rfl ?_
          refine R_ifb_eq (pc := 56) (tgt := 94) dX12_settleAlike_56 (by decide) (fun k3 => ?_) (fun k3 => ?_)
          · exact absurd k3 (by decide)
          · skip
            refine T_iload (pc := 59) (i := 4) dX12_settleAlike_59 rfl ?_
            refine R_ifb_eq (pc := 61) (tgt := 94) dX12_settleAlike_61 (by decide) (fun k4 => ?_) (fun k4 => ?_)
            · skip
              exact last true false v m2 g1 hOa
            · exact absurd k4 (by decide)
        · exact absurd k2 (by decide)
    | some y =>
      have hy := v2 y rfl
      have hyl := cd_lt (bw y rfl)
      rw [evx]
      show T _ _ _ _ _ _ _ _ 28 [some (.ref 572), some (.int (bI true)), some (.long (lN (cd x.2))), none, none, none] [.int (bI true)] (rm m2)
      refine T_istore (pc := 28) (i := 4) (ls' := [some (.ref 572), some (.int (bI true)), some (.long (lN (cd x.2))), none, some (.int (bI true)), none]) dX12_settleAlike_28 (by decide) rfl ?_
      refine T_iload_n (pc := 30) (i := 1) dX12_settleAlike_30 rfl rfl ?_
      refine R_ifb_eq (pc := 31) (tgt := 52) dX12_settleAlike_31 (by decide) (fun k1 => ?_) (fun k1 => ?_)
      · exact absurd k1 (by decide)
      · skip
        refine T_iload (pc := 34) (i := 4) dX12_settleAlike_34 rfl ?_
        refine R_ifb_eq (pc := 36) (tgt := 52) dX12_settleAlike_36 (by decide) (fun k2 => ?_) (fun k2 => ?_)
        · exact absurd k2 (by decide)
        · skip
          refine T_aload_n (pc := 39) (i := 0) dX12_settleAlike_39 rfl rfl ?_
          refine R_getL (pc := 40) (x := lN (cd y.2)) fl_X12_363 rfl kc_572 lc_572 hy.2 dX12_settleAlike_40 ?_
          refine T_lload_n (pc := 43) (i := 2) dX12_settleAlike_43 rfl rfl ?_
          refine T_lcmp (pc := 44) dX12_settleAlike_44 ?_
          refine R_ln_ne (pc := 45) (tgt := 52) (by omega) (by omega) dX12_settleAlike_45 (by decide) (fun k3 => ?_) (fun k3 => ?_)
          · skip
            have hne : ¬ x.2 = y.2 := fun z => k3 (by rw [z])
            have el : crL (some x) (some y) = false := decide_eq_false hne
            rw [el] at last
            refine T_iconst (pc := 52) (v := nI 0) dX12_settleAlike_52 (by decide) ?_
            refine T_istore (pc := 53) (i := 5) (ls' := [some (.ref 572), some (.int (bI true)), some (.long (lN (cd x.2))), none, some (.int (bI true)), some (.int (nI 0))]) dX12_settleAlike_53 (by decide) rfl ?_
            refine T_iload_n (pc := 55) (i := 1) dX12_settleAlike_55 rfl rfl ?_
            refine R_ifb_eq (pc := 56) (tgt := 94) dX12_settleAlike_56 (by decide) (fun k4 => ?_) (fun k4 => ?_)
            · exact absurd k4 (by decide)
            · skip
              refine T_iload (pc := 59) (i := 4) dX12_settleAlike_59 rfl ?_
              refine R_ifb_eq (pc := 61) (tgt := 94) dX12_settleAlike_61 (by decide) (fun k5 => ?_) (fun k5 => ?_)
              · exact absurd k5 (by decide)
              · skip
                refine T_iload (pc := 64) (i := 5) dX12_settleAlike_64 rfl ?_
                refine R_if_ne (pc := 66) (tgt := 94) (by omega) dX12_settleAlike_66 (by decide) (fun k6 => ?_) (fun k6 => ?_)
                · exact absurd k6 (by decide)
                · skip
                  cases p with
                  | none =>
                    refine T_aload_n (pc := 69) (i := 0) dX12_settleAlike_69 rfl rfl ?_
                    refine R_getI (pc := 70) (x := bI false) fl_X12_469 rfl kc_572 lc_572 hp2.1 dX12_settleAlike_70 ?_
                    refine R_ifb_ne (pc := 73) (tgt := 94) dX12_settleAlike_73 (by decide) (fun k7 => ?_) (fun k7 => ?_)
                    · exact absurd k7 (by decide)
                    · skip
                      refine T_aload_n (pc := 76) (i := 0) dX12_settleAlike_76 rfl rfl ?_
                      refine T_iconst (pc := 77) (v := nI 1) dX12_settleAlike_77 (by decide) ?_
                      refine R_putI (pc := 78) fl_X12_469 ⟨rfl, rfl⟩ (Or.inr (Or.inr rfl)) kc_572 lc_572 dX12_settleAlike_78 ?_
                      refine T_aload_n (pc := 81) (i := 0) dX12_settleAlike_81 rfl rfl ?_
                      refine T_lload_n (pc := 82) (i := 2) dX12_settleAlike_82 rfl rfl ?_
                      refine R_putL (pc := 83) fl_X12_472 ⟨rfl, rfl⟩ kc_572 lc_572 dX12_settleAlike_83 ?_
                      refine T_aload_n (pc := 86) (i := 0) dX12_settleAlike_86 rfl rfl ?_
                      refine T_aload_n (pc := 87) (i := 0) dX12_settleAlike_87 rfl rfl ?_
                      refine R_getL (pc := 88) (x := lN (cd y.2)) fl_X12_363 rfl kc_572 lc_572 ((wL_ne (by decide)).trans (skI.trans hy.2)) dX12_settleAlike_88 ?_
                      refine R_putL (pc := 91) fl_X12_475 ⟨rfl, rfl⟩ kc_572 lc_572 dX12_settleAlike_91 ?_
                      refine last true true (lN (cd x.2)) _ ?_ (OfM.sG (OfM.sG (OfM.sF hOa (Or.inr (by omega))) (Or.inr (by omega))) (Or.inr (by omega)))
                      rw [if_neg (by decide)]
                      show PrM _ (if cd y.2 < cd x.2 then some (x.2, y.2) else some (y.2, x.2))
                      have q38 : (wL (wL (wI m2 572 40 (nI 1)) 572 38 (lN (cd x.2))) 572 39 (lN (cd y.2))).2 572 38 = lN (cd x.2) := (n_wL (by omega)).trans (e_wL ⟨rfl, rfl⟩)
                      have q39 : (wL (wL (wI m2 572 40 (nI 1)) 572 38 (lN (cd x.2))) 572 39 (lN (cd y.2))).2 572 39 = lN (cd y.2) := e_wL ⟨rfl, rfl⟩
                      have q40 : (wL (wL (wI m2 572 40 (nI 1)) 572 38 (lN (cd x.2))) 572 39 (lN (cd y.2))).1 572 40 = nI 1 := skL.trans (skL.trans (e_wI ⟨rfl, rfl⟩))
                      by_cases hlt : cd y.2 < cd x.2
                      · rw [if_pos hlt]
                        exact ⟨q40, fun q z => by cases z; exact ⟨⟨aw x rfl, bw y rfl, hlt⟩, Or.inl ⟨q38, q39⟩⟩⟩
                      · rw [if_neg hlt]
                        have hlt2 : cd x.2 < cd y.2 := by
                          have : ¬ cd x.2 = cd y.2 := fun z => hne (cd_inj (aw x rfl).2 (bw y rfl).2 z)
                          omega
                        exact ⟨q40, fun q z => by cases z; exact ⟨⟨bw y rfl, aw x rfl, hlt2⟩, Or.inr ⟨q38, q39⟩⟩⟩
                  | some g =>
                    refine T_aload_n (pc := 69) (i := 0) dX12_settleAlike_69 rfl rfl ?_
                    refine R_getI (pc := 70) (x := bI true) fl_X12_469 rfl kc_572 lc_572 hp2.1 dX12_settleAlike_70 ?_
                    refine R_ifb_ne (pc := 73) (tgt := 94) dX12_settleAlike_73 (by decide) (fun k7 => ?_) (fun k7 => ?_)
                    · skip
                      refine last true true (lN (cd x.2)) _ ?_ hOa
                      rw [if_neg (by decide)]
                      exact hp2
                    · exact absurd k7 (by decide)
          · skip
            have heq : x.2 = y.2 := cd_inj (aw x rfl).2 (bw y rfl).2 k3.symm
            have el : crL (some x) (some y) = true := decide_eq_true heq
            rw [el] at last
            refine T_iconst (pc := 48) (v := nI 1) dX12_settleAlike_48 (by decide) ?_
            refine T_goto (pc := 49) (tgt := 53) dX12_settleAlike_49 (by decide) ?_
            refine T_istore (pc := 53) (i := 5) (ls' := [some (.ref 572), some (.int (bI true)), some (.long (lN (cd x.2))), none, some (.int (bI true)), some (.int (nI 1))]) dX12_settleAlike_53 (by decide) rfl ?_
            refine T_iload_n (pc := 55) (i := 1) dX12_settleAlike_55 rfl rfl ?_
            refine R_ifb_eq (pc := 56) (tgt := 94) dX12_settleAlike_56 (by decide) (fun k4 => ?_) (fun k4 => ?_)
            · exact absurd k4 (by decide)
            · skip
              refine T_iload (pc := 59) (i := 4) dX12_settleAlike_59 rfl ?_
              refine R_ifb_eq (pc := 61) (tgt := 94) dX12_settleAlike_61 (by decide) (fun k5 => ?_) (fun k5 => ?_)
              · exact absurd k5 (by decide)
              · skip
                refine T_iload (pc := 64) (i := 5) dX12_settleAlike_64 rfl ?_
                refine R_if_ne (pc := 66) (tgt := 94) (by omega) dX12_settleAlike_66 (by decide) (fun k6 => ?_) (fun k6 => ?_)
                · skip
                  exact last true true _ m2 (by rw [if_pos rfl]; exact hp2) hOa
                · exact absurd k6 (by decide)
theorem m_counts {R : List Ru} {LL : List (List Int32)} {a b l : List Nat} {c : Cr} (hE : mEnv μ R LL w00) (ea : μ.2 572 33 = lN (cd a)) (eb : μ.2 572 34 = lN (cd b)) (el : μ.2 572 32 = lN (cd l)) (ha : Mw a) (hb : Mw b) (hC : CrM μ c) (hn : c.2.1 < 2 ^ 30) : Ex γ 14 0 0 M_X12_counts [.ref 572] (rm μ) (Rm none (fun m => CrM m (crU (stl (nxR R w00) 100 a) (stl (nxR R w00) 100 b) l c) ∧ OfM Fov S9 μ m)) := by
  have hO0 : OfM Fov S9 μ (wI μ 572 35 (nI (c.1 + 1))) := OfM.sF (OfM.refl _ _ _) (Or.inr (by omega))
  have hE0 : mEnv (wI μ 572 35 (nI (c.1 + 1))) R LL w00 := hE.k hO0 (by unfold Fov Fs; omega) (by unfold Fov Fs; omega)
  have hP0 : PrM (wI μ 572 35 (nI (c.1 + 1))) c.2.2.2 := hC.1.2.2.2.of (F := fun j => j = 35) (S := S9) (OfM.sF (OfM.refl _ _ _) rfl) (fun j hj => by omega)
  obtain ⟨A, hA9⟩ : ∃ A, A = stl (nxR R w00) 100 a := ⟨_, rfl⟩
  obtain ⟨B, hB9⟩ : ∃ B, B = stl (nxR R w00) 100 b := ⟨_, rfl⟩
  have kS := m_settleAlike (γ := γ) hE0 ea eb ha hb hP0
  rw [← hA9, ← hB9] at kS ⊢
  refine Ex.of (by decide +kernel) rfl (Nat.le_of_ble_eq_true rfl) ?_
  show T _ _ _ _ _ _ _ _ _ [some (.ref 572)] [] (rm μ)
  refine T_aload_n (pc := 0) (i := 0) dX12_counts_0 rfl rfl ?_
  refine T_dup (pc := 1) dX12_counts_1 rfl ?_
  refine R_getI (pc := 2) (x := nI c.1) fl_X12_478 rfl kc_572 lc_572 hC.1.1 dX12_counts_2 ?_
  refine T_iconst (pc := 5) (v := nI 1) dX12_counts_5 (by decide) ?_
  refine R_iadd (pc := 6) dX12_counts_6 ?_
  refine R_putI (pc := 7) fl_X12_478 ⟨rfl, rfl⟩ (Or.inl rfl) kc_572 lc_572 dX12_counts_7 ?_
  refine T_aload_n (pc := 10) (i := 0) dX12_counts_10 rfl rfl ?_
  refine R_callVm1 (pc := 11) (As := []) (rest := []) (Or.inl lk_X12_481) mk_X12_settleAlike kS kc_572 ⟨by decide, rfl⟩ lc_572 dX12_counts_11 rfl rfl (Nat.le_of_ble_eq_true rfl) (by decide) rfl (Nat.le_refl _) (Nat.le_refl _) (fun m1 h1 => ?_)
  obtain ⟨hP1, hO1⟩ := h1
  have f35 : m1.1 572 35 = nI (c.1 + 1) := (hO1.fi (by unfold Fsa Fs; omega)).trans (e_wI ⟨rfl, rfl⟩)
  have f36 : m1.1 572 36 = nI c.2.1 := (hO1.fi (by unfold Fsa Fs; omega)).trans ((n_wI (by omega)).trans hC.1.2.1)
  have f37 : m1.2 572 37 = vO c.2.2.1 := (hO1.fl (by unfold Fsa Fs; omega)).trans hC.1.2.2.1
  have f32 : m1.2 572 32 = lN (cd l) := (hO1.fl (by unfold Fsa Fs; omega)).trans el
  have hO2 : OfM Fov S9 μ m1 := hO0.trans (hO1.mono (fun j hj => hj.elim Or.inl (fun z => Or.inr (by omega))) (fun k hk => hk))
  cases ec : crL A B with
  | true =>
    rw [ec, if_pos rfl] at hP1
    have eu : crU A B l c = (c.1 + 1, c.2) := by unfold crU; rw [if_pos ec]
    rw [eu]
    show T _ _ _ _ _ _ _ _ 14 [some (.ref 572)] [.int (bI true)] (rm m1)
    refine R_ifb_eq (pc := 14) (tgt := 18) dX12_counts_14 (by decide) (fun k1 => ?_) (fun k1 => ?_)
    · exact absurd k1 (by decide)
    · skip
      exact T_vret dX12_counts_17 rfl (Nat.le_refl _) (Nat.le_refl _) ⟨_, rfl, rfl, ⟨⟨f35, f36, f37, hP1⟩, hC.2⟩, hO2⟩
  | false =>
    rw [ec, if_neg (by decide)] at hP1
    have eu : crU A B l c = (c.1 + 1, c.2.1 + 1, orE c.2.2.1 (some l), crG A B c.2.2.2) := by unfold crU; rw [if_neg (by rw [ec]; decide)]
    rw [eu]
    have hne : orE c.2.2.1 (some l) ≠ none := by
      cases c.2.2.1 with
      | none => exact fun z => by cases z
      | some t => exact fun z => by cases z
    have fin : ∀ (u : Int64), u = vO (orE c.2.2.1 (some l)) → CrM (wI (wL m1 572 37 u) 572 36 (nI (c.2.1 + 1))) (c.1 + 1, c.2.1 + 1, orE c.2.2.1 (some l), crG A B c.2.2.2) ∧ OfM Fov S9 μ (wI (wL m1 572 37 u) 572 36 (nI (c.2.1 + 1))) := fun u hu => by
      have hx : OfM (fun j => j = 36 ∨ j = 37) S9 m1 (wI (wL m1 572 37 u) 572 36 (nI (c.2.1 + 1))) := OfM.sF (OfM.sG (OfM.refl _ _ _) (Or.inr rfl)) (Or.inl rfl)
      exact ⟨⟨⟨(hx.fi (by omega)).trans f35, e_wI ⟨rfl, rfl⟩, skI.trans ((e_wL ⟨rfl, rfl⟩).trans hu), hP1.of hx (fun j hj => by omega)⟩, ⟨fun z => absurd z (Nat.succ_ne_zero _), fun z => absurd z hne⟩⟩, hO2.trans (hx.mono (fun j hj => Or.inr (by omega)) (fun k hk => hk))⟩
    show T _ _ _ _ _ _ _ _ 14 [some (.ref 572)] [.int (bI false)] (rm m1)
    refine R_ifb_eq (pc := 14) (tgt := 18) dX12_counts_14 (by decide) (fun k1 => ?_) (fun k1 => ?_)
    · skip
      refine T_aload_n (pc := 18) (i := 0) dX12_counts_18 rfl rfl ?_
      refine T_aload_n (pc := 19) (i := 0) dX12_counts_19 rfl rfl ?_
      refine R_getI (pc := 20) (x := nI c.2.1) fl_X12_484 rfl kc_572 lc_572 f36 dX12_counts_20 ?_
      refine R_if_ne (pc := 23) (tgt := 33) (by omega) dX12_counts_23 (by decide) (fun k2 => ?_) (fun k2 => ?_)
      · skip
        refine T_aload_n (pc := 33) (i := 0) dX12_counts_33 rfl rfl ?_
        refine R_getL (pc := 34) (x := (vO c.2.2.1)) fl_X12_490 rfl kc_572 lc_572 f37 dX12_counts_34 ?_
        refine R_putL (pc := 37) fl_X12_490 ⟨rfl, rfl⟩ kc_572 lc_572 dX12_counts_37 ?_
        refine T_aload_n (pc := 40) (i := 0) dX12_counts_40 rfl rfl ?_
        refine T_dup (pc := 41) dX12_counts_41 rfl ?_
        refine R_getI (pc := 42) (x := nI c.2.1) fl_X12_484 rfl kc_572 lc_572 (skL.trans f36) dX12_counts_42 ?_
        refine T_iconst (pc := 45) (v := nI 1) dX12_counts_45 (by decide) ?_
        refine R_iadd (pc := 46) dX12_counts_46 ?_
        refine R_putI (pc := 47) fl_X12_484 ⟨rfl, rfl⟩ (Or.inl rfl) kc_572 lc_572 dX12_counts_47 ?_
        have hs : c.2.2.1 ≠ none := fun z => k2 (hC.2.mpr z)
        have ho : vO c.2.2.1 = vO (orE c.2.2.1 (some l)) := by
          cases e9 : c.2.2.1 with
          | none => exact absurd e9 hs
          | some t => rfl
        exact T_vret dX12_counts_50 rfl (Nat.le_refl _) (Nat.le_refl _) ⟨_, rfl, rfl, fin _ ho⟩
      · skip
        refine T_aload_n (pc := 26) (i := 0) dX12_counts_26 rfl rfl ?_
        refine R_getL (pc := 27) (x := lN (cd l)) fl_X12_487 rfl kc_572 lc_572 f32 dX12_counts_27 ?_
        refine T_goto (pc := 30) (tgt := 37) dX12_counts_30 (by decide) ?_
        refine R_putL (pc := 37) fl_X12_490 ⟨rfl, rfl⟩ kc_572 lc_572 dX12_counts_37 ?_
        refine T_aload_n (pc := 40) (i := 0) dX12_counts_40 rfl rfl ?_
        refine T_dup (pc := 41) dX12_counts_41 rfl ?_
        refine R_getI (pc := 42) (x := nI c.2.1) fl_X12_484 rfl kc_572 lc_572 (skL.trans f36) dX12_counts_42 ?_
        refine T_iconst (pc := 45) (v := nI 1) dX12_counts_45 (by decide) ?_
        refine R_iadd (pc := 46) dX12_counts_46 ?_
        refine R_putI (pc := 47) fl_X12_484 ⟨rfl, rfl⟩ (Or.inl rfl) kc_572 lc_572 dX12_counts_47 ?_
        have hs : c.2.2.1 = none := hC.2.mp k2
        exact T_vret dX12_counts_50 rfl (Nat.le_refl _) (Nat.le_refl _) ⟨_, rfl, rfl, fin _ (by rw [hs]; rfl)⟩
    · exact absurd k1 (by decide)
end MCR

