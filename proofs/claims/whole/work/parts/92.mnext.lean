/-! THE MODEL: a STEP, what a MEADOW settles to -/
theorem nx_one {R : List Ru} {w : Wk} {l : List Nat} {q : Nat × Nat} (h : gaR R w l = [q]) : nxR R w l = some (usd l q.1 (rAt R q.2).1 (rAt R q.2).2) := by
  unfold nxR
  rw [h]
  rfl
theorem nx_zero {R : List Ru} {w : Wk} {l : List Nat} (h : gaR R w l = []) : nxR R w l = none := by
  unfold nxR
  rw [h]
  rfl
theorem ga_cases {R : List Ru} {w : Wk} {l : List Nat} (h3 : w.1 < 3) : gaR R w l = [] ∨ ∃ q, gaR R w l = [q] := by
  have h : (gaR R w l).length ≤ 1 := by
    unfold gaR
    split
    · have := gaU_len (R := R) (w := w) (l := l) (l.length * R.length)
      rw [if_neg (by omega)] at this
      exact this
    · exact Nat.zero_le _
  match gaR R w l, h with
  | [], _ => exact Or.inl rfl
  | [q], _ => exact Or.inr ⟨q, rfl⟩
def ItsW (R : List Ru) (w : Wk) (l : List Nat) (m : SM2) : Prop := w.1 < 3 → ItsP R w l m
def Fs (j : Nat) : Prop := j = 19 ∨ j = 20 ∨ j = 21 ∨ j = 22
theorem Fk_Fs {j : Nat} (h : Fk j) : Fs j := h.elim Or.inl (fun z => Or.inr (Or.inl z))
theorem mEnv.k {F : Nat → Prop} {μ m : SM2} {R : List Ru} {LL : List (List Int32)} {w : Wk} (h : mEnv μ R LL w) (g : OfM F S9 μ m) (h1 : ¬ F 16) (h2 : ¬ F 17) : mEnv m R LL w := h.om g (by unfold S9; omega) h1 h2
theorem OfS.k {F : Nat → Prop} {μ m : SM2} (h : OfS S9 μ m) : OfM F S9 μ m := h.m (fun k hk => ⟨by unfold S9 at hk; omega, hk⟩)
section MN1
variable {γ : Ga} {μ : SM2}
theorem m_next {R : List Ru} {LL : List (List Int32)} {w : Wk} {l : List Nat} (hE : mEnv μ R LL w) (hl : Mw l) : Ex γ 11 0 0 M_X12_next [.ref 572, .long (lN (cd l)), .int (nI w.1)] (rm μ) (Rm (some (.long (vO (nxR R w l)))) (fun m => ItsW R w l m ∧ OfM Fk S9 μ m)) := by
  have hw4 := hE.2.2.1.1
  refine Ex.of (by decide +kernel) rfl (Nat.le_of_ble_eq_true rfl) ?_
  show T _ _ _ _ _ _ _ _ _ [some (.ref 572), some (.long (lN (cd l))), none, some (.int (nI w.1))] [] (rm μ)
  refine T_iload_n (pc := 0) (i := 3) dX12_next_0 rfl rfl ?_
  refine T_iconst (pc := 1) (v := nI 3) dX12_next_1 (by decide) ?_
  refine R_icmp_ne (pc := 2) (tgt := 11) (by omega) (by omega) dX12_next_2 (by decide) (fun h1 => ?_) (fun h1 => ?_)
  · skip
    have h3 : w.1 < 3 := by omega
    refine T_aload_n (pc := 11) (i := 0) dX12_next_11 rfl rfl ?_
    refine T_lload_n (pc := 12) (i := 1) dX12_next_12 rfl rfl ?_
    refine T_iload_n (pc := 13) (i := 3) dX12_next_13 rfl rfl ?_
    refine R_callVm1 (pc := 14) (As := [.long (lN (cd l)), .int (nI w.1)]) (rest := []) (Or.inl lk_X12_356) mk_X12_finds (m_finds hE hl h3) kc_572 ⟨by decide, rfl⟩ lc_572 dX12_next_14 rfl rfl (Nat.le_of_ble_eq_true rfl) (by decide) rfl (Nat.le_refl _) (Nat.le_refl _) (fun m hm => ?_)
    obtain ⟨hI, hO⟩ := hm
    refine R_ifb_eq (pc := 17) (tgt := 36) dX12_next_17 (by decide) (fun h2 => ?_) (fun h2 => ?_)
    · skip
      refine T_ldc2 (pc := 36) dX12_next_36 cn_X12_171 ?_
      rw [nx_zero (by simpa using h2)]
      exact T_lret dX12_next_39 rfl (Nat.le_refl _) (Nat.le_refl _) ⟨_, rfl, rfl, fun _ => hI, hO⟩
    · skip
      rcases ga_cases (R := R) (l := l) h3 with e | ⟨q, e⟩
      · rw [e] at h2
        exact absurd h2 (by decide)
      · have hq := gaR_ok (R := R) (w := w) (l := l)
        rw [e] at hq
        have hq1 := hq.1
        have hp1 : q.1 + (rAt R q.2).1.length ≤ l.length := hq1.2.1
        have hr1 : q.2 < R.length := hq1.2.2.1
        have hi := hI q e
        refine T_aload_n (pc := 20) (i := 0) dX12_next_20 rfl rfl ?_
        refine T_lload_n (pc := 21) (i := 1) dX12_next_21 rfl rfl ?_
        refine T_aload_n (pc := 22) (i := 0) dX12_next_22 rfl rfl ?_
        refine R_getI (pc := 23) (x := nI q.2) fl_X12_343 rfl kc_572 lc_572 hi.1 dX12_next_23 ?_
        refine T_aload_n (pc := 26) (i := 0) dX12_next_26 rfl rfl ?_
        refine R_getI (pc := 27) (x := nI q.1) fl_X12_346 rfl kc_572 lc_572 hi.2 dX12_next_27 ?_
        refine R_callV1 (pc := 30) (As := [.long (lN (cd l)), .int (nI q.2), .int (nI q.1)]) (rest := []) (Or.inl lk_X12_360) mk_X12_used (m_used (hE.k hO (by unfold Fk; omega) (by unfold Fk; omega)).1 hl hr1 hp1) kc_572 ⟨by decide, rfl⟩ lc_572 dX12_next_30 rfl rfl (Nat.le_of_ble_eq_true rfl) (by decide) rfl (Nat.le_refl _) (Nat.le_refl _) ?_
        refine T_goto (pc := 33) (tgt := 39) dX12_next_33 (by decide) ?_
        rw [nx_one e]
        exact T_lret dX12_next_39 rfl (Nat.le_refl _) (Nat.le_refl _) ⟨_, rfl, rfl, fun _ => hI, hO⟩
  · skip
    refine T_aload_n (pc := 5) (i := 0) dX12_next_5 rfl rfl ?_
    refine T_lload_n (pc := 6) (i := 1) dX12_next_6 rfl rfl ?_
    refine R_callVm1 (pc := 7) (As := [.long (lN (cd l))]) (rest := []) (Or.inl lk_X12_352) mk_X12_allAtOnce (m_allAtOnce hE hl h1) kc_572 ⟨by decide, rfl⟩ lc_572 dX12_next_7 rfl rfl (Nat.le_of_ble_eq_true rfl) (by decide) rfl (Nat.le_refl _) (Nat.le_refl _) (fun m hO => ?_)
    exact T_lret dX12_next_10 rfl (Nat.le_refl _) (Nat.le_refl _) ⟨_, rfl, rfl, fun z => absurd z (by omega), hO.k⟩
theorem m_isSettling {R : List Ru} {LL : List (List Int32)} {w : Wk} {l : List Nat} {N : Nat} (hE : mEnv μ R LL w) (hl : Mw l) (hN : N ≤ 500) : Ex γ 12 0 0 M_X12_isSettling [.ref 572, .long (lN (cd l)), .int (nI N), .int (nI w.1)] (rm μ) (Rm (some (.int (bI (stl (nxR R w) N l).isSome))) (fun m => (∀ q, stl (nxR R w) N l = some q → m.1 572 22 = nI q.1 ∧ m.2 572 21 = lN (cd q.2)) ∧ OfM Fs S9 μ m)) := by
  have hok := hE.1.2.1
  refine Ex.of (by decide +kernel) rfl (Nat.le_of_ble_eq_true rfl) ?_
  show T _ _ _ _ _ _ _ _ _ [some (.ref 572), some (.long (lN (cd l))), none, some (.int (nI N)), some (.int (nI w.1)), none, none] [] (rm μ)
  refine T_aload_n (pc := 0) (i := 0) dX12_isSettling_0 rfl rfl ?_
  refine T_lload_n (pc := 1) (i := 1) dX12_isSettling_1 rfl rfl ?_
  refine R_putL (pc := 2) fl_X12_363 ⟨rfl, rfl⟩ kc_572 lc_572 dX12_isSettling_2 ?_
  refine T_aload_n (pc := 5) (i := 0) dX12_isSettling_5 rfl rfl ?_
  refine T_iconst (pc := 6) (v := nI 0) dX12_isSettling_6 (by decide) ?_
  refine R_putI (pc := 7) fl_X12_367 ⟨rfl, rfl⟩ (Or.inl rfl) kc_572 lc_572 dX12_isSettling_7 ?_
  suffices loop : ∀ (f k : Nat) (t : List Nat) (m : SM2), k + f = N → Mw t → stl (nxR R w) N l = (stl (nxR R w) f t).map (fun q => (q.1 + k, q.2)) → (m.1 572 22 = nI k ∧ m.2 572 21 = lN (cd t)) → OfM Fs S9 μ m → T γ 12 0 0 M_X12_isSettling (Rm (some (.int (bI (stl (nxR R w) N l).isSome))) (fun m => (∀ q, stl (nxR R w) N l = some q → m.1 572 22 = nI q.1 ∧ m.2 572 21 = lN (cd q.2)) ∧ OfM Fs S9 μ m)) 0 0 10 [some (.ref 572), some (.long (lN (cd l))), none, some (.int (nI N)), some (.int (nI w.1)), none, none] [] (rm m) by
    exact loop N 0 l _ (Nat.zero_add _) hl (by cases stl (nxR R w) N l <;> rfl) ⟨e_wI ⟨rfl, rfl⟩, (show (wL μ 572 21 (lN (cd l))).2 572 21 = _ from e_wL ⟨rfl, rfl⟩)⟩ (OfM.sF (OfM.sG (OfM.refl _ _ _) (Or.inr (Or.inr (Or.inl rfl)))) (Or.inr (Or.inr (Or.inr rfl))))
  intro f
  induction f with
  | zero =>
    intro k t m hk ht hS hm hO
    have hE2 := hE.k hO (by unfold Fs; omega) (by unfold Fs; omega)
    refine T_aload_n (pc := 10) (i := 0) dX12_isSettling_10 rfl rfl ?_
    refine T_aload_n (pc := 11) (i := 0) dX12_isSettling_11 rfl rfl ?_
    refine R_getL (pc := 12) (x := lN (cd t)) fl_X12_363 rfl kc_572 lc_572 hm.2 dX12_isSettling_12 ?_
    refine T_iload (pc := 15) (i := 4) dX12_isSettling_15 rfl ?_
    refine R_callVm1 (pc := 17) (As := [.long (lN (cd t)), .int (nI w.1)]) (rest := []) (Or.inl lk_X12_370) mk_X12_next (m_next hE2 ht) kc_572 ⟨by decide, rfl⟩ lc_572 dX12_isSettling_17 rfl rfl (Nat.le_of_ble_eq_true rfl) (by decide) rfl (Nat.le_refl _) (Nat.le_refl _) (fun m2 h2 => ?_)
    obtain ⟨-, hO2⟩ := h2
    have hO3 := hO.trans (hO2.mono (fun j => Fk_Fs) (fun k h => h))
    cases e : nxR R w t with
    | none =>
      have eS : stl (nxR R w) N l = some (k, t) := by rw [hS, stl_stop e]; show some (0 + k, t) = _; rw [Nat.zero_add]
      rw [eS]
      show T _ _ _ _ _ _ _ _ 20 [some (.ref 572), some (.long (lN (cd l))), none, some (.int (nI N)), some (.int (nI w.1)), none, none] [.long ((-1))] (rm m2)
      refine T_lstore (pc := 20) (i := 5) (ls' := [some (.ref 572), some (.long (lN (cd l))), none, some (.int (nI N)), some (.int (nI w.1)), some (.long ((-1))), none]) dX12_isSettling_20 (by decide) rfl ?_
      refine T_lload (pc := 22) (i := 5) dX12_isSettling_22 rfl ?_
      refine T_lconst (pc := 24) (v := lN 0) dX12_isSettling_24 rfl ?_
      refine T_lcmp (pc := 25) dX12_isSettling_25 ?_
      refine R_lx_ge (pc := 26) (tgt := 31) dX12_isSettling_26 (by decide) (fun h1 => ?_) (fun h1 => ?_)
      · exact absurd (by decide) h1
      · skip
        refine T_iconst (pc := 29) (v := nI 1) dX12_isSettling_29 (by decide) ?_
        exact T_iret (pc := 30) (ty := .boolean) dX12_isSettling_30 rfl (by decide) (Nat.le_refl _) (Nat.le_refl _) ⟨_, rfl, rfl, fun q z => (by cases z; exact ⟨(hO2.fi (by unfold Fk; omega)).trans hm.1, (hO2.fl (by unfold Fk; omega)).trans hm.2⟩), hO3⟩
    | some t2 =>
      have ht2 := nxR_mw ht hok e
      have hc := cd_lt ht2
      have eS : stl (nxR R w) N l = none := by rw [hS, stl_0 e]; rfl
      rw [eS]
      show T _ _ _ _ _ _ _ _ 20 [some (.ref 572), some (.long (lN (cd l))), none, some (.int (nI N)), some (.int (nI w.1)), none, none] [.long (lN (cd t2))] (rm m2)
      refine T_lstore (pc := 20) (i := 5) (ls' := [some (.ref 572), some (.long (lN (cd l))), none, some (.int (nI N)), some (.int (nI w.1)), some (.long (lN (cd t2))), none]) dX12_isSettling_20 (by decide) rfl ?_
      refine T_lload (pc := 22) (i := 5) dX12_isSettling_22 rfl ?_
      refine T_lconst (pc := 24) (v := lN 0) dX12_isSettling_24 rfl ?_
      refine T_lcmp (pc := 25) dX12_isSettling_25 ?_
      refine R_ln_ge (pc := 26) (tgt := 31) (by omega) (by omega) dX12_isSettling_26 (by decide) (fun h1 => ?_) (fun h1 => ?_)
      · skip
        refine T_aload_n (pc := 31) (i := 0) dX12_isSettling_31 rfl rfl ?_
        refine R_getI (pc := 32) (x := nI k) fl_X12_367 rfl kc_572 lc_572 ((hO2.fi (by unfold Fk; omega)).trans hm.1) dX12_isSettling_32 ?_
        refine T_iload_n (pc := 35) (i := 3) dX12_isSettling_35 rfl rfl ?_
        refine R_icmp_ne (pc := 36) (tgt := 41) (by omega) (by omega) dX12_isSettling_36 (by decide) (fun h3 => ?_) (fun h3 => ?_)
        · exact absurd h3 (by omega)
        · skip
          refine T_iconst (pc := 39) (v := nI 0) dX12_isSettling_39 (by decide) ?_
          exact T_iret (pc := 40) (ty := .boolean) dX12_isSettling_40 rfl (by decide) (Nat.le_refl _) (Nat.le_refl _) ⟨_, rfl, rfl, fun q z => (by cases z), hO3⟩
      · exact absurd h1 (by omega)
  | succ f ih =>
    intro k t m hk ht hS hm hO
    have hE2 := hE.k hO (by unfold Fs; omega) (by unfold Fs; omega)
    refine T_aload_n (pc := 10) (i := 0) dX12_isSettling_10 rfl rfl ?_
    refine T_aload_n (pc := 11) (i := 0) dX12_isSettling_11 rfl rfl ?_
    refine R_getL (pc := 12) (x := lN (cd t)) fl_X12_363 rfl kc_572 lc_572 hm.2 dX12_isSettling_12 ?_
    refine T_iload (pc := 15) (i := 4) dX12_isSettling_15 rfl ?_
    refine R_callVm1 (pc := 17) (As := [.long (lN (cd t)), .int (nI w.1)]) (rest := []) (Or.inl lk_X12_370) mk_X12_next (m_next hE2 ht) kc_572 ⟨by decide, rfl⟩ lc_572 dX12_isSettling_17 rfl rfl (Nat.le_of_ble_eq_true rfl) (by decide) rfl (Nat.le_refl _) (Nat.le_refl _) (fun m2 h2 => ?_)
    obtain ⟨-, hO2⟩ := h2
    have hO3 := hO.trans (hO2.mono (fun j => Fk_Fs) (fun k h => h))
    cases e : nxR R w t with
    | none =>
      have eS : stl (nxR R w) N l = some (k, t) := by rw [hS, stl_stop e]; show some (0 + k, t) = _; rw [Nat.zero_add]
      rw [eS]
      show T _ _ _ _ _ _ _ _ 20 [some (.ref 572), some (.long (lN (cd l))), none, some (.int (nI N)), some (.int (nI w.1)), none, none] [.long ((-1))] (rm m2)
      refine T_lstore (pc := 20) (i := 5) (ls' := [some (.ref 572), some (.long (lN (cd l))), none, some (.int (nI N)), some (.int (nI w.1)), some (.long ((-1))), none]) dX12_isSettling_20 (by decide) rfl ?_
      refine T_lload (pc := 22) (i := 5) dX12_isSettling_22 rfl ?_
      refine T_lconst (pc := 24) (v := lN 0) dX12_isSettling_24 rfl ?_
      refine T_lcmp (pc := 25) dX12_isSettling_25 ?_
      refine R_lx_ge (pc := 26) (tgt := 31) dX12_isSettling_26 (by decide) (fun h1 => ?_) (fun h1 => ?_)
      · exact absurd (by decide) h1
      · skip
        refine T_iconst (pc := 29) (v := nI 1) dX12_isSettling_29 (by decide) ?_
        exact T_iret (pc := 30) (ty := .boolean) dX12_isSettling_30 rfl (by decide) (Nat.le_refl _) (Nat.le_refl _) ⟨_, rfl, rfl, fun q z => (by cases z; exact ⟨(hO2.fi (by unfold Fk; omega)).trans hm.1, (hO2.fl (by unfold Fk; omega)).trans hm.2⟩), hO3⟩
    | some t2 =>
      have ht2 := nxR_mw ht hok e
      have hc := cd_lt ht2
      have eS : stl (nxR R w) N l = (stl (nxR R w) f t2).map (fun q => (q.1 + (k + 1), q.2)) := by
        rw [hS, stl_s e]
        cases stl (nxR R w) f t2 with
        | none => rfl
        | some q =>
          show some (q.1 + 1 + k, q.2) = some (q.1 + (k + 1), q.2)
          rw [show q.1 + 1 + k = q.1 + (k + 1) by omega]
      show T _ _ _ _ _ _ _ _ 20 [some (.ref 572), some (.long (lN (cd l))), none, some (.int (nI N)), some (.int (nI w.1)), none, none] [.long (lN (cd t2))] (rm m2)
      refine T_lstore (pc := 20) (i := 5) (ls' := [some (.ref 572), some (.long (lN (cd l))), none, some (.int (nI N)), some (.int (nI w.1)), some (.long (lN (cd t2))), none]) dX12_isSettling_20 (by decide) rfl ?_
      refine T_lload (pc := 22) (i := 5) dX12_isSettling_22 rfl ?_
      refine T_lconst (pc := 24) (v := lN 0) dX12_isSettling_24 rfl ?_
      refine T_lcmp (pc := 25) dX12_isSettling_25 ?_
      refine R_ln_ge (pc := 26) (tgt := 31) (by omega) (by omega) dX12_isSettling_26 (by decide) (fun h1 => ?_) (fun h1 => ?_)
      · skip
        refine T_aload_n (pc := 31) (i := 0) dX12_isSettling_31 rfl rfl ?_
        refine R_getI (pc := 32) (x := nI k) fl_X12_367 rfl kc_572 lc_572 ((hO2.fi (by unfold Fk; omega)).trans hm.1) dX12_isSettling_32 ?_
        refine T_iload_n (pc := 35) (i := 3) dX12_isSettling_35 rfl rfl ?_
        refine R_icmp_ne (pc := 36) (tgt := 41) (by omega) (by omega) dX12_isSettling_36 (by decide) (fun h3 => ?_) (fun h3 => ?_)
        · skip
          refine T_aload_n (pc := 41) (i := 0) dX12_isSettling_41 rfl rfl ?_
          refine T_lload (pc := 42) (i := 5) dX12_isSettling_42 rfl ?_
          refine R_putL (pc := 44) fl_X12_363 ⟨rfl, rfl⟩ kc_572 lc_572 dX12_isSettling_44 ?_
          refine T_aload_n (pc := 47) (i := 0) dX12_isSettling_47 rfl rfl ?_
          refine T_dup (pc := 48) dX12_isSettling_48 rfl ?_
          refine R_getI (pc := 49) (x := nI k) fl_X12_367 rfl kc_572 lc_572 (skL.trans ((hO2.fi (by unfold Fk; omega)).trans hm.1)) dX12_isSettling_49 ?_
          refine T_iconst (pc := 52) (v := nI 1) dX12_isSettling_52 (by decide) ?_
          refine R_iadd (pc := 53) dX12_isSettling_53 ?_
          refine R_putI (pc := 54) fl_X12_367 ⟨rfl, rfl⟩ (Or.inl rfl) kc_572 lc_572 dX12_isSettling_54 ?_
          refine T_goto (pc := 57) (tgt := 10) dX12_isSettling_57 (by decide) ?_
          refine T_ls (ls' := [some (.ref 572), some (.long (lN (cd l))), none, some (.int (nI N)), some (.int (nI w.1)), none, none]) (And.intro rfl (And.intro rfl (And.intro rfl (And.intro rfl True.intro)))) ?_
          exact ih (k + 1) t2 _ (by omega) ht2 eS ⟨e_wI ⟨rfl, rfl⟩, (show (wL m2 572 21 (lN (cd t2))).2 572 21 = _ from e_wL ⟨rfl, rfl⟩)⟩ (OfM.sF (OfM.sG hO3 (Or.inr (Or.inr (Or.inl rfl)))) (Or.inr (Or.inr (Or.inr rfl))))
        · exact absurd h3 (by omega)
      · exact absurd h1 (by omega)
end MN1

