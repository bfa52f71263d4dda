/-! THE MODEL: law; the calls of the TAPE -/
def lyV (B : List Nat) : Int32 := match lawF B with
  | .inl _ => nI 0
  | .inr LL => nI LL.length
def lyT (B : List Nat) : Nat := match lawF B with
  | .inl _ => 1
  | .inr _ => 0
theorem mdL.shift {g g' : Nat → Int32} {LL : List (List Int32)} (h : mdL g 1164 LL) (e : ∀ j, j < 825 → g' (339 + j) = g (1164 + j)) : mdL g' 339 LL := by
  have h12 := h.1.1
  have h400 := h.1.2
  refine ⟨h.1, fun n hn => ?_, fun i hi => ?_⟩
  · have h1 := h.2.1 n hn
    have e1 := e (1 + 2 * n) (by omega)
    have e2 := e (1 + 2 * n + 1) (by omega)
    rw [show 339 + (1 + 2 * n) = 339 + 1 + 2 * n by omega, show 1164 + (1 + 2 * n) = 1164 + 1 + 2 * n by omega] at e1
    rw [show 339 + (1 + 2 * n + 1) = 339 + 1 + 2 * n + 1 by omega, show 1164 + (1 + 2 * n + 1) = 1164 + 1 + 2 * n + 1 by omega] at e2
    exact ⟨e1.trans h1.1, e2.trans h1.2⟩
  · have h1 := h.2.2 i hi
    have e1 := e (25 + 2 * i) (by omega)
    have e2 := e (25 + 2 * i + 1) (by omega)
    rw [show 339 + (25 + 2 * i) = 339 + 25 + 2 * i by omega, show 1164 + (25 + 2 * i) = 1164 + 25 + 2 * i by omega] at e1
    rw [show 339 + (25 + 2 * i + 1) = 339 + 25 + 2 * i + 1 by omega, show 1164 + (25 + 2 * i + 1) = 1164 + 25 + 2 * i + 1 by omega] at e2
    exact ⟨e1.trans h1.1, e2.trans h1.2⟩
theorem mdL.some {g g' : Nat → Int32} {b : Nat} {LL : List (List Int32)} (h : mdL g b LL) (e : ∀ j, b < j → g' j = g j) : mdL g' b LL :=
  ⟨h.1, fun n hn => ⟨(e _ (by omega)).trans (h.2.1 n hn).1, (e _ (by omega)).trans (h.2.1 n hn).2⟩, fun i hi => ⟨(e _ (by omega)).trans (h.2.2 i hi).1, (e _ (by omega)).trans (h.2.2 i hi).2⟩⟩
section MLW
variable {γ : Ga} {μ : SM2}
theorem m_lawA {s : Sta} (hs : MAll μ s) : Ex γ 33 0 0 M_X12_law [.ref 572] (rm μ) (Rm (some (.int (lyV s.2.2.2.2.1))) (fun m => MO μ m (lyT s.2.2.2.2.1) (s.1, (lyC s.2.2.2.2.1 s.2.1.1, lyX s.2.2.2.2.1 s.2.1.2), lyU s.2.2.2.2.1 s.2.2.1, s.2.2.2.1, [], lyF s.2.2.2.2.1))) := by
  obtain ⟨X, L, U, K, B, ft⟩ := s
  obtain ⟨hX, hL, hU, hK, hB, hF⟩ := hs
  dsimp only at hX hL hU hK hB hF ⊢
  have hb : ∀ i, i < B.length → B.getD i 0 < 256 := fun i hi => (hB.2 i hi).1
  refine Ex.of (by decide +kernel) rfl (Nat.le_of_ble_eq_true rfl) ?_
  show T _ _ _ _ _ _ _ _ _ [some (.ref 572), none, none] [] (rm μ)
  refine T_aload_n (pc := 0) (i := 0) dX12_law_0 rfl rfl ?_
  refine T_iconst (pc := 1) (v := nI 0) dX12_law_1 (by decide) ?_
  refine R_callVm1 (pc := 2) (As := [.int (nI 0)]) (rest := []) (Or.inl lk_X12_298) mk_X12_readAll (m_readAllL hB) kc_572 ⟨by decide, rfl⟩ lc_572 dX12_law_2 rfl rfl (Nat.le_of_ble_eq_true rfl) (by decide) rfl (Nat.le_refl _) (Nat.le_refl _) (fun m2 h2 => ?_)
  obtain ⟨⟨r2, t2, z2⟩, o2, w2⟩ := h2
  have k5 : m2.1 572 5 = μ.1 572 5 := o2.fi (by unfold FvA Fus; omega)
  have k6 : m2.1 572 6 = μ.1 572 6 := o2.fi (by unfold FvA Fus; omega)
  have k574 : m2.1 574 = μ.1 574 := (o2.c (by decide) (by unfold S573; omega)).1
  have k576 : m2.1 576 = μ.1 576 := (o2.c (by decide) (by unfold S573; omega)).1
  have kS : OfS Smo μ m2 := o2.1.mono (fun k hk => by unfold S573 at hk; unfold Smo; omega)
  cases e : lawF B with
  | inl f =>
    rw [e] at r2
    have q1 : lyV B = nI 0 := by unfold lyV; rw [e]
    have q2 : lyT B = 1 := by unfold lyT; rw [e]
    have q3 : lyX B L.2 = L.2 := by unfold lyX; rw [e]
    have q4 : lyU B U = U := by unfold lyU; rw [e]
    have q5 : lyF B = nI f := by unfold lyF; rw [e]
    have q6 : lyC B L.1 = L.1 := by unfold lyC; rw [e]
    rw [q1, q2, q3, q4, q5, q6]
    have e573 : ∀ j, j < 1165 → (wI (wI m2 572 13 (nI f)) 572 0 (nI 1)).1 573 j = μ.1 573 j := fun j hj => (n_wI (by omega)).trans ((n_wI (by omega)).trans (w2 j hj))
    have a1 : MAll (wI (wI m2 572 13 (nI f)) 572 0 (nI 1)) (X, (L.1, L.2), U, K, [], nI f) := ⟨hX.to (fun k hk => e573 k (by omega)), ⟨hL.1.up (fun j hj => e573 j (by omega)), hL.2⟩, hU.of ((n_wI (by omega)).trans ((n_wI (by omega)).trans k6)) ((funext (fun j => (n_wI (by omega)).trans (n_wI (by omega)))).trans k576) (e573 4 (by omega)), hK.of ((n_wI (by omega)).trans ((n_wI (by omega)).trans k5)) ((funext (fun j => (n_wI (by omega)).trans (n_wI (by omega)))).trans k574), t2.of ((n_wI (by omega)).trans (n_wI (by omega))) (funext (fun j => (n_wI (by omega)).trans (n_wI (by omega)))), (n_wI (by omega)).trans (e_wI ⟨rfl, rfl⟩)⟩
    have a2 : MO μ (wI (wI m2 572 13 (nI f)) 572 0 (nI 1)) 1 (X, (L.1, L.2), U, K, [], nI f) := ⟨a1, e_wI ⟨rfl, rfl⟩, OfS.sI (OfS.sI kS (by unfold Smo; omega)) (by unfold Smo; omega)⟩
    refine T_istore_n (pc := 5) (i := 1) (ls' := [some (.ref 572), some (.int ((-1))), none]) dX12_law_5 rfl (by decide) rfl ?_
    refine T_aload_n (pc := 6) (i := 0) dX12_law_6 rfl rfl ?_
    refine T_iload_n (pc := 7) (i := 1) dX12_law_7 rfl rfl ?_
    refine T_if_ge (pc := 8) (tgt := 18) dX12_law_8 (by decide) (fun g1 => ?_) (fun g1 => ?_)
    · exact absurd g1 (by decide)
    · skip
      refine T_aload_n (pc := 11) (i := 0) dX12_law_11 rfl rfl ?_
      refine R_getI (pc := 12) (x := nI f) fl_X12_149 rfl kc_572 lc_572 r2 dX12_law_12 ?_
      refine T_goto (pc := 15) (tgt := 19) dX12_law_15 (by decide) ?_
      refine R_putI (pc := 19) fl_X12_46 ⟨rfl, rfl⟩ (Or.inl rfl) kc_572 lc_572 dX12_law_19 ?_
      refine T_aload_n (pc := 22) (i := 0) dX12_law_22 rfl rfl ?_
      refine T_iload_n (pc := 23) (i := 1) dX12_law_23 rfl rfl ?_
      refine T_if_ge (pc := 24) (tgt := 31) dX12_law_24 (by decide) (fun g2 => ?_) (fun g2 => ?_)
      · exact absurd g2 (by decide)
      · skip
        refine T_iconst (pc := 27) (v := nI 1) dX12_law_27 (by decide) ?_
        refine T_goto (pc := 28) (tgt := 32) dX12_law_28 (by decide) ?_
        refine T_iconst (pc := 32) (v := nI 1) dX12_law_32 (by decide) ?_
        refine R_callV1 (pc := 33) (As := [.int (nI 1), .int (nI 1)]) (rest := []) (Or.inl lk_X12_302) mk_X12_throwsIf m_throws1n kc_572 ⟨by decide, rfl⟩ lc_572 dX12_law_33 rfl rfl (Nat.le_of_ble_eq_true rfl) (by decide) rfl (Nat.le_refl _) (Nat.le_refl _) ?_
        refine R_ifb_eq (pc := 36) (tgt := 41) dX12_law_36 (by decide) (fun g3 => ?_) (fun g3 => ?_)
        · exact absurd g3 (by decide)
        · skip
          refine T_iconst (pc := 39) (v := nI 0) dX12_law_39 (by decide) ?_
          exact T_iret (pc := 40) (ty := .int) dX12_law_40 rfl rfl (Nat.le_refl _) (Nat.le_refl _) ⟨_, rfl, rfl, a2⟩
  | inr LL =>
    rw [e] at r2
    have r3 : mdL (m2.1 573) 1164 LL := r2
    have h12 := r3.1.1
    have hw := wfl_lawF hb e
    have q1 : lyV B = nI LL.length := by unfold lyV; rw [e]
    have q2 : lyT B = 0 := by unfold lyT; rw [e]
    have q3 : lyX B L.2 = LL := by unfold lyX; rw [e]
    have q4 : lyU B U = [] := by unfold lyU; rw [e]
    have q5 : lyF B = -1 := by unfold lyF; rw [e]
    have q6 : lyC B L.1 = nI LL.length := by unfold lyC; rw [e]
    rw [q1, q2, q3, q4, q5, q6]
    obtain ⟨m3, hm3⟩ : ∃ m3, m3 = wI (wI m2 572 13 (-1)) 573 1164 (nI LL.length) := ⟨_, rfl⟩
    have w3 : ∀ j, j ≠ 1164 → m3.1 573 j = m2.1 573 j := fun j hj => by
      rw [hm3]
      exact (n_wI (by omega)).trans (n_wI (by omega))
    have c3 : m3.1 573 1164 = nI LL.length := by
      rw [hm3]
      exact e_wI ⟨rfl, rfl⟩
    have f3 : ∀ j, j ≠ 13 → m3.1 572 j = m2.1 572 j := fun j hj => by
      rw [hm3]
      exact (n_wI (by omega)).trans (n_wI (by omega))
    have g3 : m3.1 572 13 = -1 := by
      rw [hm3]
      exact (n_wI (by omega)).trans (e_wI ⟨rfl, rfl⟩)
    have s3 : OfS (fun k => k = 572 ∨ k = 573) m2 m3 := by
      rw [hm3]
      exact OfS.sI (OfS.sI (OfS.refl _ _) (Or.inl rfl)) (Or.inr rfl)
    have loop : ∀ (f k : Nat) (m : SM2), k + f = 825 → (∀ j, j < k → m.1 573 (339 + j) = m3.1 573 (1164 + j)) → (∀ j, (j < 339 ∨ 1164 ≤ j) → m.1 573 j = m3.1 573 j) → OfS S573 m3 m → T γ 33 0 0 M_X12_law (Rm (some (.int (nI LL.length))) (fun m => MO μ m 0 (X, (nI LL.length, LL), [], K, [], -1))) 0 0 52 [some (.ref 572), some (.int (nI LL.length)), some (.int (nI k))] [] (rm m) := by
      intro f
      induction f with
      | zero =>
        intro k m hk hd he ho
        obtain rfl : k = 825 := by omega
        have e572 : m.1 572 = m3.1 572 := (ho 572 (by unfold S573; omega)).1
        have e573 : ∀ j, j ≠ 4 → (wI (wI m 573 4 (nI 1)) 572 6 (nI 0)).1 573 j = m.1 573 j := fun j hj => (n_wI (by omega)).trans (n_wI (by omega))
        have e4 : (wI (wI m 573 4 (nI 1)) 572 6 (nI 0)).1 573 4 = nI 1 := (n_wI (by omega)).trans (e_wI ⟨rfl, rfl⟩)
        have w9 : ∀ j, j < 339 → j ≠ 4 → (wI (wI m 573 4 (nI 1)) 572 6 (nI 0)).1 573 j = μ.1 573 j := fun j h1 h2 => (e573 j h2).trans ((he j (Or.inl h1)).trans ((w3 j (by omega)).trans (w2 j (by omega))))
        have hX9 : mdT ((wI (wI m 573 4 (nI 1)) 572 6 (nI 0)).1 573) X := by
          obtain ⟨xR, xF, xS, xW, xZ⟩ := hX
          exact ⟨xR.some (fun k h1 h2 => w9 k (by omega) (by omega)), xF.some (w9 1 (by omega) (by omega)) (fun k h1 h2 => w9 k (by omega) (by omega)), xS.some (w9 2 (by omega) (by omega)) (fun k h1 h2 => w9 k (by omega) (by omega)), xW.some (fun k h1 h2 => w9 k (by omega) (by omega)), xZ.1, (w9 3 (by omega) (by omega)).trans xZ.2.1, (w9 5 (by omega) (by omega)).trans xZ.2.2.1, (w9 6 (by omega) (by omega)).trans xZ.2.2.2.1, (w9 7 (by omega) (by omega)).trans xZ.2.2.2.2.1, (w9 8 (by omega) (by omega)).trans xZ.2.2.2.2.2⟩
        have hL9 : mdH ((wI (wI m 573 4 (nI 1)) 572 6 (nI 0)).1 573) (nI LL.length) LL := by
          refine ⟨Or.inr ⟨e4, rfl, ?_⟩, ?_⟩
          · exact (e573 339 (by omega)).trans ((hd 0 (by omega)).trans c3)
          · have h1 : mdL (m3.1 573) 1164 LL := r3.some (fun j hj => w3 j (by omega))
            exact h1.shift (fun j hj => (e573 _ (by omega)).trans (hd j hj))
        have hp : ∀ j, (wI (wI m 573 4 (nI 1)) 572 6 (nI 0)).1 577 j = m2.1 577 j := fun j => (n_wI (by omega)).trans ((n_wI (by omega)).trans ((congrFun (ho 577 (by unfold S573; omega)).1 j).trans (congrFun (s3 577 (by omega)).1 j)))
        have hq : ∀ j, (wI (wI m 573 4 (nI 1)) 572 6 (nI 0)).1 574 j = m2.1 574 j := fun j => (n_wI (by omega)).trans ((n_wI (by omega)).trans ((congrFun (ho 574 (by unfold S573; omega)).1 j).trans (congrFun (s3 574 (by omega)).1 j)))
        have hf : ∀ j, j ≠ 6 → (wI (wI m 573 4 (nI 1)) 572 6 (nI 0)).1 572 j = m3.1 572 j := fun j hj => (n_wI (by omega)).trans ((n_wI (by omega)).trans (congrFun e572 j))
        have a1 : MAll (wI (wI m 573 4 (nI 1)) 572 6 (nI 0)) (X, (nI LL.length, LL), [], K, [], -1) := ⟨hX9, ⟨hL9, hw⟩, ⟨⟨e_wI ⟨rfl, rfl⟩, Nat.zero_le _⟩, fun j hj => absurd hj (Nat.not_lt_zero _)⟩, hK.of ((hf 5 (by decide)).trans ((f3 5 (by decide)).trans k5)) ((funext hq).trans k574), t2.of ((hf 8 (by decide)).trans (f3 8 (by decide))) (funext hp), (hf 13 (by decide)).trans g3⟩
        have a2 : MO μ (wI (wI m 573 4 (nI 1)) 572 6 (nI 0)) 0 (X, (nI LL.length, LL), [], K, [], -1) := ⟨a1, (hf 0 (by decide)).trans ((f3 0 (by decide)).trans z2), OfS.sI (OfS.sI (kS.trans ((s3.mono (fun k hk => by unfold Smo; omega)).trans (ho.mono (fun k hk => by unfold S573 at hk; unfold Smo; omega)))) (by unfold Smo; omega)) (by unfold Smo; omega)⟩
        refine T_iload_n (pc := 52) (i := 2) dX12_law_52 rfl rfl ?_
        refine T_sipush (pc := 53) (v := nI 825) dX12_law_53 (by decide) ?_
        refine R_icmp_ge (pc := 56) (tgt := 85) (by omega) (by omega) dX12_law_56 (by decide) (fun g1 => ?_) (fun g1 => ?_)
        · skip
          refine T_aload_n (pc := 85) (i := 0) dX12_law_85 rfl rfl ?_
          refine R_getR (pc := 86) (i := 573) fl_X12_29 rfl kc_572 lc_572 rc_572_1 dX12_law_86 ?_
          refine T_iconst (pc := 89) (v := nI 4) dX12_law_89 (by decide) ?_
          refine T_iconst (pc := 90) (v := nI 1) dX12_law_90 (by decide) ?_
          refine R_iast (pc := 91) kc_573 lc_573 (by omega) (by first | decide | assumption) dX12_law_91 ?_
          refine T_aload_n (pc := 92) (i := 0) dX12_law_92 rfl rfl ?_
          refine T_iconst (pc := 93) (v := nI 0) dX12_law_93 (by decide) ?_
          refine R_putI (pc := 94) fl_X12_102 ⟨rfl, rfl⟩ (Or.inl rfl) kc_572 lc_572 dX12_law_94 ?_
          refine T_iload_n (pc := 97) (i := 1) dX12_law_97 rfl rfl ?_
          exact T_iret (pc := 98) (ty := .int) dX12_law_98 rfl rfl (Nat.le_refl _) (Nat.le_refl _) ⟨_, rfl, rfl, a2⟩
        · exact absurd g1 (by decide)
      | succ f ih =>
        intro k m hk hd he ho
        have e9 : m.1 573 (1164 + k) = m3.1 573 (1164 + k) := he _ (Or.inr (by omega))
        have h9 := ih (k + 1) (wI m 573 (339 + k) (m3.1 573 (1164 + k))) (by omega) (fun j hj => by
          by_cases e : j = k
          · rw [e]
            exact e_wI ⟨rfl, rfl⟩
          · exact (n_wI (by omega)).trans (hd j (by omega))) (fun j hj => (n_wI (by omega)).trans (he j hj)) (OfS.sI ho rfl)
        refine T_iload_n (pc := 52) (i := 2) dX12_law_52 rfl rfl ?_
        refine T_sipush (pc := 53) (v := nI 825) dX12_law_53 (by decide) ?_
        refine R_icmp_ge (pc := 56) (tgt := 85) (by omega) (by omega) dX12_law_56 (by decide) (fun g1 => ?_) (fun g1 => ?_)
        · exact absurd g1 (by omega)
        · skip
          refine T_aload_n (pc := 59) (i := 0) dX12_law_59 rfl rfl ?_
          refine R_getR (pc := 60) (i := 573) fl_X12_29 rfl kc_572 lc_572 rc_572_1 dX12_law_60 ?_
          refine T_sipush (pc := 63) (v := nI 339) dX12_law_63 (by decide) ?_
          refine T_iload_n (pc := 66) (i := 2) dX12_law_66 rfl rfl ?_
          refine R_iadd (pc := 67) dX12_law_67 ?_
          refine T_aload_n (pc := 68) (i := 0) dX12_law_68 rfl rfl ?_
          refine R_getR (pc := 69) (i := 573) fl_X12_29 rfl kc_572 lc_572 rc_572_1 dX12_law_69 ?_
          refine T_sipush (pc := 72) (v := nI 1164) dX12_law_72 (by decide) ?_
          refine T_iload_n (pc := 75) (i := 2) dX12_law_75 rfl rfl ?_
          refine R_iadd (pc := 76) dX12_law_76 ?_
          refine R_iald (pc := 77) (x := (m3.1 573 (1164 + k))) kc_573 lc_573 (by omega) (by first | decide | assumption) e9 dX12_law_77 ?_
          refine R_iast (pc := 78) kc_573 lc_573 (by omega) (by first | decide | assumption) dX12_law_78 ?_
          refine R_iinc (pc := 79) (i := 2) (n := 1) (ls' := [some (.ref 572), some (.int (nI LL.length)), some (.int (nI (k + 1)))]) dX12_law_79 rfl rfl ?_
          refine T_goto (pc := 82) (tgt := 52) dX12_law_82 (by decide) ?_
          exact h9
    refine T_istore_n (pc := 5) (i := 1) (ls' := [some (.ref 572), some (.int (nI LL.length)), none]) dX12_law_5 rfl (by decide) rfl ?_
    refine T_aload_n (pc := 6) (i := 0) dX12_law_6 rfl rfl ?_
    refine T_iload_n (pc := 7) (i := 1) dX12_law_7 rfl rfl ?_
    refine R_if_ge (pc := 8) (tgt := 18) (by omega) dX12_law_8 (by decide) (fun g1 => ?_) (fun g1 => ?_)
    · skip
      refine T_iconst (pc := 18) (v := (-1)) dX12_law_18 (by decide) ?_
      refine R_putI (pc := 19) fl_X12_46 ⟨rfl, rfl⟩ (Or.inl rfl) kc_572 lc_572 dX12_law_19 ?_
      refine T_aload_n (pc := 22) (i := 0) dX12_law_22 rfl rfl ?_
      refine T_iload_n (pc := 23) (i := 1) dX12_law_23 rfl rfl ?_
      refine R_if_ge (pc := 24) (tgt := 31) (by omega) dX12_law_24 (by decide) (fun g2 => ?_) (fun g2 => ?_)
      · skip
        refine T_iconst (pc := 31) (v := nI 0) dX12_law_31 (by decide) ?_
        refine T_iconst (pc := 32) (v := nI 1) dX12_law_32 (by decide) ?_
        refine R_callV1 (pc := 33) (As := [.int (nI 0), .int (nI 1)]) (rest := []) (Or.inl lk_X12_302) mk_X12_throwsIf m_throws0n kc_572 ⟨by decide, rfl⟩ lc_572 dX12_law_33 rfl rfl (Nat.le_of_ble_eq_true rfl) (by decide) rfl (Nat.le_refl _) (Nat.le_refl _) ?_
        refine R_ifb_eq (pc := 36) (tgt := 41) dX12_law_36 (by decide) (fun g4 => ?_) (fun g4 => ?_)
        · skip
          refine T_aload_n (pc := 41) (i := 0) dX12_law_41 rfl rfl ?_
          refine R_getR (pc := 42) (i := 573) fl_X12_29 rfl kc_572 lc_572 rc_572_1 dX12_law_42 ?_
          refine T_sipush (pc := 45) (v := nI 1164) dX12_law_45 (by decide) ?_
          refine T_iload_n (pc := 48) (i := 1) dX12_law_48 rfl rfl ?_
          refine R_iast (pc := 49) kc_573 lc_573 (by omega) (by first | decide | assumption) dX12_law_49 ?_
          refine T_iconst (pc := 50) (v := nI 0) dX12_law_50 (by decide) ?_
          refine T_istore_n (pc := 51) (i := 2) (ls' := [some (.ref 572), some (.int (nI LL.length)), some (.int (nI 0))]) dX12_law_51 rfl (by decide) rfl ?_
          refine T_mem (μ' := rm (wI (wI m2 572 13 (-1)) 573 1164 (nI LL.length))) (rfl) ?_
          rw [← hm3]
          exact loop 825 0 m3 rfl (fun j hj => absurd hj (Nat.not_lt_zero _)) (fun j _ => rfl) (OfS.refl _ _)
        · exact absurd g4 (by decide)
      · first | exact g2.elim | exact absurd g2 (by omega)
    · first | exact g1.elim | exact absurd g1 (by omega)
/-- the calls of the TAPE and what they leave -/
theorem TapeAt.all {m : SM2} {s : Sta} {B' : List Nat} (hs : MAll μ s) (h : TapeAt m B') (h0 : m.1 572 0 = nI 0) (o : OfM F8 S578 μ m) : MO μ m 0 (s.1, s.2.1, s.2.2.1, s.2.2.2.1, B', s.2.2.2.2.2) := by
  have e573 : m.1 573 = μ.1 573 := (o.c (by decide) (by unfold S578; omega)).1
  refine ⟨⟨?_, ?_, ?_, ?_, h, (o.fi (by unfold F8; omega)).trans hs.2.2.2.2.2⟩, h0, o.1.mono (fun k hk => by unfold S578 at hk; unfold Smo; omega)⟩
  · show mdT (m.1 573) _
    rw [e573]
    exact hs.1
  · show mdH (m.1 573) _ _ ∧ _
    rw [e573]
    exact hs.2.1
  · exact hs.2.2.1.of (o.fi (by unfold F8; omega)) (o.c (by decide) (by unfold S578; omega)).1 (by rw [e573])
  · exact hs.2.2.2.1.of (o.fi (by unfold F8; omega)) (o.c (by decide) (by unfold S578; omega)).1
theorem m_feedA {a b c d e : Int32} {s : Sta} (hs : MAll μ s) : Ex γ 1 0 0 M_X12_feed [.ref 572, .int a, .int b, .int c, .int d, .int e] (rm μ) (Rm (some (.int (if s.2.2.2.2.1.length + 20 ≤ 400 then nI (s.2.2.2.2.1.length + 20) else -1))) (fun m => MO μ m 0 (s.1, s.2.1, s.2.2.1, s.2.2.2.1, (if s.2.2.2.2.1.length + 20 ≤ 400 then s.2.2.2.2.1 ++ by20 a b c d e else s.2.2.2.2.1), s.2.2.2.2.2))) :=
  (m_feed hs.2.2.2.2.1).mono (fun o m9 h => by
    obtain ⟨m, e1, e2, h1, h2, h3⟩ := h
    exact ⟨m, e1, e2, TapeAt.all hs h1 h2 h3⟩)
theorem m_endA {x : Int32} {s : Sta} (hs : MAll μ s) : Ex γ 1 0 0 M_X12_end [.ref 572, .int x] (rm μ) (Rm (some (.int (bI (inB x (s.2.2.2.2.1.length + 1))))) (fun m => MO μ m 0 (s.1, s.2.1, s.2.2.1, s.2.2.2.1, (if inB x (s.2.2.2.2.1.length + 1) = true then s.2.2.2.2.1.take x.toNatClampNeg else s.2.2.2.2.1), s.2.2.2.2.2))) :=
  (m_end hs.2.2.2.2.1).mono (fun o m9 h => by
    obtain ⟨m, e1, e2, h1, h2, h3⟩ := h
    exact ⟨m, e1, e2, TapeAt.all hs h1 h2 h3⟩)
end MLW

