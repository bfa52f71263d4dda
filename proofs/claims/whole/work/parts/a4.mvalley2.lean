/-! THE MODEL: valley -/
def vyV (B : List Nat) (X : Td) : Int32 := match vText B X with
  | .inl _ => nI 0
  | .inr _ => if X.texts < 10 then nI (X.texts + 1) else nI 0
def vyT (B : List Nat) (X : Td) : Nat := match vText B X with
  | .inl _ => 1
  | .inr _ => if X.texts < 10 then 0 else 2
section MVB
variable {γ : Ga} {μ : SM2}
theorem m_valleyA {s : Sta} (hs : MAll μ s) : Ex γ 11 0 0 M_X12_valley [.ref 572] (rm μ) (Rm (some (.int (vyV s.2.2.2.2.1 s.1))) (fun m => MO μ m (vyT s.2.2.2.2.1 s.1) (vyX s.2.2.2.2.1 s.1, s.2.1, vyU s.2.2.2.2.1 s.1 s.2.2.1, s.2.2.2.1, [], vyF s.2.2.2.2.1 s.1))) := by
  obtain ⟨X, L, U, K, B, ft⟩ := s
  obtain ⟨hX, hL, hU, hK, hB, hF⟩ := hs
  dsimp only at hX hL hU hK hB hF ⊢
  obtain ⟨Q, hQ⟩ : ∃ Q, Q = Rm (some (.int (vyV B X))) (fun m => MO μ m (vyT B X) (vyX B X, L, vyU B X U, K, [], vyF B X)) := ⟨_, rfl⟩
  rw [← hQ]
  have t90 : ∀ (m : SM2) (t : Nat) (F v : Int32), (∀ k, k < 1164 → m.1 575 k = μ.1 573 k) → m.1 572 0 = nI t → m.1 572 13 = F → TapeAt m [] → (m.1 572 5 = μ.1 572 5 ∧ m.1 572 6 = μ.1 572 6) → m.1 574 = μ.1 574 → m.1 576 = μ.1 576 → OfS Smo μ m → T γ 11 0 0 M_X12_valley (Rm (some (.int (nI 0))) (fun m => MO μ m t (X, L, U, K, [], F))) 0 0 90 [some (.ref 572), some (.int v), none] [] (rm m) := fun m t F v h1 h2 h3 h4 h5 h6 h7 h8 => by
    have loop : ∀ (f k : Nat) (m' : SM2), k + f = 1164 → (∀ j, j < k → m'.1 573 j = μ.1 573 j) → OfS S573 m m' → T γ 11 0 0 M_X12_valley (Rm (some (.int (nI 0))) (fun m => MO μ m t (X, L, U, K, [], F))) 0 0 92 [some (.ref 572), some (.int v), some (.int (nI k))] [] (rm m') := by
      intro f
      induction f with
      | zero =>
        intro k m' hk hd ho
        obtain rfl : k = 1164 := by omega
        have e572 : m'.1 572 = m.1 572 := (ho 572 (by unfold S573; omega)).1
        have a1 : MAll m' (X, L, U, K, [], F) := ⟨hX.to (fun k hk => hd k (by omega)), ⟨hL.1.up hd, hL.2⟩, hU.of (by rw [e572]; exact h5.2) ((ho 576 (by unfold S573; omega)).1.trans h7) (hd 4 (by decide)), hK.of (by rw [e572]; exact h5.1) ((ho 574 (by unfold S573; omega)).1.trans h6), h4.of (by rw [e572]) (ho 577 (by unfold S573; omega)).1, by show m'.1 572 13 = F; rw [e572]; exact h3⟩
        have a2 : MO μ m' t (X, L, U, K, [], F) := ⟨a1, by rw [e572]; exact h2, h8.trans (ho.mono (fun k hk => by unfold S573 at hk; unfold Smo; omega))⟩
        refine T_iload_n (pc := 92) (i := 2) dX12_valley_92 rfl rfl ?_
        refine T_sipush (pc := 93) (v := nI 1164) dX12_valley_93 (by decide) ?_
        refine R_icmp_ge (pc := 96) (tgt := 117) (by omega) (by omega) dX12_valley_96 (by decide) (fun g1 => ?_) (fun g1 => ?_)
        · skip
          refine T_iconst (pc := 117) (v := nI 0) dX12_valley_117 (by decide) ?_
          exact T_iret (pc := 118) (ty := .int) dX12_valley_118 rfl rfl (Nat.le_refl _) (Nat.le_refl _) ⟨_, rfl, rfl, a2⟩
        · exact absurd g1 (by decide)
      | succ f ih =>
        intro k m' hk hd ho
        have e575 : m'.1 575 k = μ.1 573 k := (congrFun (ho 575 (by unfold S573; omega)).1 k).trans (h1 k (by omega))
        have h9 := ih (k + 1) (wI m' 573 k (μ.1 573 k)) (by omega) (fun j hj => by
          by_cases e : j = k
          · rw [e]
            exact e_wI ⟨rfl, rfl⟩
          · exact (n_wI (by omega)).trans (hd j (by omega))) (OfS.sI ho rfl)
        refine T_iload_n (pc := 92) (i := 2) dX12_valley_92 rfl rfl ?_
        refine T_sipush (pc := 93) (v := nI 1164) dX12_valley_93 (by decide) ?_
        refine R_icmp_ge (pc := 96) (tgt := 117) (by omega) (by omega) dX12_valley_96 (by decide) (fun g1 => ?_) (fun g1 => ?_)
        · first | exact g1.elim | exact absurd g1 (by omega)
        · skip
          refine T_aload_n (pc := 99) (i := 0) dX12_valley_99 rfl rfl ?_
          refine R_getR (pc := 100) (i := 573) fl_X12_29 rfl kc_572 lc_572 rc_572_1 dX12_valley_100 ?_
          refine T_iload_n (pc := 103) (i := 2) dX12_valley_103 rfl rfl ?_
          refine T_aload_n (pc := 104) (i := 0) dX12_valley_104 rfl rfl ?_
          refine R_getR (pc := 105) (i := 575) fl_X12_36 rfl kc_572 lc_572 rc_572_3 dX12_valley_105 ?_
          refine T_iload_n (pc := 108) (i := 2) dX12_valley_108 rfl rfl ?_
          refine R_iald (pc := 109) (x := (μ.1 573 k)) kc_575 lc_575 (by omega) (by first | decide | assumption) e575 dX12_valley_109 ?_
          refine R_iast (pc := 110) kc_573 lc_573 (by omega) (by first | decide | assumption) dX12_valley_110 ?_
          refine R_iinc (pc := 111) (i := 2) (n := 1) (ls' := [some (.ref 572), some (.int (v)), some (.int (nI (k + 1)))]) dX12_valley_111 rfl rfl ?_
          refine T_goto (pc := 114) (tgt := 92) dX12_valley_114 (by decide) ?_
          exact h9
    refine T_iconst (pc := 90) (v := nI 0) dX12_valley_90 (by decide) ?_
    refine T_istore_n (pc := 91) (i := 2) (ls' := [some (.ref 572), some (.int (v)), some (.int (nI 0))]) dX12_valley_91 rfl (by decide) rfl ?_
    exact loop 1164 0 m rfl (fun j hj => absurd hj (Nat.not_lt_zero _)) (OfS.refl _ _)
  have t27 : ∀ m1 : SM2, (∀ k, k < 1164 → m1.1 575 k = μ.1 573 k) → OfS (fun k => k = 575) μ m1 → T γ 11 0 0 M_X12_valley Q 0 0 27 [some (.ref 572), some (.int (nI 1164)), none] [] (rm m1) := fun m1 h1 o1 => by
    have e1 : ∀ k, k ≠ 575 → m1.1 k = μ.1 k := fun k hk => (o1 k hk).1
    have hB1 : TapeAt m1 B := hB.of (by rw [e1 572 (by decide)]) (e1 577 (by decide))
    have hX1 : mdT (m1.1 573) X := by
      rw [e1 573 (by decide)]
      exact hX
    obtain ⟨c, hc⟩ : ∃ c, c = (if tK B 0 = -1 then 0 else vCn B 14 0 X (tS B 0)) := ⟨_, rfl⟩
    have hc14 : c ≤ 14 := by
      rw [hc]
      split
      · omega
      · have := vCn_le (B := B) 14 0 X (tS B 0)
        omega
    have hra := m_readAllV (γ := γ) hB1 hX1
    rw [← hc] at hra
    refine T_aload_n (pc := 27) (i := 0) dX12_valley_27 rfl rfl ?_
    refine T_iconst (pc := 28) (v := nI 1) dX12_valley_28 (by decide) ?_
    refine R_callVm1 (pc := 29) (As := [.int (nI 1)]) (rest := []) (Or.inl lk_X12_298) mk_X12_readAll hra kc_572 ⟨by decide, rfl⟩ lc_572 dX12_valley_29 rfl rfl (Nat.le_of_ble_eq_true rfl) (by decide) rfl (Nat.le_refl _) (Nat.le_refl _) (fun m2 h2 => ?_)
    obtain ⟨⟨r2, t2, z2⟩, o2⟩ := h2
    have k575 : ∀ k, k < 1164 → m2.1 575 k = μ.1 573 k := fun k hk => (o2.1.i (by decide) (by unfold S573; omega) k).trans (h1 k hk)
    have k5 : m2.1 572 5 = μ.1 572 5 := (o2.1.fi (by unfold FvA Fus; omega)).trans (congrFun (e1 572 (by decide)) 5)
    have k6 : m2.1 572 6 = μ.1 572 6 := (o2.1.fi (by unfold FvA Fus; omega)).trans (congrFun (e1 572 (by decide)) 6)
    have k574 : m2.1 574 = μ.1 574 := (o2.1.c (by decide) (by unfold S573; omega)).1.trans (e1 574 (by decide))
    have k576 : m2.1 576 = μ.1 576 := (o2.1.c (by decide) (by unfold S573; omega)).1.trans (e1 576 (by decide))
    have kW : ∀ j, (j = 4 ∨ 339 ≤ j) → m2.1 573 j = μ.1 573 j := fun j hj => (o2.2 j hj).trans (congrFun (e1 573 (by decide)) j)
    have kS : OfS Smo μ m2 := (o1.mono (fun k hk => by unfold Smo; omega)).trans (o2.1.1.mono (fun k hk => by unfold S573 at hk; unfold Smo; omega))
    cases e : vText B X with
    | inl f =>
      rw [e] at r2
      have q1 : vyV B X = nI 0 := by unfold vyV; rw [e]
      have q2 : vyT B X = 1 := by unfold vyT; rw [e]
      have q3 : vyX B X = X := by unfold vyX; rw [e]
      have q4 : vyU B X U = U := by unfold vyU; rw [e]
      have q5 : vyF B X = nI f := by unfold vyF; rw [e]
      rw [q1, q2, q3, q4, q5] at hQ
      rw [hQ]
      refine T_istore_n (pc := 32) (i := 1) (ls' := [some (.ref 572), some (.int ((-1))), none]) dX12_valley_32 rfl (by decide) rfl ?_
      refine T_aload_n (pc := 33) (i := 0) dX12_valley_33 rfl rfl ?_
      refine T_iload_n (pc := 34) (i := 1) dX12_valley_34 rfl rfl ?_
      refine T_if_ge (pc := 35) (tgt := 45) dX12_valley_35 (by decide) (fun g1 => ?_) (fun g1 => ?_)
      · exact absurd g1 (by decide)
      · skip
        refine T_aload_n (pc := 38) (i := 0) dX12_valley_38 rfl rfl ?_
        refine R_getI (pc := 39) (x := nI f) fl_X12_149 rfl kc_572 lc_572 r2 dX12_valley_39 ?_
        refine T_goto (pc := 42) (tgt := 46) dX12_valley_42 (by decide) ?_
        refine R_putI (pc := 46) fl_X12_46 ⟨rfl, rfl⟩ (Or.inl rfl) kc_572 lc_572 dX12_valley_46 ?_
        refine T_aload_n (pc := 49) (i := 0) dX12_valley_49 rfl rfl ?_
        refine T_iload_n (pc := 50) (i := 1) dX12_valley_50 rfl rfl ?_
        refine T_if_ge (pc := 51) (tgt := 58) dX12_valley_51 (by decide) (fun g2 => ?_) (fun g2 => ?_)
        · exact absurd g2 (by decide)
        · skip
          refine T_iconst (pc := 54) (v := nI 1) dX12_valley_54 (by decide) ?_
          refine T_goto (pc := 55) (tgt := 59) dX12_valley_55 (by decide) ?_
          refine T_iconst (pc := 59) (v := nI 1) dX12_valley_59 (by decide) ?_
          refine R_callV1 (pc := 60) (As := [.int (nI 1), .int (nI 1)]) (rest := []) (Or.inl lk_X12_302) mk_X12_throwsIf m_throws1n kc_572 ⟨by decide, rfl⟩ lc_572 dX12_valley_60 rfl rfl (Nat.le_of_ble_eq_true rfl) (by decide) rfl (Nat.le_refl _) (Nat.le_refl _) ?_
          refine R_ifb_ne (pc := 63) (tgt := 90) dX12_valley_63 (by decide) (fun g3 => ?_) (fun g3 => ?_)
          · skip
            exact t90 _ 1 (nI f) _ (fun k hk => (n_wI (by omega)).trans ((n_wI (by omega)).trans (k575 k hk))) (e_wI ⟨rfl, rfl⟩) ((n_wI (by omega)).trans (e_wI ⟨rfl, rfl⟩)) (t2.of ((n_wI (by omega)).trans (n_wI (by omega))) (funext (fun j => (n_wI (by omega)).trans (n_wI (by omega))))) ⟨(n_wI (by omega)).trans ((n_wI (by omega)).trans k5), (n_wI (by omega)).trans ((n_wI (by omega)).trans k6)⟩ ((funext (fun j => (n_wI (by omega)).trans (n_wI (by omega)))).trans k574) ((funext (fun j => (n_wI (by omega)).trans (n_wI (by omega)))).trans k576) (OfS.sI (OfS.sI kS (by unfold Smo; omega)) (by unfold Smo; omega))
          · exact absurd g3 (by decide)
    | inr q =>
      rw [e] at r2
      have r3 : mdT (m2.1 573) q.2 := r2
      have ht := vText_texts e
      have hz := r3.2.2.2.2
      have ht10 := hz.1.1
      have q5 : vyF B X = -1 := by unfold vyF; rw [e]
      refine T_istore_n (pc := 32) (i := 1) (ls' := [some (.ref 572), some (.int (nI c)), none]) dX12_valley_32 rfl (by decide) rfl ?_
      refine T_aload_n (pc := 33) (i := 0) dX12_valley_33 rfl rfl ?_
      refine T_iload_n (pc := 34) (i := 1) dX12_valley_34 rfl rfl ?_
      refine R_if_ge (pc := 35) (tgt := 45) (by omega) dX12_valley_35 (by decide) (fun g1 => ?_) (fun g1 => ?_)
      · skip
        refine T_iconst (pc := 45) (v := (-1)) dX12_valley_45 (by decide) ?_
        refine R_putI (pc := 46) fl_X12_46 ⟨rfl, rfl⟩ (Or.inl rfl) kc_572 lc_572 dX12_valley_46 ?_
        refine T_aload_n (pc := 49) (i := 0) dX12_valley_49 rfl rfl ?_
        refine T_iload_n (pc := 50) (i := 1) dX12_valley_50 rfl rfl ?_
        refine R_if_ge (pc := 51) (tgt := 58) (by omega) dX12_valley_51 (by decide) (fun g2 => ?_) (fun g2 => ?_)
        · skip
          refine T_iconst (pc := 58) (v := nI 0) dX12_valley_58 (by decide) ?_
          refine T_iconst (pc := 59) (v := nI 1) dX12_valley_59 (by decide) ?_
          refine R_callV1 (pc := 60) (As := [.int (nI 0), .int (nI 1)]) (rest := []) (Or.inl lk_X12_302) mk_X12_throwsIf m_throws0n kc_572 ⟨by decide, rfl⟩ lc_572 dX12_valley_60 rfl rfl (Nat.le_of_ble_eq_true rfl) (by decide) rfl (Nat.le_refl _) (Nat.le_refl _) ?_
          refine R_ifb_ne (pc := 63) (tgt := 90) dX12_valley_63 (by decide) (fun g3 => ?_) (fun g3 => ?_)
          · exact absurd g3 (by decide)
          · skip
            refine T_aload_n (pc := 66) (i := 0) dX12_valley_66 rfl rfl ?_
            refine T_aload_n (pc := 67) (i := 0) dX12_valley_67 rfl rfl ?_
            refine R_getR (pc := 68) (i := 573) fl_X12_29 rfl kc_572 lc_572 rc_572_1 dX12_valley_68 ?_
            refine T_iconst (pc := 71) (v := nI 3) dX12_valley_71 (by decide) ?_
            refine R_iald (pc := 72) (x := nI q.2.texts) kc_573 lc_573 (by omega) (by first | decide | assumption) ((wI_ne (by decide)).trans hz.2.1) dX12_valley_72 ?_
            refine T_bipush (pc := 73) (v := nI 10) dX12_valley_73 (by decide) ?_
            refine R_icmp_ne (pc := 75) (tgt := 82) (by omega) (by omega) dX12_valley_75 (by decide) (fun g4 => ?_) (fun g4 => ?_)
            · skip
              have hlt : X.texts < 10 := by omega
              have q1 : vyV B X = nI (X.texts + 1) := by unfold vyV; rw [e]; exact if_pos hlt
              have q2 : vyT B X = 0 := by unfold vyT; rw [e]; exact if_pos hlt
              have q3 : vyX B X = tdQ q.2 (q.2.texts + 1, q.2.way, q.2.fog) := by unfold vyX; rw [e]; exact if_pos hlt
              have q4 : vyU B X U = [] := by unfold vyU; rw [e]; exact if_pos hlt
              rw [q1, q2, q3, q4, q5] at hQ
              rw [hQ, ← ht]
              refine T_iconst (pc := 82) (v := nI 0) dX12_valley_82 (by decide) ?_
              refine T_iconst (pc := 83) (v := nI 2) dX12_valley_83 (by decide) ?_
              refine R_callV1 (pc := 84) (As := [.int (nI 0), .int (nI 2)]) (rest := []) (Or.inl lk_X12_302) mk_X12_throwsIf m_throws0n kc_572 ⟨by decide, rfl⟩ lc_572 dX12_valley_84 rfl rfl (Nat.le_of_ble_eq_true rfl) (by decide) rfl (Nat.le_refl _) (Nat.le_refl _) ?_
              refine R_ifb_eq (pc := 87) (tgt := 119) dX12_valley_87 (by decide) (fun g5 => ?_) (fun g5 => ?_)
              · skip
                refine T_aload_n (pc := 119) (i := 0) dX12_valley_119 rfl rfl ?_
                refine R_getR (pc := 120) (i := 573) fl_X12_29 rfl kc_572 lc_572 rc_572_1 dX12_valley_120 ?_
                refine T_iconst (pc := 123) (v := nI 3) dX12_valley_123 (by decide) ?_
                refine T_dup2 (pc := 124) dX12_valley_124 rfl rfl ?_
                refine R_iald (pc := 125) (x := nI q.2.texts) kc_573 lc_573 (by omega) (by first | decide | assumption) ((wI_ne (by decide)).trans hz.2.1) dX12_valley_125 ?_
                refine T_iconst (pc := 126) (v := nI 1) dX12_valley_126 (by decide) ?_
                refine R_iadd (pc := 127) dX12_valley_127 ?_
                refine R_iast (pc := 128) kc_573 lc_573 (by omega) (by first | decide | assumption) dX12_valley_128 ?_
                refine T_aload_n (pc := 129) (i := 0) dX12_valley_129 rfl rfl ?_
                refine T_iconst (pc := 130) (v := nI 0) dX12_valley_130 (by decide) ?_
                refine R_putI (pc := 131) fl_X12_102 ⟨rfl, rfl⟩ (Or.inl rfl) kc_572 lc_572 dX12_valley_131 ?_
                refine T_aload_n (pc := 134) (i := 0) dX12_valley_134 rfl rfl ?_
                refine R_getR (pc := 135) (i := 573) fl_X12_29 rfl kc_572 lc_572 rc_572_1 dX12_valley_135 ?_
                refine T_iconst (pc := 138) (v := nI 3) dX12_valley_138 (by decide) ?_
                refine R_iald (pc := 139) (x := nI (q.2.texts + 1)) kc_573 lc_573 (by omega) (by first | decide | assumption) ((wI_ne (by decide)).trans wI_eq) dX12_valley_139 ?_
                have w573' : ∀ j, j ≠ 3 → (wI (wI (wI m2 572 13 (-1)) 573 3 (nI (q.2.texts + 1))) 572 6 (nI 0)).1 573 j = m2.1 573 j := fun j hj => (n_wI (by omega)).trans ((n_wI (by omega)).trans (n_wI (by omega)))
                have e3 : (wI (wI (wI m2 572 13 (-1)) 573 3 (nI (q.2.texts + 1))) 572 6 (nI 0)).1 573 3 = nI (q.2.texts + 1) := (n_wI (by omega)).trans (e_wI ⟨rfl, rfl⟩)
                have a1 : MAll (wI (wI (wI m2 572 13 (-1)) 573 3 (nI (q.2.texts + 1))) 572 6 (nI 0)) (tdQ q.2 (q.2.texts + 1, q.2.way, q.2.fog), L, [], K, [], -1) := by
                  refine ⟨mdT.q r3 ⟨by show q.2.texts + 1 ≤ 10; omega, hz.1.2.1, hz.1.2.2⟩ e3 ((w573' 5 (by decide)).trans hz.2.2.1) ((w573' 6 (by decide)).trans hz.2.2.2.1) (fun j h1 h2 h3 h4 => w573' j h2), ⟨hL.1.wk (fun j hj => (w573' j (by omega)).trans (kW j hj)), hL.2⟩, ⟨⟨e_wI ⟨rfl, rfl⟩, Nat.zero_le _⟩, fun j hj => absurd hj (Nat.not_lt_zero _)⟩, hK.of ((n_wI (by omega)).trans ((n_wI (by omega)).trans ((n_wI (by omega)).trans k5))) ((funext (fun j => (n_wI (by omega)).trans ((n_wI (by omega)).trans (n_wI (by omega))))).trans k574), t2.of ((n_wI (by omega)).trans ((n_wI (by omega)).trans (n_wI (by omega)))) (funext (fun j => (n_wI (by omega)).trans ((n_wI (by omega)).trans (n_wI (by omega))))), ?_⟩
                  exact (n_wI (by omega)).trans ((n_wI (by omega)).trans (e_wI ⟨rfl, rfl⟩))
                have a2 : MO μ (wI (wI (wI m2 572 13 (-1)) 573 3 (nI (q.2.texts + 1))) 572 6 (nI 0)) 0 (tdQ q.2 (q.2.texts + 1, q.2.way, q.2.fog), L, [], K, [], -1) := ⟨a1, (n_wI (by omega)).trans ((n_wI (by omega)).trans ((n_wI (by omega)).trans z2)), OfS.sI (OfS.sI (OfS.sI kS (by unfold Smo; omega)) (by unfold Smo; omega)) (by unfold Smo; omega)⟩
                exact T_iret (pc := 140) (ty := .int) dX12_valley_140 rfl rfl (Nat.le_refl _) (Nat.le_refl _) ⟨_, rfl, rfl, a2⟩
              · exact absurd g5 (by decide)
            · skip
              have hlt : ¬ X.texts < 10 := by omega
              have q1 : vyV B X = nI 0 := by unfold vyV; rw [e]; exact if_neg hlt
              have q2 : vyT B X = 2 := by unfold vyT; rw [e]; exact if_neg hlt
              have q3 : vyX B X = X := by unfold vyX; rw [e]; exact if_neg hlt
              have q4 : vyU B X U = U := by unfold vyU; rw [e]; exact if_neg hlt
              rw [q1, q2, q3, q4, q5] at hQ
              rw [hQ]
              refine T_iconst (pc := 78) (v := nI 1) dX12_valley_78 (by decide) ?_
              refine T_goto (pc := 79) (tgt := 83) dX12_valley_79 (by decide) ?_
              refine T_iconst (pc := 83) (v := nI 2) dX12_valley_83 (by decide) ?_
              refine R_callV1 (pc := 84) (As := [.int (nI 1), .int (nI 2)]) (rest := []) (Or.inl lk_X12_302) mk_X12_throwsIf m_throws1n kc_572 ⟨by decide, rfl⟩ lc_572 dX12_valley_84 rfl rfl (Nat.le_of_ble_eq_true rfl) (by decide) rfl (Nat.le_refl _) (Nat.le_refl _) ?_
              refine R_ifb_eq (pc := 87) (tgt := 119) dX12_valley_87 (by decide) (fun g5 => ?_) (fun g5 => ?_)
              · exact absurd g5 (by decide)
              · skip
                exact t90 _ 2 (-1) _ (fun k hk => (n_wI (by omega)).trans ((n_wI (by omega)).trans (k575 k hk))) (e_wI ⟨rfl, rfl⟩) ((n_wI (by omega)).trans (e_wI ⟨rfl, rfl⟩)) (t2.of ((n_wI (by omega)).trans (n_wI (by omega))) (funext (fun j => (n_wI (by omega)).trans (n_wI (by omega))))) ⟨(n_wI (by omega)).trans ((n_wI (by omega)).trans k5), (n_wI (by omega)).trans ((n_wI (by omega)).trans k6)⟩ ((funext (fun j => (n_wI (by omega)).trans (n_wI (by omega)))).trans k574) ((funext (fun j => (n_wI (by omega)).trans (n_wI (by omega)))).trans k576) (OfS.sI (OfS.sI kS (by unfold Smo; omega)) (by unfold Smo; omega))
        · first | exact g2.elim | exact absurd g2 (by omega)
      · first | exact g1.elim | exact absurd g1 (by omega)
  have loop : ∀ (f k : Nat) (m : SM2), k + f = 1164 → (∀ j, j < k → m.1 575 j = μ.1 573 j) → OfS (fun k => k = 575) μ m → T γ 11 0 0 M_X12_valley Q 0 0 2 [some (.ref 572), some (.int (nI k)), none] [] (rm m) := by
    intro f
    induction f with
    | zero =>
      intro k m hk hd ho
      obtain rfl : k = 1164 := by omega
      refine T_iload_n (pc := 2) (i := 1) dX12_valley_2 rfl rfl ?_
      refine T_sipush (pc := 3) (v := nI 1164) dX12_valley_3 (by decide) ?_
      refine R_icmp_ge (pc := 6) (tgt := 27) (by omega) (by omega) dX12_valley_6 (by decide) (fun g1 => ?_) (fun g1 => ?_)
      · exact t27 m hd ho
      · exact absurd g1 (by decide)
    | succ f ih =>
      intro k m hk hd ho
      have e573 : m.1 573 k = μ.1 573 k := congrFun (ho 573 (by decide)).1 k
      have h9 := ih (k + 1) (wI m 575 k (μ.1 573 k)) (by omega) (fun j hj => by
        by_cases e : j = k
        · rw [e]
          exact e_wI ⟨rfl, rfl⟩
        · exact (n_wI (by omega)).trans (hd j (by omega))) (OfS.sI ho rfl)
      refine T_iload_n (pc := 2) (i := 1) dX12_valley_2 rfl rfl ?_
      refine T_sipush (pc := 3) (v := nI 1164) dX12_valley_3 (by decide) ?_
      refine R_icmp_ge (pc := 6) (tgt := 27) (by omega) (by omega) dX12_valley_6 (by decide) (fun g1 => ?_) (fun g1 => ?_)
      · first | exact g1.elim | exact absurd g1 (by omega)
      · skip
        refine T_aload_n (pc := 9) (i := 0) dX12_valley_9 rfl rfl ?_
        refine R_getR (pc := 10) (i := 575) fl_X12_36 rfl kc_572 lc_572 rc_572_3 dX12_valley_10 ?_
        refine T_iload_n (pc := 13) (i := 1) dX12_valley_13 rfl rfl ?_
        refine T_aload_n (pc := 14) (i := 0) dX12_valley_14 rfl rfl ?_
        refine R_getR (pc := 15) (i := 573) fl_X12_29 rfl kc_572 lc_572 rc_572_1 dX12_valley_15 ?_
        refine T_iload_n (pc := 18) (i := 1) dX12_valley_18 rfl rfl ?_
        refine R_iald (pc := 19) (x := (μ.1 573 k)) kc_573 lc_573 (by omega) (by first | decide | assumption) e573 dX12_valley_19 ?_
        refine R_iast (pc := 20) kc_575 lc_575 (by omega) (by first | decide | assumption) dX12_valley_20 ?_
        refine R_iinc (pc := 21) (i := 1) (n := 1) (ls' := [some (.ref 572), some (.int (nI (k + 1))), none]) dX12_valley_21 rfl rfl ?_
        refine T_goto (pc := 24) (tgt := 2) dX12_valley_24 (by decide) ?_
        exact h9
  refine Ex.of (by decide +kernel) rfl (Nat.le_of_ble_eq_true rfl) ?_
  show T _ _ _ _ _ _ _ _ _ [some (.ref 572), none, none] [] (rm μ)
  refine T_iconst (pc := 0) (v := nI 0) dX12_valley_0 (by decide) ?_
  refine T_istore_n (pc := 1) (i := 1) (ls' := [some (.ref 572), some (.int (nI 0)), none]) dX12_valley_1 rfl (by decide) rfl ?_
  exact loop 1164 0 μ rfl (fun j hj => absurd hj (Nat.not_lt_zero _)) (OfS.refl _ _)
end MVB

