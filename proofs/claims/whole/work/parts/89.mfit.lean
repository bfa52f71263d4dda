/-! THE MODEL: what THE LAW bars; what fits; what comes of a use -/
theorem LawM.no {g : Nat → Int32} {LL : List (List Int32)} {c : Int32} (h : mdH g c LL) (h4 : g 4 ≠ 1) : LL = [] := by
  rcases h.1 with z | z
  · exact z.2.2
  · exact absurd z.1 h4
theorem any_take {LL : List (List Int32)} {f : List Int32 → Bool} {k : Nat} (h : k < LL.length) : (LL.take (k + 1)).any f = ((LL.take k).any f || f (lnA LL k)) := by
  rw [take_s [] h, List.any_append]
  simp
section MF1
variable {γ : Ga} {μ : SM2}
theorem m_isBarred {R : List Ru} {LL : List (List Int32)} {w : Wk} {r p n : Nat} (hE : mEnv μ R LL w) (hr : r < R.length) (hn : n ≤ 20) (hp : p + (rAt R r).1.length ≤ n) : Ex γ 7 0 0 M_X12_isBarred [.ref 572, .int (nI r), .int (nI p), .int (nI n)] (rm μ) (Rm (some (.int (bI (w.2.2 r p n)))) (fun m => OfS S9 μ m)) := by
  have hE0 := hE
  obtain ⟨hR, ⟨c, hH, hw⟩, -, -, hB⟩ := hE
  rcases hB with ⟨e17, eB⟩ | ⟨e17, eB⟩
  · by_cases h4 : μ.1 573 4 = 1
    · have h339 : μ.1 573 339 = nI LL.length := by
        rcases hH.1 with z | z
        · rw [z.2.1] at h4
          exact absurd h4 (by decide)
        · exact z.2.2
      have h12 := hH.2.1.1
      have eQ : w.2.2 r p n = LL.any (evB (nI r, nI p, nI n, nI (n - p - (rAt R r).1.length), μ.1 573 7)) := by rw [eB]; rfl
      rw [eQ]
      obtain ⟨ev, hev⟩ : ∃ ev, ev = evB (nI r, nI p, nI n, nI (n - p - (rAt R r).1.length), μ.1 573 7) := ⟨_, rfl⟩
      rw [← hev]
      refine Ex.of (by decide +kernel) rfl (Nat.le_of_ble_eq_true rfl) ?_
      show T _ _ _ _ _ _ _ _ _ [some (.ref 572), some (.int (nI r)), some (.int (nI p)), some (.int (nI n)), none, none] [] (rm μ)
      refine T_iconst (pc := 0) (v := nI 0) dX12_isBarred_0 (by decide) ?_
      refine T_istore (pc := 1) (i := 4) (ls' := [some (.ref 572), some (.int (nI r)), some (.int (nI p)), some (.int (nI n)), some (.int (nI 0)), none]) dX12_isBarred_1 (by decide) rfl ?_
      refine T_iconst (pc := 3) (v := nI 0) dX12_isBarred_3 (by decide) ?_
      refine T_istore (pc := 4) (i := 5) (ls' := [some (.ref 572), some (.int (nI r)), some (.int (nI p)), some (.int (nI n)), some (.int (nI 0)), some (.int (nI 0))]) dX12_isBarred_4 (by decide) rfl ?_
      suffices loop : ∀ (f k : Nat) (m : SM2), k + f = LL.length → OfS S9 μ m → T γ 7 0 0 M_X12_isBarred (Rm (some (.int (bI (LL.any ev)))) (fun m => OfS S9 μ m)) 0 0 6 [some (.ref 572), some (.int (nI r)), some (.int (nI p)), some (.int (nI n)), some (.int (bI ((LL.take k).any ev))), some (.int (nI k))] [] (rm m) by
        exact loop LL.length 0 μ (Nat.zero_add _) (OfS.refl _ _)
      intro f
      induction f with
      | zero =>
        intro k m hk hO
        have ek : k = LL.length := by omega
        subst ek
        rw [List.take_length]
        refine T_aload_n (pc := 6) (i := 0) dX12_isBarred_6 rfl rfl ?_
        refine R_getI (pc := 7) (x := bI true) fl_X12_308 rfl kc_572 lc_572 ((hO.i (by unfold S9; omega) 17).trans e17) dX12_isBarred_7 ?_
        refine R_ifb_eq (pc := 10) (tgt := 58) dX12_isBarred_10 (by decide) (fun h1 => ?_) (fun h1 => ?_)
        · exact absurd h1 (by decide)
        · skip
          refine T_aload_n (pc := 13) (i := 0) dX12_isBarred_13 rfl rfl ?_
          refine R_getR (pc := 14) (i := 573) fl_X12_29 rfl kc_572 lc_572 rc_572_1 dX12_isBarred_14 ?_
          refine T_iconst (pc := 17) (v := nI 4) dX12_isBarred_17 (by decide) ?_
          refine R_iald (pc := 18) (x := nI 1) kc_573 lc_573 (by omega) (by first | decide | assumption) ((hO.i (by unfold S9; omega) 4).trans h4) dX12_isBarred_18 ?_
          refine T_iconst (pc := 19) (v := nI 1) dX12_isBarred_19 (by decide) ?_
          refine R_icmp_ne (pc := 20) (tgt := 58) (by omega) (by omega) dX12_isBarred_20 (by decide) (fun h2 => ?_) (fun h2 => ?_)
          · exact absurd rfl h2
          · skip
            refine T_iload (pc := 23) (i := 5) dX12_isBarred_23 rfl ?_
            refine T_aload_n (pc := 25) (i := 0) dX12_isBarred_25 rfl rfl ?_
            refine R_getR (pc := 26) (i := 573) fl_X12_29 rfl kc_572 lc_572 rc_572_1 dX12_isBarred_26 ?_
            refine T_sipush (pc := 29) (v := nI 339) dX12_isBarred_29 (by decide) ?_
            refine R_iald (pc := 32) (x := nI LL.length) kc_573 lc_573 (by omega) (by first | decide | assumption) ((hO.i (by unfold S9; omega) 339).trans h339) dX12_isBarred_32 ?_
            refine R_icmp_ge (pc := 33) (tgt := 58) (by omega) (by omega) dX12_isBarred_33 (by decide) (fun h3 => ?_) (fun h3 => ?_)
            · skip
              refine T_iload (pc := 58) (i := 4) dX12_isBarred_58 rfl ?_
              exact T_iret (pc := 60) (ty := .boolean) dX12_isBarred_60 rfl (nar_b _) (Nat.le_refl _) (Nat.le_refl _) ⟨_, rfl, rfl, hO⟩
            · exact absurd h3 (by omega)
      | succ f ih =>
        intro k m hk hO
        have hkl : k < LL.length := by omega
        refine T_aload_n (pc := 6) (i := 0) dX12_isBarred_6 rfl rfl ?_
        refine R_getI (pc := 7) (x := bI true) fl_X12_308 rfl kc_572 lc_572 ((hO.i (by unfold S9; omega) 17).trans e17) dX12_isBarred_7 ?_
        refine R_ifb_eq (pc := 10) (tgt := 58) dX12_isBarred_10 (by decide) (fun h1 => ?_) (fun h1 => ?_)
        · exact absurd h1 (by decide)
        · skip
          refine T_aload_n (pc := 13) (i := 0) dX12_isBarred_13 rfl rfl ?_
          refine R_getR (pc := 14) (i := 573) fl_X12_29 rfl kc_572 lc_572 rc_572_1 dX12_isBarred_14 ?_
          refine T_iconst (pc := 17) (v := nI 4) dX12_isBarred_17 (by decide) ?_
          refine R_iald (pc := 18) (x := nI 1) kc_573 lc_573 (by omega) (by first | decide | assumption) ((hO.i (by unfold S9; omega) 4).trans h4) dX12_isBarred_18 ?_
          refine T_iconst (pc := 19) (v := nI 1) dX12_isBarred_19 (by decide) ?_
          refine R_icmp_ne (pc := 20) (tgt := 58) (by omega) (by omega) dX12_isBarred_20 (by decide) (fun h2 => ?_) (fun h2 => ?_)
          · exact absurd rfl h2
          · skip
            refine T_iload (pc := 23) (i := 5) dX12_isBarred_23 rfl ?_
            refine T_aload_n (pc := 25) (i := 0) dX12_isBarred_25 rfl rfl ?_
            refine R_getR (pc := 26) (i := 573) fl_X12_29 rfl kc_572 lc_572 rc_572_1 dX12_isBarred_26 ?_
            refine T_sipush (pc := 29) (v := nI 339) dX12_isBarred_29 (by decide) ?_
            refine R_iald (pc := 32) (x := nI LL.length) kc_573 lc_573 (by omega) (by first | decide | assumption) ((hO.i (by unfold S9; omega) 339).trans h339) dX12_isBarred_32 ?_
            refine R_icmp_ge (pc := 33) (tgt := 58) (by omega) (by omega) dX12_isBarred_33 (by decide) (fun h3 => ?_) (fun h3 => ?_)
            · exact absurd h3 (by omega)
            · skip
              refine T_iload (pc := 36) (i := 4) dX12_isBarred_36 rfl ?_
              refine R_ifb_ne (pc := 38) (tgt := 58) dX12_isBarred_38 (by decide) (fun h5 => ?_) (fun h5 => ?_)
              · skip
                have ea : LL.any ev = true := by
                  rw [← List.take_append_drop k LL, List.any_append, h5]
                  rfl
                rw [h5, ea]
                refine T_iload (pc := 58) (i := 4) dX12_isBarred_58 rfl ?_
                exact T_iret (pc := 60) (ty := .boolean) dX12_isBarred_60 rfl (nar_b _) (Nat.le_refl _) (Nat.le_refl _) ⟨_, rfl, rfl, hO⟩
              · skip
                have hc := m_holdsLine (γ := γ) (μ := m) (R := R) (LL := LL) (y := μ.1 573 7) (by rw [(hO 573 (by unfold S9; omega)).1]; exact hR) (by rw [(hO 573 (by unfold S9; omega)).1]; exact hH.2) hw (hO.i (by unfold S9; omega) 7) hkl hr hn hp
                rw [← hev] at hc
                refine T_aload_n (pc := 41) (i := 0) dX12_isBarred_41 rfl rfl ?_
                refine T_iload (pc := 42) (i := 5) dX12_isBarred_42 rfl ?_
                refine T_iload_n (pc := 44) (i := 1) dX12_isBarred_44 rfl rfl ?_
                refine T_iload_n (pc := 45) (i := 2) dX12_isBarred_45 rfl rfl ?_
                refine T_iload_n (pc := 46) (i := 3) dX12_isBarred_46 rfl rfl ?_
                refine R_callVm1 (pc := 47) (As := [.int (nI k), .int (nI r), .int (nI p), .int (nI n)]) (rest := []) (Or.inl lk_X12_318) mk_X12_holdsLine hc kc_572 ⟨by decide, rfl⟩ lc_572 dX12_isBarred_47 rfl rfl (Nat.le_of_ble_eq_true rfl) (by decide) rfl (Nat.le_refl _) (Nat.le_refl _) (fun m2 hO2 => ?_)
                refine T_istore (pc := 50) (i := 4) (ls' := [some (.ref 572), some (.int (nI r)), some (.int (nI p)), some (.int (nI n)), some (.int (bI (ev (lnA LL k)))), some (.int (nI k))]) dX12_isBarred_50 (by decide) rfl ?_
                refine R_iinc (pc := 52) (i := 5) (n := 1) (ls' := [some (.ref 572), some (.int (nI r)), some (.int (nI p)), some (.int (nI n)), some (.int (bI (ev (lnA LL k)))), some (.int (nI (k + 1)))]) dX12_isBarred_52 rfl rfl ?_
                refine T_goto (pc := 55) (tgt := 6) dX12_isBarred_55 (by decide) ?_
                have h9 := ih (k + 1) m2 (by omega) (hO.trans hO2)
                rw [any_take hkl, h5, Bool.false_or] at h9
                exact h9
    · have e := LawM.no hH h4
      have eQ : w.2.2 r p n = false := by rw [eB, e]; rfl
      rw [eQ]
      refine Ex.of (by decide +kernel) rfl (Nat.le_of_ble_eq_true rfl) ?_
      show T _ _ _ _ _ _ _ _ _ [some (.ref 572), some (.int (nI r)), some (.int (nI p)), some (.int (nI n)), none, none] [] (rm μ)
      refine T_iconst (pc := 0) (v := nI 0) dX12_isBarred_0 (by decide) ?_
      refine T_istore (pc := 1) (i := 4) (ls' := [some (.ref 572), some (.int (nI r)), some (.int (nI p)), some (.int (nI n)), some (.int (nI 0)), none]) dX12_isBarred_1 (by decide) rfl ?_
      refine T_iconst (pc := 3) (v := nI 0) dX12_isBarred_3 (by decide) ?_
      refine T_istore (pc := 4) (i := 5) (ls' := [some (.ref 572), some (.int (nI r)), some (.int (nI p)), some (.int (nI n)), some (.int (nI 0)), some (.int (nI 0))]) dX12_isBarred_4 (by decide) rfl ?_
      refine T_aload_n (pc := 6) (i := 0) dX12_isBarred_6 rfl rfl ?_
      refine R_getI (pc := 7) (x := bI true) fl_X12_308 rfl kc_572 lc_572 e17 dX12_isBarred_7 ?_
      refine R_ifb_eq (pc := 10) (tgt := 58) dX12_isBarred_10 (by decide) (fun h1 => ?_) (fun h1 => ?_)
      · exact absurd h1 (by decide)
      · skip
        refine T_aload_n (pc := 13) (i := 0) dX12_isBarred_13 rfl rfl ?_
        refine R_getR (pc := 14) (i := 573) fl_X12_29 rfl kc_572 lc_572 rc_572_1 dX12_isBarred_14 ?_
        refine T_iconst (pc := 17) (v := nI 4) dX12_isBarred_17 (by decide) ?_
        refine R_iald (pc := 18) (x := (μ.1 573 4)) kc_573 lc_573 (by omega) (by first | decide | assumption) rfl dX12_isBarred_18 ?_
        refine T_iconst (pc := 19) (v := nI 1) dX12_isBarred_19 (by decide) ?_
        refine T_icmp_ne (pc := 20) (tgt := 58) dX12_isBarred_20 (by decide) (fun h2 => ?_) (fun h2 => ?_)
        · skip
          refine T_iload (pc := 58) (i := 4) dX12_isBarred_58 rfl ?_
          exact T_iret (pc := 60) (ty := .boolean) dX12_isBarred_60 rfl (by decide) (Nat.le_refl _) (Nat.le_refl _) ⟨_, rfl, rfl, OfS.refl _ _⟩
        · exact absurd h2 h4
  · rw [eB]
    refine Ex.of (by decide +kernel) rfl (Nat.le_of_ble_eq_true rfl) ?_
    show T _ _ _ _ _ _ _ _ _ [some (.ref 572), some (.int (nI r)), some (.int (nI p)), some (.int (nI n)), none, none] [] (rm μ)
    refine T_iconst (pc := 0) (v := nI 0) dX12_isBarred_0 (by decide) ?_
    refine T_istore (pc := 1) (i := 4) (ls' := [some (.ref 572), some (.int (nI r)), some (.int (nI p)), some (.int (nI n)), some (.int (nI 0)), none]) dX12_isBarred_1 (by decide) rfl ?_
    refine T_iconst (pc := 3) (v := nI 0) dX12_isBarred_3 (by decide) ?_
    refine T_istore (pc := 4) (i := 5) (ls' := [some (.ref 572), some (.int (nI r)), some (.int (nI p)), some (.int (nI n)), some (.int (nI 0)), some (.int (nI 0))]) dX12_isBarred_4 (by decide) rfl ?_
    refine T_aload_n (pc := 6) (i := 0) dX12_isBarred_6 rfl rfl ?_
    refine R_getI (pc := 7) (x := bI false) fl_X12_308 rfl kc_572 lc_572 e17 dX12_isBarred_7 ?_
    refine R_ifb_eq (pc := 10) (tgt := 58) dX12_isBarred_10 (by decide) (fun h1 => ?_) (fun h1 => ?_)
    · skip
      refine T_iload (pc := 58) (i := 4) dX12_isBarred_58 rfl ?_
      exact T_iret (pc := 60) (ty := .boolean) dX12_isBarred_60 rfl (by decide) (Nat.le_refl _) (Nat.le_refl _) ⟨_, rfl, rfl, OfS.refl _ _⟩
    · exact absurd h1 (by decide)
theorem m_isFit {R : List Ru} {LL : List (List Int32)} {w : Wk} {l : List Nat} {r p : Nat} (hE : mEnv μ R LL w) (hl : Mw l) (hr : r < R.length) (hp : p < 2 ^ 31) : Ex γ 8 0 0 M_X12_isFit [.ref 572, .long (lN (cd l)), .int (nI r), .int (nI p)] (rm μ) (Rm (some (.int (bI (fitB R w l r p)))) (fun m => OfS S9 μ m)) := by
  have hE0 := hE
  obtain ⟨hR, hLw, hw, ⟨t, ht, e16, htb⟩, hB⟩ := hE
  have ok := hR.2.1 r hr
  have hn := hl.1
  have h1 := ok.2.1
  have h4 := ok.2.2.1
  have h5 := ok.2.2.2.2
  refine Ex.of (by decide +kernel) rfl (Nat.le_of_ble_eq_true rfl) ?_
  show T _ _ _ _ _ _ _ _ _ [some (.ref 572), some (.long (lN (cd l))), none, some (.int (nI r)), some (.int (nI p)), none] [] (rm μ)
  refine T_lload_n (pc := 0) (i := 1) dX12_isFit_0 rfl rfl ?_
  refine R_callS1 (pc := 1) (av := [.long (lN (cd l))]) (rest := []) (Or.inl lk_X12_13) mk_X12_size (m_size hl) dX12_isFit_1 rfl rfl (Nat.le_of_ble_eq_true rfl) (by decide) rfl (Nat.le_refl _) (Nat.le_refl _) ?_
  refine T_istore (pc := 4) (i := 5) (ls' := [some (.ref 572), some (.long (lN (cd l))), none, some (.int (nI r)), some (.int (nI p)), some (.int (nI l.length))]) dX12_isFit_4 (by decide) rfl ?_
  refine T_iload (pc := 6) (i := 4) dX12_isFit_6 rfl ?_
  refine R_if_lt (pc := 8) (tgt := 43) (by omega) dX12_isFit_8 (by decide) (fun g1 => ?_) (fun g1 => ?_)
  · exact g1.elim
  · skip
    refine T_iload (pc := 11) (i := 4) dX12_isFit_11 rfl ?_
    refine T_iload (pc := 13) (i := 5) dX12_isFit_13 rfl ?_
    refine T_aload_n (pc := 15) (i := 0) dX12_isFit_15 rfl rfl ?_
    refine T_iload_n (pc := 16) (i := 3) dX12_isFit_16 rfl rfl ?_
    refine R_callV1 (pc := 17) (As := [.int (nI r)]) (rest := [.int (nI l.length), .int (nI p)]) (Or.inl lk_X12_311) mk_X12_lefts (m_lefts hR hr) kc_572 ⟨by decide, rfl⟩ lc_572 dX12_isFit_17 rfl rfl (Nat.le_of_ble_eq_true rfl) (by decide) rfl (Nat.le_refl _) (Nat.le_refl _) ?_
    by_cases hlen : (rAt R r).1.length ≤ l.length
    · skip
      refine R_isub (pc := 20) hlen dX12_isFit_20 ?_
      refine R_icmp_gt (pc := 21) (tgt := 43) (by omega) (by omega) dX12_isFit_21 (by decide) (fun g2 => ?_) (fun g2 => ?_)
      · skip
        refine T_iconst (pc := 43) (v := nI 0) dX12_isFit_43 (by decide) ?_
        rw [show fitB R w l r p = false by unfold fitB stB; rw [decide_eq_false (p := (rAt R r).1.length ≤ l.length - p) (by omega), Bool.false_and, Bool.and_false, Bool.false_and]]
        exact T_iret (pc := 44) (ty := .boolean) dX12_isFit_44 rfl (by decide) (Nat.le_refl _) (Nat.le_refl _) ⟨_, rfl, rfl, OfS.refl _ _⟩
      · skip
        refine T_iload (pc := 24) (i := 5) dX12_isFit_24 rfl ?_
        refine T_aload_n (pc := 26) (i := 0) dX12_isFit_26 rfl rfl ?_
        refine T_iload_n (pc := 27) (i := 3) dX12_isFit_27 rfl rfl ?_
        refine R_callV1 (pc := 28) (As := [.int (nI r)]) (rest := [.int (nI l.length)]) (Or.inl lk_X12_311) mk_X12_lefts (m_lefts hR hr) kc_572 ⟨by decide, rfl⟩ lc_572 dX12_isFit_28 rfl rfl (Nat.le_of_ble_eq_true rfl) (by decide) rfl (Nat.le_refl _) (Nat.le_refl _) ?_
        refine R_isub (pc := 31) hlen dX12_isFit_31 ?_
        refine T_aload_n (pc := 32) (i := 0) dX12_isFit_32 rfl rfl ?_
        refine T_iload_n (pc := 33) (i := 3) dX12_isFit_33 rfl rfl ?_
        refine R_callV1 (pc := 34) (As := [.int (nI r)]) (rest := [.int (nI (l.length - ((rAt R r).1.length)))]) (Or.inl lk_X12_322) mk_X12_rights (m_rights hR hr) kc_572 ⟨by decide, rfl⟩ lc_572 dX12_isFit_34 rfl rfl (Nat.le_of_ble_eq_true rfl) (by decide) rfl (Nat.le_refl _) (Nat.le_refl _) ?_
        refine R_iadd (pc := 37) dX12_isFit_37 ?_
        refine T_bipush (pc := 38) (v := nI 20) dX12_isFit_38 (by decide) ?_
        have es : stB l p (rAt R r).1 = decide ((l.drop p).take (rAt R r).1.length = (rAt R r).1) := by unfold stB; rw [decide_eq_true (p := p < l.length) (by omega), decide_eq_true (p := (rAt R r).1.length ≤ l.length - p) (by omega), Bool.true_and, Bool.true_and]
        refine R_icmp_le (pc := 40) (tgt := 45) (by omega) (by omega) dX12_isFit_40 (by decide) (fun g3 => ?_) (fun g3 => ?_)
        · skip
          refine T_aload_n (pc := 45) (i := 0) dX12_isFit_45 rfl rfl ?_
          refine R_getI (pc := 46) (x := nI t) fl_X12_305 rfl kc_572 lc_572 e16 dX12_isFit_46 ?_
          refine T_iload_n (pc := 49) (i := 3) dX12_isFit_49 rfl rfl ?_
          refine R_callS1 (pc := 50) (av := [.int (nI t), .int (nI r)]) (rest := []) (Or.inl lk_X12_325) mk_X12_has (m_has (by omega) (by have := hR.1.2; omega)) dX12_isFit_50 rfl rfl (Nat.le_of_ble_eq_true rfl) (by decide) rfl (Nat.le_refl _) (Nat.le_refl _) ?_
          rw [← Nat.testBit_eq_decide_div_mod_eq, htb r hr]
          refine R_ifb_eq (pc := 53) (tgt := 92) dX12_isFit_53 (by decide) (fun g4 => ?_) (fun g4 => ?_)
          · skip
            refine T_iconst (pc := 92) (v := nI 0) dX12_isFit_92 (by decide) ?_
            rw [show fitB R w l r p = false by unfold fitB; rw [g4, Bool.false_and, Bool.and_false]]
            exact T_iret (pc := 93) (ty := .boolean) dX12_isFit_93 rfl (by decide) (Nat.le_refl _) (Nat.le_refl _) ⟨_, rfl, rfl, OfS.refl _ _⟩
          · skip
            refine T_lload_n (pc := 56) (i := 1) dX12_isFit_56 rfl rfl ?_
            refine T_iload (pc := 57) (i := 4) dX12_isFit_57 rfl ?_
            refine T_aload_n (pc := 59) (i := 0) dX12_isFit_59 rfl rfl ?_
            refine T_iload_n (pc := 60) (i := 3) dX12_isFit_60 rfl rfl ?_
            refine R_callV1 (pc := 61) (As := [.int (nI r)]) (rest := [.int (nI p), .long (lN (cd l))]) (Or.inl lk_X12_311) mk_X12_lefts (m_lefts hR hr) kc_572 ⟨by decide, rfl⟩ lc_572 dX12_isFit_61 rfl rfl (Nat.le_of_ble_eq_true rfl) (by decide) rfl (Nat.le_refl _) (Nat.le_refl _) ?_
            refine R_callS1 (pc := 64) (av := [.long (lN (cd l)), .int (nI p), .int (nI ((rAt R r).1.length))]) (rest := []) (Or.inl lk_X12_328) mk_X12_part (m_part hl (by omega)) dX12_isFit_64 rfl rfl (Nat.le_of_ble_eq_true rfl) (by decide) rfl (Nat.le_refl _) (Nat.le_refl _) ?_
            refine T_aload_n (pc := 67) (i := 0) dX12_isFit_67 rfl rfl ?_
            refine T_iload_n (pc := 68) (i := 3) dX12_isFit_68 rfl rfl ?_
            refine R_callV1 (pc := 69) (As := [.int (nI r)]) (rest := [.long (lN (cd ((l.drop p).take (rAt R r).1.length)))]) (Or.inl lk_X12_107) mk_X12_left (m_left hR hr) kc_572 ⟨by decide, rfl⟩ lc_572 dX12_isFit_69 rfl rfl (Nat.le_of_ble_eq_true rfl) (by decide) rfl (Nat.le_refl _) (Nat.le_refl _) ?_
            have hb1 := cd_lt (l := (l.drop p).take (rAt R r).1.length) ⟨by rw [List.length_take]; omega, okb_take (okb_drop hl.2)⟩
            have hb2 := cd_lt ok.l
            refine T_lcmp (pc := 72) dX12_isFit_72 ?_
            refine R_ln_ne (pc := 73) (tgt := 92) (by omega) (by omega) dX12_isFit_73 (by decide) (fun g5 => ?_) (fun g5 => ?_)
            · skip
              refine T_iconst (pc := 92) (v := nI 0) dX12_isFit_92 (by decide) ?_
              rw [show fitB R w l r p = false by unfold fitB; rw [es, decide_eq_false (fun z => g5 (congrArg cd z)), Bool.false_and]]
              exact T_iret (pc := 93) (ty := .boolean) dX12_isFit_93 rfl (by decide) (Nat.le_refl _) (Nat.le_refl _) ⟨_, rfl, rfl, OfS.refl _ _⟩
            · skip
              have g5' := cd_inj (okb_take (okb_drop hl.2)) ok.1 g5
              refine T_aload_n (pc := 76) (i := 0) dX12_isFit_76 rfl rfl ?_
              refine T_iload_n (pc := 77) (i := 3) dX12_isFit_77 rfl rfl ?_
              refine T_iload (pc := 78) (i := 4) dX12_isFit_78 rfl ?_
              refine T_iload (pc := 80) (i := 5) dX12_isFit_80 rfl ?_
              refine R_callVm1 (pc := 82) (As := [.int (nI r), .int (nI p), .int (nI l.length)]) (rest := []) (Or.inl lk_X12_332) mk_X12_isBarred (m_isBarred hE0 hr hn (by omega)) kc_572 ⟨by decide, rfl⟩ lc_572 dX12_isFit_82 rfl rfl (Nat.le_of_ble_eq_true rfl) (by decide) rfl (Nat.le_refl _) (Nat.le_refl _) (fun m hO => ?_)
              have ef : fitB R w l r p = !w.2.2 r p l.length := by unfold fitB; rw [es, decide_eq_true g5', g4, decide_eq_true (by omega)]; rfl
              rw [ef]
              refine R_ifb_ne (pc := 85) (tgt := 92) dX12_isFit_85 (by decide) (fun g6 => ?_) (fun g6 => ?_)
              · skip
                rw [g6]
                refine T_iconst (pc := 92) (v := nI 0) dX12_isFit_92 (by decide) ?_
                exact T_iret (pc := 93) (ty := .boolean) dX12_isFit_93 rfl (by decide) (Nat.le_refl _) (Nat.le_refl _) ⟨_, rfl, rfl, hO⟩
              · skip
                rw [g6]
                refine T_iconst (pc := 88) (v := nI 1) dX12_isFit_88 (by decide) ?_
                refine T_goto (pc := 89) (tgt := 93) dX12_isFit_89 (by decide) ?_
                exact T_iret (pc := 93) (ty := .boolean) dX12_isFit_93 rfl (by decide) (Nat.le_refl _) (Nat.le_refl _) ⟨_, rfl, rfl, hO⟩
        · skip
          refine T_iconst (pc := 43) (v := nI 0) dX12_isFit_43 (by decide) ?_
          rw [show fitB R w l r p = false by unfold fitB; rw [decide_eq_false (p := l.length - (rAt R r).1.length + (rAt R r).2.length ≤ 20) (by omega), Bool.false_and, Bool.and_false, Bool.and_false]]
          exact T_iret (pc := 44) (ty := .boolean) dX12_isFit_44 rfl (by decide) (Nat.le_refl _) (Nat.le_refl _) ⟨_, rfl, rfl, OfS.refl _ _⟩
    · skip
      refine T_isub (pc := 20) dX12_isFit_20 ?_
      have hx : (nI l.length - nI (rAt R r).1.length) < nI p := by
        rw [fa_lt, nI_toInt (by omega), ← ofI_n, ← ofI_n, ← Int32.ofInt_sub, Int32.toInt_ofInt_of_le (by omega) (by omega)]
        omega
      refine T_icmp_gt (pc := 21) (tgt := 43) dX12_isFit_21 (by decide) (fun g2 => ?_) (fun g2 => ?_)
      · skip
        refine T_iconst (pc := 43) (v := nI 0) dX12_isFit_43 (by decide) ?_
        rw [show fitB R w l r p = false by unfold fitB stB; rw [decide_eq_false (p := (rAt R r).1.length ≤ l.length - p) (by omega), Bool.false_and, Bool.and_false, Bool.false_and]]
        exact T_iret (pc := 44) (ty := .boolean) dX12_isFit_44 rfl (by decide) (Nat.le_refl _) (Nat.le_refl _) ⟨_, rfl, rfl, OfS.refl _ _⟩
      · exact absurd hx g2
theorem m_isFitZ {R : List Ru} {LL : List (List Int32)} {w : Wk} {l : List Nat} {r : Nat} {z : Int32} (hE : mEnv μ R LL w) (hl : Mw l) (hr : r < R.length) : Ex γ 8 0 0 M_X12_isFit [.ref 572, .long (lN (cd l)), .int (nI r), .int z] (rm μ) (Rm (some (.int (bI (fitZ R w l r z)))) (fun m => OfS S9 μ m)) := by
  by_cases hz : z < 0
  · rw [show fitZ R w l r z = false by unfold fitZ; rw [decide_eq_true hz]; rfl]
    refine Ex.of (by decide +kernel) rfl (Nat.le_of_ble_eq_true rfl) ?_
    show T _ _ _ _ _ _ _ _ _ [some (.ref 572), some (.long (lN (cd l))), none, some (.int (nI r)), some (.int (z)), none] [] (rm μ)
    refine T_lload_n (pc := 0) (i := 1) dX12_isFit_0 rfl rfl ?_
    refine R_callS1 (pc := 1) (av := [.long (lN (cd l))]) (rest := []) (Or.inl lk_X12_13) mk_X12_size (m_size hl) dX12_isFit_1 rfl rfl (Nat.le_of_ble_eq_true rfl) (by decide) rfl (Nat.le_refl _) (Nat.le_refl _) ?_
    refine T_istore (pc := 4) (i := 5) (ls' := [some (.ref 572), some (.long (lN (cd l))), none, some (.int (nI r)), some (.int (z)), some (.int (nI l.length))]) dX12_isFit_4 (by decide) rfl ?_
    refine T_iload (pc := 6) (i := 4) dX12_isFit_6 rfl ?_
    refine T_if_lt (pc := 8) (tgt := 43) dX12_isFit_8 (by decide) (fun g1 => ?_) (fun g1 => ?_)
    · skip
      refine T_iconst (pc := 43) (v := nI 0) dX12_isFit_43 (by decide) ?_
      exact T_iret (pc := 44) (ty := .boolean) dX12_isFit_44 rfl (by decide) (Nat.le_refl _) (Nat.le_refl _) ⟨_, rfl, rfl, OfS.refl _ _⟩
    · exact absurd hz g1
  · obtain ⟨p, hp, rfl⟩ := i_nn hz
    have h9 := m_isFit (γ := γ) (p := p) hE hl hr hp
    have e : fitZ R w l r (nI p) = fitB R w l r p := by unfold fitZ; rw [decide_eq_false hz, nI_clamp hp]; rfl
    rw [e]
    exact h9
theorem m_used {R : List Ru} {l : List Nat} {r p : Nat} (hR : mdR (μ.1 573) R) (hl : Mw l) (hr : r < R.length) (hp : p + (rAt R r).1.length ≤ l.length) : Ex γ 5 0 0 M_X12_used [.ref 572, .long (lN (cd l)), .int (nI r), .int (nI p)] (rm μ) (Fn (some (.long (lN (cd (usd l p (rAt R r).1 (rAt R r).2))))) μ) := by
  have ok := hR.2.1 r hr
  have hd : Mw (l.drop (p + (rAt R r).1.length)) := ⟨by rw [List.length_drop]; have := hl.1; omega, okb_drop hl.2⟩
  refine Ex.of (by decide +kernel) rfl (Nat.le_of_ble_eq_true rfl) ?_
  show T _ _ _ _ _ _ _ _ _ [some (.ref 572), some (.long (lN (cd l))), none, some (.int (nI r)), some (.int (nI p))] [] (rm μ)
  refine T_lload_n (pc := 0) (i := 1) dX12_used_0 rfl rfl ?_
  refine T_iload (pc := 1) (i := 4) dX12_used_1 rfl ?_
  refine R_callS1 (pc := 3) (av := [.long (lN (cd l)), .int (nI p)]) (rest := []) (Or.inl lk_X12_20) mk_X12_ahead (m_ahead hl (by omega)) dX12_used_3 rfl rfl (Nat.le_of_ble_eq_true rfl) (by decide) rfl (Nat.le_refl _) (Nat.le_refl _) ?_
  refine T_aload_n (pc := 6) (i := 0) dX12_used_6 rfl rfl ?_
  refine T_iload_n (pc := 7) (i := 3) dX12_used_7 rfl rfl ?_
  refine R_callV1 (pc := 8) (As := [.int (nI r)]) (rest := [.long (lN (cd (l.take p)))]) (Or.inl lk_X12_111) mk_X12_right (m_right hR hr) kc_572 ⟨by decide, rfl⟩ lc_572 dX12_used_8 rfl rfl (Nat.le_of_ble_eq_true rfl) (by decide) rfl (Nat.le_refl _) (Nat.le_refl _) ?_
  refine R_callS1 (pc := 11) (av := [.long (lN (cd (l.take p))), .long (lN (cd (rAt R r).2))]) (rest := []) (Or.inl lk_X12_335) mk_X12_join (m_join ok.r) dX12_used_11 rfl rfl (Nat.le_of_ble_eq_true rfl) (by decide) rfl (Nat.le_refl _) (Nat.le_refl _) ?_
  refine T_lload_n (pc := 14) (i := 1) dX12_used_14 rfl rfl ?_
  refine T_iload (pc := 15) (i := 4) dX12_used_15 rfl ?_
  refine T_aload_n (pc := 17) (i := 0) dX12_used_17 rfl rfl ?_
  refine T_iload_n (pc := 18) (i := 3) dX12_used_18 rfl rfl ?_
  refine R_callV1 (pc := 19) (As := [.int (nI r)]) (rest := [.int (nI p), .long (lN (cd l)), .long (lN (cd (l.take p ++ (rAt R r).2)))]) (Or.inl lk_X12_311) mk_X12_lefts (m_lefts hR hr) kc_572 ⟨by decide, rfl⟩ lc_572 dX12_used_19 rfl rfl (Nat.le_of_ble_eq_true rfl) (by decide) rfl (Nat.le_refl _) (Nat.le_refl _) ?_
  refine R_iadd (pc := 22) dX12_used_22 ?_
  refine R_callS1 (pc := 23) (av := [.long (lN (cd l)), .int (nI (p + ((rAt R r).1.length)))]) (rest := [.long (lN (cd (l.take p ++ (rAt R r).2)))]) (Or.inl lk_X12_16) mk_X12_behind (m_behind hl hp) dX12_used_23 rfl rfl (Nat.le_of_ble_eq_true rfl) (by decide) rfl (Nat.le_refl _) (Nat.le_refl _) ?_
  refine R_callS1 (pc := 26) (av := [.long (lN (cd (l.take p ++ (rAt R r).2))), .long (lN (cd (l.drop (p + (rAt R r).1.length))))]) (rest := []) (Or.inl lk_X12_335) mk_X12_join (m_join hd) dX12_used_26 rfl rfl (Nat.le_of_ble_eq_true rfl) (by decide) rfl (Nat.le_refl _) (Nat.le_refl _) ?_
  exact T_lret dX12_used_29 rfl (Nat.le_refl _) (Nat.le_refl _) ⟨rfl, rfl⟩
def fsG (R : List Ru) (w : Wk) (l : List Nat) (p r : Nat) : Option Nat := if fitB R w l r p = true then some r else none
/-- the least RULE that fits at a PLACE -/
def lrR (R : List Ru) (w : Wk) (l : List Nat) (p : Nat) : Option Nat := ff (fsG R w l p) 0 R.length
theorem m_leastRule {R : List Ru} {LL : List (List Int32)} {w : Wk} {l : List Nat} {p : Nat} (hE : mEnv μ R LL w) (hl : Mw l) (hp : p < 2 ^ 31) : Ex γ 9 0 0 M_X12_leastRule [.ref 572, .long (lN (cd l)), .int (nI p)] (rm μ) (Rm (some (.int (oN (lrR R w l p)))) (fun m => OfS S9 μ m)) := by
  have h12 := hE.1.1.2
  refine Ex.of (by decide +kernel) rfl (Nat.le_of_ble_eq_true rfl) ?_
  show T _ _ _ _ _ _ _ _ _ [some (.ref 572), some (.long (lN (cd l))), none, some (.int (nI p)), none] [] (rm μ)
  refine T_iconst (pc := 0) (v := nI 0) dX12_leastRule_0 (by decide) ?_
  refine T_istore (pc := 1) (i := 4) (ls' := [some (.ref 572), some (.long (lN (cd l))), none, some (.int (nI p)), some (.int (nI 0))]) dX12_leastRule_1 (by decide) rfl ?_
  suffices loop : ∀ (f k : Nat) (m : SM2), k + f = R.length → OfS S9 μ m → T γ 9 0 0 M_X12_leastRule (Rm (some (.int (oN (ff (fsG R w l p) k f)))) (fun m => OfS S9 μ m)) 0 0 3 [some (.ref 572), some (.long (lN (cd l))), none, some (.int (nI p)), some (.int (nI k))] [] (rm m) by
    exact loop R.length 0 μ (Nat.zero_add _) (OfS.refl _ _)
  intro f
  induction f with
  | zero =>
    intro k m hk hO
    have hRm : mdR (m.1 573) R := by rw [(hO 573 (by unfold S9; omega)).1]; exact hE.1
    refine T_iload (pc := 3) (i := 4) dX12_leastRule_3 rfl ?_
    refine T_aload_n (pc := 5) (i := 0) dX12_leastRule_5 rfl rfl ?_
    refine R_callV1 (pc := 6) (As := []) (rest := [.int (nI k)]) (Or.inl lk_X12_121) mk_X12_rules (m_rules hRm) kc_572 ⟨by decide, rfl⟩ lc_572 dX12_leastRule_6 rfl rfl (Nat.le_of_ble_eq_true rfl) (by decide) rfl (Nat.le_refl _) (Nat.le_refl _) ?_
    refine R_icmp_ge (pc := 9) (tgt := 32) (by omega) (by omega) dX12_leastRule_9 (by decide) (fun h1 => ?_) (fun h1 => ?_)
    · skip
      refine T_iconst (pc := 32) (v := (-1)) dX12_leastRule_32 (by decide) ?_
      exact T_iret (pc := 33) (ty := .int) dX12_leastRule_33 rfl rfl (Nat.le_refl _) (Nat.le_refl _) ⟨_, rfl, rfl, hO⟩
    · exact absurd h1 (by omega)
  | succ f ih =>
    intro k m hk hO
    have hRm : mdR (m.1 573) R := by rw [(hO 573 (by unfold S9; omega)).1]; exact hE.1
    rw [ff_e]
    refine T_iload (pc := 3) (i := 4) dX12_leastRule_3 rfl ?_
    refine T_aload_n (pc := 5) (i := 0) dX12_leastRule_5 rfl rfl ?_
    refine R_callV1 (pc := 6) (As := []) (rest := [.int (nI k)]) (Or.inl lk_X12_121) mk_X12_rules (m_rules hRm) kc_572 ⟨by decide, rfl⟩ lc_572 dX12_leastRule_6 rfl rfl (Nat.le_of_ble_eq_true rfl) (by decide) rfl (Nat.le_refl _) (Nat.le_refl _) ?_
    refine R_icmp_ge (pc := 9) (tgt := 32) (by omega) (by omega) dX12_leastRule_9 (by decide) (fun h1 => ?_) (fun h1 => ?_)
    · exact absurd h1 (by omega)
    · skip
      refine T_aload_n (pc := 12) (i := 0) dX12_leastRule_12 rfl rfl ?_
      refine T_lload_n (pc := 13) (i := 1) dX12_leastRule_13 rfl rfl ?_
      refine T_iload (pc := 14) (i := 4) dX12_leastRule_14 rfl ?_
      refine T_iload_n (pc := 16) (i := 3) dX12_leastRule_16 rfl rfl ?_
      refine R_callVm1 (pc := 17) (As := [.long (lN (cd l)), .int (nI k), .int (nI p)]) (rest := []) (Or.inl lk_X12_339) mk_X12_isFit (m_isFit (hE.s9 hO) hl (by omega) hp) kc_572 ⟨by decide, rfl⟩ lc_572 dX12_leastRule_17 rfl rfl (Nat.le_of_ble_eq_true rfl) (by decide) rfl (Nat.le_refl _) (Nat.le_refl _) (fun m2 hO2 => ?_)
      refine R_ifb_eq (pc := 20) (tgt := 26) dX12_leastRule_20 (by decide) (fun h2 => ?_) (fun h2 => ?_)
      · skip
        refine R_iinc (pc := 26) (i := 4) (n := 1) (ls' := [some (.ref 572), some (.long (lN (cd l))), none, some (.int (nI p)), some (.int (nI (k + 1)))]) dX12_leastRule_26 rfl rfl ?_
        refine T_goto (pc := 29) (tgt := 3) dX12_leastRule_29 (by decide) ?_
        rw [show fsG R w l p k = none by unfold fsG; rw [h2]; rfl]
        exact ih (k + 1) m2 (by omega) (hO.trans hO2)
      · skip
        refine T_iload (pc := 23) (i := 4) dX12_leastRule_23 rfl ?_
        rw [show fsG R w l p k = some k by unfold fsG; rw [h2]; rfl]
        exact T_iret (pc := 25) (ty := .int) dX12_leastRule_25 rfl rfl (Nat.le_refl _) (Nat.le_refl _) ⟨_, rfl, rfl, hO.trans hO2⟩
end MF1

