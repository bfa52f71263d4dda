/-! THE MODEL: reckons -/
/-- and the WAY is the told one -/
def mEw (μ : SM2) (R : List Ru) (LL : List (List Int32)) (w : Wk) : Prop := mEnv μ R LL w ∧ μ.1 573 5 = nI w.1
theorem mEw.k {F : Nat → Prop} {μ m : SM2} {R : List Ru} {LL : List (List Int32)} {w : Wk} (h : mEw μ R LL w) (g : OfM F S9 μ m) (h1 : ¬ F 16) (h2 : ¬ F 17) : mEw m R LL w := ⟨h.1.k g h1 h2, (g.i (by decide) (by unfold S9; omega) 5).trans h.2⟩
theorem mEw.s {μ m : SM2} {R : List Ru} {LL : List (List Int32)} {w : Wk} (h : mEw μ R LL w) (g : OfM Fs S9 μ m) : mEw m R LL w := h.k g (by unfold Fs; omega) (by unfold Fs; omega)
section MR1
variable {γ : Ga} {μ : SM2}
theorem m_becomesJust {R : List Ru} {LL : List (List Int32)} {w : Wk} {a d : List Nat} (hE : mEw μ R LL w) (ha : Mw a) (hd : Mw d) : Ex γ 13 0 0 M_X12_becomesJust [.ref 572, .long (lN (cd a)), .long (lN (cd d))] (rm μ) (Rm (some (.int (bI (stT (nxR R w) 200 a d)))) (fun m => OfM Fs S9 μ m)) := by
  have hct := cd_lt hd
  refine Ex.of (by decide +kernel) rfl (Nat.le_of_ble_eq_true rfl) ?_
  show T _ _ _ _ _ _ _ _ _ [some (.ref 572), some (.long (lN (cd a))), none, some (.long (lN (cd d))), none] [] (rm μ)
  refine T_aload_n (pc := 0) (i := 0) dX12_becomesJust_0 rfl rfl ?_
  refine T_lload_n (pc := 1) (i := 1) dX12_becomesJust_1 rfl rfl ?_
  refine T_sipush (pc := 2) (v := nI 200) dX12_becomesJust_2 (by decide) ?_
  refine T_aload_n (pc := 5) (i := 0) dX12_becomesJust_5 rfl rfl ?_
  refine R_getR (pc := 6) (i := 573) fl_X12_29 rfl kc_572 lc_572 rc_572_1 dX12_becomesJust_6 ?_
  refine T_iconst (pc := 9) (v := nI 5) dX12_becomesJust_9 (by decide) ?_
  refine R_iald (pc := 10) (x := nI w.1) kc_573 lc_573 (by omega) (by first | decide | assumption) hE.2 dX12_becomesJust_10 ?_
  refine R_callVm1 (pc := 11) (As := [.long (lN (cd a)), .int (nI 200), .int (nI w.1)]) (rest := []) (Or.inl lk_X12_423) mk_X12_isSettling (m_isSettling hE.1 ha (by decide)) kc_572 ⟨by decide, rfl⟩ lc_572 dX12_becomesJust_11 rfl rfl (Nat.le_of_ble_eq_true rfl) (by decide) rfl (Nat.le_refl _) (Nat.le_refl _) (fun m hO => ?_)
  cases e6 : stl (nxR R w) 200 a with
  | none =>
    rw [show stT (nxR R w) 200 a d = false by unfold stT; rw [e6]; rfl]
    show T _ _ _ _ _ _ _ _ 14 [some (.ref 572), some (.long (lN (cd a))), none, some (.long (lN (cd d))), none] [.int (bI false)] (rm m)
    refine R_ifb_eq (pc := 14) (tgt := 30) dX12_becomesJust_14 (by decide) (fun h6 => ?_) (fun h6 => ?_)
    · skip
      refine T_iconst (pc := 30) (v := nI 0) dX12_becomesJust_30 (by decide) ?_
      exact T_iret (pc := 31) (ty := .boolean) dX12_becomesJust_31 rfl (by decide) (Nat.le_refl _) (Nat.le_refl _) ⟨_, rfl, rfl, hO.2⟩
    · exact absurd h6 (by decide)
  | some q2 =>
    obtain ⟨k2, t2⟩ := q2
    have hq2 := stl_mw hE.1.1.2.1 ha e6
    have hct2 : cd t2 < 2 ^ 61 := cd_lt hq2.1
    have hf2 := hO.1 (k2, t2) e6
    show T _ _ _ _ _ _ _ _ 14 [some (.ref 572), some (.long (lN (cd a))), none, some (.long (lN (cd d))), none] [.int (bI true)] (rm m)
    refine R_ifb_eq (pc := 14) (tgt := 30) dX12_becomesJust_14 (by decide) (fun h6 => ?_) (fun h6 => ?_)
    · exact absurd h6 (by decide)
    · skip
      refine T_aload_n (pc := 17) (i := 0) dX12_becomesJust_17 rfl rfl ?_
      refine R_getL (pc := 18) (x := lN (cd t2)) fl_X12_363 rfl kc_572 lc_572 hf2.2 dX12_becomesJust_18 ?_
      refine T_lload_n (pc := 21) (i := 3) dX12_becomesJust_21 rfl rfl ?_
      refine T_lcmp (pc := 22) dX12_becomesJust_22 ?_
      refine R_ln_ne (pc := 23) (tgt := 30) (by omega) (by omega) dX12_becomesJust_23 (by decide) (fun h7 => ?_) (fun h7 => ?_)
      · skip
        refine T_iconst (pc := 30) (v := nI 0) dX12_becomesJust_30 (by decide) ?_
        rw [show stT (nxR R w) 200 a d = false by unfold stT; rw [e6]; exact decide_eq_false (fun z => h7 (by cases z; rfl))]
        exact T_iret (pc := 31) (ty := .boolean) dX12_becomesJust_31 rfl (by decide) (Nat.le_refl _) (Nat.le_refl _) ⟨_, rfl, rfl, hO.2⟩
      · skip
        refine T_iconst (pc := 26) (v := nI 1) dX12_becomesJust_26 (by decide) ?_
        refine T_goto (pc := 27) (tgt := 31) dX12_becomesJust_27 (by decide) ?_
        rw [show stT (nxR R w) 200 a d = true by unfold stT; rw [e6]; exact decide_eq_true (congrArg some (cd_inj hq2.1.2 hd.2 h7))]
        exact T_iret (pc := 31) (ty := .boolean) dX12_becomesJust_31 rfl (by decide) (Nat.le_refl _) (Nat.le_refl _) ⟨_, rfl, rfl, hO.2⟩
theorem mwr {b n : Nat} (hb : b < 8) (h : n ≤ 20) : Mw (List.replicate n b) := mw_rep (l := []) okb_nil hb (by show 0 + n ≤ 20; omega)
theorem m_sums {R : List Ru} {LL : List (List Int32)} {w : Wk} {N : Nat} (hE : mEw μ R LL w) (hN : N ≤ 4) : Ex γ 14 0 0 M_X12_sums [.ref 572, .int (nI N)] (rm μ) (Rm (some (.long (vO (rkS (nxR R w) N)))) (fun m => OfM Fs S9 μ m)) := by
  suffices outer : ∀ (g i : Nat) (m : SM2), i + g = N + 1 → OfM Fs S9 μ m → T γ 14 0 0 M_X12_sums (Rm (some (.long (vO (ff (fun i => ff (fun j => if stT (nxR R w) 200 (rkA i j) ([] ++ List.replicate (i + j) 0) = true then none else some (rkA i j)) 0 (N + 1)) i g)))) (fun m => OfM Fs S9 μ m)) 0 0 2 [some (.ref 572), some (.int (nI N)), some (.int (nI i)), none, none, none] [] (rm m) by
    refine Ex.of (by decide +kernel) rfl (Nat.le_of_ble_eq_true rfl) ?_
    show T _ _ _ _ _ _ _ _ _ [some (.ref 572), some (.int (nI N)), none, none, none, none] [] (rm μ)
    refine T_iconst (pc := 0) (v := nI 0) dX12_sums_0 (by decide) ?_
    refine T_istore_n (pc := 1) (i := 2) (ls' := [some (.ref 572), some (.int (nI N)), some (.int (nI 0)), none, none, none]) dX12_sums_1 rfl (by decide) rfl ?_
    exact outer (N + 1) 0 μ (Nat.zero_add _) (OfM.refl _ _ _)
  intro g
  induction g with
  | zero =>
    intro i m hi iO
    refine T_iload_n (pc := 2) (i := 2) dX12_sums_2 rfl rfl ?_
    refine T_iload_n (pc := 3) (i := 1) dX12_sums_3 rfl rfl ?_
    refine R_icmp_gt (pc := 4) (tgt := 68) (by omega) (by omega) dX12_sums_4 (by decide) (fun h1 => ?_) (fun h1 => ?_)
    · skip
      refine T_ldc2 (pc := 68) dX12_sums_68 cn_X12_171 ?_
      exact T_lret dX12_sums_71 rfl (Nat.le_refl _) (Nat.le_refl _) ⟨_, rfl, rfl, iO⟩
    · exact absurd h1 (by omega)
  | succ g ih =>
    intro i m hi iO
    rw [ff_e]
    refine T_iload_n (pc := 2) (i := 2) dX12_sums_2 rfl rfl ?_
    refine T_iload_n (pc := 3) (i := 1) dX12_sums_3 rfl rfl ?_
    refine R_icmp_gt (pc := 4) (tgt := 68) (by omega) (by omega) dX12_sums_4 (by decide) (fun h1 => ?_) (fun h1 => ?_)
    · exact absurd h1 (by omega)
    · skip
      refine T_iconst (pc := 7) (v := nI 0) dX12_sums_7 (by decide) ?_
      refine T_istore_n (pc := 8) (i := 3) (ls' := [some (.ref 572), some (.int (nI N)), some (.int (nI i)), some (.int (nI 0)), none, none]) dX12_sums_8 rfl (by decide) rfl ?_
      suffices inner : ∀ (f j : Nat) (m : SM2), j + f = N + 1 → OfM Fs S9 μ m → T γ 14 0 0 M_X12_sums (Rm (some (.long (vO (orE (ff (fun j => if stT (nxR R w) 200 (rkA i j) ([] ++ List.replicate (i + j) 0) = true then none else some (rkA i j)) j f) (ff (fun i => ff (fun j => if stT (nxR R w) 200 (rkA i j) ([] ++ List.replicate (i + j) 0) = true then none else some (rkA i j)) 0 (N + 1)) (i + 1) g))))) (fun m => OfM Fs S9 μ m)) 0 0 9 [some (.ref 572), some (.int (nI N)), some (.int (nI i)), some (.int (nI j)), none, none] [] (rm m) by
        exact inner (N + 1) 0 m (Nat.zero_add _) iO
      intro f
      induction f with
      | zero =>
        intro j m2 hj jO
        refine T_iload_n (pc := 9) (i := 3) dX12_sums_9 rfl rfl ?_
        refine T_iload_n (pc := 10) (i := 1) dX12_sums_10 rfl rfl ?_
        refine R_icmp_gt (pc := 11) (tgt := 62) (by omega) (by omega) dX12_sums_11 (by decide) (fun h2 => ?_) (fun h2 => ?_)
        · skip
          refine R_iinc (pc := 62) (i := 2) (n := 1) (ls' := [some (.ref 572), some (.int (nI N)), some (.int (nI (i + 1))), some (.int (nI j)), none, none]) dX12_sums_62 rfl rfl ?_
          refine T_goto (pc := 65) (tgt := 2) dX12_sums_65 (by decide) ?_
          refine T_ls (ls' := [some (.ref 572), some (.int (nI N)), some (.int (nI (i + 1))), none, none, none]) (And.intro rfl (And.intro rfl (And.intro rfl True.intro))) ?_
          exact ih (i + 1) m2 (by omega) jO
        · exact absurd h2 (by omega)
      | succ f ihf =>
        intro j m2 hj jO
        have jE := hE.s jO
        have hA := rkA_mw (i := i) (j := j) (by omega) (by omega)
        have hD : Mw ([] ++ List.replicate (i + j) 0) := mw_rep okb_nil (by decide) (by show 0 + (i + j) ≤ 20; omega)
        refine T_iload_n (pc := 9) (i := 3) dX12_sums_9 rfl rfl ?_
        refine T_iload_n (pc := 10) (i := 1) dX12_sums_10 rfl rfl ?_
        refine R_icmp_gt (pc := 11) (tgt := 62) (by omega) (by omega) dX12_sums_11 (by decide) (fun h2 => ?_) (fun h2 => ?_)
        · exact absurd h2 (by omega)
        · skip
          refine T_iconst (pc := 14) (v := nI 0) dX12_sums_14 (by decide) ?_
          refine T_iload_n (pc := 15) (i := 2) dX12_sums_15 rfl rfl ?_
          refine R_callS1 (pc := 16) (av := [.int (nI 0), .int (nI i)]) (rest := []) (Or.inl lk_X12_547) mk_X12_row (m_row (by decide) (by omega)) dX12_sums_16 rfl rfl (Nat.le_of_ble_eq_true rfl) (by decide) rfl (Nat.le_refl _) (Nat.le_refl _) ?_
          refine T_iconst (pc := 19) (v := nI 1) dX12_sums_19 (by decide) ?_
          refine T_iconst (pc := 20) (v := nI 1) dX12_sums_20 (by decide) ?_
          refine R_callS1 (pc := 21) (av := [.int (nI 1), .int (nI 1)]) (rest := [.long (lN (cd (List.replicate i 0)))]) (Or.inl lk_X12_547) mk_X12_row (m_row (by decide) (by decide)) dX12_sums_21 rfl rfl (Nat.le_of_ble_eq_true rfl) (by decide) rfl (Nat.le_refl _) (Nat.le_refl _) ?_
          refine R_callS1 (pc := 24) (av := [.long (lN (cd (List.replicate i 0))), .long (lN (cd (List.replicate 1 1)))]) (rest := []) (Or.inl lk_X12_335) mk_X12_join (m_join (mwr (by decide) (by decide))) dX12_sums_24 rfl rfl (Nat.le_of_ble_eq_true rfl) (by decide) rfl (Nat.le_refl _) (Nat.le_refl _) ?_
          refine T_iconst (pc := 27) (v := nI 0) dX12_sums_27 (by decide) ?_
          refine T_iload_n (pc := 28) (i := 3) dX12_sums_28 rfl rfl ?_
          refine R_callS1 (pc := 29) (av := [.int (nI 0), .int (nI j)]) (rest := [.long (lN (cd (List.replicate i 0 ++ List.replicate 1 1)))]) (Or.inl lk_X12_547) mk_X12_row (m_row (by decide) (by omega)) dX12_sums_29 rfl rfl (Nat.le_of_ble_eq_true rfl) (by decide) rfl (Nat.le_refl _) (Nat.le_refl _) ?_
          refine R_callS1 (pc := 32) (av := [.long (lN (cd (List.replicate i 0 ++ List.replicate 1 1))), .long (lN (cd (List.replicate j 0)))]) (rest := []) (Or.inl lk_X12_335) mk_X12_join (m_join (mwr (by decide) (by omega))) dX12_sums_32 rfl rfl (Nat.le_of_ble_eq_true rfl) (by decide) rfl (Nat.le_refl _) (Nat.le_refl _) ?_
          refine T_topl (v := lN (cd (rkA i j))) (rfl) ?_
          refine T_lstore (pc := 35) (i := 4) (ls' := [some (.ref 572), some (.int (nI N)), some (.int (nI i)), some (.int (nI j)), some (.long (lN (cd (rkA i j)))), none]) dX12_sums_35 (by decide) rfl ?_
          refine T_aload_n (pc := 37) (i := 0) dX12_sums_37 rfl rfl ?_
          refine T_lload (pc := 38) (i := 4) dX12_sums_38 rfl ?_
          refine T_iconst (pc := 40) (v := nI 0) dX12_sums_40 (by decide) ?_
          refine T_iload_n (pc := 41) (i := 2) dX12_sums_41 rfl rfl ?_
          refine T_iload_n (pc := 42) (i := 3) dX12_sums_42 rfl rfl ?_
          refine R_iadd (pc := 43) dX12_sums_43 ?_
          refine R_callS1 (pc := 44) (av := [.int (nI 0), .int (nI (i + j))]) (rest := [.long (lN (cd (rkA i j))), .ref 572]) (Or.inl lk_X12_547) mk_X12_row (m_row (by decide) (by omega)) dX12_sums_44 rfl rfl (Nat.le_of_ble_eq_true rfl) (by decide) rfl (Nat.le_refl _) (Nat.le_refl _) ?_
          refine T_topl (v := lN (cd ([] ++ List.replicate (i + j) 0))) (rfl) ?_
          refine R_callVm1 (pc := 47) (As := [.long (lN (cd (rkA i j))), .long (lN (cd ([] ++ List.replicate (i + j) 0)))]) (rest := []) (Or.inl lk_X12_550) mk_X12_becomesJust (m_becomesJust jE hA hD) kc_572 ⟨by decide, rfl⟩ lc_572 dX12_sums_47 rfl rfl (Nat.le_of_ble_eq_true rfl) (by decide) rfl (Nat.le_refl _) (Nat.le_refl _) (fun m3 kO => ?_)
          refine R_ifb_ne (pc := 50) (tgt := 56) dX12_sums_50 (by decide) (fun h4 => ?_) (fun h4 => ?_)
          · skip
            rw [ff_s (by rw [if_pos h4])]
            refine R_iinc (pc := 56) (i := 3) (n := 1) (ls' := [some (.ref 572), some (.int (nI N)), some (.int (nI i)), some (.int (nI (j + 1))), some (.long (lN (cd (rkA i j)))), none]) dX12_sums_56 rfl rfl ?_
            refine T_goto (pc := 59) (tgt := 9) dX12_sums_59 (by decide) ?_
            refine T_ls (ls' := [some (.ref 572), some (.int (nI N)), some (.int (nI i)), some (.int (nI (j + 1))), none, none]) (And.intro rfl (And.intro rfl (And.intro rfl (And.intro rfl True.intro)))) ?_
            exact ihf (j + 1) m3 (by omega) (jO.trans kO)
          · skip
            rw [ff_y (a := rkA i j) (by rw [if_neg (by rw [h4]; decide)])]
            refine T_lload (pc := 53) (i := 4) dX12_sums_53 rfl ?_
            exact T_lret dX12_sums_55 rfl (Nat.le_refl _) (Nat.le_refl _) ⟨_, rfl, rfl, jO.trans kO⟩
theorem m_sortings {R : List Ru} {LL : List (List Int32)} {w : Wk} {N : Nat} (hE : mEw μ R LL w) (hN : N ≤ 4) : Ex γ 14 0 0 M_X12_sortings [.ref 572, .int (nI N)] (rm μ) (Rm (some (.long (vO (rkO (nxR R w) N)))) (fun m => OfM Fs S9 μ m)) := by
  have hp : 2 ^ N ≤ 2 ^ 4 := Nat.pow_le_pow_right (by decide) hN
  suffices outer : ∀ (g c : Nat) (m : SM2), c + g = 2 ^ N → OfM Fs S9 μ m → T γ 14 0 0 M_X12_sortings (Rm (some (.long (vO (ff (fun c => if stT (nxR R w) 200 (ordL c N N) ([] ++ List.replicate (N - pcn c 12) 0 ++ List.replicate (pcn c 12) 1) = true then none else some (ordL c N N)) c g)))) (fun m => OfM Fs S9 μ m)) 0 0 2 [some (.ref 572), some (.int (nI N)), some (.int (nI c)), none, none, none] [] (rm m) by
    refine Ex.of (by decide +kernel) rfl (Nat.le_of_ble_eq_true rfl) ?_
    show T _ _ _ _ _ _ _ _ _ [some (.ref 572), some (.int (nI N)), none, none, none, none] [] (rm μ)
    refine T_iconst (pc := 0) (v := nI 0) dX12_sortings_0 (by decide) ?_
    refine T_istore_n (pc := 1) (i := 2) (ls' := [some (.ref 572), some (.int (nI N)), some (.int (nI 0)), none, none, none]) dX12_sortings_1 rfl (by decide) rfl ?_
    exact outer (2 ^ N) 0 μ (Nat.zero_add _) (OfM.refl _ _ _)
  intro g
  induction g with
  | zero =>
    intro c m hc iO
    refine T_iload_n (pc := 2) (i := 2) dX12_sortings_2 rfl rfl ?_
    refine T_iconst (pc := 3) (v := nI 1) dX12_sortings_3 (by decide) ?_
    refine T_iload_n (pc := 4) (i := 1) dX12_sortings_4 rfl rfl ?_
    refine R_ishl (pc := 5) (by omega) dX12_sortings_5 ?_
    refine R_icmp_ge (pc := 6) (tgt := 78) (by omega) (by omega) dX12_sortings_6 (by decide) (fun h1 => ?_) (fun h1 => ?_)
    · skip
      refine T_ldc2 (pc := 78) dX12_sortings_78 cn_X12_171 ?_
      exact T_lret dX12_sortings_81 rfl (Nat.le_refl _) (Nat.le_refl _) ⟨_, rfl, rfl, iO⟩
    · exact absurd h1 (by omega)
  | succ g ih =>
    intro c m hc iO
    have iE := hE.s iO
    have hpc := pcn_le4 N hN c (by omega)
    refine T_iload_n (pc := 2) (i := 2) dX12_sortings_2 rfl rfl ?_
    refine T_iconst (pc := 3) (v := nI 1) dX12_sortings_3 (by decide) ?_
    refine T_iload_n (pc := 4) (i := 1) dX12_sortings_4 rfl rfl ?_
    refine R_ishl (pc := 5) (by omega) dX12_sortings_5 ?_
    refine R_icmp_ge (pc := 6) (tgt := 78) (by omega) (by omega) dX12_sortings_6 (by decide) (fun h1 => ?_) (fun h1 => ?_)
    · exact absurd h1 (by omega)
    · skip
      refine T_lconst (pc := 9) (v := lN 1) dX12_sortings_9 rfl ?_
      refine T_lstore_n (pc := 10) (i := 3) (ls' := [some (.ref 572), some (.int (nI N)), some (.int (nI c)), some (.long (lN 1)), none, none]) dX12_sortings_10 rfl (by decide) rfl ?_
      refine T_iload_n (pc := 11) (i := 1) dX12_sortings_11 rfl rfl ?_
      refine T_iconst (pc := 12) (v := nI 1) dX12_sortings_12 (by decide) ?_
      refine T_isub (pc := 13) dX12_sortings_13 ?_
      refine T_istore (pc := 14) (i := 5) (ls' := [some (.ref 572), some (.int (nI N)), some (.int (nI c)), some (.long (lN 1)), none, some (.int (((nI N) - (nI 1))))]) dX12_sortings_14 (by decide) rfl ?_
      suffices inner : ∀ (k r : Nat), k + r = N → T γ 14 0 0 M_X12_sortings (Rm (some (.long (vO (ff (fun c => if stT (nxR R w) 200 (ordL c N N) ([] ++ List.replicate (N - pcn c 12) 0 ++ List.replicate (pcn c 12) 1) = true then none else some (ordL c N N)) c (g + 1))))) (fun m => OfM Fs S9 μ m)) 0 0 16 [some (.ref 572), some (.int (nI N)), some (.int (nI c)), some (.long (lN (cd (ordL c N k)))), none, some (.int (nI r - nI 1))] [] (rm m) by
        exact inner 0 N (Nat.zero_add _)
      intro k r
      induction r generalizing k with
      | zero =>
        intro hk
        obtain rfl : k = N := by omega
        refine T_iload (pc := 16) (i := 5) dX12_sortings_16 rfl ?_
        refine T_if_lt (pc := 18) (tgt := 39) dX12_sortings_18 (by decide) (fun h2 => ?_) (fun h2 => ?_)
        · skip
          refine T_iload_n (pc := 39) (i := 2) dX12_sortings_39 rfl rfl ?_
          refine R_callS1 (pc := 40) (av := [.int (nI c)]) (rest := []) (Or.inl lk_X12_532) mk_J6_bitCount_0f7a4 (c_bitCount (by omega)) dX12_sortings_40 rfl rfl (Nat.le_of_ble_eq_true rfl) (by decide) rfl (Nat.le_refl _) (Nat.le_refl _) ?_
          refine T_istore (pc := 43) (i := 5) (ls' := [some (.ref 572), some (.int (nI k)), some (.int (nI c)), some (.long (lN (cd (ordL c k k)))), none, some (.int (nI (pcn c 12)))]) dX12_sortings_43 (by decide) rfl ?_
          refine T_aload_n (pc := 45) (i := 0) dX12_sortings_45 rfl rfl ?_
          refine T_lload_n (pc := 46) (i := 3) dX12_sortings_46 rfl rfl ?_
          refine T_iconst (pc := 47) (v := nI 0) dX12_sortings_47 (by decide) ?_
          refine T_iload_n (pc := 48) (i := 1) dX12_sortings_48 rfl rfl ?_
          refine T_iload (pc := 49) (i := 5) dX12_sortings_49 rfl ?_
          refine R_isub (pc := 51) (by omega) dX12_sortings_51 ?_
          refine R_callS1 (pc := 52) (av := [.int (nI 0), .int (nI (k - (pcn c 12)))]) (rest := [.long (lN (cd (ordL c k k))), .ref 572]) (Or.inl lk_X12_547) mk_X12_row (m_row (by decide) (by omega)) dX12_sortings_52 rfl rfl (Nat.le_of_ble_eq_true rfl) (by decide) rfl (Nat.le_refl _) (Nat.le_refl _) ?_
          refine T_iconst (pc := 55) (v := nI 1) dX12_sortings_55 (by decide) ?_
          refine T_iload (pc := 56) (i := 5) dX12_sortings_56 rfl ?_
          refine R_callS1 (pc := 58) (av := [.int (nI 1), .int (nI (pcn c 12))]) (rest := [.long (lN (cd (List.replicate (k - pcn c 12) 0))), .long (lN (cd (ordL c k k))), .ref 572]) (Or.inl lk_X12_547) mk_X12_row (m_row (by decide) (by omega)) dX12_sortings_58 rfl rfl (Nat.le_of_ble_eq_true rfl) (by decide) rfl (Nat.le_refl _) (Nat.le_refl _) ?_
          refine R_callS1 (pc := 61) (av := [.long (lN (cd (List.replicate (k - pcn c 12) 0))), .long (lN (cd (List.replicate (pcn c 12) 1)))]) (rest := [.long (lN (cd (ordL c k k))), .ref 572]) (Or.inl lk_X12_335) mk_X12_join (m_join (mwr (by decide) (by omega))) dX12_sortings_61 rfl rfl (Nat.le_of_ble_eq_true rfl) (by decide) rfl (Nat.le_refl _) (Nat.le_refl _) ?_
          refine T_topl (v := lN (cd ([] ++ List.replicate (k - pcn c 12) 0 ++ List.replicate (pcn c 12) 1))) (rfl) ?_
          have hD1 : Mw ([] ++ List.replicate (k - pcn c 12) 0) := mw_rep okb_nil (by decide) (by show 0 + (k - pcn c 12) ≤ 20; omega)
          have hD : Mw ([] ++ List.replicate (k - pcn c 12) 0 ++ List.replicate (pcn c 12) 1) := mw_rep hD1.2 (by decide) (by rw [List.length_append, List.length_replicate]; show 0 + (k - pcn c 12) + _ ≤ 20; omega)
          refine R_callVm1 (pc := 64) (As := [.long (lN (cd (ordL c k k))), .long (lN (cd ([] ++ List.replicate (k - pcn c 12) 0 ++ List.replicate (pcn c 12) 1)))]) (rest := []) (Or.inl lk_X12_550) mk_X12_becomesJust (m_becomesJust iE (ordL_mw (by omega)) hD) kc_572 ⟨by decide, rfl⟩ lc_572 dX12_sortings_64 rfl rfl (Nat.le_of_ble_eq_true rfl) (by decide) rfl (Nat.le_refl _) (Nat.le_refl _) (fun m3 kO => ?_)
          refine R_ifb_ne (pc := 67) (tgt := 72) dX12_sortings_67 (by decide) (fun h4 => ?_) (fun h4 => ?_)
          · skip
            rw [ff_s (by rw [if_pos h4])]
            refine R_iinc (pc := 72) (i := 2) (n := 1) (ls' := [some (.ref 572), some (.int (nI k)), some (.int (nI (c + 1))), some (.long (lN (cd (ordL c k k)))), none, some (.int (nI (pcn c 12)))]) dX12_sortings_72 rfl rfl ?_
            refine T_goto (pc := 75) (tgt := 2) dX12_sortings_75 (by decide) ?_
            refine T_ls (ls' := [some (.ref 572), some (.int (nI k)), some (.int (nI (c + 1))), none, none, none]) (And.intro rfl (And.intro rfl (And.intro rfl True.intro))) ?_
            exact ih (c + 1) m3 (by omega) (iO.trans kO)
          · skip
            rw [ff_y (a := ordL c k k) (by rw [if_neg (by rw [h4]; decide)])]
            refine T_lload_n (pc := 70) (i := 3) dX12_sortings_70 rfl rfl ?_
            exact T_lret dX12_sortings_71 rfl (Nat.le_refl _) (Nat.le_refl _) ⟨_, rfl, rfl, iO.trans kO⟩
        · exact absurd (show nI 0 - nI 1 < 0 by decide) h2
      | succ r ihr =>
        intro hk
        rw [pk_sub (show 1 ≤ r + 1 by omega), Nat.add_sub_cancel]
        have hbit : c / 2 ^ r &&& 1 ≤ 1 := Nat.and_le_right
        refine T_iload (pc := 16) (i := 5) dX12_sortings_16 rfl ?_
        refine R_if_lt (pc := 18) (tgt := 39) (by omega) dX12_sortings_18 (by decide) (fun h2 => ?_) (fun h2 => ?_)
        · exact h2.elim
        · skip
          refine T_lload_n (pc := 21) (i := 3) dX12_sortings_21 rfl rfl ?_
          refine T_iconst (pc := 22) (v := nI 3) dX12_sortings_22 (by decide) ?_
          refine R_lshl (pc := 23) (by omega) dX12_sortings_23 ?_
          refine T_iload_n (pc := 24) (i := 2) dX12_sortings_24 rfl rfl ?_
          refine T_iload (pc := 25) (i := 5) dX12_sortings_25 rfl ?_
          refine R_ishr (pc := 27) ⟨by omega, by omega⟩ dX12_sortings_27 ?_
          refine T_iconst (pc := 28) (v := nI 1) dX12_sortings_28 (by decide) ?_
          refine R_iand (pc := 29) dX12_sortings_29 ?_
          refine R_i2l (pc := 30) (by omega) dX12_sortings_30 ?_
          refine R_lor (pc := 31) dX12_sortings_31 ?_
          refine T_topl (v := lN (cd (ordL c N k ++ [c / 2 ^ r &&& 1]))) (by rw [show (2 : Nat) ^ 3 = 8 ^ 1 by decide, or_add _ (by omega), cd_snoc]) ?_
          refine T_lstore_n (pc := 32) (i := 3) (ls' := [some (.ref 572), some (.int (nI N)), some (.int (nI c)), some (.long (lN (cd (ordL c N k ++ [c / 2 ^ r &&& 1])))), none, some (.int (nI r))]) dX12_sortings_32 rfl (by decide) rfl ?_
          refine T_iinc (pc := 33) (i := 5) (v := (nI r + (-1))) (ls' := [some (.ref 572), some (.int (nI N)), some (.int (nI c)), some (.long (lN (cd (ordL c N k ++ [c / 2 ^ r &&& 1])))), none, some (.int ((nI r + (-1))))]) dX12_sortings_33 rfl rfl rfl ?_
          refine T_goto (pc := 36) (tgt := 16) dX12_sortings_36 (by decide) ?_
          have h9 := ihr (k + 1) (by omega)
          rw [ordL_s, show N - 1 - k = r by omega, Int32.sub_eq_add_neg] at h9
          exact h9
theorem m_copies {R : List Ru} {LL : List (List Int32)} {w : Wk} {N : Nat} (hE : mEw μ R LL w) (hN : N ≤ 4) : Ex γ 14 0 0 M_X12_copies [.ref 572, .int (nI N)] (rm μ) (Rm (some (.long (vO (rkE (nxR R w) 2 N)))) (fun m => OfM Fs S9 μ m)) := by
  suffices outer : ∀ (g i : Nat) (m : SM2), i + g = N + 1 → OfM Fs S9 μ m → T γ 14 0 0 M_X12_copies (Rm (some (.long (vO (ff (fun i => if stT (nxR R w) 200 (rkEa 2 i) (rkEd 2 i) = true then none else some (rkEa 2 i)) i g)))) (fun m => OfM Fs S9 μ m)) 0 0 2 [some (.ref 572), some (.int (nI N)), some (.int (nI i)), none, none] [] (rm m) by
    refine Ex.of (by decide +kernel) rfl (Nat.le_of_ble_eq_true rfl) ?_
    show T _ _ _ _ _ _ _ _ _ [some (.ref 572), some (.int (nI N)), none, none, none] [] (rm μ)
    refine T_iconst (pc := 0) (v := nI 0) dX12_copies_0 (by decide) ?_
    refine T_istore_n (pc := 1) (i := 2) (ls' := [some (.ref 572), some (.int (nI N)), some (.int (nI 0)), none, none]) dX12_copies_1 rfl (by decide) rfl ?_
    exact outer (N + 1) 0 μ (Nat.zero_add _) (OfM.refl _ _ _)
  intro g
  induction g with
  | zero =>
    intro i m hi iO
    refine T_iload_n (pc := 2) (i := 2) dX12_copies_2 rfl rfl ?_
    refine T_iload_n (pc := 3) (i := 1) dX12_copies_3 rfl rfl ?_
    refine R_icmp_gt (pc := 4) (tgt := 46) (by omega) (by omega) dX12_copies_4 (by decide) (fun h1 => ?_) (fun h1 => ?_)
    · skip
      refine T_ldc2 (pc := 46) dX12_copies_46 cn_X12_171 ?_
      exact T_lret dX12_copies_49 rfl (Nat.le_refl _) (Nat.le_refl _) ⟨_, rfl, rfl, iO⟩
    · exact absurd h1 (by omega)
  | succ g ih =>
    intro i m hi iO
    have iE := hE.s iO
    have h1w : Mw ([] ++ List.replicate i 0) := mw_rep okb_nil (by decide) (by show 0 + i ≤ 20; omega)
    have h2w : Mw (rkEa 2 i) := mw_rep h1w.2 (by decide) (by rw [List.length_append, List.length_replicate]; show 0 + i + 1 ≤ 20; omega)
    have h5w : Mw (rkEd 2 i) := mw_rep (l := rkEa 2 i) h2w.2 (by decide) (by show (([] ++ List.replicate i 0) ++ List.replicate 1 2).length + i ≤ 20; rw [List.length_append, List.length_append, List.length_replicate]; show 0 + i + 1 + i ≤ 20; omega)
    refine T_iload_n (pc := 2) (i := 2) dX12_copies_2 rfl rfl ?_
    refine T_iload_n (pc := 3) (i := 1) dX12_copies_3 rfl rfl ?_
    refine R_icmp_gt (pc := 4) (tgt := 46) (by omega) (by omega) dX12_copies_4 (by decide) (fun h1 => ?_) (fun h1 => ?_)
    · exact absurd h1 (by omega)
    · skip
      refine T_iconst (pc := 7) (v := nI 0) dX12_copies_7 (by decide) ?_
      refine T_iload_n (pc := 8) (i := 2) dX12_copies_8 rfl rfl ?_
      refine R_callS1 (pc := 9) (av := [.int (nI 0), .int (nI i)]) (rest := []) (Or.inl lk_X12_547) mk_X12_row (m_row (by decide) (by omega)) dX12_copies_9 rfl rfl (Nat.le_of_ble_eq_true rfl) (by decide) rfl (Nat.le_refl _) (Nat.le_refl _) ?_
      refine T_iconst (pc := 12) (v := nI 2) dX12_copies_12 (by decide) ?_
      refine T_iconst (pc := 13) (v := nI 1) dX12_copies_13 (by decide) ?_
      refine R_callS1 (pc := 14) (av := [.int (nI 2), .int (nI 1)]) (rest := [.long (lN (cd (List.replicate i 0)))]) (Or.inl lk_X12_547) mk_X12_row (m_row (by decide) (by decide)) dX12_copies_14 rfl rfl (Nat.le_of_ble_eq_true rfl) (by decide) rfl (Nat.le_refl _) (Nat.le_refl _) ?_
      refine R_callS1 (pc := 17) (av := [.long (lN (cd (List.replicate i 0))), .long (lN (cd (List.replicate 1 2)))]) (rest := []) (Or.inl lk_X12_335) mk_X12_join (m_join (mwr (by decide) (by decide))) dX12_copies_17 rfl rfl (Nat.le_of_ble_eq_true rfl) (by decide) rfl (Nat.le_refl _) (Nat.le_refl _) ?_
      refine T_topl (v := lN (cd (rkEa 2 i))) (rfl) ?_
      refine T_lstore_n (pc := 20) (i := 3) (ls' := [some (.ref 572), some (.int (nI N)), some (.int (nI i)), some (.long (lN (cd (rkEa 2 i)))), none]) dX12_copies_20 rfl (by decide) rfl ?_
      refine T_aload_n (pc := 21) (i := 0) dX12_copies_21 rfl rfl ?_
      refine T_lload_n (pc := 22) (i := 3) dX12_copies_22 rfl rfl ?_
      refine T_lload_n (pc := 23) (i := 3) dX12_copies_23 rfl rfl ?_
      refine T_iconst (pc := 24) (v := nI 0) dX12_copies_24 (by decide) ?_
      refine T_iload_n (pc := 25) (i := 2) dX12_copies_25 rfl rfl ?_
      refine R_callS1 (pc := 26) (av := [.int (nI 0), .int (nI i)]) (rest := [.long (lN (cd (rkEa 2 i))), .long (lN (cd (rkEa 2 i))), .ref 572]) (Or.inl lk_X12_547) mk_X12_row (m_row (by decide) (by omega)) dX12_copies_26 rfl rfl (Nat.le_of_ble_eq_true rfl) (by decide) rfl (Nat.le_refl _) (Nat.le_refl _) ?_
      refine R_callS1 (pc := 29) (av := [.long (lN (cd (rkEa 2 i))), .long (lN (cd (List.replicate i 0)))]) (rest := [.long (lN (cd (rkEa 2 i))), .ref 572]) (Or.inl lk_X12_335) mk_X12_join (m_join (mwr (by decide) (by omega))) dX12_copies_29 rfl rfl (Nat.le_of_ble_eq_true rfl) (by decide) rfl (Nat.le_refl _) (Nat.le_refl _) ?_
      refine T_topl (v := lN (cd (rkEd 2 i))) (rfl) ?_
      refine R_callVm1 (pc := 32) (As := [.long (lN (cd (rkEa 2 i))), .long (lN (cd (rkEd 2 i)))]) (rest := []) (Or.inl lk_X12_550) mk_X12_becomesJust (m_becomesJust iE h2w h5w) kc_572 ⟨by decide, rfl⟩ lc_572 dX12_copies_32 rfl rfl (Nat.le_of_ble_eq_true rfl) (by decide) rfl (Nat.le_refl _) (Nat.le_refl _) (fun m3 kO => ?_)
      refine R_ifb_ne (pc := 35) (tgt := 40) dX12_copies_35 (by decide) (fun h4 => ?_) (fun h4 => ?_)
      · skip
        rw [ff_s (by rw [if_pos h4])]
        refine R_iinc (pc := 40) (i := 2) (n := 1) (ls' := [some (.ref 572), some (.int (nI N)), some (.int (nI (i + 1))), some (.long (lN (cd (rkEa 2 i)))), none]) dX12_copies_40 rfl rfl ?_
        refine T_goto (pc := 43) (tgt := 2) dX12_copies_43 (by decide) ?_
        refine T_ls (ls' := [some (.ref 572), some (.int (nI N)), some (.int (nI (i + 1))), none, none]) (And.intro rfl (And.intro rfl (And.intro rfl True.intro))) ?_
        exact ih (i + 1) m3 (by omega) (iO.trans kO)
      · skip
        rw [ff_y (a := rkEa 2 i) (by rw [if_neg (by rw [h4]; decide)])]
        refine T_lload_n (pc := 38) (i := 3) dX12_copies_38 rfl rfl ?_
        exact T_lret dX12_copies_39 rfl (Nat.le_refl _) (Nat.le_refl _) ⟨_, rfl, rfl, iO.trans kO⟩
theorem m_halves {R : List Ru} {LL : List (List Int32)} {w : Wk} {N : Nat} (hE : mEw μ R LL w) (hN : N ≤ 4) : Ex γ 14 0 0 M_X12_halves [.ref 572, .int (nI N)] (rm μ) (Rm (some (.long (vO (rkE (nxR R w) 3 N)))) (fun m => OfM Fs S9 μ m)) := by
  suffices outer : ∀ (g i : Nat) (m : SM2), i + g = N + 1 → OfM Fs S9 μ m → T γ 14 0 0 M_X12_halves (Rm (some (.long (vO (ff (fun i => if stT (nxR R w) 200 (rkEa 3 i) (rkEd 3 i) = true then none else some (rkEa 3 i)) i g)))) (fun m => OfM Fs S9 μ m)) 0 0 2 [some (.ref 572), some (.int (nI N)), some (.int (nI i)), none, none] [] (rm m) by
    refine Ex.of (by decide +kernel) rfl (Nat.le_of_ble_eq_true rfl) ?_
    show T _ _ _ _ _ _ _ _ _ [some (.ref 572), some (.int (nI N)), none, none, none] [] (rm μ)
    refine T_iconst (pc := 0) (v := nI 0) dX12_halves_0 (by decide) ?_
    refine T_istore_n (pc := 1) (i := 2) (ls' := [some (.ref 572), some (.int (nI N)), some (.int (nI 0)), none, none]) dX12_halves_1 rfl (by decide) rfl ?_
    exact outer (N + 1) 0 μ (Nat.zero_add _) (OfM.refl _ _ _)
  intro g
  induction g with
  | zero =>
    intro i m hi iO
    refine T_iload_n (pc := 2) (i := 2) dX12_halves_2 rfl rfl ?_
    refine T_iload_n (pc := 3) (i := 1) dX12_halves_3 rfl rfl ?_
    refine R_icmp_gt (pc := 4) (tgt := 44) (by omega) (by omega) dX12_halves_4 (by decide) (fun h1 => ?_) (fun h1 => ?_)
    · skip
      refine T_ldc2 (pc := 44) dX12_halves_44 cn_X12_171 ?_
      exact T_lret dX12_halves_47 rfl (Nat.le_refl _) (Nat.le_refl _) ⟨_, rfl, rfl, iO⟩
    · exact absurd h1 (by omega)
  | succ g ih =>
    intro i m hi iO
    have iE := hE.s iO
    have ea : List.replicate (2 * i) 0 ++ List.replicate 1 3 = rkEa 3 i := by
      show _ = ([] ++ List.replicate i 0) ++ List.replicate i 0 ++ List.replicate 1 3
      rw [List.nil_append, List.replicate_append_replicate, show 2 * i = i + i by omega]
    have h1w : Mw (rkEd 3 i) := mw_rep okb_nil (by decide) (by show 0 + i ≤ 20; omega)
    have h2w : Mw (rkEa 3 i) := by
      rw [← ea]
      exact mw_rep (mwr (by decide) (by omega)).2 (by decide) (by rw [List.length_replicate]; omega)
    refine T_iload_n (pc := 2) (i := 2) dX12_halves_2 rfl rfl ?_
    refine T_iload_n (pc := 3) (i := 1) dX12_halves_3 rfl rfl ?_
    refine R_icmp_gt (pc := 4) (tgt := 44) (by omega) (by omega) dX12_halves_4 (by decide) (fun h1 => ?_) (fun h1 => ?_)
    · exact absurd h1 (by omega)
    · skip
      refine T_iconst (pc := 7) (v := nI 0) dX12_halves_7 (by decide) ?_
      refine T_iconst (pc := 8) (v := nI 2) dX12_halves_8 (by decide) ?_
      refine T_iload_n (pc := 9) (i := 2) dX12_halves_9 rfl rfl ?_
      refine R_imul (pc := 10) dX12_halves_10 ?_
      refine R_callS1 (pc := 11) (av := [.int (nI 0), .int (nI (2 * i))]) (rest := []) (Or.inl lk_X12_547) mk_X12_row (m_row (by decide) (by omega)) dX12_halves_11 rfl rfl (Nat.le_of_ble_eq_true rfl) (by decide) rfl (Nat.le_refl _) (Nat.le_refl _) ?_
      refine T_iconst (pc := 14) (v := nI 3) dX12_halves_14 (by decide) ?_
      refine T_iconst (pc := 15) (v := nI 1) dX12_halves_15 (by decide) ?_
      refine R_callS1 (pc := 16) (av := [.int (nI 3), .int (nI 1)]) (rest := [.long (lN (cd (List.replicate (2 * i) 0)))]) (Or.inl lk_X12_547) mk_X12_row (m_row (by decide) (by decide)) dX12_halves_16 rfl rfl (Nat.le_of_ble_eq_true rfl) (by decide) rfl (Nat.le_refl _) (Nat.le_refl _) ?_
      refine R_callS1 (pc := 19) (av := [.long (lN (cd (List.replicate (2 * i) 0))), .long (lN (cd (List.replicate 1 3)))]) (rest := []) (Or.inl lk_X12_335) mk_X12_join (m_join (mwr (by decide) (by decide))) dX12_halves_19 rfl rfl (Nat.le_of_ble_eq_true rfl) (by decide) rfl (Nat.le_refl _) (Nat.le_refl _) ?_
      refine T_topl (v := lN (cd (rkEa 3 i))) (by rw [ea]) ?_
      refine T_lstore_n (pc := 22) (i := 3) (ls' := [some (.ref 572), some (.int (nI N)), some (.int (nI i)), some (.long (lN (cd (rkEa 3 i)))), none]) dX12_halves_22 rfl (by decide) rfl ?_
      refine T_aload_n (pc := 23) (i := 0) dX12_halves_23 rfl rfl ?_
      refine T_lload_n (pc := 24) (i := 3) dX12_halves_24 rfl rfl ?_
      refine T_iconst (pc := 25) (v := nI 0) dX12_halves_25 (by decide) ?_
      refine T_iload_n (pc := 26) (i := 2) dX12_halves_26 rfl rfl ?_
      refine R_callS1 (pc := 27) (av := [.int (nI 0), .int (nI i)]) (rest := [.long (lN (cd (rkEa 3 i))), .ref 572]) (Or.inl lk_X12_547) mk_X12_row (m_row (by decide) (by omega)) dX12_halves_27 rfl rfl (Nat.le_of_ble_eq_true rfl) (by decide) rfl (Nat.le_refl _) (Nat.le_refl _) ?_
      refine T_topl (v := lN (cd (rkEd 3 i))) (rfl) ?_
      refine R_callVm1 (pc := 30) (As := [.long (lN (cd (rkEa 3 i))), .long (lN (cd (rkEd 3 i)))]) (rest := []) (Or.inl lk_X12_550) mk_X12_becomesJust (m_becomesJust iE h2w h1w) kc_572 ⟨by decide, rfl⟩ lc_572 dX12_halves_30 rfl rfl (Nat.le_of_ble_eq_true rfl) (by decide) rfl (Nat.le_refl _) (Nat.le_refl _) (fun m3 kO => ?_)
      refine R_ifb_ne (pc := 33) (tgt := 38) dX12_halves_33 (by decide) (fun h4 => ?_) (fun h4 => ?_)
      · skip
        rw [ff_s (by rw [if_pos h4])]
        refine R_iinc (pc := 38) (i := 2) (n := 1) (ls' := [some (.ref 572), some (.int (nI N)), some (.int (nI (i + 1))), some (.long (lN (cd (rkEa 3 i)))), none]) dX12_halves_38 rfl rfl ?_
        refine T_goto (pc := 41) (tgt := 2) dX12_halves_41 (by decide) ?_
        refine T_ls (ls' := [some (.ref 572), some (.int (nI N)), some (.int (nI (i + 1))), none, none]) (And.intro rfl (And.intro rfl (And.intro rfl True.intro))) ?_
        exact ih (i + 1) m3 (by omega) (iO.trans kO)
      · skip
        rw [ff_y (a := rkEa 3 i) (by rw [if_neg (by rw [h4]; decide)])]
        refine T_lload_n (pc := 36) (i := 3) dX12_halves_36 rfl rfl ?_
        exact T_lret dX12_halves_37 rfl (Nat.le_refl _) (Nat.le_refl _) ⟨_, rfl, rfl, iO.trans kO⟩
theorem m_reckons {x y : Int32} {X : Td} {LL : List (List Int32)} (hX : mdT (μ.1 573) X) (hL : LawM (μ.1 573) LL) : Ex γ 15 0 0 M_X12_reckons [.ref 572, .int x, .int y] (rm μ) (Rm (some (.long (if (chkN x 0 3 && chkN y 0 4) = true then vO (rkV (nxR X.R (wOf X LL)) x.toNatClampNeg y.toNatClampNeg) else lN 0))) (fun m => MdN μ m (mT1 (chkN x 0 3 && chkN y 0 4)))) := by
  have hX2 : mdT ((wI μ 572 0 (nI 0)).1 573) X := by rw [w573]; exact hX
  have hL2 : LawM ((wI μ 572 0 (nI 0)).1 573) LL := by rw [w573]; exact hL
  refine Ex.of (by decide +kernel) rfl (Nat.le_of_ble_eq_true rfl) ?_
  show T _ _ _ _ _ _ _ _ _ [some (.ref 572), some (.int (x)), some (.int (y))] [] (rm μ)
  refine T_aload_n (pc := 0) (i := 0) dX12_reckons_0 rfl rfl ?_
  refine T_iconst (pc := 1) (v := nI 0) dX12_reckons_1 (by decide) ?_
  refine R_putI (pc := 2) fl_X12_3 ⟨rfl, rfl⟩ (Or.inl rfl) kc_572 lc_572 dX12_reckons_2 ?_
  refine T_aload_n (pc := 5) (i := 0) dX12_reckons_5 rfl rfl ?_
  refine T_iload_n (pc := 6) (i := 1) dX12_reckons_6 rfl rfl ?_
  refine T_iconst (pc := 7) (v := nI 0) dX12_reckons_7 (by decide) ?_
  refine T_iconst (pc := 8) (v := nI 3) dX12_reckons_8 (by decide) ?_
  refine R_callS1 (pc := 9) (av := [.int (x), .int (nI 0), .int (nI 3)]) (rest := [.ref 572]) (Or.inl lk_X12_125) mk_X12_in m_inK dX12_reckons_9 rfl rfl (Nat.le_of_ble_eq_true rfl) (by decide) rfl (Nat.le_refl _) (Nat.le_refl _) ?_
  cases e1 : chkN x 0 3 with
  | false =>
    rw [Bool.false_and, if_neg Bool.false_ne_true]
    show T _ _ _ _ _ _ _ _ 12 [some (.ref 572), some (.int (x)), some (.int (y))] [.int (bI false), .ref 572] (rm (wI μ 572 0 (nI 0)))
    refine R_ifb_eq (pc := 12) (tgt := 24) dX12_reckons_12 (by decide) (fun g1 => ?_) (fun g1 => ?_)
    · skip
      refine T_iconst (pc := 24) (v := nI 1) dX12_reckons_24 (by decide) ?_
      refine T_goto (pc := 25) (tgt := 29) dX12_reckons_25 (by decide) ?_
      refine T_iconst (pc := 29) (v := nI 1) dX12_reckons_29 (by decide) ?_
      refine R_callV1 (pc := 30) (As := [.int (nI 1), .int (nI 1)]) (rest := []) (Or.inl lk_X12_302) mk_X12_throwsIf m_throws1n kc_572 ⟨by decide, rfl⟩ lc_572 dX12_reckons_30 rfl rfl (Nat.le_of_ble_eq_true rfl) (by decide) rfl (Nat.le_refl _) (Nat.le_refl _) ?_
      refine R_ifb_eq (pc := 33) (tgt := 38) dX12_reckons_33 (by decide) (fun h3 => ?_) (fun h3 => ?_)
      · exact absurd h3 (by decide)
      · skip
        refine T_lconst (pc := 36) (v := lN 0) dX12_reckons_36 rfl ?_
        exact T_lret dX12_reckons_37 rfl (Nat.le_refl _) (Nat.le_refl _) ⟨_, rfl, rfl, Tn.two.n⟩
    · exact absurd g1 (by decide)
  | true =>
    rw [Bool.true_and]
    show T _ _ _ _ _ _ _ _ 12 [some (.ref 572), some (.int (x)), some (.int (y))] [.int (bI true), .ref 572] (rm (wI μ 572 0 (nI 0)))
    refine R_ifb_eq (pc := 12) (tgt := 24) dX12_reckons_12 (by decide) (fun g1 => ?_) (fun g1 => ?_)
    · exact absurd g1 (by decide)
    · skip
      refine T_iload_n (pc := 15) (i := 2) dX12_reckons_15 rfl rfl ?_
      refine T_iconst (pc := 16) (v := nI 0) dX12_reckons_16 (by decide) ?_
      refine T_iconst (pc := 17) (v := nI 4) dX12_reckons_17 (by decide) ?_
      refine R_callS1 (pc := 18) (av := [.int (y), .int (nI 0), .int (nI 4)]) (rest := [.ref 572]) (Or.inl lk_X12_125) mk_X12_in m_inK dX12_reckons_18 rfl rfl (Nat.le_of_ble_eq_true rfl) (by decide) rfl (Nat.le_refl _) (Nat.le_refl _) ?_
      cases e2 : chkN y 0 4 with
      | false =>
        rw [if_neg Bool.false_ne_true]
        show T _ _ _ _ _ _ _ _ 21 [some (.ref 572), some (.int (x)), some (.int (y))] [.int (bI false), .ref 572] (rm (wI μ 572 0 (nI 0)))
        refine R_ifb_ne (pc := 21) (tgt := 28) dX12_reckons_21 (by decide) (fun g2 => ?_) (fun g2 => ?_)
        · exact absurd g2 (by decide)
        · skip
          refine T_iconst (pc := 24) (v := nI 1) dX12_reckons_24 (by decide) ?_
          refine T_goto (pc := 25) (tgt := 29) dX12_reckons_25 (by decide) ?_
          refine T_iconst (pc := 29) (v := nI 1) dX12_reckons_29 (by decide) ?_
          refine R_callV1 (pc := 30) (As := [.int (nI 1), .int (nI 1)]) (rest := []) (Or.inl lk_X12_302) mk_X12_throwsIf m_throws1n kc_572 ⟨by decide, rfl⟩ lc_572 dX12_reckons_30 rfl rfl (Nat.le_of_ble_eq_true rfl) (by decide) rfl (Nat.le_refl _) (Nat.le_refl _) ?_
          refine R_ifb_eq (pc := 33) (tgt := 38) dX12_reckons_33 (by decide) (fun h3 => ?_) (fun h3 => ?_)
          · exact absurd h3 (by decide)
          · skip
            refine T_lconst (pc := 36) (v := lN 0) dX12_reckons_36 rfl ?_
            exact T_lret dX12_reckons_37 rfl (Nat.le_refl _) (Nat.le_refl _) ⟨_, rfl, rfl, Tn.two.n⟩
      | true =>
        obtain ⟨K, -, hK, rfl⟩ := chk_of (by decide) (by decide) e1
        obtain ⟨N, -, hN, rfl⟩ := chk_of (by decide) (by decide) e2
        rw [if_pos (c := true = true) rfl, nI_clamp (n := N) (by omega), nI_clamp (n := K) (by omega)]
        show T _ _ _ _ _ _ _ _ 21 [some (.ref 572), some (.int (nI K)), some (.int (nI N))] [.int (bI true), .ref 572] (rm (wI μ 572 0 (nI 0)))
        refine R_ifb_ne (pc := 21) (tgt := 28) dX12_reckons_21 (by decide) (fun g2 => ?_) (fun g2 => ?_)
        · skip
          refine T_iconst (pc := 28) (v := nI 0) dX12_reckons_28 (by decide) ?_
          refine T_iconst (pc := 29) (v := nI 1) dX12_reckons_29 (by decide) ?_
          refine R_callV1 (pc := 30) (As := [.int (nI 0), .int (nI 1)]) (rest := []) (Or.inl lk_X12_302) mk_X12_throwsIf m_throws0n kc_572 ⟨by decide, rfl⟩ lc_572 dX12_reckons_30 rfl rfl (Nat.le_of_ble_eq_true rfl) (by decide) rfl (Nat.le_refl _) (Nat.le_refl _) ?_
          refine R_ifb_eq (pc := 33) (tgt := 38) dX12_reckons_33 (by decide) (fun h3 => ?_) (fun h3 => ?_)
          · skip
            refine T_aload_n (pc := 38) (i := 0) dX12_reckons_38 rfl rfl ?_
            refine R_callVm0 (pc := 39) (As := []) (rest := []) (Or.inl lk_X12_386) mk_X12_asTold (m_asTold hX2 hL2) kc_572 ⟨by decide, rfl⟩ lc_572 dX12_reckons_39 rfl rfl (Nat.le_of_ble_eq_true rfl) (by decide) rfl (Nat.le_refl _) (Nat.le_refl _) (fun m0 h => ?_)
            obtain ⟨hE, hO⟩ := h
            have hw5 : m0.1 573 5 = nI X.way := (hO.i (by decide) id 5).trans hX2.2.2.2.2.2.2.1
            have hEw : mEw m0 X.R LL (wOf X LL) := ⟨hE, hw5⟩
            have fin : ∀ m : SM2, OfM Fs S9 m0 m → MdN μ m 0 := fun m g => MdN.of (F := Fa) (S := S9) ((hO.mono (fun j hj => hj.elim Or.inl (fun z => Or.inr (Or.inl z))) (fun k z => z.elim)).trans (g.mono (fun j hj => Or.inr (Or.inr hj)) (fun k hk => hk))) (by unfold Fa Fs; omega) (fun j => Fa_Fz) (fun k => S9_Sz)
            refine T_iload_n (pc := 42) (i := 1) dX12_reckons_42 rfl rfl ?_
            refine R_if_ne (pc := 43) (tgt := 54) (by omega) dX12_reckons_43 (by decide) (fun k1 => ?_) (fun k1 => ?_)
            · skip
              refine T_iload_n (pc := 54) (i := 1) dX12_reckons_54 rfl rfl ?_
              refine T_iconst (pc := 55) (v := nI 1) dX12_reckons_55 (by decide) ?_
              refine R_icmp_ne (pc := 56) (tgt := 67) (by omega) (by omega) dX12_reckons_56 (by decide) (fun k2 => ?_) (fun k2 => ?_)
              · skip
                refine T_iload_n (pc := 67) (i := 1) dX12_reckons_67 rfl rfl ?_
                refine T_iconst (pc := 68) (v := nI 2) dX12_reckons_68 (by decide) ?_
                refine R_icmp_ne (pc := 69) (tgt := 80) (by omega) (by omega) dX12_reckons_69 (by decide) (fun k3 => ?_) (fun k3 => ?_)
                · skip
                  refine T_aload_n (pc := 80) (i := 0) dX12_reckons_80 rfl rfl ?_
                  refine T_iload_n (pc := 81) (i := 2) dX12_reckons_81 rfl rfl ?_
                  obtain rfl : K = 3 := by omega
                  refine R_callVm1 (pc := 82) (As := [.int (nI N)]) (rest := []) (Or.inl lk_X12_563) mk_X12_halves (m_halves hEw hN) kc_572 ⟨by decide, rfl⟩ lc_572 dX12_reckons_82 rfl rfl (Nat.le_of_ble_eq_true rfl) (by decide) rfl (Nat.le_refl _) (Nat.le_refl _) (fun m2 h9 => ?_)
                  exact T_lret dX12_reckons_85 rfl (Nat.le_refl _) (Nat.le_refl _) ⟨m2, rfl, rfl, fin m2 h9⟩
                · skip
                  subst k3
                  refine T_aload_n (pc := 72) (i := 0) dX12_reckons_72 rfl rfl ?_
                  refine T_iload_n (pc := 73) (i := 2) dX12_reckons_73 rfl rfl ?_
                  refine R_callVm1 (pc := 74) (As := [.int (nI N)]) (rest := []) (Or.inl lk_X12_560) mk_X12_copies (m_copies hEw hN) kc_572 ⟨by decide, rfl⟩ lc_572 dX12_reckons_74 rfl rfl (Nat.le_of_ble_eq_true rfl) (by decide) rfl (Nat.le_refl _) (Nat.le_refl _) (fun m2 h9 => ?_)
                  refine T_goto (pc := 77) (tgt := 85) dX12_reckons_77 (by decide) ?_
                  exact T_lret dX12_reckons_85 rfl (Nat.le_refl _) (Nat.le_refl _) ⟨m2, rfl, rfl, fin m2 h9⟩
              · skip
                subst k2
                refine T_aload_n (pc := 59) (i := 0) dX12_reckons_59 rfl rfl ?_
                refine T_iload_n (pc := 60) (i := 2) dX12_reckons_60 rfl rfl ?_
                refine R_callVm1 (pc := 61) (As := [.int (nI N)]) (rest := []) (Or.inl lk_X12_557) mk_X12_sortings (m_sortings hEw hN) kc_572 ⟨by decide, rfl⟩ lc_572 dX12_reckons_61 rfl rfl (Nat.le_of_ble_eq_true rfl) (by decide) rfl (Nat.le_refl _) (Nat.le_refl _) (fun m2 h9 => ?_)
                refine T_goto (pc := 64) (tgt := 85) dX12_reckons_64 (by decide) ?_
                exact T_lret dX12_reckons_85 rfl (Nat.le_refl _) (Nat.le_refl _) ⟨m2, rfl, rfl, fin m2 h9⟩
            · skip
              subst k1
              refine T_aload_n (pc := 46) (i := 0) dX12_reckons_46 rfl rfl ?_
              refine T_iload_n (pc := 47) (i := 2) dX12_reckons_47 rfl rfl ?_
              refine R_callVm1 (pc := 48) (As := [.int (nI N)]) (rest := []) (Or.inl lk_X12_554) mk_X12_sums (m_sums hEw hN) kc_572 ⟨by decide, rfl⟩ lc_572 dX12_reckons_48 rfl rfl (Nat.le_of_ble_eq_true rfl) (by decide) rfl (Nat.le_refl _) (Nat.le_refl _) (fun m2 h9 => ?_)
              refine T_goto (pc := 51) (tgt := 85) dX12_reckons_51 (by decide) ?_
              exact T_lret dX12_reckons_85 rfl (Nat.le_refl _) (Nat.le_refl _) ⟨m2, rfl, rfl, fin m2 h9⟩
          · exact absurd h3 (by decide)
        · exact absurd g2 (by decide)
end MR1

