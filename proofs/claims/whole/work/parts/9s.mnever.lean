/-! THE MODEL: never, falls -/
theorem srF_hit {C : List Nat → Bool} {lo n : Nat} {w : List Nat} (hC : C w = true) : ∀ {t : List Nat}, srF C lo n t w = some w
  | [] => if_pos hC
  | b :: t => by
    show srE (srF C lo n t w) (srQ (fun v => srch C lo n t (w.set b v)) (lo + n - 1 - w.getD b 0) (w.getD b 0 + 1)) = some w
    rw [srF_hit hC]
    rfl
theorem srF_begin {C : List Nat → Bool} {lo n : Nat} (hn : 1 ≤ n) {t : List Nat} (ht : ∀ b ∈ t, b < 8) : srF C lo n t (lws lo t w0) = srch C lo n t w0 := by
  have h8 : w0.length = 8 := rfl
  rw [srF_low hn (fun b hb => lws_in hb (by rw [h8]; exact ht b hb))]
  exact srch_congr lws_len (fun b hb => lws_out hb)
theorem hoB_m {md : Nat} {r : Bool} {x : Ru} {w : List Nat} (hm : md < 6 ∧ 2 ≤ md) : hoB md r x w = (if r = true then decide (sumZ x w 8 % (md : Int) = 0) else !decide (sumZ x w 8 % (md : Int) = 0)) := by
  unfold hoB
  rw [if_neg (show ¬ md = 0 by omega)]
section MNV
variable {γ : Ga} {μ : SM2}
theorem m_isNever {R : List Ru} {a d w : List Nat} {md : Nat} (hR : mdR (μ.1 573) R) (hW : MWg μ w) (ha : Mw a) (hd : Mw d) (hm : md < 6 ∧ 2 ≤ md) : Ex γ 6 0 0 M_X12_isNever [.ref 572, .long (lN (cd a)), .long (lN (cd d)), .int (nI md)] (rm μ) (Fn (some (.int (bI (okC md R.length (R ++ [(a, d)]) w)))) μ) := by
  have h12 := hR.1.2
  have hw5 := hW.1.2
  have hne : nI md ≠ 0 := fun z => by
    have e := nI_toInt (show md < 2 ^ 31 by omega)
    rw [z] at e
    have e0 : (0 : Int32).toInt = 0 := rfl
    omega
  have hok := okC_n (md := md) (R := R) (x := (a, d)) (w := w)
  rw [hoB_m hm, if_neg Bool.false_ne_true] at hok
  obtain ⟨o, eo⟩ : ∃ o, o = okC md R.length (R ++ [(a, d)]) w := ⟨_, rfl⟩
  rw [← eo] at hok ⊢
  have exitF : ∀ i, i ≤ R.length → o = false → T γ 6 0 0 M_X12_isNever (Fn (some (.int (bI o))) μ) 0 0 27 [some (.ref 572), some (.long (lN (cd a))), none, some (.long (lN (cd d))), none, some (.int (nI md)), some (.int (nI 0)), some (.int (nI i))] [] (rm μ) := fun i hi ho => by
    rw [ho]
    refine T_iload (pc := 27) (i := 7) dX12_isNever_27 rfl ?_
    refine T_aload_n (pc := 29) (i := 0) dX12_isNever_29 rfl rfl ?_
    refine R_callV1 (pc := 30) (As := []) (rest := [.int (nI i)]) (Or.inl lk_X12_121) mk_X12_rules (m_rules hR) kc_572 ⟨by decide, rfl⟩ lc_572 dX12_isNever_30 rfl rfl (Nat.le_of_ble_eq_true rfl) (by decide) rfl (Nat.le_refl _) (Nat.le_refl _) ?_
    refine R_icmp_ge (pc := 33) (tgt := 81) (by omega) (by omega) dX12_isNever_33 (by decide) (fun h1 => ?_) (fun h1 => ?_)
    · skip
      refine T_iload (pc := 81) (i := 6) dX12_isNever_81 rfl ?_
      exact T_iret (pc := 83) (ty := .boolean) dX12_isNever_83 rfl (by decide) (Nat.le_refl _) (Nat.le_refl _) ⟨rfl, rfl⟩
    · skip
      refine T_iload (pc := 36) (i := 6) dX12_isNever_36 rfl ?_
      refine R_if_eq (pc := 38) (tgt := 81) (by omega) dX12_isNever_38 (by decide) (fun h2 => ?_) (fun h2 => ?_)
      · skip
        refine T_iload (pc := 81) (i := 6) dX12_isNever_81 rfl ?_
        exact T_iret (pc := 83) (ty := .boolean) dX12_isNever_83 rfl (by decide) (Nat.le_refl _) (Nat.le_refl _) ⟨rfl, rfl⟩
      · exact absurd rfl h2
  have loop : ∀ f i, i + f = R.length → ¬ sumZ (a, d) w 8 % (md : Int) = 0 → (List.range i).all (fun i => hoB md true (rAt R i) w) = true → T γ 6 0 0 M_X12_isNever (Fn (some (.int (bI o))) μ) 0 0 27 [some (.ref 572), some (.long (lN (cd a))), none, some (.long (lN (cd d))), none, some (.int (nI md)), some (.int (nI 1)), some (.int (nI i))] [] (rm μ) := by
    intro f
    induction f with
    | zero =>
      intro i hi hz hall
      obtain rfl : i = R.length := by omega
      rw [hall, decide_eq_false hz] at hok
      rw [show o = true from hok]
      refine T_iload (pc := 27) (i := 7) dX12_isNever_27 rfl ?_
      refine T_aload_n (pc := 29) (i := 0) dX12_isNever_29 rfl rfl ?_
      refine R_callV1 (pc := 30) (As := []) (rest := [.int (nI R.length)]) (Or.inl lk_X12_121) mk_X12_rules (m_rules hR) kc_572 ⟨by decide, rfl⟩ lc_572 dX12_isNever_30 rfl rfl (Nat.le_of_ble_eq_true rfl) (by decide) rfl (Nat.le_refl _) (Nat.le_refl _) ?_
      refine R_icmp_ge (pc := 33) (tgt := 81) (by omega) (by omega) dX12_isNever_33 (by decide) (fun h1 => ?_) (fun h1 => ?_)
      · skip
        refine T_iload (pc := 81) (i := 6) dX12_isNever_81 rfl ?_
        exact T_iret (pc := 83) (ty := .boolean) dX12_isNever_83 rfl (by decide) (Nat.le_refl _) (Nat.le_refl _) ⟨rfl, rfl⟩
      · exact absurd h1 (by omega)
    | succ f ih =>
      intro i hi hz hall
      have hi1 : i < R.length := by omega
      have op := hR.2.1 i hi1
      have hpl : Mw (rAt R i).1 := op.l
      have hpr : Mw (rAt R i).2 := op.r
      have hzr := z_rem (x := rAt R i) ⟨hpl, hpr⟩ hw5 hm
      have hs := all_s (n := i) (p := fun i => hoB md true (rAt R i) w)
      rw [hall, Bool.true_and, hoB_m hm, if_pos rfl] at hs
      refine T_iload (pc := 27) (i := 7) dX12_isNever_27 rfl ?_
      refine T_aload_n (pc := 29) (i := 0) dX12_isNever_29 rfl rfl ?_
      refine R_callV1 (pc := 30) (As := []) (rest := [.int (nI i)]) (Or.inl lk_X12_121) mk_X12_rules (m_rules hR) kc_572 ⟨by decide, rfl⟩ lc_572 dX12_isNever_30 rfl rfl (Nat.le_of_ble_eq_true rfl) (by decide) rfl (Nat.le_refl _) (Nat.le_refl _) ?_
      refine R_icmp_ge (pc := 33) (tgt := 81) (by omega) (by omega) dX12_isNever_33 (by decide) (fun h1 => ?_) (fun h1 => ?_)
      · exact absurd h1 (by omega)
      · skip
        refine T_iload (pc := 36) (i := 6) dX12_isNever_36 rfl ?_
        refine R_if_eq (pc := 38) (tgt := 81) (by omega) dX12_isNever_38 (by decide) (fun h2 => ?_) (fun h2 => ?_)
        · exact absurd h2 (by decide)
        · skip
          refine T_aload_n (pc := 41) (i := 0) dX12_isNever_41 rfl rfl ?_
          refine T_aload_n (pc := 42) (i := 0) dX12_isNever_42 rfl rfl ?_
          refine T_iload (pc := 43) (i := 7) dX12_isNever_43 rfl ?_
          refine R_callV1 (pc := 45) (As := [.int (nI i)]) (rest := [.ref 572]) (Or.inl lk_X12_107) mk_X12_left (m_left hR hi1) kc_572 ⟨by decide, rfl⟩ lc_572 dX12_isNever_45 rfl rfl (Nat.le_of_ble_eq_true rfl) (by decide) rfl (Nat.le_refl _) (Nat.le_refl _) ?_
          refine R_callV1 (pc := 48) (As := [.long (lN (cd (rAt R i).1))]) (rest := []) (Or.inl lk_X12_515) mk_X12_weightOf (m_weightOf hW hpl) kc_572 ⟨by decide, rfl⟩ lc_572 dX12_isNever_48 rfl rfl (Nat.le_of_ble_eq_true rfl) (by decide) rfl (Nat.le_refl _) (Nat.le_refl _) ?_
          refine T_aload_n (pc := 51) (i := 0) dX12_isNever_51 rfl rfl ?_
          refine T_aload_n (pc := 52) (i := 0) dX12_isNever_52 rfl rfl ?_
          refine T_iload (pc := 53) (i := 7) dX12_isNever_53 rfl ?_
          refine R_callV1 (pc := 55) (As := [.int (nI i)]) (rest := [.ref 572, .int (nI (wgN w (rAt R i).1 (rAt R i).1.length))]) (Or.inl lk_X12_111) mk_X12_right (m_right hR hi1) kc_572 ⟨by decide, rfl⟩ lc_572 dX12_isNever_55 rfl rfl (Nat.le_of_ble_eq_true rfl) (by decide) rfl (Nat.le_refl _) (Nat.le_refl _) ?_
          refine R_callV1 (pc := 58) (As := [.long (lN (cd (rAt R i).2))]) (rest := [.int (nI (wgN w (rAt R i).1 (rAt R i).1.length))]) (Or.inl lk_X12_515) mk_X12_weightOf (m_weightOf hW hpr) kc_572 ⟨by decide, rfl⟩ lc_572 dX12_isNever_58 rfl rfl (Nat.le_of_ble_eq_true rfl) (by decide) rfl (Nat.le_refl _) (Nat.le_refl _) ?_
          refine T_isub (pc := 61) dX12_isNever_61 ?_
          refine T_iload (pc := 62) (i := 5) dX12_isNever_62 rfl ?_
          refine T_irem (pc := 64) dX12_isNever_64 hne ?_
          refine T_if_ne (pc := 65) (tgt := 72) dX12_isNever_65 (by decide) (fun h3 => ?_) (fun h3 => ?_)
          · skip
            have hnz : ¬ sumZ (rAt R i) w 8 % (md : Int) = 0 := fun z => h3 (hzr.mpr z)
            have ho : o = false := by
              rw [hok, all_f hi1 (by rw [hoB_m hm, if_pos rfl]; exact decide_eq_false hnz), Bool.and_false]
            refine T_iconst (pc := 72) (v := nI 0) dX12_isNever_72 (by decide) ?_
            refine T_istore (pc := 73) (i := 6) (ls' := [some (.ref 572), some (.long (lN (cd a))), none, some (.long (lN (cd d))), none, some (.int (nI md)), some (.int (nI 0)), some (.int (nI i))]) dX12_isNever_73 (by decide) rfl ?_
            refine R_iinc (pc := 75) (i := 7) (n := 1) (ls' := [some (.ref 572), some (.long (lN (cd a))), none, some (.long (lN (cd d))), none, some (.int (nI md)), some (.int (nI 0)), some (.int (nI (i + 1)))]) dX12_isNever_75 rfl rfl ?_
            refine T_goto (pc := 78) (tgt := 27) dX12_isNever_78 (by decide) ?_
            exact exitF (i + 1) (by omega) ho
          · skip
            refine T_iconst (pc := 68) (v := nI 1) dX12_isNever_68 (by decide) ?_
            refine T_goto (pc := 69) (tgt := 73) dX12_isNever_69 (by decide) ?_
            refine T_istore (pc := 73) (i := 6) (ls' := [some (.ref 572), some (.long (lN (cd a))), none, some (.long (lN (cd d))), none, some (.int (nI md)), some (.int (nI 1)), some (.int (nI i))]) dX12_isNever_73 (by decide) rfl ?_
            refine R_iinc (pc := 75) (i := 7) (n := 1) (ls' := [some (.ref 572), some (.long (lN (cd a))), none, some (.long (lN (cd d))), none, some (.int (nI md)), some (.int (nI 1)), some (.int (nI (i + 1)))]) dX12_isNever_75 rfl rfl ?_
            refine T_goto (pc := 78) (tgt := 27) dX12_isNever_78 (by decide) ?_
            exact ih (i + 1) (by omega) hz (by rw [hs]; exact decide_eq_true (hzr.mp h3))
  have hzr := z_rem (x := (a, d)) ⟨ha, hd⟩ hw5 hm
  refine Ex.of (by decide +kernel) rfl (Nat.le_of_ble_eq_true rfl) ?_
  show T _ _ _ _ _ _ _ _ _ [some (.ref 572), some (.long (lN (cd a))), none, some (.long (lN (cd d))), none, some (.int (nI md)), none, none] [] (rm μ)
  refine T_aload_n (pc := 0) (i := 0) dX12_isNever_0 rfl rfl ?_
  refine T_lload_n (pc := 1) (i := 1) dX12_isNever_1 rfl rfl ?_
  refine R_callV1 (pc := 2) (As := [.long (lN (cd a))]) (rest := []) (Or.inl lk_X12_515) mk_X12_weightOf (m_weightOf hW ha) kc_572 ⟨by decide, rfl⟩ lc_572 dX12_isNever_2 rfl rfl (Nat.le_of_ble_eq_true rfl) (by decide) rfl (Nat.le_refl _) (Nat.le_refl _) ?_
  refine T_aload_n (pc := 5) (i := 0) dX12_isNever_5 rfl rfl ?_
  refine T_lload_n (pc := 6) (i := 3) dX12_isNever_6 rfl rfl ?_
  refine R_callV1 (pc := 7) (As := [.long (lN (cd d))]) (rest := [.int (nI (wgN w a a.length))]) (Or.inl lk_X12_515) mk_X12_weightOf (m_weightOf hW hd) kc_572 ⟨by decide, rfl⟩ lc_572 dX12_isNever_7 rfl rfl (Nat.le_of_ble_eq_true rfl) (by decide) rfl (Nat.le_refl _) (Nat.le_refl _) ?_
  refine T_isub (pc := 10) dX12_isNever_10 ?_
  refine T_iload (pc := 11) (i := 5) dX12_isNever_11 rfl ?_
  refine T_irem (pc := 13) dX12_isNever_13 hne ?_
  refine T_if_eq (pc := 14) (tgt := 21) dX12_isNever_14 (by decide) (fun h1 => ?_) (fun h1 => ?_)
  · skip
    have ho : o = false := by
      rw [hok, decide_eq_true (hzr.mp h1)]
      rfl
    refine T_iconst (pc := 21) (v := nI 0) dX12_isNever_21 (by decide) ?_
    refine T_istore (pc := 22) (i := 6) (ls' := [some (.ref 572), some (.long (lN (cd a))), none, some (.long (lN (cd d))), none, some (.int (nI md)), some (.int (nI 0)), none]) dX12_isNever_22 (by decide) rfl ?_
    refine T_iconst (pc := 24) (v := nI 0) dX12_isNever_24 (by decide) ?_
    refine T_istore (pc := 25) (i := 7) (ls' := [some (.ref 572), some (.long (lN (cd a))), none, some (.long (lN (cd d))), none, some (.int (nI md)), some (.int (nI 0)), some (.int (nI 0))]) dX12_isNever_25 (by decide) rfl ?_
    exact exitF 0 (Nat.zero_le _) ho
  · skip
    refine T_iconst (pc := 17) (v := nI 1) dX12_isNever_17 (by decide) ?_
    refine T_goto (pc := 18) (tgt := 22) dX12_isNever_18 (by decide) ?_
    refine T_istore (pc := 22) (i := 6) (ls' := [some (.ref 572), some (.long (lN (cd a))), none, some (.long (lN (cd d))), none, some (.int (nI md)), some (.int (nI 1)), none]) dX12_isNever_22 (by decide) rfl ?_
    refine T_iconst (pc := 24) (v := nI 0) dX12_isNever_24 (by decide) ?_
    refine T_istore (pc := 25) (i := 7) (ls' := [some (.ref 572), some (.long (lN (cd a))), none, some (.long (lN (cd d))), none, some (.int (nI md)), some (.int (nI 1)), some (.int (nI 0))]) dX12_isNever_25 (by decide) rfl ?_
    exact loop R.length 0 (Nat.zero_add _) (fun z => h1 (hzr.mpr z)) rfl
theorem m_allFall {R : List Ru} {w : List Nat} (hR : mdR (μ.1 573) R) (hW : MWg μ w) : Ex γ 6 0 0 M_X12_allFall [.ref 572] (rm μ) (Fn (some (.int (bI (okC 0 R.length R w)))) μ) := by
  have h12 := hR.1.2
  have hw5 := hW.1.2
  obtain ⟨o, eo⟩ : ∃ o, o = okC 0 R.length R w := ⟨_, rfl⟩
  have hok : o = (List.range R.length).all (fun i => hoB 0 (decide (i < R.length)) (rAt R i) w) := eo
  rw [← eo]
  have exitF : ∀ i, i ≤ R.length → o = false → T γ 6 0 0 M_X12_allFall (Fn (some (.int (bI o))) μ) 0 0 4 [some (.ref 572), some (.int (nI 0)), some (.int (nI i))] [] (rm μ) := fun i hi ho => by
    rw [ho]
    refine T_iload_n (pc := 4) (i := 2) dX12_allFall_4 rfl rfl ?_
    refine T_aload_n (pc := 5) (i := 0) dX12_allFall_5 rfl rfl ?_
    refine R_callV1 (pc := 6) (As := []) (rest := [.int (nI i)]) (Or.inl lk_X12_121) mk_X12_rules (m_rules hR) kc_572 ⟨by decide, rfl⟩ lc_572 dX12_allFall_6 rfl rfl (Nat.le_of_ble_eq_true rfl) (by decide) rfl (Nat.le_refl _) (Nat.le_refl _) ?_
    refine R_icmp_ge (pc := 9) (tgt := 49) (by omega) (by omega) dX12_allFall_9 (by decide) (fun h1 => ?_) (fun h1 => ?_)
    · skip
      refine T_iload_n (pc := 49) (i := 1) dX12_allFall_49 rfl rfl ?_
      exact T_iret (pc := 50) (ty := .boolean) dX12_allFall_50 rfl (by decide) (Nat.le_refl _) (Nat.le_refl _) ⟨rfl, rfl⟩
    · skip
      refine T_iload_n (pc := 12) (i := 1) dX12_allFall_12 rfl rfl ?_
      refine R_if_eq (pc := 13) (tgt := 49) (by omega) dX12_allFall_13 (by decide) (fun h2 => ?_) (fun h2 => ?_)
      · skip
        refine T_iload_n (pc := 49) (i := 1) dX12_allFall_49 rfl rfl ?_
        exact T_iret (pc := 50) (ty := .boolean) dX12_allFall_50 rfl (by decide) (Nat.le_refl _) (Nat.le_refl _) ⟨rfl, rfl⟩
      · exact absurd rfl h2
  suffices loop : ∀ f i, i + f = R.length → (List.range i).all (fun i => hoB 0 (decide (i < R.length)) (rAt R i) w) = true → T γ 6 0 0 M_X12_allFall (Fn (some (.int (bI o))) μ) 0 0 4 [some (.ref 572), some (.int (nI 1)), some (.int (nI i))] [] (rm μ) by
    refine Ex.of (by decide +kernel) rfl (Nat.le_of_ble_eq_true rfl) ?_
    show T _ _ _ _ _ _ _ _ _ [some (.ref 572), none, none] [] (rm μ)
    refine T_iconst (pc := 0) (v := nI 1) dX12_allFall_0 (by decide) ?_
    refine T_istore_n (pc := 1) (i := 1) (ls' := [some (.ref 572), some (.int (nI 1)), none]) dX12_allFall_1 rfl (by decide) rfl ?_
    refine T_iconst (pc := 2) (v := nI 0) dX12_allFall_2 (by decide) ?_
    refine T_istore_n (pc := 3) (i := 2) (ls' := [some (.ref 572), some (.int (nI 1)), some (.int (nI 0))]) dX12_allFall_3 rfl (by decide) rfl ?_
    exact loop R.length 0 (Nat.zero_add _) rfl
  intro f
  induction f with
  | zero =>
    intro i hi hall
    obtain rfl : i = R.length := by omega
    rw [hall] at hok
    rw [hok]
    refine T_iload_n (pc := 4) (i := 2) dX12_allFall_4 rfl rfl ?_
    refine T_aload_n (pc := 5) (i := 0) dX12_allFall_5 rfl rfl ?_
    refine R_callV1 (pc := 6) (As := []) (rest := [.int (nI R.length)]) (Or.inl lk_X12_121) mk_X12_rules (m_rules hR) kc_572 ⟨by decide, rfl⟩ lc_572 dX12_allFall_6 rfl rfl (Nat.le_of_ble_eq_true rfl) (by decide) rfl (Nat.le_refl _) (Nat.le_refl _) ?_
    refine R_icmp_ge (pc := 9) (tgt := 49) (by omega) (by omega) dX12_allFall_9 (by decide) (fun h1 => ?_) (fun h1 => ?_)
    · skip
      refine T_iload_n (pc := 49) (i := 1) dX12_allFall_49 rfl rfl ?_
      exact T_iret (pc := 50) (ty := .boolean) dX12_allFall_50 rfl (by decide) (Nat.le_refl _) (Nat.le_refl _) ⟨rfl, rfl⟩
    · exact absurd h1 (by omega)
  | succ f ih =>
    intro i hi hall
    have hi1 : i < R.length := by omega
    have op := hR.2.1 i hi1
    have hpl : Mw (rAt R i).1 := op.l
    have hpr : Mw (rAt R i).2 := op.r
    have hz := z_wg (w := w) (x := rAt R i) ⟨hpl, hpr⟩
    have b1 := wg_le hw5 hpl
    have b2 := wg_le hw5 hpr
    have hs := all_s (n := i) (p := fun i => hoB 0 (decide (i < R.length)) (rAt R i) w)
    rw [hall, Bool.true_and] at hs
    have he : hoB 0 (decide (i < R.length)) (rAt R i) w = decide (0 < sumZ (rAt R i) w 8) := by
      unfold hoB
      rw [if_pos rfl]
    refine T_iload_n (pc := 4) (i := 2) dX12_allFall_4 rfl rfl ?_
    refine T_aload_n (pc := 5) (i := 0) dX12_allFall_5 rfl rfl ?_
    refine R_callV1 (pc := 6) (As := []) (rest := [.int (nI i)]) (Or.inl lk_X12_121) mk_X12_rules (m_rules hR) kc_572 ⟨by decide, rfl⟩ lc_572 dX12_allFall_6 rfl rfl (Nat.le_of_ble_eq_true rfl) (by decide) rfl (Nat.le_refl _) (Nat.le_refl _) ?_
    refine R_icmp_ge (pc := 9) (tgt := 49) (by omega) (by omega) dX12_allFall_9 (by decide) (fun h1 => ?_) (fun h1 => ?_)
    · exact absurd h1 (by omega)
    · skip
      refine T_iload_n (pc := 12) (i := 1) dX12_allFall_12 rfl rfl ?_
      refine R_if_eq (pc := 13) (tgt := 49) (by omega) dX12_allFall_13 (by decide) (fun h2 => ?_) (fun h2 => ?_)
      · exact absurd h2 (by decide)
      · skip
        refine T_aload_n (pc := 16) (i := 0) dX12_allFall_16 rfl rfl ?_
        refine T_aload_n (pc := 17) (i := 0) dX12_allFall_17 rfl rfl ?_
        refine T_iload_n (pc := 18) (i := 2) dX12_allFall_18 rfl rfl ?_
        refine R_callV1 (pc := 19) (As := [.int (nI i)]) (rest := [.ref 572]) (Or.inl lk_X12_107) mk_X12_left (m_left hR hi1) kc_572 ⟨by decide, rfl⟩ lc_572 dX12_allFall_19 rfl rfl (Nat.le_of_ble_eq_true rfl) (by decide) rfl (Nat.le_refl _) (Nat.le_refl _) ?_
        refine R_callV1 (pc := 22) (As := [.long (lN (cd (rAt R i).1))]) (rest := []) (Or.inl lk_X12_515) mk_X12_weightOf (m_weightOf hW hpl) kc_572 ⟨by decide, rfl⟩ lc_572 dX12_allFall_22 rfl rfl (Nat.le_of_ble_eq_true rfl) (by decide) rfl (Nat.le_refl _) (Nat.le_refl _) ?_
        refine T_aload_n (pc := 25) (i := 0) dX12_allFall_25 rfl rfl ?_
        refine T_aload_n (pc := 26) (i := 0) dX12_allFall_26 rfl rfl ?_
        refine T_iload_n (pc := 27) (i := 2) dX12_allFall_27 rfl rfl ?_
        refine R_callV1 (pc := 28) (As := [.int (nI i)]) (rest := [.ref 572, .int (nI (wgN w (rAt R i).1 (rAt R i).1.length))]) (Or.inl lk_X12_111) mk_X12_right (m_right hR hi1) kc_572 ⟨by decide, rfl⟩ lc_572 dX12_allFall_28 rfl rfl (Nat.le_of_ble_eq_true rfl) (by decide) rfl (Nat.le_refl _) (Nat.le_refl _) ?_
        refine R_callV1 (pc := 31) (As := [.long (lN (cd (rAt R i).2))]) (rest := [.int (nI (wgN w (rAt R i).1 (rAt R i).1.length))]) (Or.inl lk_X12_515) mk_X12_weightOf (m_weightOf hW hpr) kc_572 ⟨by decide, rfl⟩ lc_572 dX12_allFall_31 rfl rfl (Nat.le_of_ble_eq_true rfl) (by decide) rfl (Nat.le_refl _) (Nat.le_refl _) ?_
        refine R_icmp_le (pc := 34) (tgt := 41) (by omega) (by omega) dX12_allFall_34 (by decide) (fun h3 => ?_) (fun h3 => ?_)
        · skip
          have ho : o = false := by
            rw [hok]
            exact all_f hi1 (by rw [he]; exact decide_eq_false (by omega))
          refine T_iconst (pc := 41) (v := nI 0) dX12_allFall_41 (by decide) ?_
          refine T_istore_n (pc := 42) (i := 1) (ls' := [some (.ref 572), some (.int (nI 0)), some (.int (nI i))]) dX12_allFall_42 rfl (by decide) rfl ?_
          refine R_iinc (pc := 43) (i := 2) (n := 1) (ls' := [some (.ref 572), some (.int (nI 0)), some (.int (nI (i + 1)))]) dX12_allFall_43 rfl rfl ?_
          refine T_goto (pc := 46) (tgt := 4) dX12_allFall_46 (by decide) ?_
          exact exitF (i + 1) (by omega) ho
        · skip
          refine T_iconst (pc := 37) (v := nI 1) dX12_allFall_37 (by decide) ?_
          refine T_goto (pc := 38) (tgt := 42) dX12_allFall_38 (by decide) ?_
          refine T_istore_n (pc := 42) (i := 1) (ls' := [some (.ref 572), some (.int (nI 1)), some (.int (nI i))]) dX12_allFall_42 rfl (by decide) rfl ?_
          refine R_iinc (pc := 43) (i := 2) (n := 1) (ls' := [some (.ref 572), some (.int (nI 1)), some (.int (nI (i + 1)))]) dX12_allFall_43 rfl rfl ?_
          refine T_goto (pc := 46) (tgt := 4) dX12_allFall_46 (by decide) ?_
          exact ih (i + 1) (by omega) (by rw [hs, he]; exact decide_eq_true (by omega))
end MNV

