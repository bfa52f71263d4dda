/-! THE MODEL: OVERLAPS, one after the other -/
def cF (R : List Ru) (Y : List Ov) : Cr := Y.foldl (crS R true) (0, 0, none, none)
theorem cF_snoc {R : List Ru} {Y : List Ov} {o : Ov} : cF R (Y ++ [o]) = crS R true (cF R Y) o := by
  unfold cF
  rw [List.foldl_append]
  rfl
theorem cF_n {R : List Ru} {Y : List Ov} : (cF R Y).2.1 ≤ Y.length := by
  have := (crF_n R true Y (0, 0, none, none)).2
  have e : ((0, 0, none, none) : Cr).2.1 = 0 := rfl
  unfold cF
  omega
theorem ovP_s {R : List Ru} {p q j : Nat} : ovP R p q (j + 1) = if endB R p q (j + 1) = true then ovP R p q j ++ [ovW R p q (j + 1)] else ovP R p q j := rfl
theorem wiP_s {R : List Ru} {p q j : Nat} : wiP R p q (j + 1) = if stB (rAt R p).1 j (rAt R q).1 = true then wiP R p q j ++ [((rAt R p).1, p, q, j)] else wiP R p q j := rfl
theorem ovI_s {R : List Ru} {p q : Nat} (hq : q < R.length) : ovI R (R.length * p + q + 1) = ovI R (R.length * p + q) ++ ovP R p q (ovK R p q) := by
  have h0 : 0 < R.length := by omega
  have e1 : (R.length * p + q) / R.length = p := by rw [Nat.mul_add_div h0, Nat.div_eq_of_lt hq, Nat.add_zero]
  have e2 : (R.length * p + q) % R.length = q := by rw [Nat.mul_add_mod, Nat.mod_eq_of_lt hq]
  show ovI R (R.length * p + q) ++ ovP R ((R.length * p + q) / R.length) ((R.length * p + q) % R.length) (ovK R ((R.length * p + q) / R.length) ((R.length * p + q) % R.length)) = _
  rw [e1, e2]
theorem wiI_s {R : List Ru} {p q : Nat} (hq : q < R.length) : wiI R (R.length * p + q + 1) = wiI R (R.length * p + q) ++ wiP R p q (if p = q then 0 else (rAt R p).1.length) := by
  have h0 : 0 < R.length := by omega
  have e1 : (R.length * p + q) / R.length = p := by rw [Nat.mul_add_div h0, Nat.div_eq_of_lt hq, Nat.add_zero]
  have e2 : (R.length * p + q) % R.length = q := by rw [Nat.mul_add_mod, Nat.mod_eq_of_lt hq]
  show wiI R (R.length * p + q) ++ wiP R ((R.length * p + q) / R.length) ((R.length * p + q) % R.length) (if (R.length * p + q) / R.length = (R.length * p + q) % R.length then 0 else (rAt R ((R.length * p + q) / R.length)).1.length) = _
  rw [e1, e2]
theorem wiP_top {R : List Ru} {p q : Nat} (h1 : 1 ≤ (rAt R q).1.length) : ∀ f j, (rAt R p).1.length < j + (rAt R q).1.length → wiP R p q (j + f) = wiP R p q j
  | 0, _, _ => rfl
  | f + 1, j, h => by
    show wiP R p q (j + f + 1) = _
    rw [wiP_s, if_neg, wiP_top h1 f j h]
    intro z
    have := stB_fit z
    omega
def Stm (μ : SM2) (R : List Ru) (LL : List (List Int32)) (Y : List Ov) (m : SM2) : Prop := CrM m (cF R Y) ∧ mEnv m R LL w00 ∧ OfM Fov S9 μ m
section MCS
variable {γ : Ga} {μ : SM2}
theorem m_overlap {R : List Ru} {LL : List (List Int32)} {p q k : Nat} {c : Cr} (hE : mEnv μ R LL w00) (hp : p < R.length) (hq : q < R.length) (h1 : k ≤ (rAt R p).1.length) (h2 : k ≤ (rAt R q).1.length) (hC : CrM μ c) (hn : c.2.1 < 2 ^ 30) : Ex γ 15 0 0 M_X12_overlap [.ref 572, .int (nI p), .int (nI q), .int (nI k)] (rm μ) (Rm none (fun m => CrM m (if endB R p q k = true then crS R true c (ovW R p q k) else c) ∧ OfM Fov S9 μ m)) := by
  have h12 := hE.1.1.2
  have op := hE.1.2.1 p hp
  have oq := hE.1.2.1 q hq
  have p4 := op.2.2.1
  have q4 := oq.2.2.1
  have p5 := op.2.2.2.2
  have q5 := oq.2.2.2.2
  have hpl : Mw (rAt R p).1 := op.l
  have hql : Mw (rAt R q).1 := oq.l
  have hpr : Mw (rAt R p).2 := op.r
  have hqr : Mw (rAt R q).2 := oq.r
  have e8 : ((rAt R p).1.drop ((rAt R p).1.length - k)).take k = (rAt R p).1.drop ((rAt R p).1.length - k) := List.take_of_length_le (by rw [List.length_drop]; omega)
  have d1 : Mw ((rAt R p).1.drop ((rAt R p).1.length - k)) := ⟨by rw [List.length_drop]; omega, okb_drop hpl.2⟩
  have d2 : Mw ((rAt R q).1.take k) := ⟨by rw [List.length_take]; omega, okb_take hql.2⟩
  have c1 := cd_lt d1
  have c2 := cd_lt d2
  refine Ex.of (by decide +kernel) rfl (Nat.le_of_ble_eq_true rfl) ?_
  show T _ _ _ _ _ _ _ _ _ [some (.ref 572), some (.int (nI p)), some (.int (nI q)), some (.int (nI k))] [] (rm μ)
  refine T_aload_n (pc := 0) (i := 0) dX12_overlap_0 rfl rfl ?_
  refine T_iload_n (pc := 1) (i := 1) dX12_overlap_1 rfl rfl ?_
  refine R_callV1 (pc := 2) (As := [.int (nI p)]) (rest := []) (Or.inl lk_X12_107) mk_X12_left (m_left hE.1 hp) kc_572 ⟨by decide, rfl⟩ lc_572 dX12_overlap_2 rfl rfl (Nat.le_of_ble_eq_true rfl) (by decide) rfl (Nat.le_refl _) (Nat.le_refl _) ?_
  refine T_aload_n (pc := 5) (i := 0) dX12_overlap_5 rfl rfl ?_
  refine T_iload_n (pc := 6) (i := 1) dX12_overlap_6 rfl rfl ?_
  refine R_callV1 (pc := 7) (As := [.int (nI p)]) (rest := [.long (lN (cd (rAt R p).1))]) (Or.inl lk_X12_311) mk_X12_lefts (m_lefts hE.1 hp) kc_572 ⟨by decide, rfl⟩ lc_572 dX12_overlap_7 rfl rfl (Nat.le_of_ble_eq_true rfl) (by decide) rfl (Nat.le_refl _) (Nat.le_refl _) ?_
  refine T_iload_n (pc := 10) (i := 3) dX12_overlap_10 rfl rfl ?_
  refine R_isub (pc := 11) (by omega) dX12_overlap_11 ?_
  refine T_iload_n (pc := 12) (i := 3) dX12_overlap_12 rfl rfl ?_
  refine R_callS1 (pc := 13) (av := [.long (lN (cd (rAt R p).1)), .int (nI (((rAt R p).1.length) - k)), .int (nI k)]) (rest := []) (Or.inl lk_X12_328) mk_X12_part (m_part hpl (by omega)) dX12_overlap_13 rfl rfl (Nat.le_of_ble_eq_true rfl) (by decide) rfl (Nat.le_refl _) (Nat.le_refl _) ?_
  rw [e8]
  refine T_aload_n (pc := 16) (i := 0) dX12_overlap_16 rfl rfl ?_
  refine T_iload_n (pc := 17) (i := 2) dX12_overlap_17 rfl rfl ?_
  refine R_callV1 (pc := 18) (As := [.int (nI q)]) (rest := [.long (lN (cd ((rAt R p).1.drop ((rAt R p).1.length - k))))]) (Or.inl lk_X12_107) mk_X12_left (m_left hE.1 hq) kc_572 ⟨by decide, rfl⟩ lc_572 dX12_overlap_18 rfl rfl (Nat.le_of_ble_eq_true rfl) (by decide) rfl (Nat.le_refl _) (Nat.le_refl _) ?_
  refine T_iconst (pc := 21) (v := nI 0) dX12_overlap_21 (by decide) ?_
  refine T_iload_n (pc := 22) (i := 3) dX12_overlap_22 rfl rfl ?_
  refine R_callS1 (pc := 23) (av := [.long (lN (cd (rAt R q).1)), .int (nI 0), .int (nI k)]) (rest := [.long (lN (cd ((rAt R p).1.drop ((rAt R p).1.length - k))))]) (Or.inl lk_X12_328) mk_X12_part (m_part hql (by omega)) dX12_overlap_23 rfl rfl (Nat.le_of_ble_eq_true rfl) (by decide) rfl (Nat.le_refl _) (Nat.le_refl _) ?_
  rw [List.drop_zero]
  refine T_lcmp (pc := 26) dX12_overlap_26 ?_
  refine R_ln_eq (pc := 27) (tgt := 31) (by omega) (by omega) dX12_overlap_27 (by decide) (fun g1 => ?_) (fun g1 => ?_)
  · skip
    have hb : endB R p q k = true := decide_eq_true (cd_inj d1.2 d2.2 g1)
    rw [if_pos hb]
    have d3 : Mw ((rAt R q).1.drop k) := ⟨by rw [List.length_drop]; omega, okb_drop hql.2⟩
    have d4 : Mw ((rAt R p).1.take ((rAt R p).1.length - k)) := ⟨by rw [List.length_take]; omega, okb_take hpl.2⟩
    have et := trn_at (R := R) (l := (rAt R p).1 ++ (rAt R q).1.drop k) (p := 0) (r := p) (by omega)
    rw [Nat.mul_zero, Nat.zero_add] at et
    have et2 := trn_at (R := R) (l := (rAt R p).1 ++ (rAt R q).1.drop k) (p := (rAt R p).1.length - k) (r := q) (by omega)
    have ea : trn R ((rAt R p).1 ++ (rAt R q).1.drop k) p = (rAt R p).2 ++ (rAt R q).1.drop k := by
      rw [et]
      unfold usd
      rw [List.take_zero, List.nil_append, Nat.zero_add, List.drop_left]
    have eb : trn R ((rAt R p).1 ++ (rAt R q).1.drop k) (100 * ((rAt R p).1.length - k) + q) = (rAt R p).1.take ((rAt R p).1.length - k) ++ (rAt R q).2 := by
      rw [et2]
      unfold usd
      rw [List.take_append_of_le_length (by omega), List.drop_eq_nil_of_le (by rw [List.length_append, List.length_drop]; omega), List.append_nil]
    have es : crS R true c (ovW R p q k) = crU (stl (nxR R w00) 100 ((rAt R p).2 ++ (rAt R q).1.drop k)) (stl (nxR R w00) 100 ((rAt R p).1.take ((rAt R p).1.length - k) ++ (rAt R q).2)) ((rAt R p).1 ++ (rAt R q).1.drop k) c := by
      unfold crS
      rw [if_pos rfl, ← ea, ← eb]
      rfl
    rw [es]
    have hw1 : mdR ((wL μ 572 32 (lN (cd ((rAt R p).1 ++ (rAt R q).1.drop k)))).1 573) R := hE.1
    have hw2 : mdR ((wL (wL μ 572 32 (lN (cd ((rAt R p).1 ++ (rAt R q).1.drop k)))) 572 33 (lN (cd ((rAt R p).2 ++ (rAt R q).1.drop k)))).1 573) R := hE.1
    have ma : Mw ((rAt R p).2 ++ (rAt R q).1.drop k) := ⟨by rw [List.length_append, List.length_drop]; omega, okb_app.mpr ⟨hpr.2, d3.2⟩⟩
    have mb : Mw ((rAt R p).1.take ((rAt R p).1.length - k) ++ (rAt R q).2) := ⟨by rw [List.length_append, List.length_take]; omega, okb_app.mpr ⟨d4.2, hqr.2⟩⟩
    refine T_aload_n (pc := 31) (i := 0) dX12_overlap_31 rfl rfl ?_
    refine T_aload_n (pc := 32) (i := 0) dX12_overlap_32 rfl rfl ?_
    refine T_iload_n (pc := 33) (i := 1) dX12_overlap_33 rfl rfl ?_
    refine R_callV1 (pc := 34) (As := [.int (nI p)]) (rest := [.ref 572]) (Or.inl lk_X12_107) mk_X12_left (m_left hE.1 hp) kc_572 ⟨by decide, rfl⟩ lc_572 dX12_overlap_34 rfl rfl (Nat.le_of_ble_eq_true rfl) (by decide) rfl (Nat.le_refl _) (Nat.le_refl _) ?_
    refine T_aload_n (pc := 37) (i := 0) dX12_overlap_37 rfl rfl ?_
    refine T_iload_n (pc := 38) (i := 2) dX12_overlap_38 rfl rfl ?_
    refine R_callV1 (pc := 39) (As := [.int (nI q)]) (rest := [.long (lN (cd (rAt R p).1)), .ref 572]) (Or.inl lk_X12_107) mk_X12_left (m_left hE.1 hq) kc_572 ⟨by decide, rfl⟩ lc_572 dX12_overlap_39 rfl rfl (Nat.le_of_ble_eq_true rfl) (by decide) rfl (Nat.le_refl _) (Nat.le_refl _) ?_
    refine T_iload_n (pc := 42) (i := 3) dX12_overlap_42 rfl rfl ?_
    refine R_callS1 (pc := 43) (av := [.long (lN (cd (rAt R q).1)), .int (nI k)]) (rest := [.long (lN (cd (rAt R p).1)), .ref 572]) (Or.inl lk_X12_16) mk_X12_behind (m_behind hql (by omega)) dX12_overlap_43 rfl rfl (Nat.le_of_ble_eq_true rfl) (by decide) rfl (Nat.le_refl _) (Nat.le_refl _) ?_
    refine R_callS1 (pc := 46) (av := [.long (lN (cd (rAt R p).1)), .long (lN (cd ((rAt R q).1.drop k)))]) (rest := [.ref 572]) (Or.inl lk_X12_335) mk_X12_join (m_join d3) dX12_overlap_46 rfl rfl (Nat.le_of_ble_eq_true rfl) (by decide) rfl (Nat.le_refl _) (Nat.le_refl _) ?_
    refine R_putL (pc := 49) fl_X12_487 ⟨rfl, rfl⟩ kc_572 lc_572 dX12_overlap_49 ?_
    refine T_aload_n (pc := 52) (i := 0) dX12_overlap_52 rfl rfl ?_
    refine T_aload_n (pc := 53) (i := 0) dX12_overlap_53 rfl rfl ?_
    refine T_iload_n (pc := 54) (i := 1) dX12_overlap_54 rfl rfl ?_
    refine R_callV1 (pc := 55) (As := [.int (nI p)]) (rest := [.ref 572]) (Or.inl lk_X12_111) mk_X12_right (m_right hw1 hp) kc_572 ⟨by decide, rfl⟩ lc_572 dX12_overlap_55 rfl rfl (Nat.le_of_ble_eq_true rfl) (by decide) rfl (Nat.le_refl _) (Nat.le_refl _) ?_
    refine T_aload_n (pc := 58) (i := 0) dX12_overlap_58 rfl rfl ?_
    refine T_iload_n (pc := 59) (i := 2) dX12_overlap_59 rfl rfl ?_
    refine R_callV1 (pc := 60) (As := [.int (nI q)]) (rest := [.long (lN (cd (rAt R p).2)), .ref 572]) (Or.inl lk_X12_107) mk_X12_left (m_left hw1 hq) kc_572 ⟨by decide, rfl⟩ lc_572 dX12_overlap_60 rfl rfl (Nat.le_of_ble_eq_true rfl) (by decide) rfl (Nat.le_refl _) (Nat.le_refl _) ?_
    refine T_iload_n (pc := 63) (i := 3) dX12_overlap_63 rfl rfl ?_
    refine R_callS1 (pc := 64) (av := [.long (lN (cd (rAt R q).1)), .int (nI k)]) (rest := [.long (lN (cd (rAt R p).2)), .ref 572]) (Or.inl lk_X12_16) mk_X12_behind (m_behind hql (by omega)) dX12_overlap_64 rfl rfl (Nat.le_of_ble_eq_true rfl) (by decide) rfl (Nat.le_refl _) (Nat.le_refl _) ?_
    refine R_callS1 (pc := 67) (av := [.long (lN (cd (rAt R p).2)), .long (lN (cd ((rAt R q).1.drop k)))]) (rest := [.ref 572]) (Or.inl lk_X12_335) mk_X12_join (m_join d3) dX12_overlap_67 rfl rfl (Nat.le_of_ble_eq_true rfl) (by decide) rfl (Nat.le_refl _) (Nat.le_refl _) ?_
    refine R_putL (pc := 70) fl_X12_463 ⟨rfl, rfl⟩ kc_572 lc_572 dX12_overlap_70 ?_
    refine T_aload_n (pc := 73) (i := 0) dX12_overlap_73 rfl rfl ?_
    refine T_aload_n (pc := 74) (i := 0) dX12_overlap_74 rfl rfl ?_
    refine T_iload_n (pc := 75) (i := 1) dX12_overlap_75 rfl rfl ?_
    refine R_callV1 (pc := 76) (As := [.int (nI p)]) (rest := [.ref 572]) (Or.inl lk_X12_107) mk_X12_left (m_left hw2 hp) kc_572 ⟨by decide, rfl⟩ lc_572 dX12_overlap_76 rfl rfl (Nat.le_of_ble_eq_true rfl) (by decide) rfl (Nat.le_refl _) (Nat.le_refl _) ?_
    refine T_aload_n (pc := 79) (i := 0) dX12_overlap_79 rfl rfl ?_
    refine T_iload_n (pc := 80) (i := 1) dX12_overlap_80 rfl rfl ?_
    refine R_callV1 (pc := 81) (As := [.int (nI p)]) (rest := [.long (lN (cd (rAt R p).1)), .ref 572]) (Or.inl lk_X12_311) mk_X12_lefts (m_lefts hw2 hp) kc_572 ⟨by decide, rfl⟩ lc_572 dX12_overlap_81 rfl rfl (Nat.le_of_ble_eq_true rfl) (by decide) rfl (Nat.le_refl _) (Nat.le_refl _) ?_
    refine T_iload_n (pc := 84) (i := 3) dX12_overlap_84 rfl rfl ?_
    refine R_isub (pc := 85) (by omega) dX12_overlap_85 ?_
    refine R_callS1 (pc := 86) (av := [.long (lN (cd (rAt R p).1)), .int (nI (((rAt R p).1.length) - k))]) (rest := [.ref 572]) (Or.inl lk_X12_20) mk_X12_ahead (m_ahead hpl (by omega)) dX12_overlap_86 rfl rfl (Nat.le_of_ble_eq_true rfl) (by decide) rfl (Nat.le_refl _) (Nat.le_refl _) ?_
    refine T_aload_n (pc := 89) (i := 0) dX12_overlap_89 rfl rfl ?_
    refine T_iload_n (pc := 90) (i := 2) dX12_overlap_90 rfl rfl ?_
    refine R_callV1 (pc := 91) (As := [.int (nI q)]) (rest := [.long (lN (cd ((rAt R p).1.take ((rAt R p).1.length - k)))), .ref 572]) (Or.inl lk_X12_111) mk_X12_right (m_right hw2 hq) kc_572 ⟨by decide, rfl⟩ lc_572 dX12_overlap_91 rfl rfl (Nat.le_of_ble_eq_true rfl) (by decide) rfl (Nat.le_refl _) (Nat.le_refl _) ?_
    refine R_callS1 (pc := 94) (av := [.long (lN (cd ((rAt R p).1.take ((rAt R p).1.length - k)))), .long (lN (cd (rAt R q).2))]) (rest := [.ref 572]) (Or.inl lk_X12_335) mk_X12_join (m_join hqr) dX12_overlap_94 rfl rfl (Nat.le_of_ble_eq_true rfl) (by decide) rfl (Nat.le_refl _) (Nat.le_refl _) ?_
    refine R_putL (pc := 97) fl_X12_466 ⟨rfl, rfl⟩ kc_572 lc_572 dX12_overlap_97 ?_
    refine T_aload_n (pc := 100) (i := 0) dX12_overlap_100 rfl rfl ?_
    have hx : OfM (fun j => 32 ≤ j ∧ j ≤ 34) S9 μ (wL (wL (wL μ 572 32 (lN (cd ((rAt R p).1 ++ (rAt R q).1.drop k)))) 572 33 (lN (cd ((rAt R p).2 ++ (rAt R q).1.drop k)))) 572 34 (lN (cd ((rAt R p).1.take ((rAt R p).1.length - k) ++ (rAt R q).2)))) := OfM.sG (OfM.sG (OfM.sG (OfM.refl _ _ _) (by omega)) (by omega)) (by omega)
    have hC2 : CrM (wL (wL (wL μ 572 32 (lN (cd ((rAt R p).1 ++ (rAt R q).1.drop k)))) 572 33 (lN (cd ((rAt R p).2 ++ (rAt R q).1.drop k)))) 572 34 (lN (cd ((rAt R p).1.take ((rAt R p).1.length - k) ++ (rAt R q).2)))) c := ⟨⟨hC.1.1, hC.1.2.1, (hx.fl (by omega)).trans hC.1.2.2.1, hC.1.2.2.2.of hx (fun j hj => by omega)⟩, hC.2⟩
    refine R_callVm0 (pc := 101) (As := []) (rest := []) (Or.inl lk_X12_493) mk_X12_counts (m_counts (hE.of rfl rfl rfl) ((n_wL (by omega)).trans (e_wL ⟨rfl, rfl⟩)) (e_wL ⟨rfl, rfl⟩) ((n_wL (by omega)).trans ((n_wL (by omega)).trans (e_wL ⟨rfl, rfl⟩))) ma mb hC2 hn) kc_572 ⟨by decide, rfl⟩ lc_572 dX12_overlap_101 rfl rfl (Nat.le_of_ble_eq_true rfl) (by decide) rfl (Nat.le_refl _) (Nat.le_refl _) (fun m1 h4 => ?_)
    exact T_vret dX12_overlap_104 rfl (Nat.le_refl _) (Nat.le_refl _) ⟨_, rfl, rfl, h4.1, (hx.mono (fun j hj => Or.inr (by omega)) (fun k hk => hk)).trans h4.2⟩
  · skip
    have hb : endB R p q k = false := decide_eq_false (fun z => g1 (by rw [z]))
    rw [if_neg (by rw [hb]; decide)]
    exact T_vret dX12_overlap_30 rfl (Nat.le_refl _) (Nat.le_refl _) ⟨_, rfl, rfl, hC, OfM.refl _ _ _⟩
theorem m_within {R : List Ru} {LL : List (List Int32)} {p q k : Nat} {c : Cr} (hE : mEnv μ R LL w00) (hp : p < R.length) (hq : q < R.length) (h1 : k + (rAt R q).1.length ≤ (rAt R p).1.length) (hC : CrM μ c) (hn : c.2.1 < 2 ^ 30) : Ex γ 15 0 0 M_X12_within [.ref 572, .int (nI p), .int (nI q), .int (nI k)] (rm μ) (Rm none (fun m => CrM m (if stB (rAt R p).1 k (rAt R q).1 = true then crS R true c ((rAt R p).1, p, q, k) else c) ∧ OfM Fov S9 μ m)) := by
  have h12 := hE.1.1.2
  have op := hE.1.2.1 p hp
  have oq := hE.1.2.1 q hq
  have p4 := op.2.2.1
  have q4 := oq.2.2.1
  have q1 := oq.2.1
  have p5 := op.2.2.2.2
  have q5 := oq.2.2.2.2
  have hpl : Mw (rAt R p).1 := op.l
  have hql : Mw (rAt R q).1 := oq.l
  have hpr : Mw (rAt R p).2 := op.r
  have hqr : Mw (rAt R q).2 := oq.r
  have d1 : Mw (((rAt R p).1.drop k).take (rAt R q).1.length) := ⟨by rw [List.length_take, List.length_drop]; omega, okb_take (okb_drop hpl.2)⟩
  have c1 := cd_lt d1
  have c2 := cd_lt hql
  refine Ex.of (by decide +kernel) rfl (Nat.le_of_ble_eq_true rfl) ?_
  show T _ _ _ _ _ _ _ _ _ [some (.ref 572), some (.int (nI p)), some (.int (nI q)), some (.int (nI k))] [] (rm μ)
  refine T_aload_n (pc := 0) (i := 0) dX12_within_0 rfl rfl ?_
  refine T_iload_n (pc := 1) (i := 1) dX12_within_1 rfl rfl ?_
  refine R_callV1 (pc := 2) (As := [.int (nI p)]) (rest := []) (Or.inl lk_X12_107) mk_X12_left (m_left hE.1 hp) kc_572 ⟨by decide, rfl⟩ lc_572 dX12_within_2 rfl rfl (Nat.le_of_ble_eq_true rfl) (by decide) rfl (Nat.le_refl _) (Nat.le_refl _) ?_
  refine T_iload_n (pc := 5) (i := 3) dX12_within_5 rfl rfl ?_
  refine T_aload_n (pc := 6) (i := 0) dX12_within_6 rfl rfl ?_
  refine T_iload_n (pc := 7) (i := 2) dX12_within_7 rfl rfl ?_
  refine R_callV1 (pc := 8) (As := [.int (nI q)]) (rest := [.int (nI k), .long (lN (cd (rAt R p).1))]) (Or.inl lk_X12_311) mk_X12_lefts (m_lefts hE.1 hq) kc_572 ⟨by decide, rfl⟩ lc_572 dX12_within_8 rfl rfl (Nat.le_of_ble_eq_true rfl) (by decide) rfl (Nat.le_refl _) (Nat.le_refl _) ?_
  refine R_callS1 (pc := 11) (av := [.long (lN (cd (rAt R p).1)), .int (nI k), .int (nI ((rAt R q).1.length))]) (rest := []) (Or.inl lk_X12_328) mk_X12_part (m_part hpl (by omega)) dX12_within_11 rfl rfl (Nat.le_of_ble_eq_true rfl) (by decide) rfl (Nat.le_refl _) (Nat.le_refl _) ?_
  refine T_aload_n (pc := 14) (i := 0) dX12_within_14 rfl rfl ?_
  refine T_iload_n (pc := 15) (i := 2) dX12_within_15 rfl rfl ?_
  refine R_callV1 (pc := 16) (As := [.int (nI q)]) (rest := [.long (lN (cd (((rAt R p).1.drop k).take (rAt R q).1.length)))]) (Or.inl lk_X12_107) mk_X12_left (m_left hE.1 hq) kc_572 ⟨by decide, rfl⟩ lc_572 dX12_within_16 rfl rfl (Nat.le_of_ble_eq_true rfl) (by decide) rfl (Nat.le_refl _) (Nat.le_refl _) ?_
  refine T_lcmp (pc := 19) dX12_within_19 ?_
  refine R_ln_eq (pc := 20) (tgt := 24) (by omega) (by omega) dX12_within_20 (by decide) (fun g1 => ?_) (fun g1 => ?_)
  · skip
    have hdr := cd_inj d1.2 hql.2 g1
    have hb : stB (rAt R p).1 k (rAt R q).1 = true := by
      unfold stB
      rw [decide_eq_true (p := k < (rAt R p).1.length) (by omega), decide_eq_true (p := (rAt R q).1.length ≤ (rAt R p).1.length - k) (by omega), decide_eq_true hdr]
      rfl
    rw [if_pos hb]
    have et := trn_at (R := R) (l := (rAt R p).1) (p := 0) (r := p) (by omega)
    rw [Nat.mul_zero, Nat.zero_add] at et
    have et2 := trn_at (R := R) (l := (rAt R p).1) (p := k) (r := q) (by omega)
    have ea : trn R (rAt R p).1 p = (rAt R p).2 := by
      rw [et]
      unfold usd
      rw [List.take_zero, List.nil_append, Nat.zero_add, List.drop_length, List.append_nil]
    have es : crS R true c ((rAt R p).1, p, q, k) = crU (stl (nxR R w00) 100 (rAt R p).2) (stl (nxR R w00) 100 (usd (rAt R p).1 k (rAt R q).1 (rAt R q).2)) (rAt R p).1 c := by
      unfold crS
      rw [if_pos rfl]
      show crU (stl (nxR R w00) 100 (trn R (rAt R p).1 p)) (stl (nxR R w00) 100 (trn R (rAt R p).1 (100 * k + q))) (rAt R p).1 c = _
      rw [ea, et2]
    rw [es]
    have hw1 : mdR ((wL μ 572 32 (lN (cd (rAt R p).1))).1 573) R := hE.1
    have hw2 : mdR ((wL (wL μ 572 32 (lN (cd (rAt R p).1))) 572 33 (lN (cd (rAt R p).2))).1 573) R := hE.1
    have mb : Mw (usd (rAt R p).1 k (rAt R q).1 (rAt R q).2) := usd_Mw hpl.2 hqr.2 h1 (by omega)
    refine T_aload_n (pc := 24) (i := 0) dX12_within_24 rfl rfl ?_
    refine T_aload_n (pc := 25) (i := 0) dX12_within_25 rfl rfl ?_
    refine T_iload_n (pc := 26) (i := 1) dX12_within_26 rfl rfl ?_
    refine R_callV1 (pc := 27) (As := [.int (nI p)]) (rest := [.ref 572]) (Or.inl lk_X12_107) mk_X12_left (m_left hE.1 hp) kc_572 ⟨by decide, rfl⟩ lc_572 dX12_within_27 rfl rfl (Nat.le_of_ble_eq_true rfl) (by decide) rfl (Nat.le_refl _) (Nat.le_refl _) ?_
    refine R_putL (pc := 30) fl_X12_487 ⟨rfl, rfl⟩ kc_572 lc_572 dX12_within_30 ?_
    refine T_aload_n (pc := 33) (i := 0) dX12_within_33 rfl rfl ?_
    refine T_aload_n (pc := 34) (i := 0) dX12_within_34 rfl rfl ?_
    refine T_iload_n (pc := 35) (i := 1) dX12_within_35 rfl rfl ?_
    refine R_callV1 (pc := 36) (As := [.int (nI p)]) (rest := [.ref 572]) (Or.inl lk_X12_111) mk_X12_right (m_right hw1 hp) kc_572 ⟨by decide, rfl⟩ lc_572 dX12_within_36 rfl rfl (Nat.le_of_ble_eq_true rfl) (by decide) rfl (Nat.le_refl _) (Nat.le_refl _) ?_
    refine R_putL (pc := 39) fl_X12_463 ⟨rfl, rfl⟩ kc_572 lc_572 dX12_within_39 ?_
    refine T_aload_n (pc := 42) (i := 0) dX12_within_42 rfl rfl ?_
    refine T_aload_n (pc := 43) (i := 0) dX12_within_43 rfl rfl ?_
    refine T_aload_n (pc := 44) (i := 0) dX12_within_44 rfl rfl ?_
    refine T_iload_n (pc := 45) (i := 1) dX12_within_45 rfl rfl ?_
    refine R_callV1 (pc := 46) (As := [.int (nI p)]) (rest := [.ref 572, .ref 572]) (Or.inl lk_X12_107) mk_X12_left (m_left hw2 hp) kc_572 ⟨by decide, rfl⟩ lc_572 dX12_within_46 rfl rfl (Nat.le_of_ble_eq_true rfl) (by decide) rfl (Nat.le_refl _) (Nat.le_refl _) ?_
    refine T_iload_n (pc := 49) (i := 2) dX12_within_49 rfl rfl ?_
    refine T_iload_n (pc := 50) (i := 3) dX12_within_50 rfl rfl ?_
    refine R_callV1 (pc := 51) (As := [.long (lN (cd (rAt R p).1)), .int (nI q), .int (nI k)]) (rest := [.ref 572]) (Or.inl lk_X12_360) mk_X12_used (m_used hw2 hpl hq h1) kc_572 ⟨by decide, rfl⟩ lc_572 dX12_within_51 rfl rfl (Nat.le_of_ble_eq_true rfl) (by decide) rfl (Nat.le_refl _) (Nat.le_refl _) ?_
    refine R_putL (pc := 54) fl_X12_466 ⟨rfl, rfl⟩ kc_572 lc_572 dX12_within_54 ?_
    refine T_aload_n (pc := 57) (i := 0) dX12_within_57 rfl rfl ?_
    have hx : OfM (fun j => 32 ≤ j ∧ j ≤ 34) S9 μ (wL (wL (wL μ 572 32 (lN (cd (rAt R p).1))) 572 33 (lN (cd (rAt R p).2))) 572 34 (lN (cd (usd (rAt R p).1 k (rAt R q).1 (rAt R q).2)))) := OfM.sG (OfM.sG (OfM.sG (OfM.refl _ _ _) (by omega)) (by omega)) (by omega)
    have hC2 : CrM (wL (wL (wL μ 572 32 (lN (cd (rAt R p).1))) 572 33 (lN (cd (rAt R p).2))) 572 34 (lN (cd (usd (rAt R p).1 k (rAt R q).1 (rAt R q).2)))) c := ⟨⟨hC.1.1, hC.1.2.1, (hx.fl (by omega)).trans hC.1.2.2.1, hC.1.2.2.2.of hx (fun j hj => by omega)⟩, hC.2⟩
    refine R_callVm0 (pc := 58) (As := []) (rest := []) (Or.inl lk_X12_493) mk_X12_counts (m_counts (hE.of rfl rfl rfl) ((n_wL (by omega)).trans (e_wL ⟨rfl, rfl⟩)) (e_wL ⟨rfl, rfl⟩) ((n_wL (by omega)).trans ((n_wL (by omega)).trans (e_wL ⟨rfl, rfl⟩))) hpr mb hC2 hn) kc_572 ⟨by decide, rfl⟩ lc_572 dX12_within_58 rfl rfl (Nat.le_of_ble_eq_true rfl) (by decide) rfl (Nat.le_refl _) (Nat.le_refl _) (fun m1 h4 => ?_)
    exact T_vret dX12_within_61 rfl (Nat.le_refl _) (Nat.le_refl _) ⟨_, rfl, rfl, h4.1, (hx.mono (fun j hj => Or.inr (by omega)) (fun k hk => hk)).trans h4.2⟩
  · skip
    have hb : stB (rAt R p).1 k (rAt R q).1 = false := by
      cases e9 : stB (rAt R p).1 k (rAt R q).1 with
      | false => rfl
      | true => exact absurd (by rw [(stB_get e9).2.2]) g1
    rw [if_neg (by rw [hb]; decide)]
    exact T_vret dX12_within_23 rfl (Nat.le_refl _) (Nat.le_refl _) ⟨_, rfl, rfl, hC, OfM.refl _ _ _⟩
end MCS

