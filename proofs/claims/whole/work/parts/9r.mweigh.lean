/-! THE MODEL: weights -/
def MWg (m : SM2) (w : List Nat) : Prop := (w.length = 8 ∧ ∀ b, w.getD b 0 ≤ 5) ∧ ∀ b, b < 8 → m.1 588 b = nI (w.getD b 0)
def MLs (m : SM2) (lst : List Nat) : Prop := m.1 572 43 = nI lst.length ∧ lst.length ≤ 8 ∧ ∀ i, i < lst.length → lst.getD i 0 < 8 ∧ m.1 587 i = nI (lst.getD i 0)
def F43 (j : Nat) : Prop := j = 43
def Swt (k : Nat) : Prop := k = 587 ∨ k = 588
def S588 (k : Nat) : Prop := k = 588
theorem MWg.of {F S : Nat → Prop} {μ m : SM2} {w : List Nat} (h : MWg μ w) (g : OfM F S μ m) (h1 : ¬ S 588) : MWg m w := ⟨h.1, fun b hb => (g.i (by decide) h1 b).trans (h.2 b hb)⟩
theorem MLs.of {F S : Nat → Prop} {μ m : SM2} {lst : List Nat} (h : MLs μ lst) (g : OfM F S μ m) (h0 : ¬ F 43) (h1 : ¬ S 587) : MLs m lst := ⟨(g.fi h0).trans h.1, h.2.1, fun i hi => ⟨(h.2.2 i hi).1, (g.i (by decide) h1 i).trans (h.2.2 i hi).2⟩⟩
theorem MWg.set {μ : SM2} {w : List Nat} {b v : Nat} (h : MWg μ w) (hb : b < 8) (hv : v ≤ 5) : MWg (wI μ 588 b (nI v)) (w.set b v) := by
  refine ⟨⟨by rw [List.length_set]; exact h.1.1, fun c => ?_⟩, fun c hc => ?_⟩
  · rw [getD_set]
    split
    · exact hv
    · exact h.1.2 c
  · rw [getD_set]
    by_cases e : c = b
    · rw [if_pos ⟨e, by have := h.1.1; omega⟩]
      exact e_wI ⟨rfl, e⟩
    · rw [if_neg (fun z => e z.1)]
      exact (n_wI (by omega)).trans (h.2 c hc)
def kx : Nat → Int32
  | 0 => -1
  | n + 1 => nI n
theorem kx_eq : ∀ n : Nat, nI n - nI 1 = kx n
  | 0 => by decide
  | n + 1 => by
    rw [nI_s]
    exact Int32.add_sub_cancel (nI n) 1
theorem kx_dec (n : Nat) : nI n + (-1) = kx n := by
  rw [← kx_eq, Int32.sub_eq_add_neg]
  rfl
theorem dropc9 {l : List Nat} {j : Nat} (h : j < l.length) : l.drop j = l.getD j 0 :: l.drop (j + 1) := by
  rw [List.drop_eq_getElem_cons h, List.getD_eq_getElem?_getD, List.getElem?_eq_getElem h]
  rfl
theorem wg_le {w l : List Nat} (hw : ∀ b, w.getD b 0 ≤ 5) (hl : Mw l) : wgN w l l.length ≤ 100 := by
  rw [wg_wt (Nat.le_refl _), List.take_length]
  have := wtS_le hw l
  have h2 := hl.1
  omega
theorem z_wg {w : List Nat} {x : Ru} (h : Mw x.1 ∧ Mw x.2) : sumZ x w 8 = (wgN w x.1 x.1.length : Int) - wgN w x.2 x.2.length := by
  rw [wg_wt (Nat.le_refl _), wg_wt (Nat.le_refl _), List.take_length, List.take_length]
  exact sumZ_wt ⟨h.1.2, h.2.2⟩
theorem ofI_sub (a b : Nat) : nI a - nI b = Int32.ofInt ((a : Int) - b) := by rw [Int32.ofInt_sub, ofI_n, ofI_n]
theorem z_rem {w : List Nat} {x : Ru} {md : Nat} (h : Mw x.1 ∧ Mw x.2) (hw : ∀ b, w.getD b 0 ≤ 5) (hm : md < 6 ∧ 2 ≤ md) : irem (nI (wgN w x.1 x.1.length) - nI (wgN w x.2 x.2.length)) (nI md) = 0 ↔ sumZ x w 8 % (md : Int) = 0 := by
  have hb := sumZ_b h hw
  rw [ofI_sub, ← z_wg h]
  exact irem_0 hb.1 hb.2 hm
theorem all_s {n : Nat} {p : Nat → Bool} : (List.range (n + 1)).all p = ((List.range n).all p && p n) := by
  rw [List.range_succ, List.all_append]
  simp
theorem rAt_ap9 {R : List Ru} {x : Ru} {i : Nat} (h : i < R.length) : rAt (R ++ [x]) i = rAt R i := by
  show (R ++ [x]).getD i ([], []) = R.getD i ([], [])
  rw [List.getD_eq_getElem?_getD, List.getD_eq_getElem?_getD, List.getElem?_append_left h]
theorem rAt_end {R : List Ru} {x : Ru} : rAt (R ++ [x]) R.length = x := by
  show (R ++ [x]).getD R.length ([], []) = x
  rw [List.getD_eq_getElem?_getD, List.getElem?_append_right (Nat.le_refl _), Nat.sub_self]
  rfl
theorem okC_n {md : Nat} {R : List Ru} {x : Ru} {w : List Nat} : okC md R.length (R ++ [x]) w = (hoB md false x w && (List.range R.length).all (fun i => hoB md true (rAt R i) w)) := by
  unfold okC
  rw [List.length_append]
  show (List.range (R.length + 1)).all (fun i => hoB md (decide (i < R.length)) (rAt (R ++ [x]) i) w) = _
  rw [all_s, rAt_end, decide_eq_false (Nat.lt_irrefl _), Bool.and_comm]
  have e : (List.range R.length).all (fun i => hoB md (decide (i < R.length)) (rAt (R ++ [x]) i) w) = (List.range R.length).all (fun i => hoB md true (rAt R i) w) := by
    rw [Bool.eq_iff_iff, List.all_eq_true, List.all_eq_true]
    constructor
    · intro h i hi
      have h1 := List.mem_range.mp hi
      have h2 := h i hi
      rw [rAt_ap9 h1, decide_eq_true h1] at h2
      exact h2
    · intro h i hi
      have h1 := List.mem_range.mp hi
      have h2 := h i hi
      rw [rAt_ap9 h1, decide_eq_true h1]
      exact h2
  rw [e]
section MW1
variable {γ : Ga} {μ : SM2}
theorem m_weightOf {w l : List Nat} (h : MWg μ w) (hl : Mw l) : Ex γ 5 0 0 M_X12_weightOf [.ref 572, .long (lN (cd l))] (rm μ) (Fn (some (.int (nI (wgN w l l.length)))) μ) := by
  have h20 := hl.1
  refine Ex.of (by decide +kernel) rfl (Nat.le_of_ble_eq_true rfl) ?_
  show T _ _ _ _ _ _ _ _ _ [some (.ref 572), some (.long (lN (cd l))), none, none, none] [] (rm μ)
  refine T_iconst (pc := 0) (v := nI 0) dX12_weightOf_0 (by decide) ?_
  refine T_istore_n (pc := 1) (i := 3) (ls' := [some (.ref 572), some (.long (lN (cd l))), none, some (.int (nI 0)), none]) dX12_weightOf_1 rfl (by decide) rfl ?_
  refine T_iconst (pc := 2) (v := nI 0) dX12_weightOf_2 (by decide) ?_
  refine T_istore (pc := 3) (i := 4) (ls' := [some (.ref 572), some (.long (lN (cd l))), none, some (.int (nI 0)), some (.int (nI 0))]) dX12_weightOf_3 (by decide) rfl ?_
  suffices loop : ∀ (f k : Nat), k + f = l.length → T γ 5 0 0 M_X12_weightOf (Fn (some (.int (nI (wgN w l l.length)))) μ) 0 0 5 [some (.ref 572), some (.long (lN (cd l))), none, some (.int (nI (wgN w l k))), some (.int (nI k))] [] (rm μ) by
    exact loop l.length 0 (Nat.zero_add _)
  intro f
  induction f with
  | zero =>
    intro k hk
    have e : k = l.length := by omega
    subst e
    refine T_iload (pc := 5) (i := 4) dX12_weightOf_5 rfl ?_
    refine T_lload_n (pc := 7) (i := 1) dX12_weightOf_7 rfl rfl ?_
    refine R_callS1 (pc := 8) (av := [.long (lN (cd l))]) (rest := [.int (nI l.length)]) (Or.inl lk_X12_13) mk_X12_size (m_size hl) dX12_weightOf_8 rfl rfl (Nat.le_of_ble_eq_true rfl) (by decide) rfl (Nat.le_refl _) (Nat.le_refl _) ?_
    refine R_icmp_ge (pc := 11) (tgt := 34) (by omega) (by omega) dX12_weightOf_11 (by decide) (fun h1 => ?_) (fun h1 => ?_)
    · skip
      refine T_iload_n (pc := 34) (i := 3) dX12_weightOf_34 rfl rfl ?_
      exact T_iret (pc := 35) (ty := .int) dX12_weightOf_35 rfl rfl (Nat.le_refl _) (Nat.le_refl _) ⟨rfl, rfl⟩
    · exact absurd h1 (by omega)
  | succ f ih =>
    intro k hk
    have hb := okb_gd hl.2 (i := k) (by omega)
    refine T_iload (pc := 5) (i := 4) dX12_weightOf_5 rfl ?_
    refine T_lload_n (pc := 7) (i := 1) dX12_weightOf_7 rfl rfl ?_
    refine R_callS1 (pc := 8) (av := [.long (lN (cd l))]) (rest := [.int (nI k)]) (Or.inl lk_X12_13) mk_X12_size (m_size hl) dX12_weightOf_8 rfl rfl (Nat.le_of_ble_eq_true rfl) (by decide) rfl (Nat.le_refl _) (Nat.le_refl _) ?_
    refine R_icmp_ge (pc := 11) (tgt := 34) (by omega) (by omega) dX12_weightOf_11 (by decide) (fun h1 => ?_) (fun h1 => ?_)
    · exact absurd h1 (by omega)
    · skip
      refine T_iload_n (pc := 14) (i := 3) dX12_weightOf_14 rfl rfl ?_
      refine T_aload_n (pc := 15) (i := 0) dX12_weightOf_15 rfl rfl ?_
      refine R_getR (pc := 16) (i := 588) fl_X12_80 rfl kc_572 lc_572 rc_572_42 dX12_weightOf_16 ?_
      refine T_lload_n (pc := 19) (i := 1) dX12_weightOf_19 rfl rfl ?_
      refine T_iload (pc := 20) (i := 4) dX12_weightOf_20 rfl ?_
      refine R_callS1 (pc := 22) (av := [.long (lN (cd l)), .int (nI k)]) (rest := [.ref 588, .int (nI (wgN w l k))]) (Or.inl lk_X12_199) mk_X12_beastOf (m_beastOf hl (by omega)) dX12_weightOf_22 rfl rfl (Nat.le_of_ble_eq_true rfl) (by decide) rfl (Nat.le_refl _) (Nat.le_refl _) ?_
      refine R_iald (pc := 25) (x := nI (w.getD (l.getD k 0) 0)) kc_588 lc_588 (by omega) (by first | decide | assumption) (h.2 _ hb) dX12_weightOf_25 ?_
      refine R_iadd (pc := 26) dX12_weightOf_26 ?_
      refine T_istore_n (pc := 27) (i := 3) (ls' := [some (.ref 572), some (.long (lN (cd l))), none, some (.int (nI ((wgN w l k) + (w.getD (l.getD k 0) 0)))), some (.int (nI k))]) dX12_weightOf_27 rfl (by decide) rfl ?_
      refine R_iinc (pc := 28) (i := 4) (n := 1) (ls' := [some (.ref 572), some (.long (lN (cd l))), none, some (.int (nI ((wgN w l k) + (w.getD (l.getD k 0) 0)))), some (.int (nI (k + 1)))]) dX12_weightOf_28 rfl rfl ?_
      refine T_goto (pc := 31) (tgt := 5) dX12_weightOf_31 (by decide) ?_
      exact ih (k + 1) (by omega)
theorem m_weighs {K lo : Nat} (hK : K < 2 ^ 8) (hlo : lo ≤ 1) : Ex γ 2 0 0 M_X12_weighs [.ref 572, .int (nI K), .int (nI lo)] (rm μ) (Rm none (fun m => (MLs m (lsB K 8) ∧ MWg m (lws lo (lsB K 8) w0)) ∧ OfM F43 Swt μ m)) := by
  have hln : ∀ i, i ≤ 8 → (lsB K i).length ≤ i := fun i hi => by
    rw [lsB_len]
    have : ∀ j, pcn K j ≤ j := fun j => by
      induction j with
      | zero => exact Nat.le_refl _
      | succ j ih =>
        show pcn K j + K / 2 ^ j % 2 ≤ j + 1
        omega
    exact this i
  have hmem : ∀ c, c < 8 → (lws lo (lsB K 8) w0).getD c 0 = if K / 2 ^ c % 2 = 1 then lo else 0 := fun c hc => by
    by_cases e : K / 2 ^ c % 2 = 1
    · rw [if_pos e]
      exact lws_in ((lsB_mem 8).mpr ⟨hc, e⟩) (by unfold w0; rw [List.length_replicate]; exact hc)
    · rw [if_neg e, lws_out (fun z => e ((lsB_mem 8).mp z).2)]
      exact w0_g c
  have hw8 : (lws lo (lsB K 8) w0).length = 8 := by rw [lws_len]; rfl
  suffices loop : ∀ (f b : Nat) (m : SM2), b + f = 8 → (m.1 572 43 = nI (lsB K b).length ∧ ∀ i, i < (lsB K b).length → m.1 587 i = nI ((lsB K b).getD i 0)) → (∀ c, c < b → m.1 588 c = nI (if K / 2 ^ c % 2 = 1 then lo else 0)) → OfM F43 Swt μ m → T γ 2 0 0 M_X12_weighs (Rm none (fun m => (MLs m (lsB K 8) ∧ MWg m (lws lo (lsB K 8) w0)) ∧ OfM F43 Swt μ m)) 0 0 7 [some (.ref 572), some (.int (nI K)), some (.int (nI lo)), some (.int (nI b))] [] (rm m) by
    refine Ex.of (by decide +kernel) rfl (Nat.le_of_ble_eq_true rfl) ?_
    show T _ _ _ _ _ _ _ _ _ [some (.ref 572), some (.int (nI K)), some (.int (nI lo)), none] [] (rm μ)
    refine T_aload_n (pc := 0) (i := 0) dX12_weighs_0 rfl rfl ?_
    refine T_iconst (pc := 1) (v := nI 0) dX12_weighs_1 (by decide) ?_
    refine R_putI (pc := 2) fl_X12_512 ⟨rfl, rfl⟩ (Or.inl rfl) kc_572 lc_572 dX12_weighs_2 ?_
    refine T_iconst (pc := 5) (v := nI 0) dX12_weighs_5 (by decide) ?_
    refine T_istore_n (pc := 6) (i := 3) (ls' := [some (.ref 572), some (.int (nI K)), some (.int (nI lo)), some (.int (nI 0))]) dX12_weighs_6 rfl (by decide) rfl ?_
    exact loop 8 0 _ rfl ⟨e_wI ⟨rfl, rfl⟩, fun i z => absurd z (Nat.not_lt_zero i)⟩ (fun c z => absurd z (Nat.not_lt_zero c)) (OfM.sF (OfM.refl _ _ _) rfl)
  intro f
  induction f with
  | zero =>
    intro b m hb hL hW hO
    obtain rfl : b = 8 := by omega
    refine T_iload_n (pc := 7) (i := 3) dX12_weighs_7 rfl rfl ?_
    refine T_bipush (pc := 8) (v := nI 8) dX12_weighs_8 (by decide) ?_
    refine R_icmp_ge (pc := 10) (tgt := 69) (by omega) (by omega) dX12_weighs_10 (by decide) (fun h1 => ?_) (fun h1 => ?_)
    · skip
      have hall : ∀ c, (lws lo (lsB K 8) w0).getD c 0 ≤ 5 := fun c => by
        by_cases e : c < 8
        · rw [hmem c e]
          split <;> omega
        · rw [List.getD_eq_getElem?_getD, List.getElem?_eq_none (by rw [hw8]; omega)]
          exact Nat.zero_le _
      exact T_vret dX12_weighs_69 rfl (Nat.le_refl _) (Nat.le_refl _) ⟨_, rfl, rfl, ⟨⟨hL.1, hln 8 (Nat.le_refl _), fun i hi => ⟨((lsB_mem 8).mp (getD_mem hi)).1, hL.2 i hi⟩⟩, ⟨hw8, hall⟩, fun c hc => (hW c hc).trans (congrArg nI (hmem c hc).symm)⟩, hO⟩
    · exact absurd h1 (by decide)
  | succ f ih =>
    intro b m hb hL hW hO
    have hb8 : b < 8 := by omega
    have hl8 := hln b (by omega)
    by_cases e : K / 2 ^ b % 2 = 1
    · have el : lsB K (b + 1) = lsB K b ++ [b] := if_pos e
      refine T_iload_n (pc := 7) (i := 3) dX12_weighs_7 rfl rfl ?_
      refine T_bipush (pc := 8) (v := nI 8) dX12_weighs_8 (by decide) ?_
      refine R_icmp_ge (pc := 10) (tgt := 69) (by omega) (by omega) dX12_weighs_10 (by decide) (fun h1 => ?_) (fun h1 => ?_)
      · exact absurd h1 (by omega)
      · skip
        refine T_aload_n (pc := 13) (i := 0) dX12_weighs_13 rfl rfl ?_
        refine R_getR (pc := 14) (i := 588) fl_X12_80 rfl kc_572 lc_572 rc_572_42 dX12_weighs_14 ?_
        refine T_iload_n (pc := 17) (i := 3) dX12_weighs_17 rfl rfl ?_
        refine T_iload_n (pc := 18) (i := 1) dX12_weighs_18 rfl rfl ?_
        refine T_iload_n (pc := 19) (i := 3) dX12_weighs_19 rfl rfl ?_
        refine R_callS1 (pc := 20) (av := [.int (nI K), .int (nI b)]) (rest := [.int (nI b), .ref 588]) (Or.inl lk_X12_325) mk_X12_has (m_has (by omega) (by omega)) dX12_weighs_20 rfl rfl (Nat.le_of_ble_eq_true rfl) (by decide) rfl (Nat.le_refl _) (Nat.le_refl _) ?_
        refine R_ifb_eq (pc := 23) (tgt := 30) dX12_weighs_23 (by decide) (fun h2 => ?_) (fun h2 => ?_)
        · exact absurd e (of_decide_eq_false h2)
        · skip
          refine T_iload_n (pc := 26) (i := 2) dX12_weighs_26 rfl rfl ?_
          refine T_goto (pc := 27) (tgt := 31) dX12_weighs_27 (by decide) ?_
          refine R_iast (pc := 31) kc_588 lc_588 (by omega) (by first | decide | assumption) dX12_weighs_31 ?_
          refine T_iload_n (pc := 32) (i := 1) dX12_weighs_32 rfl rfl ?_
          refine T_iload_n (pc := 33) (i := 3) dX12_weighs_33 rfl rfl ?_
          refine R_callS1 (pc := 34) (av := [.int (nI K), .int (nI b)]) (rest := []) (Or.inl lk_X12_325) mk_X12_has (m_has (by omega) (by omega)) dX12_weighs_34 rfl rfl (Nat.le_of_ble_eq_true rfl) (by decide) rfl (Nat.le_refl _) (Nat.le_refl _) ?_
          refine R_ifb_ne (pc := 37) (tgt := 43) dX12_weighs_37 (by decide) (fun h3 => ?_) (fun h3 => ?_)
          · skip
            refine T_aload_n (pc := 43) (i := 0) dX12_weighs_43 rfl rfl ?_
            refine R_getR (pc := 44) (i := 587) fl_X12_77 rfl kc_572 lc_572 rc_572_41 dX12_weighs_44 ?_
            refine T_aload_n (pc := 47) (i := 0) dX12_weighs_47 rfl rfl ?_
            refine R_getI (pc := 48) (x := nI ((lsB K b).length)) fl_X12_512 rfl kc_572 lc_572 ((wI_ne (by first | omega | simp)).trans hL.1) dX12_weighs_48 ?_
            refine T_iload_n (pc := 51) (i := 3) dX12_weighs_51 rfl rfl ?_
            refine R_iast (pc := 52) kc_587 lc_587 (by omega) (by first | decide | assumption) dX12_weighs_52 ?_
            refine T_aload_n (pc := 53) (i := 0) dX12_weighs_53 rfl rfl ?_
            refine T_dup (pc := 54) dX12_weighs_54 rfl ?_
            refine R_getI (pc := 55) (x := nI ((lsB K b).length)) fl_X12_512 rfl kc_572 lc_572 ((wI_ne (by first | omega | simp)).trans ((wI_ne (by first | omega | simp)).trans hL.1)) dX12_weighs_55 ?_
            refine T_iconst (pc := 58) (v := nI 1) dX12_weighs_58 (by decide) ?_
            refine R_iadd (pc := 59) dX12_weighs_59 ?_
            refine R_putI (pc := 60) fl_X12_512 ⟨rfl, rfl⟩ (Or.inl rfl) kc_572 lc_572 dX12_weighs_60 ?_
            refine R_iinc (pc := 63) (i := 3) (n := 1) (ls' := [some (.ref 572), some (.int (nI K)), some (.int (nI lo)), some (.int (nI (b + 1)))]) dX12_weighs_63 rfl rfl ?_
            refine T_goto (pc := 66) (tgt := 7) dX12_weighs_66 (by decide) ?_
            refine ih (b + 1) _ (by omega) ⟨?_, fun i hi => ?_⟩ (fun c hc => ?_) (OfM.sF (OfM.sI (OfM.sI hO (Or.inr rfl) (by decide)) (Or.inl rfl) (by decide)) rfl)
            · rw [el, List.length_append]
              exact e_wI ⟨rfl, rfl⟩
            · rw [el, List.length_append] at hi
              have hi2 : i < (lsB K b).length + 1 := hi
              rw [el, show (lsB K b ++ [b]).getD i 0 = if i < (lsB K b).length then (lsB K b).getD i 0 else b from getD_snoc hi2]
              by_cases z : i < (lsB K b).length
              · rw [if_pos z]
                exact (n_wI (by omega)).trans ((n_wI (by omega)).trans ((n_wI (by omega)).trans (hL.2 i z)))
              · rw [if_neg z]
                exact (n_wI (by omega)).trans (e_wI ⟨rfl, by omega⟩)
            · by_cases z : c = b
              · rw [z, if_pos e]
                exact (n_wI (by omega)).trans ((n_wI (by omega)).trans (e_wI ⟨rfl, rfl⟩))
              · exact (n_wI (by omega)).trans ((n_wI (by omega)).trans ((n_wI (by omega)).trans (hW c (by omega))))
          · exact absurd e (of_decide_eq_false h3)
    · have el : lsB K (b + 1) = lsB K b := if_neg e
      refine T_iload_n (pc := 7) (i := 3) dX12_weighs_7 rfl rfl ?_
      refine T_bipush (pc := 8) (v := nI 8) dX12_weighs_8 (by decide) ?_
      refine R_icmp_ge (pc := 10) (tgt := 69) (by omega) (by omega) dX12_weighs_10 (by decide) (fun h1 => ?_) (fun h1 => ?_)
      · exact absurd h1 (by omega)
      · skip
        refine T_aload_n (pc := 13) (i := 0) dX12_weighs_13 rfl rfl ?_
        refine R_getR (pc := 14) (i := 588) fl_X12_80 rfl kc_572 lc_572 rc_572_42 dX12_weighs_14 ?_
        refine T_iload_n (pc := 17) (i := 3) dX12_weighs_17 rfl rfl ?_
        refine T_iload_n (pc := 18) (i := 1) dX12_weighs_18 rfl rfl ?_
        refine T_iload_n (pc := 19) (i := 3) dX12_weighs_19 rfl rfl ?_
        refine R_callS1 (pc := 20) (av := [.int (nI K), .int (nI b)]) (rest := [.int (nI b), .ref 588]) (Or.inl lk_X12_325) mk_X12_has (m_has (by omega) (by omega)) dX12_weighs_20 rfl rfl (Nat.le_of_ble_eq_true rfl) (by decide) rfl (Nat.le_refl _) (Nat.le_refl _) ?_
        refine R_ifb_eq (pc := 23) (tgt := 30) dX12_weighs_23 (by decide) (fun h2 => ?_) (fun h2 => ?_)
        · skip
          refine T_iconst (pc := 30) (v := nI 0) dX12_weighs_30 (by decide) ?_
          refine R_iast (pc := 31) kc_588 lc_588 (by omega) (by first | decide | assumption) dX12_weighs_31 ?_
          refine T_iload_n (pc := 32) (i := 1) dX12_weighs_32 rfl rfl ?_
          refine T_iload_n (pc := 33) (i := 3) dX12_weighs_33 rfl rfl ?_
          refine R_callS1 (pc := 34) (av := [.int (nI K), .int (nI b)]) (rest := []) (Or.inl lk_X12_325) mk_X12_has (m_has (by omega) (by omega)) dX12_weighs_34 rfl rfl (Nat.le_of_ble_eq_true rfl) (by decide) rfl (Nat.le_refl _) (Nat.le_refl _) ?_
          refine R_ifb_ne (pc := 37) (tgt := 43) dX12_weighs_37 (by decide) (fun h3 => ?_) (fun h3 => ?_)
          · exact absurd (of_decide_eq_true h3) e
          · skip
            refine T_goto (pc := 40) (tgt := 63) dX12_weighs_40 (by decide) ?_
            refine R_iinc (pc := 63) (i := 3) (n := 1) (ls' := [some (.ref 572), some (.int (nI K)), some (.int (nI lo)), some (.int (nI (b + 1)))]) dX12_weighs_63 rfl rfl ?_
            refine T_goto (pc := 66) (tgt := 7) dX12_weighs_66 (by decide) ?_
            refine ih (b + 1) _ (by omega) ⟨?_, fun i hi => ?_⟩ (fun c hc => ?_) (OfM.sI hO (Or.inr rfl) (by decide))
            · rw [el]
              exact (n_wI (by omega)).trans hL.1
            · rw [el] at hi ⊢
              exact (n_wI (by omega)).trans (hL.2 i hi)
            · by_cases z : c = b
              · rw [z, if_neg e]
                exact e_wI ⟨rfl, rfl⟩
              · exact (n_wI (by omega)).trans (hW c (by omega))
        · exact absurd (of_decide_eq_true h2) e
theorem m_nextWeights {lo hi : Nat} {lst w : List Nat} (hL : MLs μ lst) (hW : MWg μ w) (nd : ndL lst) (hd : Dg hi lst w) (hlo : lo ≤ hi) (hhi : hi ≤ 5) : Ex γ 1 0 0 M_X12_nextWeights [.ref 572, .int (nI lo), .int (nI hi)] (rm μ) (Rm (some (.int (bI (nxO lo hi lst w).isSome))) (fun m => (∃ v, MWg m v ∧ ∀ z, nxO lo hi lst w = some z → z = v) ∧ OfM Noth S588 μ m)) := by
  have h8 := hL.2.1
  suffices loop : ∀ (j : Nat) (m : SM2), j ≤ lst.length → (∀ c ∈ lst.drop j, ¬ w.getD c 0 < hi) → MWg m (lws lo (lst.drop j) w) → OfM Noth S588 μ m → T γ 1 0 0 M_X12_nextWeights (Rm (some (.int (bI (nxO lo hi lst w).isSome))) (fun m => (∃ v, MWg m v ∧ ∀ z, nxO lo hi lst w = some z → z = v) ∧ OfM Noth S588 μ m)) 0 0 7 [some (.ref 572), some (.int (nI lo)), some (.int (nI hi)), some (.int (kx j))] [] (rm m) by
    have h9 := loop lst.length μ (Nat.le_refl _) (by rw [List.drop_length]; exact fun c hc => absurd hc List.not_mem_nil) (by rw [List.drop_length]; exact hW) (OfM.refl _ _ _)
    rw [← kx_eq] at h9
    refine Ex.of (by decide +kernel) rfl (Nat.le_of_ble_eq_true rfl) ?_
    show T _ _ _ _ _ _ _ _ _ [some (.ref 572), some (.int (nI lo)), some (.int (nI hi)), none] [] (rm μ)
    refine T_aload_n (pc := 0) (i := 0) dX12_nextWeights_0 rfl rfl ?_
    refine R_getI (pc := 1) (x := nI lst.length) fl_X12_512 rfl kc_572 lc_572 hL.1 dX12_nextWeights_1 ?_
    refine T_iconst (pc := 4) (v := nI 1) dX12_nextWeights_4 (by decide) ?_
    refine T_isub (pc := 5) dX12_nextWeights_5 ?_
    refine T_istore_n (pc := 6) (i := 3) (ls' := [some (.ref 572), some (.int (nI lo)), some (.int (nI hi)), some (.int (((nI lst.length) - (nI 1))))]) dX12_nextWeights_6 rfl (by decide) rfl ?_
    exact h9
  intro j
  induction j with
  | zero =>
    intro m _ ht hV hO
    show T _ _ _ _ _ _ _ _ 7 [some (.ref 572), some (.int (nI lo)), some (.int (nI hi)), some (.int ((-1)))] [] (rm m)
    refine T_iload_n (pc := 7) (i := 3) dX12_nextWeights_7 rfl rfl ?_
    refine T_if_lt (pc := 8) (tgt := 44) dX12_nextWeights_8 (by decide) (fun h1 => ?_) (fun h1 => ?_)
    · skip
      refine T_iload_n (pc := 44) (i := 3) dX12_nextWeights_44 rfl rfl ?_
      refine T_if_lt (pc := 45) (tgt := 63) dX12_nextWeights_45 (by decide) (fun h2 => ?_) (fun h2 => ?_)
      · skip
        refine T_iload_n (pc := 63) (i := 3) dX12_nextWeights_63 rfl rfl ?_
        refine T_if_lt (pc := 64) (tgt := 71) dX12_nextWeights_64 (by decide) (fun h3 => ?_) (fun h3 => ?_)
        · skip
          refine T_iconst (pc := 71) (v := nI 0) dX12_nextWeights_71 (by decide) ?_
          have en : nxO lo hi lst w = none := nxO_top ht
          rw [en]
          exact T_iret (pc := 72) (ty := .boolean) dX12_nextWeights_72 rfl (by decide) (Nat.le_refl _) (Nat.le_refl _) ⟨_, rfl, rfl, ⟨_, hV, fun z y => by cases y⟩, hO⟩
        · exact absurd (by decide) h3
      · exact absurd (by decide) h2
    · exact absurd (by decide) h1
  | succ j ih =>
    intro m hj ht hV hO
    have hj1 : j < lst.length := by omega
    have hdc := dropc9 hj1
    have hLm := hL.of hO (fun z => z) (by unfold S588; omega)
    have hb := hLm.2.2 j hj1
    have hbm : lst.getD j 0 ∈ lst := getD_mem hj1
    have hdb := hd _ hbm
    have hbn : lst.getD j 0 ∉ lst.drop (j + 1) := nd_drop nd (Nat.lt_succ_self j)
    have hvb : m.1 588 (lst.getD j 0) = nI (w.getD (lst.getD j 0) 0) := (hV.2 _ hb.1).trans (congrArg nI (lws_out hbn))
    have hw5 := hW.1.2 (lst.getD j 0)
    obtain ⟨b, eb⟩ : ∃ b, b = lst.getD j 0 := ⟨_, rfl⟩
    rw [← eb] at hdc hb hdb hbn hvb hw5
    show T _ _ _ _ _ _ _ _ 7 [some (.ref 572), some (.int (nI lo)), some (.int (nI hi)), some (.int (nI j))] [] (rm m)
    refine T_iload_n (pc := 7) (i := 3) dX12_nextWeights_7 rfl rfl ?_
    refine R_if_lt (pc := 8) (tgt := 44) (by omega) dX12_nextWeights_8 (by decide) (fun h1 => ?_) (fun h1 => ?_)
    · exact h1.elim
    · skip
      refine T_aload_n (pc := 11) (i := 0) dX12_nextWeights_11 rfl rfl ?_
      refine R_getR (pc := 12) (i := 588) fl_X12_80 rfl kc_572 lc_572 rc_572_42 dX12_nextWeights_12 ?_
      refine T_aload_n (pc := 15) (i := 0) dX12_nextWeights_15 rfl rfl ?_
      refine R_getR (pc := 16) (i := 587) fl_X12_77 rfl kc_572 lc_572 rc_572_41 dX12_nextWeights_16 ?_
      refine T_iload_n (pc := 19) (i := 3) dX12_nextWeights_19 rfl rfl ?_
      refine R_iald (pc := 20) (x := nI b) kc_587 lc_587 (by omega) (by first | decide | assumption) hb.2 dX12_nextWeights_20 ?_
      refine R_iald (pc := 21) (x := nI (w.getD b 0)) kc_588 lc_588 (by omega) (by first | decide | assumption) hvb dX12_nextWeights_21 ?_
      refine T_iload_n (pc := 22) (i := 2) dX12_nextWeights_22 rfl rfl ?_
      refine R_icmp_ne (pc := 23) (tgt := 44) (by omega) (by omega) dX12_nextWeights_23 (by decide) (fun h2 => ?_) (fun h2 => ?_)
      · skip
        refine T_iload_n (pc := 44) (i := 3) dX12_nextWeights_44 rfl rfl ?_
        refine R_if_lt (pc := 45) (tgt := 63) (by omega) dX12_nextWeights_45 (by decide) (fun h3 => ?_) (fun h3 => ?_)
        · exact h3.elim
        · skip
          refine T_aload_n (pc := 48) (i := 0) dX12_nextWeights_48 rfl rfl ?_
          refine R_getR (pc := 49) (i := 588) fl_X12_80 rfl kc_572 lc_572 rc_572_42 dX12_nextWeights_49 ?_
          refine T_aload_n (pc := 52) (i := 0) dX12_nextWeights_52 rfl rfl ?_
          refine R_getR (pc := 53) (i := 587) fl_X12_77 rfl kc_572 lc_572 rc_572_41 dX12_nextWeights_53 ?_
          refine T_iload_n (pc := 56) (i := 3) dX12_nextWeights_56 rfl rfl ?_
          refine R_iald (pc := 57) (x := nI b) kc_587 lc_587 (by omega) (by first | decide | assumption) hb.2 dX12_nextWeights_57 ?_
          refine T_dup2 (pc := 58) dX12_nextWeights_58 rfl rfl ?_
          refine R_iald (pc := 59) (x := nI (w.getD b 0)) kc_588 lc_588 (by omega) (by first | decide | assumption) hvb dX12_nextWeights_59 ?_
          refine T_iconst (pc := 60) (v := nI 1) dX12_nextWeights_60 (by decide) ?_
          refine R_iadd (pc := 61) dX12_nextWeights_61 ?_
          refine R_iast (pc := 62) kc_588 lc_588 (by omega) (by first | decide | assumption) dX12_nextWeights_62 ?_
          refine T_iload_n (pc := 63) (i := 3) dX12_nextWeights_63 rfl rfl ?_
          refine R_if_lt (pc := 64) (tgt := 71) (by omega) dX12_nextWeights_64 (by decide) (fun h4 => ?_) (fun h4 => ?_)
          · exact h4.elim
          · skip
            refine T_iconst (pc := 67) (v := nI 1) dX12_nextWeights_67 (by decide) ?_
            refine T_goto (pc := 68) (tgt := 72) dX12_nextWeights_68 (by decide) ?_
            have hlt : w.getD b 0 < hi := by omega
            have en : nxO lo hi lst w = some ((lws lo (lst.drop (j + 1)) w).set b (w.getD b 0 + 1)) := by
              have h9 := nxO_at (lo := lo) (hi := hi) (w := w) ht hlt (p := lst.take j)
              rw [← hdc, List.take_append_drop] at h9
              exact h9
            rw [en]
            exact T_iret (pc := 72) (ty := .boolean) dX12_nextWeights_72 rfl (by decide) (Nat.le_refl _) (Nat.le_refl _) ⟨_, rfl, rfl, ⟨_, hV.set hb.1 (by omega), fun z y => by cases y; rfl⟩, OfM.sI hO rfl (by decide)⟩
      · skip
        refine T_aload_n (pc := 26) (i := 0) dX12_nextWeights_26 rfl rfl ?_
        refine R_getR (pc := 27) (i := 588) fl_X12_80 rfl kc_572 lc_572 rc_572_42 dX12_nextWeights_27 ?_
        refine T_aload_n (pc := 30) (i := 0) dX12_nextWeights_30 rfl rfl ?_
        refine R_getR (pc := 31) (i := 587) fl_X12_77 rfl kc_572 lc_572 rc_572_41 dX12_nextWeights_31 ?_
        refine T_iload_n (pc := 34) (i := 3) dX12_nextWeights_34 rfl rfl ?_
        refine R_iald (pc := 35) (x := nI b) kc_587 lc_587 (by omega) (by first | decide | assumption) hb.2 dX12_nextWeights_35 ?_
        refine T_iload_n (pc := 36) (i := 1) dX12_nextWeights_36 rfl rfl ?_
        refine R_iast (pc := 37) kc_588 lc_588 (by omega) (by first | decide | assumption) dX12_nextWeights_37 ?_
        refine T_iinc (pc := 38) (i := 3) (v := (nI j + (-1))) (ls' := [some (.ref 572), some (.int (nI lo)), some (.int (nI hi)), some (.int ((nI j + (-1))))]) dX12_nextWeights_38 rfl rfl rfl ?_
        refine T_goto (pc := 41) (tgt := 7) dX12_nextWeights_41 (by decide) ?_
        rw [kx_dec]
        refine ih _ (by omega) (fun c hc => ?_) (by rw [hdc]; exact hV.set hb.1 (by omega)) (OfM.sI hO rfl (by decide))
        rw [hdc] at hc
        rcases List.mem_cons.mp hc with rfl | hc
        · omega
        · exact ht c hc
end MW1

