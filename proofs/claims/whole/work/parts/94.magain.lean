/-! THE MODEL: again, BEASTS as bits, endless -/
section MG1
variable {γ : Ga} {μ : SM2}
theorem m_beastsOf {l : List Nat} (hl : Mw l) : Ex γ 5 0 0 M_X12_beastsOf [.long (lN (cd l))] (rm μ) (Fn (some (.int (nI (kd l)))) μ) := by
  have hn := hl.1
  refine Ex.of (by decide +kernel) rfl (Nat.le_of_ble_eq_true rfl) ?_
  show T _ _ _ _ _ _ _ _ _ [some (.long (lN (cd l))), none, none, none] [] (rm μ)
  refine T_iconst (pc := 0) (v := nI 0) dX12_beastsOf_0 (by decide) ?_
  refine T_istore_n (pc := 1) (i := 2) (ls' := [some (.long (lN (cd l))), none, some (.int (nI 0)), none]) dX12_beastsOf_1 rfl (by decide) rfl ?_
  refine T_iconst (pc := 2) (v := nI 0) dX12_beastsOf_2 (by decide) ?_
  refine T_istore_n (pc := 3) (i := 3) (ls' := [some (.long (lN (cd l))), none, some (.int (nI 0)), some (.int (nI 0))]) dX12_beastsOf_3 rfl (by decide) rfl ?_
  suffices loop : ∀ f i, i + f = l.length → T γ 5 0 0 M_X12_beastsOf (Fn (some (.int (nI (kd l)))) μ) 0 0 4 [some (.long (lN (cd l))), none, some (.int (nI (kd (l.take i)))), some (.int (nI i))] [] (rm μ) from loop l.length 0 (by omega)
  intro f
  induction f with
  | zero =>
    intro i hi
    refine T_iload_n (pc := 4) (i := 3) dX12_beastsOf_4 rfl rfl ?_
    refine T_lload_n (pc := 5) (i := 0) dX12_beastsOf_5 rfl rfl ?_
    refine R_callS1 (pc := 6) (av := [.long (lN (cd l))]) (rest := [.int (nI i)]) (Or.inl lk_X12_13) mk_X12_size (m_size hl) dX12_beastsOf_6 rfl rfl (Nat.le_of_ble_eq_true rfl) (by decide) rfl (Nat.le_refl _) (Nat.le_refl _) ?_
    refine R_icmp_ge (pc := 9) (tgt := 28) (by omega) (by omega) dX12_beastsOf_9 (by decide) (fun h => ?_) (fun h => ?_)
    · skip
      refine T_iload_n (pc := 28) (i := 2) dX12_beastsOf_28 rfl rfl ?_
      rw [List.take_of_length_le (by omega)]
      exact T_iret (pc := 29) (ty := .int) dX12_beastsOf_29 rfl rfl (Nat.le_refl _) (Nat.le_refl _) ⟨rfl, rfl⟩
    · exact absurd h (by omega)
  | succ f ih =>
    intro i hi
    have hk : kd (l.take i) < 2 ^ 8 := kd_lt (okb_take hl.2)
    have hd := getD_lt hl.2 i
    refine T_iload_n (pc := 4) (i := 3) dX12_beastsOf_4 rfl rfl ?_
    refine T_lload_n (pc := 5) (i := 0) dX12_beastsOf_5 rfl rfl ?_
    refine R_callS1 (pc := 6) (av := [.long (lN (cd l))]) (rest := [.int (nI i)]) (Or.inl lk_X12_13) mk_X12_size (m_size hl) dX12_beastsOf_6 rfl rfl (Nat.le_of_ble_eq_true rfl) (by decide) rfl (Nat.le_refl _) (Nat.le_refl _) ?_
    refine R_icmp_ge (pc := 9) (tgt := 28) (by omega) (by omega) dX12_beastsOf_9 (by decide) (fun h => ?_) (fun h => ?_)
    · exact absurd h (by omega)
    · skip
      refine T_iload_n (pc := 12) (i := 2) dX12_beastsOf_12 rfl rfl ?_
      refine T_iconst (pc := 13) (v := nI 1) dX12_beastsOf_13 (by decide) ?_
      refine T_lload_n (pc := 14) (i := 0) dX12_beastsOf_14 rfl rfl ?_
      refine T_iload_n (pc := 15) (i := 3) dX12_beastsOf_15 rfl rfl ?_
      refine R_callS1 (pc := 16) (av := [.long (lN (cd l)), .int (nI i)]) (rest := [.int (nI 1), .int (nI (kd (l.take i)))]) (Or.inl lk_X12_199) mk_X12_beastOf (m_beastOf hl h) dX12_beastsOf_16 rfl rfl (Nat.le_of_ble_eq_true rfl) (by decide) rfl (Nat.le_refl _) (Nat.le_refl _) ?_
      refine R_ishl (pc := 19) (by omega) dX12_beastsOf_19 ?_
      refine R_ior (pc := 20) dX12_beastsOf_20 ?_
      refine T_istore_n (pc := 21) (i := 2) (ls' := [some (.long (lN (cd l))), none, some (.int (nI ((kd (l.take i)) ||| (1 * 2 ^ (l.getD i 0))))), some (.int (nI i))]) dX12_beastsOf_21 rfl (by decide) rfl ?_
      refine R_iinc (pc := 22) (i := 3) (n := 1) (ls' := [some (.long (lN (cd l))), none, some (.int (nI ((kd (l.take i)) ||| (1 * 2 ^ (l.getD i 0))))), some (.int (nI (i + 1)))]) dX12_beastsOf_22 rfl rfl ?_
      refine T_goto (pc := 25) (tgt := 4) dX12_beastsOf_25 (by decide) ?_
      have h9 := ih (i + 1) (by omega)
      rw [take_s 0 h, kd_snoc] at h9
      rw [Nat.one_mul]
      exact h9
def irN (R : List Ru) (a b : Bool) : Nat → Nat
  | 0 => 0
  | i + 1 => irN R a b i ||| ((if a = true then kd (rAt R i).1 else 0) ||| (if b = true then kd (rAt R i).2 else 0))
theorem irN_L {R : List Ru} : ∀ i, irN R true false i = kLN R i
  | 0 => rfl
  | i + 1 => by
    show irN R true false i ||| (kd (rAt R i).1 ||| 0) = kLN R i ||| kd (rAt R i).1
    rw [irN_L i, Nat.or_zero]
theorem irN_R {R : List Ru} : ∀ i, irN R false true i = kRN R i
  | 0 => rfl
  | i + 1 => by
    show irN R false true i ||| (0 ||| kd (rAt R i).2) = kRN R i ||| kd (rAt R i).2
    rw [irN_R i, Nat.zero_or]
theorem or4 (a b c d : Nat) : a ||| b ||| (c ||| d) = a ||| c ||| (b ||| d) := by
  apply Nat.eq_of_testBit_eq
  intro j
  simp only [Nat.testBit_or]
  cases a.testBit j <;> cases b.testBit j <;> cases c.testBit j <;> cases d.testBit j <;> rfl
theorem irN_B {R : List Ru} : ∀ i, irN R true true i = kLN R i ||| kRN R i
  | 0 => by
    show (0 : Nat) = 0 ||| 0
    decide
  | i + 1 => by
    show irN R true true i ||| (kd (rAt R i).1 ||| kd (rAt R i).2) = kLN R i ||| kd (rAt R i).1 ||| (kRN R i ||| kd (rAt R i).2)
    rw [irN_B i, or4]
theorem m_inRules {R : List Ru} {a b : Bool} (h : mdR (μ.1 573) R) : Ex γ 6 0 0 M_X12_inRules [.ref 572, .int (bI a), .int (bI b)] (rm μ) (Fn (some (.int (nI (irN R a b R.length)))) μ) := by
  have h12 := h.1.2
  refine Ex.of (by decide +kernel) rfl (Nat.le_of_ble_eq_true rfl) ?_
  show T _ _ _ _ _ _ _ _ _ [some (.ref 572), some (.int (bI a)), some (.int (bI b)), none, none] [] (rm μ)
  refine T_iconst (pc := 0) (v := nI 0) dX12_inRules_0 (by decide) ?_
  refine T_istore_n (pc := 1) (i := 3) (ls' := [some (.ref 572), some (.int (bI a)), some (.int (bI b)), some (.int (nI 0)), none]) dX12_inRules_1 rfl (by decide) rfl ?_
  refine T_iconst (pc := 2) (v := nI 0) dX12_inRules_2 (by decide) ?_
  refine T_istore (pc := 3) (i := 4) (ls' := [some (.ref 572), some (.int (bI a)), some (.int (bI b)), some (.int (nI 0)), some (.int (nI 0))]) dX12_inRules_3 (by decide) rfl ?_
  refine T_for (pc := 5) R.length (fun i => [some (.ref 572), some (.int (bI a)), some (.int (bI b)), some (.int (nI (irN R a b i))), some (.int (nI i))]) (fun _ => rm μ) (fun i hle ih => ?_) 0 (Nat.zero_le _)
  show T _ _ _ _ _ _ _ _ 5 [some (.ref 572), some (.int (bI a)), some (.int (bI b)), some (.int (nI (irN R a b i))), some (.int (nI i))] [] (rm μ)
  refine T_iload (pc := 5) (i := 4) dX12_inRules_5 rfl ?_
  refine T_aload_n (pc := 7) (i := 0) dX12_inRules_7 rfl rfl ?_
  refine R_callV1 (pc := 8) (As := []) (rest := [.int (nI i)]) (Or.inl lk_X12_121) mk_X12_rules (m_rules h) kc_572 ⟨by decide, rfl⟩ lc_572 dX12_inRules_8 rfl rfl (Nat.le_of_ble_eq_true rfl) (by decide) rfl (Nat.le_refl _) (Nat.le_refl _) ?_
  refine R_icmp_ge (pc := 11) (tgt := 58) (by omega) (by omega) dX12_inRules_11 (by decide) (fun h1 => ?_) (fun h1 => ?_)
  · skip
    refine T_iload_n (pc := 58) (i := 3) dX12_inRules_58 rfl rfl ?_
    rw [show i = R.length by omega]
    exact T_iret (pc := 59) (ty := .int) dX12_inRules_59 rfl rfl (Nat.le_refl _) (Nat.le_refl _) ⟨rfl, rfl⟩
  · skip
    have ok := h.2.1 i h1
    have t49 : T γ 6 0 0 M_X12_inRules (Fn (some (.int (nI (irN R a b R.length)))) μ) 0 0 49 [some (.ref 572), some (.int (bI a)), some (.int (bI b)), some (.int (nI (irN R a b i))), some (.int (nI i))] [.int (nI (if b = true then kd (rAt R i).2 else 0)), .int (nI (if a = true then kd (rAt R i).1 else 0)), .int (nI (irN R a b i))] (rm μ) := by
      refine R_ior (pc := 49) dX12_inRules_49 ?_
      refine R_ior (pc := 50) dX12_inRules_50 ?_
      refine T_istore_n (pc := 51) (i := 3) (ls' := [some (.ref 572), some (.int (bI a)), some (.int (bI b)), some (.int (nI ((irN R a b i) ||| ((if a = true then kd (rAt R i).1 else 0) ||| (if b = true then kd (rAt R i).2 else 0))))), some (.int (nI i))]) dX12_inRules_51 rfl (by decide) rfl ?_
      refine R_iinc (pc := 52) (i := 4) (n := 1) (ls' := [some (.ref 572), some (.int (bI a)), some (.int (bI b)), some (.int (nI ((irN R a b i) ||| ((if a = true then kd (rAt R i).1 else 0) ||| (if b = true then kd (rAt R i).2 else 0))))), some (.int (nI (i + 1)))]) dX12_inRules_52 rfl rfl ?_
      refine T_goto (pc := 55) (tgt := 5) dX12_inRules_55 (by decide) ?_
      exact ih h1
    have t32 : T γ 6 0 0 M_X12_inRules (Fn (some (.int (nI (irN R a b R.length)))) μ) 0 0 32 [some (.ref 572), some (.int (bI a)), some (.int (bI b)), some (.int (nI (irN R a b i))), some (.int (nI i))] [.int (nI (if a = true then kd (rAt R i).1 else 0)), .int (nI (irN R a b i))] (rm μ) := by
      refine T_iload_n (pc := 32) (i := 2) dX12_inRules_32 rfl rfl ?_
      refine R_ifb_eq (pc := 33) (tgt := 48) dX12_inRules_33 (by decide) (fun h2 => ?_) (fun h2 => ?_)
      · skip
        refine T_iconst (pc := 48) (v := nI 0) dX12_inRules_48 (by decide) ?_
        rw [h2, if_neg (c := false = true) Bool.false_ne_true] at t49
        rw [h2]
        exact t49
      · skip
        refine T_aload_n (pc := 36) (i := 0) dX12_inRules_36 rfl rfl ?_
        refine T_iload (pc := 37) (i := 4) dX12_inRules_37 rfl ?_
        refine R_callV1 (pc := 39) (As := [.int (nI i)]) (rest := [.int (nI (if a = true then kd (rAt R i).1 else 0)), .int (nI (irN R a b i))]) (Or.inl lk_X12_111) mk_X12_right (m_right h h1) kc_572 ⟨by decide, rfl⟩ lc_572 dX12_inRules_39 rfl rfl (Nat.le_of_ble_eq_true rfl) (by decide) rfl (Nat.le_refl _) (Nat.le_refl _) ?_
        refine R_callS1 (pc := 42) (av := [.long (lN (cd (rAt R i).2))]) (rest := [.int (nI (if a = true then kd (rAt R i).1 else 0)), .int (nI (irN R a b i))]) (Or.inl lk_X12_509) mk_X12_beastsOf (m_beastsOf ok.r) dX12_inRules_42 rfl rfl (Nat.le_of_ble_eq_true rfl) (by decide) rfl (Nat.le_refl _) (Nat.le_refl _) ?_
        refine T_goto (pc := 45) (tgt := 49) dX12_inRules_45 (by decide) ?_
        rw [h2, if_pos (c := true = true) rfl] at t49
        rw [h2]
        exact t49
    refine T_iload_n (pc := 14) (i := 3) dX12_inRules_14 rfl rfl ?_
    refine T_iload_n (pc := 15) (i := 1) dX12_inRules_15 rfl rfl ?_
    refine R_ifb_eq (pc := 16) (tgt := 31) dX12_inRules_16 (by decide) (fun h2 => ?_) (fun h2 => ?_)
    · skip
      refine T_iconst (pc := 31) (v := nI 0) dX12_inRules_31 (by decide) ?_
      rw [h2, if_neg (c := false = true) Bool.false_ne_true] at t32
      rw [h2]
      exact t32
    · skip
      refine T_aload_n (pc := 19) (i := 0) dX12_inRules_19 rfl rfl ?_
      refine T_iload (pc := 20) (i := 4) dX12_inRules_20 rfl ?_
      refine R_callV1 (pc := 22) (As := [.int (nI i)]) (rest := [.int (nI (irN R a b i))]) (Or.inl lk_X12_107) mk_X12_left (m_left h h1) kc_572 ⟨by decide, rfl⟩ lc_572 dX12_inRules_22 rfl rfl (Nat.le_of_ble_eq_true rfl) (by decide) rfl (Nat.le_refl _) (Nat.le_refl _) ?_
      refine R_callS1 (pc := 25) (av := [.long (lN (cd (rAt R i).1))]) (rest := [.int (nI (irN R a b i))]) (Or.inl lk_X12_509) mk_X12_beastsOf (m_beastsOf ok.l) dX12_inRules_25 rfl rfl (Nat.le_of_ble_eq_true rfl) (by decide) rfl (Nat.le_refl _) (Nat.le_refl _) ?_
      refine T_goto (pc := 28) (tgt := 32) dX12_inRules_28 (by decide) ?_
      rw [h2, if_pos (c := true = true) rfl] at t32
      rw [h2]
      exact t32
def agC (nx : List Nat → Option (List Nat)) (f : Nat) (K : List (List Nat)) (t : List Nat) (o : Option Nat) : Option (Nat × Nat) := match o with
  | some e => some (e, K.length)
  | none => agN nx f (K ++ [t]) t
def Fag (j : Nat) : Prop := j = 16 ∨ j = 17 ∨ Fk j
def Sag (k : Nat) : Prop := S9 k ∨ k = 581
theorem m_again {x : Int64} {b : Bool} {X : Td} {LL : List (List Int32)} (hX : mdT (μ.1 573) X) (hL : LawM (μ.1 573) LL) : Ex γ 12 0 0 M_X12_again [.ref 572, .long x, .int (bI b)] (rm μ) (Rm (some (.int (if codeB x = true then agV (agN (nxR X.R (wOf X LL)) 500 [ml x] (ml x)) b else nI 0))) (fun m => MdN μ m (mT1 (codeB x)))) := by
  have hX2 : mdT ((wI μ 572 0 (nI 0)).1 573) X := by rw [w573]; exact hX
  have hL2 : LawM ((wI μ 572 0 (nI 0)).1 573) LL := by rw [w573]; exact hL
  cases e2 : codeB x with
  | false =>
    rw [if_neg Bool.false_ne_true]
    refine Ex.of (by decide +kernel) rfl (Nat.le_of_ble_eq_true rfl) ?_
    show T _ _ _ _ _ _ _ _ _ [some (.ref 572), some (.long (x)), none, some (.int (bI b)), none, none] [] (rm μ)
    refine T_aload_n (pc := 0) (i := 0) dX12_again_0 rfl rfl ?_
    refine T_iconst (pc := 1) (v := nI 0) dX12_again_1 (by decide) ?_
    refine R_putI (pc := 2) fl_X12_3 ⟨rfl, rfl⟩ (Or.inl rfl) kc_572 lc_572 dX12_again_2 ?_
    refine T_aload_n (pc := 5) (i := 0) dX12_again_5 rfl rfl ?_
    refine T_lload_n (pc := 6) (i := 1) dX12_again_6 rfl rfl ?_
    refine R_callS1 (pc := 7) (av := [.long (x)]) (rest := [.ref 572]) (Or.inl lk_X12_382) mk_X12_isCode (m_isCodeE e2) dX12_again_7 rfl rfl (Nat.le_of_ble_eq_true rfl) (by decide) rfl (Nat.le_refl _) (Nat.le_refl _) ?_
    refine R_ifb_ne (pc := 10) (tgt := 17) dX12_again_10 (by decide) (fun h1 => ?_) (fun h1 => ?_)
    · exact absurd h1 (by decide)
    · skip
      refine T_iconst (pc := 13) (v := nI 1) dX12_again_13 (by decide) ?_
      refine T_goto (pc := 14) (tgt := 18) dX12_again_14 (by decide) ?_
      refine T_iconst (pc := 18) (v := nI 1) dX12_again_18 (by decide) ?_
      refine R_callV1 (pc := 19) (As := [.int (nI 1), .int (nI 1)]) (rest := []) (Or.inl lk_X12_302) mk_X12_throwsIf m_throws1n kc_572 ⟨by decide, rfl⟩ lc_572 dX12_again_19 rfl rfl (Nat.le_of_ble_eq_true rfl) (by decide) rfl (Nat.le_refl _) (Nat.le_refl _) ?_
      refine R_ifb_eq (pc := 22) (tgt := 27) dX12_again_22 (by decide) (fun h3 => ?_) (fun h3 => ?_)
      · exact absurd h3 (by decide)
      · skip
        refine T_iconst (pc := 25) (v := nI 0) dX12_again_25 (by decide) ?_
        exact T_iret (pc := 26) (ty := .int) dX12_again_26 rfl rfl (Nat.le_refl _) (Nat.le_refl _) ⟨_, rfl, rfl, Tn.two.n⟩
  | true =>
    obtain ⟨l, hl, rfl⟩ := codeB_iff.mp e2
    rw [if_pos (c := true = true) rfl, ml_cd hl]
    refine Ex.of (by decide +kernel) rfl (Nat.le_of_ble_eq_true rfl) ?_
    show T _ _ _ _ _ _ _ _ _ [some (.ref 572), some (.long (lN (cd l))), none, some (.int (bI b)), none, none] [] (rm μ)
    refine T_aload_n (pc := 0) (i := 0) dX12_again_0 rfl rfl ?_
    refine T_iconst (pc := 1) (v := nI 0) dX12_again_1 (by decide) ?_
    refine R_putI (pc := 2) fl_X12_3 ⟨rfl, rfl⟩ (Or.inl rfl) kc_572 lc_572 dX12_again_2 ?_
    refine T_aload_n (pc := 5) (i := 0) dX12_again_5 rfl rfl ?_
    refine T_lload_n (pc := 6) (i := 1) dX12_again_6 rfl rfl ?_
    refine R_callS1 (pc := 7) (av := [.long (lN (cd l))]) (rest := [.ref 572]) (Or.inl lk_X12_382) mk_X12_isCode (m_isCodeE e2) dX12_again_7 rfl rfl (Nat.le_of_ble_eq_true rfl) (by decide) rfl (Nat.le_refl _) (Nat.le_refl _) ?_
    refine R_ifb_ne (pc := 10) (tgt := 17) dX12_again_10 (by decide) (fun h1 => ?_) (fun h1 => ?_)
    · skip
      refine T_iconst (pc := 17) (v := nI 0) dX12_again_17 (by decide) ?_
      refine T_iconst (pc := 18) (v := nI 1) dX12_again_18 (by decide) ?_
      refine R_callV1 (pc := 19) (As := [.int (nI 0), .int (nI 1)]) (rest := []) (Or.inl lk_X12_302) mk_X12_throwsIf m_throws0n kc_572 ⟨by decide, rfl⟩ lc_572 dX12_again_19 rfl rfl (Nat.le_of_ble_eq_true rfl) (by decide) rfl (Nat.le_refl _) (Nat.le_refl _) ?_
      refine R_ifb_eq (pc := 22) (tgt := 27) dX12_again_22 (by decide) (fun h3 => ?_) (fun h3 => ?_)
      · skip
        refine T_aload_n (pc := 27) (i := 0) dX12_again_27 rfl rfl ?_
        refine R_callVm0 (pc := 28) (As := []) (rest := []) (Or.inl lk_X12_386) mk_X12_asTold (m_asTold hX2 hL2) kc_572 ⟨by decide, rfl⟩ lc_572 dX12_again_28 rfl rfl (Nat.le_of_ble_eq_true rfl) (by decide) rfl (Nat.le_refl _) (Nat.le_refl _) (fun m0 h => ?_)
        obtain ⟨hE, hO⟩ := h
        have hok := hE.1.2.1
        have hw5 : m0.1 573 5 = nI X.way := (hO.i (by decide) id 5).trans hX2.2.2.2.2.2.2.1
        have fin : ∀ m : SM2, OfM Fk Sag m0 m → MdN μ m 0 := fun m g => MdN.of (F := Fag) (S := Sag) ((hO.mono (fun j hj => hj.elim Or.inl (fun z => Or.inr (Or.inl z))) (fun k z => z.elim)).trans (g.mono (fun j hj => Or.inr (Or.inr hj)) (fun k hk => hk))) (by unfold Fag Fk; omega) (fun j hj => by unfold Fag Fk at hj; unfold Fz; omega) (fun k hk => by unfold Sag S9 at hk; unfold Sz; omega)
        refine T_aload_n (pc := 31) (i := 0) dX12_again_31 rfl rfl ?_
        refine R_getR (pc := 32) (i := 581) fl_X12_58 rfl kc_572 lc_572 rc_572_25 dX12_again_32 ?_
        refine T_iconst (pc := 35) (v := nI 0) dX12_again_35 (by decide) ?_
        refine T_lload_n (pc := 36) (i := 1) dX12_again_36 rfl rfl ?_
        refine R_last (pc := 37) kc_581 lc_581 (by omega) (by first | decide | assumption) dX12_again_37 ?_
        refine T_iconst (pc := 38) (v := nI 1) dX12_again_38 (by decide) ?_
        refine T_istore (pc := 39) (i := 4) (ls' := [some (.ref 572), some (.long (lN (cd l))), none, some (.int (bI b)), some (.int (nI 1)), none]) dX12_again_39 (by decide) rfl ?_
        suffices loop : ∀ (f : Nat) (K : List (List Nat)) (c : List Nat) (m : SM2), K.length + f = 501 → 0 < K.length → (∀ i, i < K.length → Mw (hK K i) ∧ m.2 581 i = lN (cd (hK K i))) → hK K (K.length - 1) = c → OfM Fk Sag m0 m → T γ 12 0 0 M_X12_again (Rm (some (.int (agV (agN (nxR X.R (wOf X LL)) f K c) b))) (fun m => MdN μ m 0)) 0 0 41 [some (.ref 572), some (.long (lN (cd l))), none, some (.int (bI b)), some (.int (nI K.length)), none] [] (rm m) by
          exact loop 500 [l] l _ rfl Nat.one_pos (fun i hi => by
            have hi2 : i < 1 := hi
            obtain rfl : i = 0 := by omega
            exact ⟨hl, e_wL ⟨rfl, rfl⟩⟩) rfl (OfM.sL (OfM.refl _ _ _) (Or.inr rfl) (by decide))
        intro f
        induction f with
        | zero =>
          intro K c m hK0 hK1 hK2 hc hO2
          refine T_iload (pc := 41) (i := 4) dX12_again_41 rfl ?_
          refine T_sipush (pc := 43) (v := nI 500) dX12_again_43 (by decide) ?_
          refine R_icmp_gt (pc := 46) (tgt := 141) (by omega) (by omega) dX12_again_46 (by decide) (fun g1 => ?_) (fun g1 => ?_)
          · skip
            refine T_iconst (pc := 141) (v := (-1)) dX12_again_141 (by decide) ?_
            exact T_iret (pc := 142) (ty := .int) dX12_again_142 rfl rfl (Nat.le_refl _) (Nat.le_refl _) ⟨_, rfl, rfl, fin m hO2⟩
          · exact absurd g1 (by omega)
        | succ f ih =>
          intro K c m hK0 hK1 hK2 hc hO2
          have hEm : mEnv m X.R LL (wOf X LL) := hE.om hO2 (by unfold Sag S9; omega) (by unfold Fk; omega) (by unfold Fk; omega)
          have hcl := hK2 (K.length - 1) (by omega)
          rw [hc] at hcl
          refine T_iload (pc := 41) (i := 4) dX12_again_41 rfl ?_
          refine T_sipush (pc := 43) (v := nI 500) dX12_again_43 (by decide) ?_
          refine R_icmp_gt (pc := 46) (tgt := 141) (by omega) (by omega) dX12_again_46 (by decide) (fun g1 => ?_) (fun g1 => ?_)
          · exact absurd g1 (by omega)
          · skip
            refine T_aload_n (pc := 49) (i := 0) dX12_again_49 rfl rfl ?_
            refine R_getR (pc := 50) (i := 581) fl_X12_58 rfl kc_572 lc_572 rc_572_25 dX12_again_50 ?_
            refine T_iload (pc := 53) (i := 4) dX12_again_53 rfl ?_
            refine T_aload_n (pc := 55) (i := 0) dX12_again_55 rfl rfl ?_
            refine T_aload_n (pc := 56) (i := 0) dX12_again_56 rfl rfl ?_
            refine R_getR (pc := 57) (i := 581) fl_X12_58 rfl kc_572 lc_572 rc_572_25 dX12_again_57 ?_
            refine T_iload (pc := 60) (i := 4) dX12_again_60 rfl ?_
            refine T_iconst (pc := 62) (v := nI 1) dX12_again_62 (by decide) ?_
            refine R_isub (pc := 63) (by omega) dX12_again_63 ?_
            refine R_lald (pc := 64) (x := lN (cd c)) kc_581 lc_581 (by omega) (by first | decide | assumption) hcl.2 dX12_again_64 ?_
            refine T_aload_n (pc := 65) (i := 0) dX12_again_65 rfl rfl ?_
            refine R_getR (pc := 66) (i := 573) fl_X12_29 rfl kc_572 lc_572 rc_572_1 dX12_again_66 ?_
            refine T_iconst (pc := 69) (v := nI 5) dX12_again_69 (by decide) ?_
            refine R_iald (pc := 70) (x := nI X.way) kc_573 lc_573 (by omega) (by first | decide | assumption) ((hO2.i (by decide) (by unfold Sag S9; omega) 5).trans hw5) dX12_again_70 ?_
            refine R_callVm1 (pc := 71) (As := [.long (lN (cd c)), .int (nI X.way)]) (rest := [.int (nI K.length), .ref 581]) (Or.inl lk_X12_370) mk_X12_next (m_next hEm hcl.1) kc_572 ⟨by decide, rfl⟩ lc_572 dX12_again_71 rfl rfl (Nat.le_of_ble_eq_true rfl) (by decide) rfl (Nat.le_refl _) (Nat.le_refl _) (fun m2 h2 => ?_)
            have hO3 : OfM Fk Sag m0 m2 := hO2.trans (h2.2.mono (fun j hj => hj) (fun k hk => Or.inl hk))
            cases e : nxR X.R (wOf X LL) c with
            | none =>
              rw [show agN (nxR X.R (wOf X LL)) (f + 1) K c = none by unfold agN; rw [e]]
              show T _ _ _ _ _ _ _ _ 74 [some (.ref 572), some (.long (lN (cd l))), none, some (.int (bI b)), some (.int (nI K.length)), none] [.long ((-1)), .int (nI K.length), .ref 581] (rm m2)
              refine R_last (pc := 74) kc_581 lc_581 (by omega) (by first | decide | assumption) dX12_again_74 ?_
              refine T_aload_n (pc := 75) (i := 0) dX12_again_75 rfl rfl ?_
              refine R_getR (pc := 76) (i := 581) fl_X12_58 rfl kc_572 lc_572 rc_572_25 dX12_again_76 ?_
              refine T_iload (pc := 79) (i := 4) dX12_again_79 rfl ?_
              refine R_lald (pc := 81) (x := (-1)) kc_581 lc_581 (by omega) (by first | decide | assumption) wL_eq dX12_again_81 ?_
              refine T_lconst (pc := 82) (v := lN 0) dX12_again_82 rfl ?_
              refine T_lcmp (pc := 83) dX12_again_83 ?_
              refine R_lx_ge (pc := 84) (tgt := 89) dX12_again_84 (by decide) (fun g2 => ?_) (fun g2 => ?_)
              · exact absurd (by decide) g2
              · skip
                refine T_iconst (pc := 87) (v := (-1)) dX12_again_87 (by decide) ?_
                exact T_iret (pc := 88) (ty := .int) dX12_again_88 rfl rfl (Nat.le_refl _) (Nat.le_refl _) ⟨_, rfl, rfl, fin _ (OfM.sL hO3 (Or.inr rfl) (by decide))⟩
            | some t =>
              have ht := nxR_mw hcl.1 hok e
              have hct := cd_lt ht
              have hO4 : OfM Fk Sag m0 (wL m2 581 K.length (lN (cd t))) := OfM.sL hO3 (Or.inr rfl) (by decide)
              have hk2 : ∀ i, i < K.length → (wL m2 581 K.length (lN (cd t))).2 581 i = lN (cd (hK K i)) := fun i hi => (n_wL (by omega)).trans ((h2.2.l (by decide) (by unfold S9; omega) i).trans (hK2 i hi).2)
              have eag : agN (nxR X.R (wOf X LL)) (f + 1) K c = agC (nxR X.R (wOf X LL)) f K t (inK K t) := by
                show (match nxR X.R (wOf X LL) c with | none => none | some t => match inK K t with | some e => some (e, K.length) | none => agN (nxR X.R (wOf X LL)) f (K ++ [t]) t) = _
                rw [e]
                rfl
              rw [eag]
              show T _ _ _ _ _ _ _ _ 74 [some (.ref 572), some (.long (lN (cd l))), none, some (.int (bI b)), some (.int (nI K.length)), none] [.long (lN (cd t)), .int (nI K.length), .ref 581] (rm m2)
              refine R_last (pc := 74) kc_581 lc_581 (by omega) (by first | decide | assumption) dX12_again_74 ?_
              refine T_aload_n (pc := 75) (i := 0) dX12_again_75 rfl rfl ?_
              refine R_getR (pc := 76) (i := 581) fl_X12_58 rfl kc_572 lc_572 rc_572_25 dX12_again_76 ?_
              refine T_iload (pc := 79) (i := 4) dX12_again_79 rfl ?_
              refine R_lald (pc := 81) (x := lN (cd t)) kc_581 lc_581 (by omega) (by first | decide | assumption) wL_eq dX12_again_81 ?_
              refine T_lconst (pc := 82) (v := lN 0) dX12_again_82 rfl ?_
              refine T_lcmp (pc := 83) dX12_again_83 ?_
              refine R_ln_ge (pc := 84) (tgt := 89) (by omega) (by omega) dX12_again_84 (by decide) (fun g2 => ?_) (fun g2 => ?_)
              · skip
                refine T_iconst (pc := 89) (v := nI 0) dX12_again_89 (by decide) ?_
                refine T_istore (pc := 90) (i := 5) (ls' := [some (.ref 572), some (.long (lN (cd l))), none, some (.int (bI b)), some (.int (nI K.length)), some (.int (nI 0))]) dX12_again_90 (by decide) rfl ?_
                obtain ⟨o, ho⟩ : ∃ o, inK K t = o := ⟨_, rfl⟩
                rw [ho]
                suffices inner : ∀ (g k : Nat), k + g = K.length → (ff (fun i => if hK K i = t then some i else none) k g) = o → T γ 12 0 0 M_X12_again (Rm (some (.int (agV (agC (nxR X.R (wOf X LL)) f K t o) b))) (fun m => MdN μ m 0)) 0 0 92 [some (.ref 572), some (.long (lN (cd l))), none, some (.int (bI b)), some (.int (nI K.length)), some (.int (nI k))] [] (rm (wL m2 581 K.length (lN (cd t)))) by
                  exact inner K.length 0 (Nat.zero_add _) ho
                intro g
                induction g with
                | zero =>
                  intro k hk hf
                  subst hf
                  refine T_iload (pc := 92) (i := 5) dX12_again_92 rfl ?_
                  refine T_iload (pc := 94) (i := 4) dX12_again_94 rfl ?_
                  refine R_icmp_ge (pc := 96) (tgt := 135) (by omega) (by omega) dX12_again_96 (by decide) (fun g3 => ?_) (fun g3 => ?_)
                  · skip
                    refine R_iinc (pc := 135) (i := 4) (n := 1) (ls' := [some (.ref 572), some (.long (lN (cd l))), none, some (.int (bI b)), some (.int (nI (K.length + 1))), some (.int (nI k))]) dX12_again_135 rfl rfl ?_
                    refine T_goto (pc := 138) (tgt := 41) dX12_again_138 (by decide) ?_
                    refine T_ls (ls' := [some (.ref 572), some (.long (lN (cd l))), none, some (.int (bI b)), some (.int (nI (K.length + 1))), none]) (And.intro rfl (And.intro rfl (And.intro rfl (And.intro rfl True.intro)))) ?_
                    have h9 := ih (K ++ [t]) t _ (by rw [List.length_append]; show K.length + 1 + f = 501; omega) (by rw [List.length_append]; omega) (fun i hi => by
                      rw [List.length_append] at hi
                      have hi2 : i < K.length + 1 := hi
                      rw [show hK (K ++ [t]) i = if i < K.length then hK K i else t from getD_snoc hi2]
                      by_cases q : i < K.length
                      · rw [if_pos q]
                        exact ⟨(hK2 i q).1, hk2 i q⟩
                      · rw [if_neg q]
                        exact ⟨ht, e_wL ⟨rfl, by omega⟩⟩) (by
                      rw [List.length_append]
                      show hK (K ++ [t]) (K.length + 1 - 1) = t
                      rw [show hK (K ++ [t]) (K.length + 1 - 1) = if K.length + 1 - 1 < K.length then hK K (K.length + 1 - 1) else t from getD_snoc (by omega), if_neg (by omega)]) hO4
                    rw [List.length_append] at h9
                    exact h9
                  · exact absurd g3 (by omega)
                | succ g ihg =>
                  intro k hk hf
                  have hkK := hK2 k (by omega)
                  have hck := cd_lt hkK.1
                  refine T_iload (pc := 92) (i := 5) dX12_again_92 rfl ?_
                  refine T_iload (pc := 94) (i := 4) dX12_again_94 rfl ?_
                  refine R_icmp_ge (pc := 96) (tgt := 135) (by omega) (by omega) dX12_again_96 (by decide) (fun g3 => ?_) (fun g3 => ?_)
                  · exact absurd g3 (by omega)
                  · skip
                    refine T_aload_n (pc := 99) (i := 0) dX12_again_99 rfl rfl ?_
                    refine R_getR (pc := 100) (i := 581) fl_X12_58 rfl kc_572 lc_572 rc_572_25 dX12_again_100 ?_
                    refine T_iload (pc := 103) (i := 5) dX12_again_103 rfl ?_
                    refine R_lald (pc := 105) (x := lN (cd (hK K k))) kc_581 lc_581 (by omega) (by first | decide | assumption) (hk2 k (by omega)) dX12_again_105 ?_
                    refine T_aload_n (pc := 106) (i := 0) dX12_again_106 rfl rfl ?_
                    refine R_getR (pc := 107) (i := 581) fl_X12_58 rfl kc_572 lc_572 rc_572_25 dX12_again_107 ?_
                    refine T_iload (pc := 110) (i := 4) dX12_again_110 rfl ?_
                    refine R_lald (pc := 112) (x := lN (cd t)) kc_581 lc_581 (by omega) (by first | decide | assumption) (e_wL ⟨rfl, rfl⟩) dX12_again_112 ?_
                    refine T_lcmp (pc := 113) dX12_again_113 ?_
                    refine R_ln_ne (pc := 114) (tgt := 129) (by omega) (by omega) dX12_again_114 (by decide) (fun g4 => ?_) (fun g4 => ?_)
                    · skip
                      refine R_iinc (pc := 129) (i := 5) (n := 1) (ls' := [some (.ref 572), some (.long (lN (cd l))), none, some (.int (bI b)), some (.int (nI K.length)), some (.int (nI (k + 1)))]) dX12_again_129 rfl rfl ?_
                      refine T_goto (pc := 132) (tgt := 92) dX12_again_132 (by decide) ?_
                      refine ihg (k + 1) (by omega) ?_
                      rw [ff_s (if_neg (fun z => g4 (congrArg cd z)))] at hf
                      exact hf
                    · skip
                      have ek : hK K k = t := cd_inj hkK.1.2 ht.2 g4
                      have hf2 : o = some k := by rw [← hf]; exact ff_y (if_pos ek)
                      subst hf2
                      refine T_iload_n (pc := 117) (i := 3) dX12_again_117 rfl rfl ?_
                      refine R_ifb_eq (pc := 118) (tgt := 126) dX12_again_118 (by decide) (fun g5 => ?_) (fun g5 => ?_)
                      · skip
                        refine T_iload (pc := 126) (i := 4) dX12_again_126 rfl ?_
                        subst g5
                        exact T_iret (pc := 128) (ty := .int) dX12_again_128 rfl rfl (Nat.le_refl _) (Nat.le_refl _) ⟨_, rfl, rfl, fin _ hO4⟩
                      · skip
                        refine T_iload (pc := 121) (i := 5) dX12_again_121 rfl ?_
                        refine T_goto (pc := 123) (tgt := 128) dX12_again_123 (by decide) ?_
                        subst g5
                        exact T_iret (pc := 128) (ty := .int) dX12_again_128 rfl rfl (Nat.le_refl _) (Nat.le_refl _) ⟨_, rfl, rfl, fin _ hO4⟩
              · exact absurd g2 (by omega)
      · exact absurd h3 (by decide)
    · exact absurd h1 (by decide)
theorem m_endless {X : Td} {LL : List (List Int32)} (hX : mdT (μ.1 573) X) (hL : LawM (μ.1 573) LL) : Ex γ 13 0 0 M_X12_endless [.ref 572] (rm μ) (Rm (some (.long (vO (enS X.R (wOf X LL))))) (fun m => MdN μ m 0)) := by
  have hX2 : mdT ((wI μ 572 0 (nI 0)).1 573) X := by rw [w573]; exact hX
  have hL2 : LawM ((wI μ 572 0 (nI 0)).1 573) LL := by rw [w573]; exact hL
  refine Ex.of (by decide +kernel) rfl (Nat.le_of_ble_eq_true rfl) ?_
  show T _ _ _ _ _ _ _ _ _ [some (.ref 572), none, none, none, none, none, none] [] (rm μ)
  refine T_aload_n (pc := 0) (i := 0) dX12_endless_0 rfl rfl ?_
  refine T_iconst (pc := 1) (v := nI 0) dX12_endless_1 (by decide) ?_
  refine R_putI (pc := 2) fl_X12_3 ⟨rfl, rfl⟩ (Or.inl rfl) kc_572 lc_572 dX12_endless_2 ?_
  refine T_aload_n (pc := 5) (i := 0) dX12_endless_5 rfl rfl ?_
  refine R_callVm0 (pc := 6) (As := []) (rest := []) (Or.inl lk_X12_386) mk_X12_asTold (m_asTold hX2 hL2) kc_572 ⟨by decide, rfl⟩ lc_572 dX12_endless_6 rfl rfl (Nat.le_of_ble_eq_true rfl) (by decide) rfl (Nat.le_refl _) (Nat.le_refl _) (fun m0 h => ?_)
  obtain ⟨hE, hO⟩ := h
  have hok := hE.1.2.1
  have hw5 : m0.1 573 5 = nI X.way := (hO.i (by decide) id 5).trans hX2.2.2.2.2.2.2.1
  have fin : ∀ m : SM2, OfM Fs S9 m0 m → MdN μ m 0 := fun m g => MdN.of (F := Fa) (S := S9) ((hO.mono (fun j hj => hj.elim Or.inl (fun z => Or.inr (Or.inl z))) (fun k z => z.elim)).trans (g.mono (fun j hj => Or.inr (Or.inr hj)) (fun k hk => hk))) (by unfold Fa Fs; omega) (fun j => Fa_Fz) (fun k => S9_Sz)
  refine T_aload_n (pc := 9) (i := 0) dX12_endless_9 rfl rfl ?_
  refine T_iconst (pc := 10) (v := nI 1) dX12_endless_10 (by decide) ?_
  refine T_iconst (pc := 11) (v := nI 0) dX12_endless_11 (by decide) ?_
  refine R_callV1 (pc := 12) (As := [.int (nI 1), .int (nI 0)]) (rest := []) (Or.inl lk_X12_528) mk_X12_inRules (m_inRules (a := true) (b := false) hE.1) kc_572 ⟨by decide, rfl⟩ lc_572 dX12_endless_12 rfl rfl (Nat.le_of_ble_eq_true rfl) (by decide) rfl (Nat.le_refl _) (Nat.le_refl _) ?_
  rw [irN_L]
  refine T_istore_n (pc := 15) (i := 1) (ls' := [some (.ref 572), some (.int (nI (kLN X.R X.R.length))), none, none, none, none, none]) dX12_endless_15 rfl (by decide) rfl ?_
  refine T_iconst (pc := 16) (v := nI 1) dX12_endless_16 (by decide) ?_
  refine T_istore_n (pc := 17) (i := 2) (ls' := [some (.ref 572), some (.int (nI (kLN X.R X.R.length))), some (.int (nI 1)), none, none, none, none]) dX12_endless_17 rfl (by decide) rfl ?_
  suffices outer : ∀ (g n : Nat) (m : SM2), n + g = 4 → 1 ≤ n → OfM Fs S9 m0 m → T γ 13 0 0 M_X12_endless (Rm (some (.long (vO (ff (fun n => ff (enG X.R (wOf X LL) n) 0 (8 ^ n)) n g)))) (fun m => MdN μ m 0)) 0 0 18 [some (.ref 572), some (.int (nI (kLN X.R X.R.length))), some (.int (nI n)), none, none, none, none] [] (rm m) by
    exact outer 3 1 m0 rfl (Nat.le_refl _) (OfM.refl _ _ _)
  intro g
  induction g with
  | zero =>
    intro n m hn hn1 iO
    refine T_iload_n (pc := 18) (i := 2) dX12_endless_18 rfl rfl ?_
    refine T_iconst (pc := 19) (v := nI 4) dX12_endless_19 (by decide) ?_
    refine R_icmp_ge (pc := 20) (tgt := 89) (by omega) (by omega) dX12_endless_20 (by decide) (fun h1 => ?_) (fun h1 => ?_)
    · skip
      refine T_ldc2 (pc := 89) dX12_endless_89 cn_X12_171 ?_
      exact T_lret dX12_endless_92 rfl (Nat.le_refl _) (Nat.le_refl _) ⟨_, rfl, rfl, fin m iO⟩
    · exact absurd h1 (by omega)
  | succ g ih =>
    intro n m hn hn1 iO
    have p83 : 8 ^ n ≤ 8 ^ 3 := Nat.pow_le_pow_right (by decide) (by omega)
    have p80 : 0 < 8 ^ n := Nat.pow_pos (by decide)
    refine T_iload_n (pc := 18) (i := 2) dX12_endless_18 rfl rfl ?_
    refine T_iconst (pc := 19) (v := nI 4) dX12_endless_19 (by decide) ?_
    refine R_icmp_ge (pc := 20) (tgt := 89) (by omega) (by omega) dX12_endless_20 (by decide) (fun h1 => ?_) (fun h1 => ?_)
    · exact absurd h1 (by omega)
    · skip
      refine T_lconst (pc := 23) (v := lN 0) dX12_endless_23 rfl ?_
      refine T_lstore_n (pc := 24) (i := 3) (ls' := [some (.ref 572), some (.int (nI (kLN X.R X.R.length))), some (.int (nI n)), some (.long (lN 0)), none, none, none]) dX12_endless_24 rfl (by decide) rfl ?_
      suffices inner : ∀ (f v : Nat) (m : SM2), v + f = 8 ^ n → OfM Fs S9 m0 m → T γ 13 0 0 M_X12_endless (Rm (some (.long (vO (orE (ff (enG X.R (wOf X LL) n) v f) (ff (fun n => ff (enG X.R (wOf X LL) n) 0 (8 ^ n)) (n + 1) g))))) (fun m => MdN μ m 0)) 0 0 25 [some (.ref 572), some (.int (nI (kLN X.R X.R.length))), some (.int (nI n)), some (.long (lN v)), none, none, none] [] (rm m) by
        rw [ff_e]
        exact inner (8 ^ n) 0 m (Nat.zero_add _) iO
      intro f
      induction f with
      | zero =>
        intro v m2 hv jO
        refine T_lload_n (pc := 25) (i := 3) dX12_endless_25 rfl rfl ?_
        refine T_lconst (pc := 26) (v := lN 1) dX12_endless_26 rfl ?_
        refine T_iconst (pc := 27) (v := nI 3) dX12_endless_27 (by decide) ?_
        refine T_iload_n (pc := 28) (i := 2) dX12_endless_28 rfl rfl ?_
        refine R_imul (pc := 29) dX12_endless_29 ?_
        refine R_lshl (pc := 30) (by omega) dX12_endless_30 ?_
        refine T_topl (v := lN (8 ^ n)) ((by rw [p8, Nat.one_mul])) ?_
        refine T_lcmp (pc := 31) dX12_endless_31 ?_
        refine R_ln_ge (pc := 32) (tgt := 83) (by omega) (by omega) dX12_endless_32 (by decide) (fun h2 => ?_) (fun h2 => ?_)
        · skip
          refine R_iinc (pc := 83) (i := 2) (n := 1) (ls' := [some (.ref 572), some (.int (nI (kLN X.R X.R.length))), some (.int (nI (n + 1))), some (.long (lN v)), none, none, none]) dX12_endless_83 rfl rfl ?_
          refine T_goto (pc := 86) (tgt := 18) dX12_endless_86 (by decide) ?_
          refine T_ls (ls' := [some (.ref 572), some (.int (nI (kLN X.R X.R.length))), some (.int (nI (n + 1))), none, none, none, none]) (And.intro rfl (And.intro rfl (And.intro rfl True.intro))) ?_
          exact ih (n + 1) m2 (by omega) (by omega) jO
        · exact absurd h2 (by omega)
      | succ f ihf =>
        intro v m2 hv jO
        obtain ⟨hm, hc, hlen⟩ := mN_at (n := n) (v := v) (by omega) (by omega)
        have bc := cd_lt hm
        have jE := hE.k jO (by unfold Fs; omega) (by unfold Fs; omega)
        refine T_lload_n (pc := 25) (i := 3) dX12_endless_25 rfl rfl ?_
        refine T_lconst (pc := 26) (v := lN 1) dX12_endless_26 rfl ?_
        refine T_iconst (pc := 27) (v := nI 3) dX12_endless_27 (by decide) ?_
        refine T_iload_n (pc := 28) (i := 2) dX12_endless_28 rfl rfl ?_
        refine R_imul (pc := 29) dX12_endless_29 ?_
        refine R_lshl (pc := 30) (by omega) dX12_endless_30 ?_
        refine T_topl (v := lN (8 ^ n)) ((by rw [p8, Nat.one_mul])) ?_
        refine T_lcmp (pc := 31) dX12_endless_31 ?_
        refine R_ln_ge (pc := 32) (tgt := 83) (by omega) (by omega) dX12_endless_32 (by decide) (fun h2 => ?_) (fun h2 => ?_)
        · exact absurd h2 (by omega)
        · skip
          refine T_lconst (pc := 35) (v := lN 1) dX12_endless_35 rfl ?_
          refine T_iconst (pc := 36) (v := nI 3) dX12_endless_36 (by decide) ?_
          refine T_iload_n (pc := 37) (i := 2) dX12_endless_37 rfl rfl ?_
          refine R_imul (pc := 38) dX12_endless_38 ?_
          refine R_lshl (pc := 39) (by omega) dX12_endless_39 ?_
          refine T_lload_n (pc := 40) (i := 3) dX12_endless_40 rfl rfl ?_
          refine R_lor (pc := 41) dX12_endless_41 ?_
          refine T_topl (v := lN (cd (mN (8 ^ n + v)))) ((by have h9 := or_add 1 (show v < 8 ^ n by omega); rw [p8, h9, Nat.one_mul, hc])) ?_
          refine T_lstore (pc := 42) (i := 5) (ls' := [some (.ref 572), some (.int (nI (kLN X.R X.R.length))), some (.int (nI n)), some (.long (lN v)), none, some (.long (lN (cd (mN (8 ^ n + v))))), none]) dX12_endless_42 (by decide) rfl ?_
          refine T_lload (pc := 44) (i := 5) dX12_endless_44 rfl ?_
          refine R_callS1 (pc := 46) (av := [.long (lN (cd (mN (8 ^ n + v))))]) (rest := []) (Or.inl lk_X12_509) mk_X12_beastsOf (m_beastsOf hm) dX12_endless_46 rfl rfl (Nat.le_of_ble_eq_true rfl) (by decide) rfl (Nat.le_refl _) (Nat.le_refl _) ?_
          refine T_iload_n (pc := 49) (i := 1) dX12_endless_49 rfl rfl ?_
          refine T_iconst (pc := 50) (v := (-1)) dX12_endless_50 (by decide) ?_
          refine T_ixor (pc := 51) dX12_endless_51 ?_
          refine T_iand (pc := 52) dX12_endless_52 ?_
          have nxt : enG X.R (wOf X LL) n v = none → ∀ m3 : SM2, OfM Fs S9 m0 m3 → T γ 13 0 0 M_X12_endless (Rm (some (.long (vO (orE (ff (enG X.R (wOf X LL) n) v (f + 1)) (ff (fun n => ff (enG X.R (wOf X LL) n) 0 (8 ^ n)) (n + 1) g))))) (fun m => MdN μ m 0)) 0 0 76 [some (.ref 572), some (.int (nI (kLN X.R X.R.length))), some (.int (nI n)), some (.long (lN v)), none, some (.long (lN (cd (mN (8 ^ n + v))))), none] [] (rm m3) := fun e m3 kO => by
            rw [ff_s e]
            refine T_lload_n (pc := 76) (i := 3) dX12_endless_76 rfl rfl ?_
            refine T_lconst (pc := 77) (v := lN 1) dX12_endless_77 rfl ?_
            refine R_ladd (pc := 78) dX12_endless_78 ?_
            refine T_lstore_n (pc := 79) (i := 3) (ls' := [some (.ref 572), some (.int (nI (kLN X.R X.R.length))), some (.int (nI n)), some (.long (lN (v + 1))), none, some (.long (lN (cd (mN (8 ^ n + v))))), none]) dX12_endless_79 rfl (by decide) rfl ?_
            refine T_goto (pc := 80) (tgt := 25) dX12_endless_80 (by decide) ?_
            refine T_ls (ls' := [some (.ref 572), some (.int (nI (kLN X.R X.R.length))), some (.int (nI n)), some (.long (lN (v + 1))), none, none, none]) (And.intro rfl (And.intro rfl (And.intro rfl (And.intro rfl True.intro)))) ?_
            exact ihf (v + 1) m3 (by omega) kO
          refine T_if_ne (pc := 53) (tgt := 76) dX12_endless_53 (by decide) (fun h3 => ?_) (fun h3 => ?_)
          · refine nxt ?_ m2 jO
            unfold enG onlyB
            rw [decide_eq_false h3]
            rfl
          · skip
            refine T_aload_n (pc := 56) (i := 0) dX12_endless_56 rfl rfl ?_
            refine T_lload (pc := 57) (i := 5) dX12_endless_57 rfl ?_
            refine T_bipush (pc := 59) (v := nI 100) dX12_endless_59 (by decide) ?_
            refine T_aload_n (pc := 61) (i := 0) dX12_endless_61 rfl rfl ?_
            refine R_getR (pc := 62) (i := 573) fl_X12_29 rfl kc_572 lc_572 rc_572_1 dX12_endless_62 ?_
            refine T_iconst (pc := 65) (v := nI 5) dX12_endless_65 (by decide) ?_
            refine R_iald (pc := 66) (x := nI X.way) kc_573 lc_573 (by omega) (by first | decide | assumption) ((jO.i (by decide) (by unfold S9; omega) 5).trans hw5) dX12_endless_66 ?_
            refine R_callVm1 (pc := 67) (As := [.long (lN (cd (mN (8 ^ n + v)))), .int (nI 100), .int (nI X.way)]) (rest := []) (Or.inl lk_X12_423) mk_X12_isSettling (m_isSettling jE hm (by decide)) kc_572 ⟨by decide, rfl⟩ lc_572 dX12_endless_67 rfl rfl (Nat.le_of_ble_eq_true rfl) (by decide) rfl (Nat.le_refl _) (Nat.le_refl _) (fun m3 h4 => ?_)
            have kO := jO.trans h4.2
            cases e : stl (nxR X.R (wOf X LL)) 100 (mN (8 ^ n + v)) with
            | none =>
              have eg : enG X.R (wOf X LL) n v = some (mN (8 ^ n + v)) := by unfold enG onlyB; rw [decide_eq_true h3, e]; rfl
              rw [ff_y eg]
              show T _ _ _ _ _ _ _ _ 70 [some (.ref 572), some (.int (nI (kLN X.R X.R.length))), some (.int (nI n)), some (.long (lN v)), none, some (.long (lN (cd (mN (8 ^ n + v))))), none] [.int (bI false)] (rm m3)
              refine R_ifb_ne (pc := 70) (tgt := 76) dX12_endless_70 (by decide) (fun h5 => ?_) (fun h5 => ?_)
              · exact absurd h5 (by decide)
              · skip
                refine T_lload (pc := 73) (i := 5) dX12_endless_73 rfl ?_
                exact T_lret dX12_endless_75 rfl (Nat.le_refl _) (Nat.le_refl _) ⟨_, rfl, rfl, fin m3 kO⟩
            | some q =>
              show T _ _ _ _ _ _ _ _ 70 [some (.ref 572), some (.int (nI (kLN X.R X.R.length))), some (.int (nI n)), some (.long (lN v)), none, some (.long (lN (cd (mN (8 ^ n + v))))), none] [.int (bI true)] (rm m3)
              refine R_ifb_ne (pc := 70) (tgt := 76) dX12_endless_70 (by decide) (fun h5 => ?_) (fun h5 => ?_)
              · refine nxt ?_ m3 kO
                unfold enG
                rw [e, if_neg (by simp)]
              · exact absurd h5 (by decide)
end MG1

