/-! THE MODEL: years -/
theorem mdT.sd {g g' : Nat → Int32} {X : Td} {s : Int32} (h : mdT g X) (e8 : g' 8 = s) (e : ∀ j, j < 339 → j ≠ 8 → g' j = g j) : mdT g' (tdY X X.year s) :=
  ⟨h.1.some (fun j h1 h2 => e j (by omega) (by omega)), h.2.1.some (e 1 (by omega) (by omega)) (fun j h1 h2 => e j (by omega) (by omega)), h.2.2.1.some (e 2 (by omega) (by omega)) (fun j h1 h2 => e j (by omega) (by omega)), h.2.2.2.1.some (fun j h1 h2 => e j (by omega) (by omega)), h.2.2.2.2.1, (e 3 (by omega) (by omega)).trans h.2.2.2.2.2.1, (e 5 (by omega) (by omega)).trans h.2.2.2.2.2.2.1, (e 6 (by omega) (by omega)).trans h.2.2.2.2.2.2.2.1, (e 7 (by omega) (by omega)).trans h.2.2.2.2.2.2.2.2.1, e8⟩
theorem mdT.ye {g g' : Nat → Int32} {X : Td} {y : Int32} (h : mdT g X) (e7 : g' 7 = y) (e : ∀ j, j < 339 → j ≠ 7 → g' j = g j) : mdT g' (tdY X y X.seed) :=
  ⟨h.1.some (fun j h1 h2 => e j (by omega) (by omega)), h.2.1.some (e 1 (by omega) (by omega)) (fun j h1 h2 => e j (by omega) (by omega)), h.2.2.1.some (e 2 (by omega) (by omega)) (fun j h1 h2 => e j (by omega) (by omega)), h.2.2.2.1.some (fun j h1 h2 => e j (by omega) (by omega)), h.2.2.2.2.1, (e 3 (by omega) (by omega)).trans h.2.2.2.2.2.1, (e 5 (by omega) (by omega)).trans h.2.2.2.2.2.2.1, (e 6 (by omega) (by omega)).trans h.2.2.2.2.2.2.2.1, e7, (e 8 (by omega) (by omega)).trans h.2.2.2.2.2.2.2.2.2⟩
theorem sh16 (v : Int32) : ishr v (nI 16) &&& nI 32767 = iushr v (nI 16) &&& nI 32767 := by
  refine b_ext (fun j hj => ?_)
  rw [b_and, b_and]
  have e1 : bt (ishr v (nI 16)) j = if 16 + j < 32 then bt v (16 + j) else bt v 31 := by
    unfold ishr
    exact b_sshr 16 (by decide) v hj
  have e2 : bt (iushr v (nI 16)) j = bt v (16 + j) := by
    unfold iushr
    exact b_ushr 16 (by decide) v j
  have e3 : bt (nI 32767) j = decide (j < 15) := by
    rw [bt_nI hj, show (32767 : Nat) = 2 ^ 15 - 1 by decide, Nat.testBit_two_pow_sub_one]
  rw [e1, e2, e3]
  by_cases g : j < 15
  · rw [if_pos (by omega)]
  · rw [decide_eq_false g, Bool.and_false, Bool.and_false]
theorem mEnv.told {m : SM2} {X : Td} {LL : List (List Int32)} (hX : mdT (m.1 573) X) (hL : LawM (m.1 573) LL) (e16 : m.1 572 16 = nI (1 * 2 ^ X.R.length - 1)) (e17 : m.1 572 17 = 1) : mEnv m X.R LL (wOf X LL) := by
  have h12 := hX.1.1.2
  have hp2 : 2 ^ X.R.length ≤ 2 ^ 12 := Nat.pow_le_pow_right (by decide) h12
  refine ⟨hX.1, hL, ⟨hX.2.2.2.2.1.2.1, show (0 : Nat) < 2 ^ 12 by decide⟩, ⟨1 * 2 ^ X.R.length - 1, by omega, e16, fun r hr => ?_⟩, Or.inl ⟨e17, ?_⟩⟩
  · rw [Nat.one_mul, Nat.testBit_two_pow_sub_one, decide_eq_true hr]
    show true = !(Nat.testBit 0 r)
    rw [Nat.zero_testBit]
    rfl
  · show brQ X.R LL X.year = brQ X.R LL (m.1 573 7)
    rw [hX.2.2.2.2.2.2.2.2.1]
theorem tuR_s {f : Nat → Bool} {p j : Nat} : tuR f p (j + 1) = if f j = true then tuR f p j ++ [100 * p + j] else tuR f p j := rfl
theorem tuP_s {R : List Ru} {w : Wk} {l : List Nat} {q : Nat} : tuP R w l (q + 1) = tuP R w l q ++ tuR (fun r => fitB R w l r q) q R.length := rfl
/-- which of the turns was asked for -/
def ChP (z : Int32) (T : List Nat) (m : SM2) : Prop := ∀ j, z = nI j → j < T.length → m.1 572 19 = nI (T.getD j 0 % 100) ∧ m.1 572 20 = nI (T.getD j 0 / 100)
section MY1
variable {γ : Ga} {μ : SM2}
theorem m_asToldY {R : List Ru} (hR : mdR (μ.1 573) R) : Ex γ 2 0 0 M_X12_asTold [.ref 572] (rm μ) (Rm none (fun m => (m.1 572 16 = nI (1 * 2 ^ R.length - 1) ∧ m.1 572 17 = 1) ∧ (∀ j, j ≠ 16 → j ≠ 17 → m.1 572 j = μ.1 572 j) ∧ OfS (fun k => k = 572) μ m)) := by
  have h12 := hR.1.2
  have hp : 1 ≤ 1 * 2 ^ R.length := by rw [Nat.one_mul]; exact Nat.pow_pos (by decide)
  have hp2 : 2 ^ R.length ≤ 2 ^ 12 := Nat.pow_le_pow_right (by decide) h12
  refine Ex.of (by decide +kernel) rfl (Nat.le_of_ble_eq_true rfl) ?_
  show T _ _ _ _ _ _ _ _ _ [some (.ref 572)] [] (rm μ)
  refine T_aload_n (pc := 0) (i := 0) dX12_asTold_0 rfl rfl ?_
  refine T_iconst (pc := 1) (v := nI 1) dX12_asTold_1 (by decide) ?_
  refine T_aload_n (pc := 2) (i := 0) dX12_asTold_2 rfl rfl ?_
  refine R_callV1 (pc := 3) (As := []) (rest := [.int (nI 1), .ref 572]) (Or.inl lk_X12_121) mk_X12_rules (m_rules hR) kc_572 ⟨by decide, rfl⟩ lc_572 dX12_asTold_3 rfl rfl (Nat.le_of_ble_eq_true rfl) (by decide) rfl (Nat.le_refl _) (Nat.le_refl _) ?_
  refine R_ishl (pc := 6) (by omega) dX12_asTold_6 ?_
  refine T_iconst (pc := 7) (v := nI 1) dX12_asTold_7 (by decide) ?_
  refine R_isub (pc := 8) hp dX12_asTold_8 ?_
  refine R_putI (pc := 9) fl_X12_305 ⟨rfl, rfl⟩ (Or.inl rfl) kc_572 lc_572 dX12_asTold_9 ?_
  refine T_aload_n (pc := 12) (i := 0) dX12_asTold_12 rfl rfl ?_
  refine T_iconst (pc := 13) (v := nI 1) dX12_asTold_13 (by decide) ?_
  refine R_putI (pc := 14) fl_X12_308 ⟨rfl, rfl⟩ (Or.inr (Or.inr rfl)) kc_572 lc_572 dX12_asTold_14 ?_
  exact T_vret dX12_asTold_17 rfl (Nat.le_refl _) (Nat.le_refl _) ⟨_, rfl, rfl, ⟨(n_wI (by omega)).trans (e_wI ⟨rfl, rfl⟩), e_wI ⟨rfl, rfl⟩⟩, fun j h1 h2 => (n_wI (by omega)).trans (n_wI (by omega)), OfS.sI (OfS.sI (OfS.refl _ _) rfl) rfl⟩
theorem m_draw {s : Int32} {n : Nat} (hs : μ.1 573 8 = s) (hn : 0 < n ∧ n < 2 ^ 31) : Ex γ 1 0 0 M_X12_draw [.ref 572, .int (nI n)] (rm μ) (Fn (some (.int (nI (dvN s % n)))) (wI μ 573 8 (drI s))) := by
  have hd := dvN_lt s
  refine Ex.of (by decide +kernel) rfl (Nat.le_of_ble_eq_true rfl) ?_
  show T _ _ _ _ _ _ _ _ _ [some (.ref 572), some (.int (nI n))] [] (rm μ)
  refine T_aload_n (pc := 0) (i := 0) dX12_draw_0 rfl rfl ?_
  refine R_getR (pc := 1) (i := 573) fl_X12_29 rfl kc_572 lc_572 rc_572_1 dX12_draw_1 ?_
  refine T_bipush (pc := 4) (v := nI 8) dX12_draw_4 (by decide) ?_
  refine T_ldcw (pc := 6) dX12_draw_6 cn_X12_414 ?_
  refine T_topi (v := nI 1103515245) (fa_lit _) ?_
  refine T_aload_n (pc := 9) (i := 0) dX12_draw_9 rfl rfl ?_
  refine R_getR (pc := 10) (i := 573) fl_X12_29 rfl kc_572 lc_572 rc_572_1 dX12_draw_10 ?_
  refine T_bipush (pc := 13) (v := nI 8) dX12_draw_13 (by decide) ?_
  refine R_iald (pc := 15) (x := s) kc_573 lc_573 (by omega) (by first | decide | assumption) hs dX12_draw_15 ?_
  refine T_imul (pc := 16) dX12_draw_16 ?_
  refine T_sipush (pc := 17) (v := nI 12345) dX12_draw_17 (by decide) ?_
  refine T_iadd (pc := 20) dX12_draw_20 ?_
  refine R_iast (pc := 21) kc_573 lc_573 (by omega) (by first | decide | assumption) dX12_draw_21 ?_
  refine T_aload_n (pc := 22) (i := 0) dX12_draw_22 rfl rfl ?_
  refine R_getR (pc := 23) (i := 573) fl_X12_29 rfl kc_572 lc_572 rc_572_1 dX12_draw_23 ?_
  refine T_bipush (pc := 26) (v := nI 8) dX12_draw_26 (by decide) ?_
  refine R_iald (pc := 28) (x := ((((nI 1103515245) * (s))) + (nI 12345))) kc_573 lc_573 (by omega) (by first | decide | assumption) wI_eq dX12_draw_28 ?_
  refine T_bipush (pc := 29) (v := nI 16) dX12_draw_29 (by decide) ?_
  refine T_ishr (pc := 31) dX12_draw_31 ?_
  refine T_sipush (pc := 32) (v := nI 32767) dX12_draw_32 (by decide) ?_
  refine T_iand (pc := 35) dX12_draw_35 ?_
  refine T_topi (v := nI (dvN s)) (((sh16 (drI s)).trans (dvI_n s))) ?_
  refine T_iload_n (pc := 36) (i := 1) dX12_draw_36 rfl rfl ?_
  refine R_irem (pc := 37) ⟨by omega, by omega, by omega⟩ dX12_draw_37 ?_
  exact T_iret (pc := 38) (ty := .int) dX12_draw_38 rfl rfl (Nat.le_refl _) (Nat.le_refl _) ⟨rfl, rfl⟩
theorem m_choices {R : List Ru} {LL : List (List Int32)} {w : Wk} {l : List Nat} {z : Int32} (hE : mEnv μ R LL w) (hl : Mw l) : Ex γ 9 0 0 M_X12_choices [.ref 572, .long (lN (cd l)), .int z] (rm μ) (Rm (some (.int (nI (tuW R w l).length))) (fun m => ChP z (tuW R w l) m ∧ OfM Fk S9 μ m)) := by
  have h20 := hl.1
  have h12 := hE.1.1.2
  have ki : ∀ (m : SM2), OfM Fk S9 μ m → mEnv m R LL w := fun m h => hE.om h (by unfold S9; omega) (by unfold Fk; omega) (by unfold Fk; omega)
  refine Ex.of (by decide +kernel) rfl (Nat.le_of_ble_eq_true rfl) ?_
  show T _ _ _ _ _ _ _ _ _ [some (.ref 572), some (.long (lN (cd l))), none, some (.int (z)), none, none, none] [] (rm μ)
  refine T_iconst (pc := 0) (v := nI 0) dX12_choices_0 (by decide) ?_
  refine T_istore (pc := 1) (i := 4) (ls' := [some (.ref 572), some (.long (lN (cd l))), none, some (.int (z)), some (.int (nI 0)), none, none]) dX12_choices_1 (by decide) rfl ?_
  refine T_iconst (pc := 3) (v := nI 0) dX12_choices_3 (by decide) ?_
  refine T_istore (pc := 4) (i := 5) (ls' := [some (.ref 572), some (.long (lN (cd l))), none, some (.int (z)), some (.int (nI 0)), some (.int (nI 0)), none]) dX12_choices_4 (by decide) rfl ?_
  suffices outer : ∀ (f a : Nat) (m : SM2), a + f = l.length → ChP z (tuP R w l a) m → OfM Fk S9 μ m → T γ 9 0 0 M_X12_choices (Rm (some (.int (nI (tuW R w l).length))) (fun m => ChP z (tuW R w l) m ∧ OfM Fk S9 μ m)) 0 0 6 [some (.ref 572), some (.long (lN (cd l))), none, some (.int z), some (.int (nI (tuP R w l a).length)), some (.int (nI a)), none] [] (rm m) by
    exact outer l.length 0 μ (Nat.zero_add _) (fun j _ hj => absurd hj (Nat.not_lt_zero _)) (OfM.refl _ _ _)
  intro f
  induction f with
  | zero =>
    intro a m ha hC hO
    obtain rfl : a = l.length := by omega
    refine T_iload (pc := 6) (i := 5) dX12_choices_6 rfl ?_
    refine T_lload_n (pc := 8) (i := 1) dX12_choices_8 rfl rfl ?_
    refine R_callS1 (pc := 9) (av := [.long (lN (cd l))]) (rest := [.int (nI l.length)]) (Or.inl lk_X12_13) mk_X12_size (m_size hl) dX12_choices_9 rfl rfl (Nat.le_of_ble_eq_true rfl) (by decide) rfl (Nat.le_refl _) (Nat.le_refl _) ?_
    refine R_icmp_ge (pc := 12) (tgt := 95) (by omega) (by omega) dX12_choices_12 (by decide) (fun h1 => ?_) (fun h1 => ?_)
    · skip
      refine T_iload (pc := 95) (i := 4) dX12_choices_95 rfl ?_
      exact T_iret (pc := 97) (ty := .int) dX12_choices_97 rfl rfl (Nat.le_refl _) (Nat.le_refl _) ⟨_, rfl, rfl, hC, hO⟩
    · exact absurd h1 (by omega)
  | succ f ihA =>
    intro a m ha hC hO
    refine T_iload (pc := 6) (i := 5) dX12_choices_6 rfl ?_
    refine T_lload_n (pc := 8) (i := 1) dX12_choices_8 rfl rfl ?_
    refine R_callS1 (pc := 9) (av := [.long (lN (cd l))]) (rest := [.int (nI a)]) (Or.inl lk_X12_13) mk_X12_size (m_size hl) dX12_choices_9 rfl rfl (Nat.le_of_ble_eq_true rfl) (by decide) rfl (Nat.le_refl _) (Nat.le_refl _) ?_
    refine R_icmp_ge (pc := 12) (tgt := 95) (by omega) (by omega) dX12_choices_12 (by decide) (fun h1 => ?_) (fun h1 => ?_)
    · exact absurd h1 (by omega)
    · skip
      refine T_iconst (pc := 15) (v := nI 0) dX12_choices_15 (by decide) ?_
      refine T_istore (pc := 16) (i := 6) (ls' := [some (.ref 572), some (.long (lN (cd l))), none, some (.int (z)), some (.int (nI ((tuP R w l a).length))), some (.int (nI a)), some (.int (nI 0))]) dX12_choices_16 (by decide) rfl ?_
      suffices inner : ∀ (g b : Nat) (m : SM2), b + g = R.length → ChP z (tuP R w l a ++ tuR (fun r => fitB R w l r a) a b) m → OfM Fk S9 μ m → T γ 9 0 0 M_X12_choices (Rm (some (.int (nI (tuW R w l).length))) (fun m => ChP z (tuW R w l) m ∧ OfM Fk S9 μ m)) 0 0 18 [some (.ref 572), some (.long (lN (cd l))), none, some (.int z), some (.int (nI (tuP R w l a ++ tuR (fun r => fitB R w l r a) a b).length)), some (.int (nI a)), some (.int (nI b))] [] (rm m) by
        have h9 := inner R.length 0 m (Nat.zero_add _) (by rw [show tuR (fun r => fitB R w l r a) a 0 = [] from rfl, List.append_nil]; exact hC) hO
        rw [show tuR (fun r => fitB R w l r a) a 0 = [] from rfl, List.append_nil] at h9
        exact h9
      intro g
      induction g with
      | zero =>
        intro b m2 hb hC2 hO2
        obtain rfl : b = R.length := by omega
        refine T_iload (pc := 18) (i := 6) dX12_choices_18 rfl ?_
        refine T_aload_n (pc := 20) (i := 0) dX12_choices_20 rfl rfl ?_
        refine R_callV1 (pc := 21) (As := []) (rest := [.int (nI R.length)]) (Or.inl lk_X12_121) mk_X12_rules (m_rules (ki m2 hO2).1) kc_572 ⟨by decide, rfl⟩ lc_572 dX12_choices_21 rfl rfl (Nat.le_of_ble_eq_true rfl) (by decide) rfl (Nat.le_refl _) (Nat.le_refl _) ?_
        refine R_icmp_ge (pc := 24) (tgt := 89) (by omega) (by omega) dX12_choices_24 (by decide) (fun h2 => ?_) (fun h2 => ?_)
        · skip
          refine R_iinc (pc := 89) (i := 5) (n := 1) (ls' := [some (.ref 572), some (.long (lN (cd l))), none, some (.int (z)), some (.int (nI ((tuP R w l a ++ tuR (fun r => fitB R w l r a) a R.length).length))), some (.int (nI (a + 1))), some (.int (nI R.length))]) dX12_choices_89 rfl rfl ?_
          refine T_goto (pc := 92) (tgt := 6) dX12_choices_92 (by decide) ?_
          refine T_ls (ls' := [some (.ref 572), some (.long (lN (cd l))), none, some (.int (z)), some (.int (nI ((tuP R w l a ++ tuR (fun r => fitB R w l r a) a R.length).length))), some (.int (nI (a + 1))), none]) (And.intro rfl (And.intro rfl (And.intro rfl (And.intro rfl (And.intro rfl True.intro))))) ?_
          exact ihA (a + 1) m2 (by omega) hC2 hO2
        · exact absurd h2 (by omega)
      | succ g ihB =>
        intro b m2 hb hC2 hO2
        obtain ⟨V, hV⟩ : ∃ V, V = tuP R w l a ++ tuR (fun r => fitB R w l r a) a b := ⟨_, rfl⟩
        have hVl : V.length < 2 ^ 31 := by
          have h7 := tuP_len (R := R) (w := w) (l := l) h12 a
          have h8 := tuR_len (fun r => fitB R w l r a) a b
          rw [hV, List.length_append]
          omega
        rw [← hV] at hC2 ⊢
        refine T_iload (pc := 18) (i := 6) dX12_choices_18 rfl ?_
        refine T_aload_n (pc := 20) (i := 0) dX12_choices_20 rfl rfl ?_
        refine R_callV1 (pc := 21) (As := []) (rest := [.int (nI b)]) (Or.inl lk_X12_121) mk_X12_rules (m_rules (ki m2 hO2).1) kc_572 ⟨by decide, rfl⟩ lc_572 dX12_choices_21 rfl rfl (Nat.le_of_ble_eq_true rfl) (by decide) rfl (Nat.le_refl _) (Nat.le_refl _) ?_
        refine R_icmp_ge (pc := 24) (tgt := 89) (by omega) (by omega) dX12_choices_24 (by decide) (fun h2 => ?_) (fun h2 => ?_)
        · exact absurd h2 (by omega)
        · skip
          refine T_aload_n (pc := 27) (i := 0) dX12_choices_27 rfl rfl ?_
          refine T_lload_n (pc := 28) (i := 1) dX12_choices_28 rfl rfl ?_
          refine T_iload (pc := 29) (i := 6) dX12_choices_29 rfl ?_
          refine T_iload (pc := 31) (i := 5) dX12_choices_31 rfl ?_
          refine R_callVm1 (pc := 33) (As := [.long (lN (cd l)), .int (nI b), .int (nI a)]) (rest := []) (Or.inl lk_X12_339) mk_X12_isFit (m_isFit (ki m2 hO2) hl (by omega) (by omega)) kc_572 ⟨by decide, rfl⟩ lc_572 dX12_choices_33 rfl rfl (Nat.le_of_ble_eq_true rfl) (by decide) rfl (Nat.le_refl _) (Nat.le_refl _) (fun m3 hO3 => ?_)
          have hO4 : OfM Fk S9 μ m3 := hO2.trans hO3.k
          have hC3 : ChP z V m3 := fun j e hj => ⟨(hO3.i (by unfold S9; omega) 19).trans (hC2 j e hj).1, (hO3.i (by unfold S9; omega) 20).trans (hC2 j e hj).2⟩
          cases eb : fitB R w l b a with
          | false =>
            have es : tuP R w l a ++ tuR (fun r => fitB R w l r a) a (b + 1) = V := by rw [tuR_s, if_neg (by rw [eb]; decide), hV]
            refine R_ifb_ne (pc := 36) (tgt := 42) dX12_choices_36 (by decide) (fun h3 => ?_) (fun h3 => ?_)
            · exact absurd h3 (by decide)
            · skip
              refine T_goto (pc := 39) (tgt := 83) dX12_choices_39 (by decide) ?_
              refine R_iinc (pc := 83) (i := 6) (n := 1) (ls' := [some (.ref 572), some (.long (lN (cd l))), none, some (.int (z)), some (.int (nI V.length)), some (.int (nI a)), some (.int (nI (b + 1)))]) dX12_choices_83 rfl rfl ?_
              refine T_goto (pc := 86) (tgt := 18) dX12_choices_86 (by decide) ?_
              have h9 := ihB (b + 1) m3 (by omega) (by rw [es]; exact hC3) hO4
              rw [es] at h9
              exact h9
          | true =>
            have es : tuP R w l a ++ tuR (fun r => fitB R w l r a) a (b + 1) = V ++ [100 * a + b] := by rw [tuR_s, if_pos eb, hV, List.append_assoc]
            have hq1 : (100 * a + b) % 100 = b := by omega
            have hq2 : (100 * a + b) / 100 = a := by omega
            have fin : ∀ m4 : SM2, ChP z (V ++ [100 * a + b]) m4 → OfM Fk S9 μ m4 → T γ 9 0 0 M_X12_choices (Rm (some (.int (nI (tuW R w l).length))) (fun m => ChP z (tuW R w l) m ∧ OfM Fk S9 μ m)) 0 0 18 [some (.ref 572), some (.long (lN (cd l))), none, some (.int z), some (.int (nI (V.length + 1))), some (.int (nI a)), some (.int (nI (b + 1)))] [] (rm m4) := fun m4 c1 c2 => by
              have h9 := ihB (b + 1) m4 (by omega) (by rw [es]; exact c1) c2
              rw [es, List.length_append] at h9
              exact h9
            refine R_ifb_ne (pc := 36) (tgt := 42) dX12_choices_36 (by decide) (fun h3 => ?_) (fun h3 => ?_)
            · skip
              refine T_aload_n (pc := 42) (i := 0) dX12_choices_42 rfl rfl ?_
              refine T_iload (pc := 43) (i := 4) dX12_choices_43 rfl ?_
              refine T_iload_n (pc := 45) (i := 3) dX12_choices_45 rfl rfl ?_
              refine T_icmp_ne (pc := 46) (tgt := 54) dX12_choices_46 (by decide) (fun h4 => ?_) (fun h4 => ?_)
              · skip
                refine T_aload_n (pc := 54) (i := 0) dX12_choices_54 rfl rfl ?_
                refine R_getI (pc := 55) (x := (m3.1 572 19)) fl_X12_343 rfl kc_572 lc_572 rfl dX12_choices_55 ?_
                refine R_putI (pc := 58) fl_X12_343 ⟨rfl, rfl⟩ (Or.inl rfl) kc_572 lc_572 dX12_choices_58 ?_
                refine T_aload_n (pc := 61) (i := 0) dX12_choices_61 rfl rfl ?_
                refine T_iload (pc := 62) (i := 4) dX12_choices_62 rfl ?_
                refine T_iload_n (pc := 64) (i := 3) dX12_choices_64 rfl rfl ?_
                refine T_icmp_ne (pc := 65) (tgt := 73) dX12_choices_65 (by decide) (fun h5 => ?_) (fun h5 => ?_)
                · skip
                  refine T_aload_n (pc := 73) (i := 0) dX12_choices_73 rfl rfl ?_
                  refine R_getI (pc := 74) (x := (m3.1 572 20)) fl_X12_346 rfl kc_572 lc_572 (wI_ne (by decide)) dX12_choices_74 ?_
                  refine R_putI (pc := 77) fl_X12_346 ⟨rfl, rfl⟩ (Or.inl rfl) kc_572 lc_572 dX12_choices_77 ?_
                  refine R_iinc (pc := 80) (i := 4) (n := 1) (ls' := [some (.ref 572), some (.long (lN (cd l))), none, some (.int (z)), some (.int (nI (V.length + 1))), some (.int (nI a)), some (.int (nI b))]) dX12_choices_80 rfl rfl ?_
                  refine R_iinc (pc := 83) (i := 6) (n := 1) (ls' := [some (.ref 572), some (.long (lN (cd l))), none, some (.int (z)), some (.int (nI (V.length + 1))), some (.int (nI a)), some (.int (nI (b + 1)))]) dX12_choices_83 rfl rfl ?_
                  refine T_goto (pc := 86) (tgt := 18) dX12_choices_86 (by decide) ?_
                  refine fin _ (fun j e hj => ?_) ((hO4.sF (Or.inl rfl)).sF (Or.inr rfl))
                  rw [List.length_append] at hj
                  have hj2 : j < V.length + 1 := hj
                  have hjn : j ≠ V.length := fun q => h4 (by rw [e, q])
                  rw [getD_snoc hj2, if_pos (by omega)]
                  have h8 := hC3 j e (by omega)
                  exact ⟨(n_wI (by omega)).trans ((e_wI ⟨rfl, rfl⟩).trans h8.1), (e_wI ⟨rfl, rfl⟩).trans h8.2⟩
                · exact absurd h5 (fun q => h4 q)
              · skip
                refine T_iload (pc := 49) (i := 6) dX12_choices_49 rfl ?_
                refine T_goto (pc := 51) (tgt := 58) dX12_choices_51 (by decide) ?_
                refine R_putI (pc := 58) fl_X12_343 ⟨rfl, rfl⟩ (Or.inl rfl) kc_572 lc_572 dX12_choices_58 ?_
                refine T_aload_n (pc := 61) (i := 0) dX12_choices_61 rfl rfl ?_
                refine T_iload (pc := 62) (i := 4) dX12_choices_62 rfl ?_
                refine T_iload_n (pc := 64) (i := 3) dX12_choices_64 rfl rfl ?_
                refine T_icmp_ne (pc := 65) (tgt := 73) dX12_choices_65 (by decide) (fun h5 => ?_) (fun h5 => ?_)
                · exact absurd h4 h5
                · skip
                  refine T_iload (pc := 68) (i := 5) dX12_choices_68 rfl ?_
                  refine T_goto (pc := 70) (tgt := 77) dX12_choices_70 (by decide) ?_
                  refine R_putI (pc := 77) fl_X12_346 ⟨rfl, rfl⟩ (Or.inl rfl) kc_572 lc_572 dX12_choices_77 ?_
                  refine R_iinc (pc := 80) (i := 4) (n := 1) (ls' := [some (.ref 572), some (.long (lN (cd l))), none, some (.int (z)), some (.int (nI (V.length + 1))), some (.int (nI a)), some (.int (nI b))]) dX12_choices_80 rfl rfl ?_
                  refine R_iinc (pc := 83) (i := 6) (n := 1) (ls' := [some (.ref 572), some (.long (lN (cd l))), none, some (.int (z)), some (.int (nI (V.length + 1))), some (.int (nI a)), some (.int (nI (b + 1)))]) dX12_choices_83 rfl rfl ?_
                  refine T_goto (pc := 86) (tgt := 18) dX12_choices_86 (by decide) ?_
                  refine fin _ (fun j e hj => ?_) ((hO4.sF (Or.inl rfl)).sF (Or.inr rfl))
                  rw [List.length_append] at hj
                  have hj2 : j < V.length + 1 := hj
                  have hjn : j = V.length := by
                    have e9 : nI j = nI V.length := e.symm.trans h4.symm
                    rw [fa_eq, nI_toInt (by omega), nI_toInt (by omega)] at e9
                    omega
                  rw [getD_snoc hj2, if_neg (by omega), hq1, hq2]
                  exact ⟨(n_wI (by omega)).trans (e_wI ⟨rfl, rfl⟩), e_wI ⟨rfl, rfl⟩⟩
            · exact absurd h3 (by decide)
theorem wOf_sd {X : Td} {LL : List (List Int32)} {s : Int32} : wOf (tdY X X.year s) LL = wOf X LL := rfl
theorem R_sd {X : Td} {y s : Int32} : (tdY X y s).R = X.R := rfl
theorem F_sd {X : Td} {y s : Int32} : (tdY X y s).F = X.F := rfl
/-- ahead of a YEAR: all is told, RULES and LAW are looked at -/
def MYs (m : SM2) (X : Td) (LL : List (List Int32)) : Prop := (mdT (m.1 573) X ∧ LawM (m.1 573) LL) ∧ m.1 572 16 = nI (1 * 2 ^ X.R.length - 1) ∧ m.1 572 17 = 1
def Wys (μ m : SM2) : Prop := OfM Fst Swd μ m ∧ ∀ j, (j = 4 ∨ 339 ≤ j) → m.1 573 j = μ.1 573 j
theorem Wys.trans {a b c : SM2} (h : Wys a b) (g : Wys b c) : Wys a c := ⟨h.1.trans g.1, fun j hj => (g.2 j hj).trans (h.2 j hj)⟩
theorem OfM.ws {F : Nat → Prop} {μ m : SM2} (h : OfM F S9 μ m) (g : ∀ j, F j → Fst j) : Wys μ m := ⟨h.mono g (fun k hk => by unfold S9 at hk; unfold Swd; omega), fun j _ => h.i (by decide) (by unfold S9; omega) j⟩
theorem MYs.w {μ m : SM2} {X X2 : Td} {LL : List (List Int32)} (h : MYs μ X LL) (g : Wys μ m) (hX : mdT (m.1 573) X2) (e : X2.R = X.R) : MYs m X2 LL :=
  ⟨⟨hX, h.1.2.wk g.2⟩, by rw [e]; exact (g.1.fi (by unfold Fst; omega)).trans h.2.1, (g.1.fi (by unfold Fst; omega)).trans h.2.2⟩
theorem MYs.e {m : SM2} {X : Td} {LL : List (List Int32)} (h : MYs m X LL) : mEnv m X.R LL (wOf X LL) := mEnv.told h.1.1 h.1.2 h.2.1 h.2.2
theorem Wys.one {μ : SM2} {k : Nat} {x : Int32} (hk : k = 7 ∨ k = 8) : Wys μ (wI μ 573 k x) := ⟨OfM.sI (OfM.refl _ _ _) (Or.inl rfl) (by decide), fun j hj => n_wI (by omega)⟩
theorem MYs.sd {μ : SM2} {X : Td} {LL : List (List Int32)} (h : MYs μ X LL) (s : Int32) : MYs (wI μ 573 8 s) (tdY X X.year s) LL := h.w (Wys.one (Or.inr rfl)) (h.1.1.sd (e_wI ⟨rfl, rfl⟩) (fun j _ hj => n_wI (by omega))) rfl
theorem MYs.ye {μ : SM2} {X : Td} {LL : List (List Int32)} (h : MYs μ X LL) (y : Int32) : MYs (wI μ 573 7 y) (tdY X y X.seed) LL := h.w (Wys.one (Or.inl rfl)) (h.1.1.ye (e_wI ⟨rfl, rfl⟩) (fun j _ hj => n_wI (by omega))) rfl
theorem m_choicesY {X Y : Td} {LL : List (List Int32)} {k : Nat} {z : Int32} (hS : MYs μ Y LL) (eR : Y.R = X.R) (eW : wOf Y LL = wOf X LL) (hl : Mw (fAt X.F k).1) : Ex γ 9 0 0 M_X12_choices [.ref 572, .long (lN (cd (fAt X.F k).1)), .int z] (rm μ) (Rm (some (.int (nI (yrT X LL k).length))) (fun m => ChP z (yrT X LL k) m ∧ OfM Fk S9 μ m)) := by
  have hE := hS.e
  rw [eR, eW] at hE
  exact m_choices hE hl
theorem m_drawE {s s2 : Int32} {n : Nat} (hs : μ.1 573 8 = s) (hn : 0 < n ∧ n < 2 ^ 31) (e : s2 = drI s) : Ex γ 1 0 0 M_X12_draw [.ref 572, .int (nI n)] (rm μ) (Fn (some (.int (nI (dvN s % n)))) (wI μ 573 8 s2)) := by
  rw [e]
  exact m_draw hs hn
theorem m_year {k : Nat} {X : Td} {LL : List (List Int32)} (hS : MYs μ X LL) (hk : k < X.F.length) : Ex γ 10 0 0 M_X12_year [.ref 572, .int (nI k)] (rm μ) (Rm (some (.int (bI (yrB X LL k)))) (fun m => MYs m (yrX X LL k) LL ∧ Wys μ m)) := by
  have hX := hS.1.1
  have h6 := hX.2.1.1.2
  have h12 := hX.1.1.2
  have hok := hX.1.2.1
  have hf := hX.2.1.2 k hk
  have h20 := hf.1.1.1
  -- behind the first draw
  obtain ⟨s1, es1⟩ : ∃ s1, s1 = drI X.seed := ⟨_, rfl⟩
  obtain ⟨s2, es2⟩ : ∃ s2, s2 = drI s1 := ⟨_, rfl⟩
  have hS1 := hS.sd s1
  have hX1 := hS1.1.1
  have hd1 := dvN_lt X.seed
  -- the end: a YEAR more
  have fin : ∀ (b : Bool) (X2 : Td) (m : SM2) (mny : Nat), b = yrB X LL k → (0 < mny ↔ b = true) → mny < 2 ^ 31 → MYs m X2 LL → Wys μ m → X2.R = X.R → tdY X2 (X2.year + 1) X2.seed = yrX X LL k → T γ 10 0 0 M_X12_year (Rm (some (.int (bI (yrB X LL k)))) (fun m => MYs m (yrX X LL k) LL ∧ Wys μ m)) 0 0 73 [some (.ref 572), some (.int (nI k)), none, some (.int (nI mny))] [] (rm m) := fun b X2 m mny eb hmb hmny hS2 hW hR2 eX => by
    have hS3 : MYs (wI m 573 7 (X2.year + 1)) (yrX X LL k) LL := by rw [← eX]; exact hS2.ye (X2.year + 1)
    have hW3 : Wys μ (wI m 573 7 (X2.year + 1)) := hW.trans (Wys.one (Or.inl rfl))
    rw [← eb]
    refine T_aload_n (pc := 73) (i := 0) dX12_year_73 rfl rfl ?_
    refine R_getR (pc := 74) (i := 573) fl_X12_29 rfl kc_572 lc_572 rc_572_1 dX12_year_74 ?_
    refine T_bipush (pc := 77) (v := nI 7) dX12_year_77 (by decide) ?_
    refine T_dup2 (pc := 79) dX12_year_79 rfl rfl ?_
    refine R_iald (pc := 80) (x := X2.year) kc_573 lc_573 (by omega) (by first | decide | assumption) hS2.1.1.2.2.2.2.2.2.2.2.1 dX12_year_80 ?_
    refine T_iconst (pc := 81) (v := nI 1) dX12_year_81 (by decide) ?_
    refine T_iadd (pc := 82) dX12_year_82 ?_
    refine R_iast (pc := 83) kc_573 lc_573 (by omega) (by first | decide | assumption) dX12_year_83 ?_
    refine T_iload_n (pc := 84) (i := 3) dX12_year_84 rfl rfl ?_
    refine R_if_le (pc := 85) (tgt := 92) (by omega) dX12_year_85 (by decide) (fun g1 => ?_) (fun g1 => ?_)
    · skip
      refine T_iconst (pc := 92) (v := nI 0) dX12_year_92 (by decide) ?_
      have e9 : b = false := by
        cases b with
        | false => rfl
        | true => exact absurd (hmb.mpr rfl) (by omega)
      rw [e9]
      exact T_iret (pc := 93) (ty := .boolean) dX12_year_93 rfl (by decide) (Nat.le_refl _) (Nat.le_refl _) ⟨_, rfl, rfl, hS3, hW3⟩
    · skip
      refine T_iconst (pc := 88) (v := nI 1) dX12_year_88 (by decide) ?_
      refine T_goto (pc := 89) (tgt := 93) dX12_year_89 (by decide) ?_
      have e9 : b = true := hmb.mp (by omega)
      rw [e9]
      exact T_iret (pc := 93) (ty := .boolean) dX12_year_93 rfl (by decide) (Nat.le_refl _) (Nat.le_refl _) ⟨_, rfl, rfl, hS3, hW3⟩
  refine Ex.of (by decide +kernel) rfl (Nat.le_of_ble_eq_true rfl) ?_
  show T _ _ _ _ _ _ _ _ _ [some (.ref 572), some (.int (nI k)), none, none] [] (rm μ)
  refine T_aload_n (pc := 0) (i := 0) dX12_year_0 rfl rfl ?_
  refine T_bipush (pc := 1) (v := nI 100) dX12_year_1 (by decide) ?_
  refine R_callV1 (pc := 3) (As := [.int (nI 100)]) (rest := []) (Or.inl lk_X12_415) mk_X12_draw (m_drawE hX.2.2.2.2.2.2.2.2.2 (by decide) es1) kc_572 ⟨by decide, rfl⟩ lc_572 dX12_year_3 rfl rfl (Nat.le_of_ble_eq_true rfl) (by decide) rfl (Nat.le_refl _) (Nat.le_refl _) ?_
  have hfog := hX.2.2.2.2.1.2.2
  refine T_aload_n (pc := 6) (i := 0) dX12_year_6 rfl rfl ?_
  refine R_getR (pc := 7) (i := 573) fl_X12_29 rfl kc_572 lc_572 rc_572_1 dX12_year_7 ?_
  refine T_bipush (pc := 10) (v := nI 6) dX12_year_10 (by decide) ?_
  refine R_iald (pc := 12) (x := nI X.fog) kc_573 lc_573 (by omega) (by first | decide | assumption) ((n_wI (by omega)).trans hX.2.2.2.2.2.2.2.1) dX12_year_12 ?_
  refine R_icmp_ge (pc := 13) (tgt := 20) (by omega) (by omega) dX12_year_13 (by decide) (fun g1 => ?_) (fun g1 => ?_)
  · skip
    refine T_iconst (pc := 20) (v := nI 0) dX12_year_20 (by decide) ?_
    refine T_istore_n (pc := 21) (i := 2) (ls' := [some (.ref 572), some (.int (nI k)), some (.int (nI 0)), none]) dX12_year_21 rfl (by decide) rfl ?_
    refine T_iload_n (pc := 22) (i := 2) dX12_year_22 rfl rfl ?_
    refine R_if_eq (pc := 23) (tgt := 30) (by omega) dX12_year_23 (by decide) (fun g2 => ?_) (fun g2 => ?_)
    · skip
      refine T_aload_n (pc := 30) (i := 0) dX12_year_30 rfl rfl ?_
      refine T_aload_n (pc := 31) (i := 0) dX12_year_31 rfl rfl ?_
      refine T_iload_n (pc := 32) (i := 1) dX12_year_32 rfl rfl ?_
      refine R_callV1 (pc := 33) (As := [.int (nI k)]) (rest := [.ref 572]) (Or.inl lk_X12_379) mk_X12_meadow (m_meadow hX1.2.1 hk) kc_572 ⟨by decide, rfl⟩ lc_572 dX12_year_33 rfl rfl (Nat.le_of_ble_eq_true rfl) (by decide) rfl (Nat.le_refl _) (Nat.le_refl _) ?_
      refine T_iconst (pc := 36) (v := (-1)) dX12_year_36 (by decide) ?_
      refine R_callVm1 (pc := 37) (As := [.long (lN (cd (fAt X.F k).1)), .int ((-1))]) (rest := []) (Or.inl lk_X12_418) mk_X12_choices (m_choicesY hS1 R_sd wOf_sd hf.1.1) kc_572 ⟨by decide, rfl⟩ lc_572 dX12_year_37 rfl rfl (Nat.le_of_ble_eq_true rfl) (by decide) rfl (Nat.le_refl _) (Nat.le_refl _) (fun m1 c1 => ?_)
      obtain ⟨-, cO⟩ := c1
      have hW1 : Wys μ m1 := (Wys.one (Or.inr rfl)).trans (cO.ws (fun j hj => by unfold Fk at hj; unfold Fst; omega))
      have hXa : mdT (m1.1 573) (tdY X X.year s1) := by rw [(cO.c (by decide) (by unfold S9; omega)).1]; exact hX1
      have hSa : MYs m1 (tdY X X.year s1) LL := hS1.w (cO.ws (fun j hj => by unfold Fk at hj; unfold Fst; omega)) hXa rfl
      have hTl : (yrT X LL k).length < 2 ^ 31 := by
        have := tuP_len (R := X.R) (w := wOf X LL) (l := (fAt X.F k).1) h12 (fAt X.F k).1.length
        show (tuP X.R (wOf X LL) (fAt X.F k).1 (fAt X.F k).1.length).length < 2 ^ 31
        omega
      have e8 : decide (dvN X.seed % 100 < X.fog) = false := decide_eq_false (by omega)
      have eyb : yrB X LL k = !decide ((yrT X LL k).length = 0) := by unfold yrB; rw [e8]; rfl
      refine T_istore_n (pc := 40) (i := 3) (ls' := [some (.ref 572), some (.int (nI k)), some (.int (nI 0)), some (.int (nI ((yrT X LL k).length)))]) dX12_year_40 rfl (by decide) rfl ?_
      refine T_iload_n (pc := 41) (i := 3) dX12_year_41 rfl rfl ?_
      refine R_if_le (pc := 42) (tgt := 73) (by omega) dX12_year_42 (by decide) (fun g3 => ?_) (fun g3 => ?_)
      · have e0 : (yrT X LL k).length = 0 := by omega
        have eb : yrB X LL k = false := by rw [eyb, decide_eq_true e0]; rfl
        refine T_ls (ls' := [some (.ref 572), some (.int (nI k)), none, some (.int (nI (yrT X LL k).length))]) (And.intro rfl (And.intro rfl (And.intro rfl True.intro))) ?_
        exact fin false (tdY X X.year s1) m1 _ eb.symm ⟨fun z => absurd z (by omega), fun z => Bool.noConfusion z⟩ hTl hSa hW1 rfl (by unfold yrX; rw [eb, ← es1]; rfl)
      · skip
        have hpos : 0 < (yrT X LL k).length := by omega
        have eb : yrB X LL k = true := by rw [eyb, decide_eq_false (by omega)]; rfl
        refine T_aload_n (pc := 45) (i := 0) dX12_year_45 rfl rfl ?_
        refine T_aload_n (pc := 46) (i := 0) dX12_year_46 rfl rfl ?_
        refine T_iload_n (pc := 47) (i := 1) dX12_year_47 rfl rfl ?_
        refine R_callV1 (pc := 48) (As := [.int (nI k)]) (rest := [.ref 572]) (Or.inl lk_X12_379) mk_X12_meadow (m_meadow hXa.2.1 hk) kc_572 ⟨by decide, rfl⟩ lc_572 dX12_year_48 rfl rfl (Nat.le_of_ble_eq_true rfl) (by decide) rfl (Nat.le_refl _) (Nat.le_refl _) ?_
        refine T_aload_n (pc := 51) (i := 0) dX12_year_51 rfl rfl ?_
        refine T_iload_n (pc := 52) (i := 3) dX12_year_52 rfl rfl ?_
        refine R_callV1 (pc := 53) (As := [.int (nI ((yrT X LL k).length))]) (rest := [.long (lN (cd (fAt X.F k).1)), .ref 572]) (Or.inl lk_X12_415) mk_X12_draw (m_drawE hXa.2.2.2.2.2.2.2.2.2 ⟨hpos, hTl⟩ es2) kc_572 ⟨by decide, rfl⟩ lc_572 dX12_year_53 rfl rfl (Nat.le_of_ble_eq_true rfl) (by decide) rfl (Nat.le_refl _) (Nat.le_refl _) ?_
        have hS4 := hSa.sd s2
        have hX4 := hS4.1.1
        refine R_callVm1 (pc := 56) (As := [.long (lN (cd (fAt X.F k).1)), .int (nI (dvN s1 % (yrT X LL k).length))]) (rest := []) (Or.inl lk_X12_418) mk_X12_choices (m_choicesY hS4 (R_sd.trans R_sd) (wOf_sd.trans wOf_sd) hf.1.1) kc_572 ⟨by decide, rfl⟩ lc_572 dX12_year_56 rfl rfl (Nat.le_of_ble_eq_true rfl) (by decide) rfl (Nat.le_refl _) (Nat.le_refl _) (fun m2 c2 => ?_)
        obtain ⟨cC, cO2⟩ := c2
        have hlt : dvN s1 % (yrT X LL k).length < (yrT X LL k).length := Nat.mod_lt _ hpos
        have hits := cC _ rfl hlt
        have eA : (yrT X LL k).getD (dvN s1 % (yrT X LL k).length) 0 = yrA X LL k := by unfold yrA; rw [← es1]
        have hits1 : m2.1 572 19 = nI (yrA X LL k % 100) := by rw [← eA]; exact hits.1
        have hits2 : m2.1 572 20 = nI (yrA X LL k / 100) := by rw [← eA]; exact hits.2
        have hmem := tuW_mem (R := X.R) (w := wOf X LL) (l := (fAt X.F k).1) (t := yrA X LL k) h12 (by rw [← eA]; exact getD_mem hlt)
        have hg := fitB_get hmem.2.2
        have hX5 : mdT (m2.1 573) (tdY (tdY X X.year s1) (tdY X X.year s1).year s2) := by rw [(cO2.c (by decide) (by unfold S9; omega)).1]; exact hX4
        refine T_pop (pc := 59) dX12_year_59 rfl ?_
        refine T_aload_n (pc := 60) (i := 0) dX12_year_60 rfl rfl ?_
        refine T_iload_n (pc := 61) (i := 1) dX12_year_61 rfl rfl ?_
        refine T_aload_n (pc := 62) (i := 0) dX12_year_62 rfl rfl ?_
        refine R_getI (pc := 63) (x := nI (yrA X LL k % 100)) fl_X12_343 rfl kc_572 lc_572 hits1 dX12_year_63 ?_
        refine T_aload_n (pc := 66) (i := 0) dX12_year_66 rfl rfl ?_
        refine R_getI (pc := 67) (x := nI (yrA X LL k / 100)) fl_X12_346 rfl kc_572 lc_572 hits2 dX12_year_67 ?_
        refine R_callVm0 (pc := 70) (As := [.int (nI k), .int (nI (yrA X LL k % 100)), .int (nI (yrA X LL k / 100))]) (rest := []) (Or.inl lk_X12_405) mk_X12_goes (m_goes hX5 hk hmem.1 hg.2.1 hg.2.2) kc_572 ⟨by decide, rfl⟩ lc_572 dX12_year_70 rfl rfl (Nat.le_of_ble_eq_true rfl) (by decide) rfl (Nat.le_refl _) (Nat.le_refl _) (fun m3 c3 => ?_)
        have hW2 : Wys μ m2 := hW1.trans ((Wys.one (Or.inr rfl)).trans (cO2.ws (fun j hj => by unfold Fk at hj; unfold Fst; omega)))
        have hW3 : Wys m2 m3 := ⟨c3.2.mono (fun j hj => by unfold Fgo at hj; unfold Fst; omega) (fun k hk => by unfold Sgo at hk; unfold Swd; omega), fun j hj => c3.1.2 j (by omega)⟩
        have hX6 := hX5.fld hk c3.1.1 (fun j _ hj => c3.1.2 j hj)
        have hS5 : MYs m2 (tdY (tdY X X.year s1) (tdY X X.year s1).year s2) LL := hS4.w (cO2.ws (fun j hj => by unfold Fk at hj; unfold Fst; omega)) hX5 rfl
        refine T_ls (ls' := [some (.ref 572), some (.int (nI k)), none, some (.int (nI (yrT X LL k).length))]) (And.intro rfl (And.intro rfl (And.intro rfl True.intro))) ?_
        exact fin true _ m3 _ eb.symm ⟨fun _ => rfl, fun _ => hpos⟩ hTl (hS5.w hW3 hX6 rfl) (hW2.trans hW3) rfl (by unfold yrX; rw [eb, ← es1, ← es2]; rfl)
    · exact absurd g2 (by decide)
  · skip
    refine T_iconst (pc := 16) (v := nI 1) dX12_year_16 (by decide) ?_
    refine T_goto (pc := 17) (tgt := 21) dX12_year_17 (by decide) ?_
    refine T_istore_n (pc := 21) (i := 2) (ls' := [some (.ref 572), some (.int (nI k)), some (.int (nI 1)), none]) dX12_year_21 rfl (by decide) rfl ?_
    refine T_iload_n (pc := 22) (i := 2) dX12_year_22 rfl rfl ?_
    refine R_if_eq (pc := 23) (tgt := 30) (by omega) dX12_year_23 (by decide) (fun g2 => ?_) (fun g2 => ?_)
    · exact absurd g2 (by decide)
    · skip
      refine T_iconst (pc := 26) (v := nI 0) dX12_year_26 (by decide) ?_
      refine T_goto (pc := 27) (tgt := 40) dX12_year_27 (by decide) ?_
      refine T_istore_n (pc := 40) (i := 3) (ls' := [some (.ref 572), some (.int (nI k)), some (.int (nI 1)), some (.int (nI 0))]) dX12_year_40 rfl (by decide) rfl ?_
      refine T_iload_n (pc := 41) (i := 3) dX12_year_41 rfl rfl ?_
      refine R_if_le (pc := 42) (tgt := 73) (by omega) dX12_year_42 (by decide) (fun g3 => ?_) (fun g3 => ?_)
      · have e8 : decide (dvN X.seed % 100 < X.fog) = true := decide_eq_true (by omega)
        have eb : yrB X LL k = false := by unfold yrB; rw [e8]; rfl
        refine T_ls (ls' := [some (.ref 572), some (.int (nI k)), none, some (.int (nI 0))]) (And.intro rfl (And.intro rfl (And.intro rfl True.intro))) ?_
        exact fin false (tdY X X.year s1) _ 0 eb.symm ⟨fun z => absurd z (by omega), fun z => Bool.noConfusion z⟩ (by decide) hS1 (Wys.one (Or.inr rfl)) rfl (by unfold yrX; rw [eb, ← es1]; rfl)
      · exact absurd g3 (by decide)
end MY1

