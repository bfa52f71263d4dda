/-! THE MODEL: the game of two drovers -/
def plP (V : List Nat → Int32) (R : List Ru) (l : List Nat) (Y : List Nat) : Int32 × Int32 := Y.foldl (plS V R l) (plI Y)
theorem plP_snoc {V : List Nat → Int32} {R : List Ru} {l : List Nat} (hV : ∀ x, in3 (V x)) {Y : List Nat} {u : Nat} : plP V R l (Y ++ [u]) = if Y = [] ∨ (plP V R l Y).1 < -(V (trn R l u)) then (-(V (trn R l u)), nI u) else plP V R l Y := by
  cases Y with
  | nil =>
    rw [if_pos (Or.inl rfl)]
    show (if (-1 : Int32) < -(V (trn R l u)) then (-(V (trn R l u)), nI u) else (-1, nI u)) = _
    by_cases e : (-1 : Int32) < -(V (trn R l u))
    · rw [if_pos e]
    · rw [if_neg e]
      rcases in3_neg (hV (trn R l u)) with e2 | e2 | e2
      · rw [e2]
      · rw [e2] at e
        exact absurd (by decide) e
      · rw [e2] at e
        exact absurd (by decide) e
  | cons a t =>
    have e : plP V R l (a :: t ++ [u]) = plS V R l (plP V R l (a :: t)) u := by
      show (a :: t ++ [u]).foldl (plS V R l) (plI (a :: t ++ [u])) = _
      rw [List.foldl_append]
      rfl
    rw [e]
    unfold plS
    by_cases e2 : (plP V R l (a :: t)).1 < -(V (trn R l u))
    · rw [if_pos e2, if_pos (Or.inr e2)]
    · rw [if_neg e2, if_neg (fun z => z.elim (fun z => by cases z) e2)]
theorem pl_turn {V : List Nat → Int32} {R : List Ru} {l : List Nat} : ∀ (Y : List Nat) (o : Int32 × Int32), (∃ u, u < 2 ^ 31 ∧ o.2 = nI u) → (∀ u ∈ Y, u < 2 ^ 31) → ∃ u, u < 2 ^ 31 ∧ (Y.foldl (plS V R l) o).2 = nI u
  | [], _, h, _ => h
  | a :: t, o, h, g => pl_turn t _ (by
    unfold plS
    split
    · exact ⟨a, g a List.mem_cons_self, rfl⟩
    · exact h) (fun u hu => g u (List.mem_cons_of_mem _ hu))
theorem plP_turn {V : List Nat → Int32} {R : List Ru} {l : List Nat} {Y : List Nat} (h : Y ≠ []) (g : ∀ u ∈ Y, u < 2 ^ 31) : ∃ u, u < 2 ^ 31 ∧ (plP V R l Y).2 = nI u := by
  cases Y with
  | nil => exact absurd rfl h
  | cons a t => exact pl_turn (a :: t) _ ⟨a, g a List.mem_cons_self, rfl⟩ g
theorem MHd.inK {m : SM2} {H : Hd} (g : MHd m H) {j : Nat} {v : List Nat} (hj : j < H.length) (e : (hA H j).1 = v) : inK (hKs H) v = some j := by
  obtain ⟨tb, g⟩ := g
  exact inK_some g.2.2.2 (by rw [List.length_map]; exact hj) ((hK_hA hj).trans e)
def F50 (j : Nat) : Prop := j = 50
def Spl (k : Nat) : Prop := S9 k ∨ k = 592 ∨ k = 593
theorem tu_small {R : List Ru} {w : Wk} {l : List Nat} (h12 : R.length ≤ 12) (h20 : l.length ≤ 20) {u : Nat} (h : u ∈ tuW R w l) : u < 2 ^ 31 := by
  have := tuW_mem h12 h
  omega
section MGM
variable {γ : Ga} {μ : SM2}
theorem m_bestOf {H : Hd} {R : List Ru} {LL : List (List Int32)} {w : Wk} {l : List Nat} {V : List Nat → Int32} (hT : MHd μ H) (hE : mEnv μ R LL w) (hl : Mw l) (hV : ∀ x, in3 (V x)) (hless : ∀ u ∈ tuW R w l, ∃ j, j < H.length ∧ inK (hKs H) (trn R l u) = some j ∧ μ.1 593 j = V (trn R l u)) : Ex γ 9 0 0 M_X12_bestOf [.ref 572, .long (lN (cd l))] (rm μ) (Rm (some (.int (plB V R w l).1)) (fun m => m.1 572 50 = (plB V R w l).2 ∧ OfM F50 S9 μ m)) := by
  have h15 := hT.len
  have h12 := hE.1.1.2
  have h20 := hl.1
  obtain ⟨Q, hQ⟩ : ∃ Q, Q = Rm (some (.int (plB V R w l).1)) (fun m => m.1 572 50 = (plB V R w l).2 ∧ OfM F50 S9 μ m) := ⟨_, rfl⟩
  rw [← hQ]
  refine Ex.of (by decide +kernel) rfl (Nat.le_of_ble_eq_true rfl) ?_
  show T _ _ _ _ _ _ _ _ _ [some (.ref 572), some (.long (lN (cd l))), none, none, none, none, none] [] (rm μ)
  refine T_iconst (pc := 0) (v := (-1)) dX12_bestOf_0 (by decide) ?_
  refine T_istore_n (pc := 1) (i := 3) (ls' := [some (.ref 572), some (.long (lN (cd l))), none, some (.int ((-1))), none, none, none]) dX12_bestOf_1 rfl (by decide) rfl ?_
  refine T_aload_n (pc := 2) (i := 0) dX12_bestOf_2 rfl rfl ?_
  refine T_iconst (pc := 3) (v := (-1)) dX12_bestOf_3 (by decide) ?_
  refine R_putI (pc := 4) fl_X12_588 ⟨rfl, rfl⟩ (Or.inl rfl) kc_572 lc_572 dX12_bestOf_4 ?_
  refine T_iconst (pc := 7) (v := nI 0) dX12_bestOf_7 (by decide) ?_
  refine T_istore (pc := 8) (i := 4) (ls' := [some (.ref 572), some (.long (lN (cd l))), none, some (.int ((-1))), some (.int (nI 0)), none, none]) dX12_bestOf_8 (by decide) rfl ?_
  suffices outer : ∀ (f a : Nat) (m : SM2), a + f = l.length → m.1 572 50 = (plP V R l (tuP R w l a)).2 → OfM F50 S9 μ m → T γ 9 0 0 M_X12_bestOf Q 0 0 10 [some (.ref 572), some (.long (lN (cd l))), none, some (.int (plP V R l (tuP R w l a)).1), some (.int (nI a)), none, none] [] (rm m) by
    exact outer l.length 0 _ (Nat.zero_add _) (e_wI ⟨rfl, rfl⟩) (OfM.sF (OfM.refl _ _ _) rfl)
  intro f
  induction f with
  | zero =>
    intro a m ha e50 hO
    obtain rfl : a = l.length := by omega
    refine T_iload (pc := 10) (i := 4) dX12_bestOf_10 rfl ?_
    refine T_lload_n (pc := 12) (i := 1) dX12_bestOf_12 rfl rfl ?_
    refine R_callS1 (pc := 13) (av := [.long (lN (cd l))]) (rest := [.int (nI l.length)]) (Or.inl lk_X12_13) mk_X12_size (m_size hl) dX12_bestOf_13 rfl rfl (Nat.le_of_ble_eq_true rfl) (by decide) rfl (Nat.le_refl _) (Nat.le_refl _) ?_
    refine R_icmp_ge (pc := 16) (tgt := 110) (by omega) (by omega) dX12_bestOf_16 (by decide) (fun h1 => ?_) (fun h1 => ?_)
    · skip
      refine T_iload_n (pc := 110) (i := 3) dX12_bestOf_110 rfl rfl ?_
      rw [hQ]
      exact T_iret (pc := 111) (ty := .int) dX12_bestOf_111 rfl rfl (Nat.le_refl _) (Nat.le_refl _) ⟨_, rfl, rfl, e50, hO⟩
    · exact absurd h1 (by omega)
  | succ f ihA =>
    intro a m ha e50 hO
    refine T_iload (pc := 10) (i := 4) dX12_bestOf_10 rfl ?_
    refine T_lload_n (pc := 12) (i := 1) dX12_bestOf_12 rfl rfl ?_
    refine R_callS1 (pc := 13) (av := [.long (lN (cd l))]) (rest := [.int (nI a)]) (Or.inl lk_X12_13) mk_X12_size (m_size hl) dX12_bestOf_13 rfl rfl (Nat.le_of_ble_eq_true rfl) (by decide) rfl (Nat.le_refl _) (Nat.le_refl _) ?_
    refine R_icmp_ge (pc := 16) (tgt := 110) (by omega) (by omega) dX12_bestOf_16 (by decide) (fun h1 => ?_) (fun h1 => ?_)
    · exact absurd h1 (by omega)
    · skip
      refine T_iconst (pc := 19) (v := nI 0) dX12_bestOf_19 (by decide) ?_
      refine T_istore (pc := 20) (i := 5) (ls' := [some (.ref 572), some (.long (lN (cd l))), none, some (.int (((plP V R l (tuP R w l a)).1))), some (.int (nI a)), some (.int (nI 0)), none]) dX12_bestOf_20 (by decide) rfl ?_
      suffices inner : ∀ (g b : Nat) (m2 : SM2), b + g = R.length → m2.1 572 50 = (plP V R l (tuP R w l a ++ tuR (fun r => fitB R w l r a) a b)).2 → OfM F50 S9 μ m2 → T γ 9 0 0 M_X12_bestOf Q 0 0 22 [some (.ref 572), some (.long (lN (cd l))), none, some (.int (plP V R l (tuP R w l a ++ tuR (fun r => fitB R w l r a) a b)).1), some (.int (nI a)), some (.int (nI b)), none] [] (rm m2) by
        have h9 := inner R.length 0 m (Nat.zero_add _)
        rw [show tuR (fun r => fitB R w l r a) a 0 = [] from rfl, List.append_nil] at h9
        exact h9 e50 hO
      intro g
      induction g with
      | zero =>
        intro b m2 hb e52 hO2
        obtain rfl : b = R.length := by omega
        have hE2 : mEnv m2 R LL w := hE.k hO2 (by unfold F50; omega) (by unfold F50; omega)
        refine T_iload (pc := 22) (i := 5) dX12_bestOf_22 rfl ?_
        refine T_aload_n (pc := 24) (i := 0) dX12_bestOf_24 rfl rfl ?_
        refine R_callV1 (pc := 25) (As := []) (rest := [.int (nI R.length)]) (Or.inl lk_X12_121) mk_X12_rules (m_rules hE2.1) kc_572 ⟨by decide, rfl⟩ lc_572 dX12_bestOf_25 rfl rfl (Nat.le_of_ble_eq_true rfl) (by decide) rfl (Nat.le_refl _) (Nat.le_refl _) ?_
        refine R_icmp_ge (pc := 28) (tgt := 104) (by omega) (by omega) dX12_bestOf_28 (by decide) (fun h2 => ?_) (fun h2 => ?_)
        · skip
          refine R_iinc (pc := 104) (i := 4) (n := 1) (ls' := [some (.ref 572), some (.long (lN (cd l))), none, some (.int (((plP V R l (tuP R w l a ++ tuR (fun r => fitB R w l r a) a R.length)).1))), some (.int (nI (a + 1))), some (.int (nI R.length)), none]) dX12_bestOf_104 rfl rfl ?_
          refine T_goto (pc := 107) (tgt := 10) dX12_bestOf_107 (by decide) ?_
          refine T_ls (ls' := [some (.ref 572), some (.long (lN (cd l))), none, some (.int (((plP V R l (tuP R w l a ++ tuR (fun r => fitB R w l r a) a R.length)).1))), some (.int (nI (a + 1))), none, none]) (And.intro rfl (And.intro rfl (And.intro rfl (And.intro rfl True.intro)))) ?_
          exact ihA (a + 1) m2 (by omega) e52 hO2
        · exact absurd h2 (by omega)
      | succ g ihB =>
        intro b m2 hb e52 hO2
        have hE2 : mEnv m2 R LL w := hE.k hO2 (by unfold F50; omega) (by unfold F50; omega)
        obtain ⟨Y, eY⟩ : ∃ Y, Y = tuP R w l a ++ tuR (fun r => fitB R w l r a) a b := ⟨_, rfl⟩
        rw [← eY] at e52 ⊢
        refine T_iload (pc := 22) (i := 5) dX12_bestOf_22 rfl ?_
        refine T_aload_n (pc := 24) (i := 0) dX12_bestOf_24 rfl rfl ?_
        refine R_callV1 (pc := 25) (As := []) (rest := [.int (nI b)]) (Or.inl lk_X12_121) mk_X12_rules (m_rules hE2.1) kc_572 ⟨by decide, rfl⟩ lc_572 dX12_bestOf_25 rfl rfl (Nat.le_of_ble_eq_true rfl) (by decide) rfl (Nat.le_refl _) (Nat.le_refl _) ?_
        refine R_icmp_ge (pc := 28) (tgt := 104) (by omega) (by omega) dX12_bestOf_28 (by decide) (fun h2 => ?_) (fun h2 => ?_)
        · exact absurd h2 (by omega)
        · skip
          refine T_aload_n (pc := 31) (i := 0) dX12_bestOf_31 rfl rfl ?_
          refine T_lload_n (pc := 32) (i := 1) dX12_bestOf_32 rfl rfl ?_
          refine T_iload (pc := 33) (i := 5) dX12_bestOf_33 rfl ?_
          refine T_iload (pc := 35) (i := 4) dX12_bestOf_35 rfl ?_
          refine R_callVm1 (pc := 37) (As := [.long (lN (cd l)), .int (nI b), .int (nI a)]) (rest := []) (Or.inl lk_X12_339) mk_X12_isFit (m_isFit hE2 hl (by omega) (by omega)) kc_572 ⟨by decide, rfl⟩ lc_572 dX12_bestOf_37 rfl rfl (Nat.le_of_ble_eq_true rfl) (by decide) rfl (Nat.le_refl _) (Nat.le_refl _) (fun m3 hO3 => ?_)
          have hO4 : OfM F50 S9 μ m3 := hO2.trans hO3.k
          have e53 : m3.1 572 50 = (plP V R l Y).2 := ((hO3.k (F := fun _ => False)).fi id).trans e52
          cases eb : fitB R w l b a with
          | false =>
            have h9 := ihB (b + 1) m3 (by omega)
            rw [show tuR (fun r => fitB R w l r a) a (b + 1) = tuR (fun r => fitB R w l r a) a b by rw [tuR_s, if_neg (by rw [eb]; decide)], ← eY] at h9
            refine R_ifb_ne (pc := 40) (tgt := 46) dX12_bestOf_40 (by decide) (fun h3 => ?_) (fun h3 => ?_)
            · exact absurd h3 (by decide)
            · skip
              refine T_goto (pc := 43) (tgt := 98) dX12_bestOf_43 (by decide) ?_
              refine R_iinc (pc := 98) (i := 5) (n := 1) (ls' := [some (.ref 572), some (.long (lN (cd l))), none, some (.int (((plP V R l Y).1))), some (.int (nI a)), some (.int (nI (b + 1))), none]) dX12_bestOf_98 rfl rfl ?_
              refine T_goto (pc := 101) (tgt := 22) dX12_bestOf_101 (by decide) ?_
              exact h9 e53 hO4
          | true =>
            have h9 := ihB (b + 1)
            rw [show tuR (fun r => fitB R w l r a) a (b + 1) = tuR (fun r => fitB R w l r a) a b ++ [100 * a + b] by rw [tuR_s, if_pos eb], ← List.append_assoc, ← eY, plP_snoc hV] at h9
            obtain ⟨W, eW⟩ := tu_pre (R := R) (w := w) (l := l) (a := a) (b := b + 1) (by omega) (by omega)
            rw [show tuR (fun r => fitB R w l r a) a (b + 1) = tuR (fun r => fitB R w l r a) a b ++ [100 * a + b] by rw [tuR_s, if_pos eb], ← List.append_assoc, ← eY] at eW
            have hmem : 100 * a + b ∈ tuW R w l := by rw [eW]; simp
            have hY : ∀ u ∈ Y, u < 2 ^ 31 := fun u hu => tu_small h12 h20 (by rw [eW]; simp [hu])
            obtain ⟨j, j1, j2, j3⟩ := hless _ hmem
            have hg := fitB_get eb
            have ok := hE.1.2.1 b (by omega)
            have et : trn R l (100 * a + b) = usd l a (rAt R b).1 (rAt R b).2 := by unfold trn; rw [show (100 * a + b) / 100 = a by omega, show (100 * a + b) % 100 = b by omega]
            have hu : Mw (usd l a (rAt R b).1 (rAt R b).2) := usd_Mw hl.2 ok.2.2.2.1 hg.2.1 (by omega)
            rw [et] at j2 j3 h9
            obtain ⟨v, ev⟩ : ∃ v, v = V (usd l a (rAt R b).1 (rAt R b).2) := ⟨_, rfl⟩
            rw [← ev] at j3 h9
            have hT3 : MHd m3 H := hT.of hO4 (by unfold F50; omega) (fun k hk => by unfold Sht at hk; unfold S9; omega)
            have hE3 : mEnv m3 R LL w := hE.k hO4 (by unfold F50; omega) (by unfold F50; omega)
            have set9 : (Y = [] ∨ (plP V R l Y).1 < -v) → T γ 9 0 0 M_X12_bestOf Q 0 0 83 [some (.ref 572), some (.long (lN (cd l))), none, some (.int (plP V R l Y).1), some (.int (nI a)), some (.int (nI b)), some (.int (-v))] [] (rm m3) := fun hc => by
              have h8 := h9 (wI m3 572 50 (nI (100 * a + b))) (by omega)
              rw [if_pos hc] at h8
              refine T_iload (pc := 83) (i := 6) dX12_bestOf_83 rfl ?_
              refine T_istore_n (pc := 85) (i := 3) (ls' := [some (.ref 572), some (.long (lN (cd l))), none, some (.int ((-v))), some (.int (nI a)), some (.int (nI b)), some (.int ((-v)))]) dX12_bestOf_85 rfl (by decide) rfl ?_
              refine T_aload_n (pc := 86) (i := 0) dX12_bestOf_86 rfl rfl ?_
              refine T_bipush (pc := 87) (v := nI 100) dX12_bestOf_87 (by decide) ?_
              refine T_iload (pc := 89) (i := 4) dX12_bestOf_89 rfl ?_
              refine R_imul (pc := 91) dX12_bestOf_91 ?_
              refine T_iload (pc := 92) (i := 5) dX12_bestOf_92 rfl ?_
              refine R_iadd (pc := 94) dX12_bestOf_94 ?_
              refine R_putI (pc := 95) fl_X12_588 ⟨rfl, rfl⟩ (Or.inl rfl) kc_572 lc_572 dX12_bestOf_95 ?_
              refine R_iinc (pc := 98) (i := 5) (n := 1) (ls' := [some (.ref 572), some (.long (lN (cd l))), none, some (.int ((-v))), some (.int (nI a)), some (.int (nI (b + 1))), some (.int ((-v)))]) dX12_bestOf_98 rfl rfl ?_
              refine T_goto (pc := 101) (tgt := 22) dX12_bestOf_101 (by decide) ?_
              refine T_ls (ls' := [some (.ref 572), some (.long (lN (cd l))), none, some (.int ((-v))), some (.int (nI a)), some (.int (nI (b + 1))), none]) (And.intro rfl (And.intro rfl (And.intro rfl (And.intro rfl (And.intro rfl True.intro))))) ?_
              exact h8 (e_wI ⟨rfl, rfl⟩) (OfM.sF hO4 rfl)
            refine R_ifb_ne (pc := 40) (tgt := 46) dX12_bestOf_40 (by decide) (fun h3 => ?_) (fun h3 => ?_)
            · skip
              refine T_aload_n (pc := 46) (i := 0) dX12_bestOf_46 rfl rfl ?_
              refine R_getR (pc := 47) (i := 593) fl_X12_95 rfl kc_572 lc_572 rc_572_49 dX12_bestOf_47 ?_
              refine T_aload_n (pc := 50) (i := 0) dX12_bestOf_50 rfl rfl ?_
              refine T_aload_n (pc := 51) (i := 0) dX12_bestOf_51 rfl rfl ?_
              refine T_lload_n (pc := 52) (i := 1) dX12_bestOf_52 rfl rfl ?_
              refine T_iload (pc := 53) (i := 5) dX12_bestOf_53 rfl ?_
              refine T_iload (pc := 55) (i := 4) dX12_bestOf_55 rfl ?_
              refine R_callV1 (pc := 57) (As := [.long (lN (cd l)), .int (nI b), .int (nI a)]) (rest := [.ref 572, .ref 593]) (Or.inl lk_X12_360) mk_X12_used (m_used hE3.1 hl (by omega) hg.2.1) kc_572 ⟨by decide, rfl⟩ lc_572 dX12_bestOf_57 rfl rfl (Nat.le_of_ble_eq_true rfl) (by decide) rfl (Nat.le_refl _) (Nat.le_refl _) ?_
              refine R_callV1 (pc := 60) (As := [.long (lN (cd (usd l a (rAt R b).1 (rAt R b).2)))]) (rest := [.ref 593]) (Or.inl lk_X12_460) mk_X12_indexOf (m_indexOf hT3 hu) kc_572 ⟨by decide, rfl⟩ lc_572 dX12_bestOf_60 rfl rfl (Nat.le_of_ble_eq_true rfl) (by decide) rfl (Nat.le_refl _) (Nat.le_refl _) ?_
              rw [j2]
              show T _ _ _ _ _ _ _ _ 63 [some (.ref 572), some (.long (lN (cd l))), none, some (.int (((plP V R l Y).1))), some (.int (nI a)), some (.int (nI b)), none] [.int (nI j), .ref 593] (rm m3)
              by_cases hn : Y = []
              · have e5 : m3.1 572 50 = (-1) := by rw [e53, hn]; rfl
                refine R_iald (pc := 63) (x := v) kc_593 lc_593 (by omega) (by first | decide | assumption) ((hO4.i (by decide) (by unfold S9; omega) j).trans j3) dX12_bestOf_63 ?_
                refine T_ineg (pc := 64) dX12_bestOf_64 ?_
                refine T_istore (pc := 65) (i := 6) (ls' := [some (.ref 572), some (.long (lN (cd l))), none, some (.int (((plP V R l Y).1))), some (.int (nI a)), some (.int (nI b)), some (.int ((-(v))))]) dX12_bestOf_65 (by decide) rfl ?_
                refine T_aload_n (pc := 67) (i := 0) dX12_bestOf_67 rfl rfl ?_
                refine R_getI (pc := 68) (x := (-1)) fl_X12_588 rfl kc_572 lc_572 e5 dX12_bestOf_68 ?_
                refine T_if_lt (pc := 71) (tgt := 83) dX12_bestOf_71 (by decide) (fun h4 => ?_) (fun h4 => ?_)
                · skip
                  exact set9 (Or.inl hn)
                · exact absurd (by decide) h4
              · obtain ⟨u, hu1, hu2⟩ := plP_turn (V := V) (R := R) (l := l) hn hY
                refine R_iald (pc := 63) (x := v) kc_593 lc_593 (by omega) (by first | decide | assumption) ((hO4.i (by decide) (by unfold S9; omega) j).trans j3) dX12_bestOf_63 ?_
                refine T_ineg (pc := 64) dX12_bestOf_64 ?_
                refine T_istore (pc := 65) (i := 6) (ls' := [some (.ref 572), some (.long (lN (cd l))), none, some (.int (((plP V R l Y).1))), some (.int (nI a)), some (.int (nI b)), some (.int ((-(v))))]) dX12_bestOf_65 (by decide) rfl ?_
                refine T_aload_n (pc := 67) (i := 0) dX12_bestOf_67 rfl rfl ?_
                refine R_getI (pc := 68) (x := nI u) fl_X12_588 rfl kc_572 lc_572 (e53.trans hu2) dX12_bestOf_68 ?_
                refine R_if_lt (pc := 71) (tgt := 83) (by omega) dX12_bestOf_71 (by decide) (fun h4 => ?_) (fun h4 => ?_)
                · exact h4.elim
                · skip
                  refine T_iload (pc := 74) (i := 6) dX12_bestOf_74 rfl ?_
                  refine T_iload_n (pc := 76) (i := 3) dX12_bestOf_76 rfl rfl ?_
                  refine T_icmp_gt (pc := 77) (tgt := 83) dX12_bestOf_77 (by decide) (fun h5 => ?_) (fun h5 => ?_)
                  · skip
                    exact set9 (Or.inr h5)
                  · skip
                    have h8 := h9 m3 (by omega)
                    rw [if_neg (fun z => z.elim hn h5)] at h8
                    refine T_goto (pc := 80) (tgt := 98) dX12_bestOf_80 (by decide) ?_
                    refine R_iinc (pc := 98) (i := 5) (n := 1) (ls' := [some (.ref 572), some (.long (lN (cd l))), none, some (.int (((plP V R l Y).1))), some (.int (nI a)), some (.int (nI (b + 1))), some (.int ((-(v))))]) dX12_bestOf_98 rfl rfl ?_
                    refine T_goto (pc := 101) (tgt := 22) dX12_bestOf_101 (by decide) ?_
                    refine T_ls (ls' := [some (.ref 572), some (.long (lN (cd l))), none, some (.int (((plP V R l Y).1))), some (.int (nI a)), some (.int (nI (b + 1))), none]) (And.intro rfl (And.intro rfl (And.intro rfl (And.intro rfl (And.intro rfl True.intro))))) ?_
                    exact h8 e53 hO4
            · exact absurd h3 (by decide)
theorem m_plays {H : Hd} {R : List Ru} {LL : List (List Int32)} {w : Wk} {l : List Nat} {N : Nat} (hT : MHd μ H) (hE : mEnv μ R LL w) (hb : Bfs R w H N) (h0 : 0 < H.length ∧ hA H 0 = (l, 0)) (hN : 1 ≤ N ∧ N ≤ 8) (hfar : ∀ i, i < H.length → (hA H i).2 ≤ N) : Ex γ 10 0 0 M_X12_plays [.ref 572, .int (nI N)] (rm μ) (Rm (some (.int (plB (plV R w (N - 1)) R w l).1)) (fun m => m.1 572 50 = (plB (plV R w (N - 1)) R w l).2 ∧ OfM F50 Spl μ m)) := by
  have h15 := hT.len
  have succ : ∀ (m : SM2) (k i : Nat), MHd m H → i < H.length → k < N → (hA H i).2 ≤ N - (k + 1) → (∀ j, j < H.length → (hA H j).2 ≤ N - k → m.1 593 j = plV R w k (hA H j).1) → ∀ u ∈ tuW R w (hA H i).1, ∃ j, j < H.length ∧ inK (hKs H) (trn R (hA H i).1 u) = some j ∧ m.1 593 j = plV R w k (trn R (hA H i).1 u) := fun m k i g hi hk hd hl u hu => by
    obtain ⟨j, j1, j2, j3⟩ := hb.2 i hi (by omega) (trn R (hA H i).1 u) (List.mem_map.mpr ⟨u, hu, rfl⟩)
    refine ⟨j, j1, g.inK j1 j2, ?_⟩
    rw [hl j j1 (by omega), j2]
  obtain ⟨Q, hQ⟩ : ∃ Q, Q = Rm (some (.int (plB (plV R w (N - 1)) R w l).1)) (fun m => m.1 572 50 = (plB (plV R w (N - 1)) R w l).2 ∧ OfM F50 Spl μ m) := ⟨_, rfl⟩
  rw [← hQ]
  suffices outer : ∀ (g k : Nat) (its : Int32) (m : SM2), k + g = N → (k = N → its = (plB (plV R w (N - 1)) R w l).1 ∧ m.1 572 50 = (plB (plV R w (N - 1)) R w l).2) → (∀ j, j < H.length → (hA H j).2 ≤ N - k → m.1 593 j = plV R w k (hA H j).1) → OfM F50 Spl μ m → T γ 10 0 0 M_X12_plays Q 0 0 27 [some (.ref 572), some (.int (nI N)), some (.int its), some (.int (nI (k + 1))), none] [] (rm m) by
    refine Ex.of (by decide +kernel) rfl (Nat.le_of_ble_eq_true rfl) ?_
    show T _ _ _ _ _ _ _ _ _ [some (.ref 572), some (.int (nI N)), none, none, none] [] (rm μ)
    refine T_iconst (pc := 0) (v := nI 0) dX12_plays_0 (by decide) ?_
    refine T_istore_n (pc := 1) (i := 2) (ls' := [some (.ref 572), some (.int (nI N)), some (.int (nI 0)), none, none]) dX12_plays_1 rfl (by decide) rfl ?_
    suffices zer : ∀ (g i : Nat) (m : SM2), i + g = H.length → (∀ j, j < i → m.1 593 j = nI 0) → OfM F50 Spl μ m → T γ 10 0 0 M_X12_plays Q 0 0 2 [some (.ref 572), some (.int (nI N)), some (.int (nI i)), none, none] [] (rm m) by
      exact zer H.length 0 μ (Nat.zero_add _) (fun j z => absurd z (Nat.not_lt_zero j)) (OfM.refl _ _ _)
    intro g
    induction g with
    | zero =>
      intro i m hi hz hO
      obtain rfl : i = H.length := by omega
      have hT2 := hT.of hO (by unfold F50; omega) (fun k hk => by unfold Sht at hk; unfold Spl S9; omega)
      refine T_iload_n (pc := 2) (i := 2) dX12_plays_2 rfl rfl ?_
      refine T_aload_n (pc := 3) (i := 0) dX12_plays_3 rfl rfl ?_
      refine R_getI (pc := 4) (x := nI H.length) fl_X12_431 rfl kc_572 lc_572 hT2.size dX12_plays_4 ?_
      refine R_icmp_ge (pc := 7) (tgt := 23) (by omega) (by omega) dX12_plays_7 (by decide) (fun h1 => ?_) (fun h1 => ?_)
      · skip
        refine T_iconst (pc := 23) (v := nI 0) dX12_plays_23 (by decide) ?_
        refine T_istore_n (pc := 24) (i := 2) (ls' := [some (.ref 572), some (.int (nI N)), some (.int (nI 0)), none, none]) dX12_plays_24 rfl (by decide) rfl ?_
        refine T_iconst (pc := 25) (v := nI 1) dX12_plays_25 (by decide) ?_
        refine T_istore_n (pc := 26) (i := 3) (ls' := [some (.ref 572), some (.int (nI N)), some (.int (nI 0)), some (.int (nI 1)), none]) dX12_plays_26 rfl (by decide) rfl ?_
        exact outer N 0 (nI 0) m (Nat.zero_add _) (fun z => absurd z (by omega)) (fun j hj _ => hz j hj) hO
      · exact absurd h1 (by omega)
    | succ g ih =>
      intro i m hi hz hO
      have hT2 := hT.of hO (by unfold F50; omega) (fun k hk => by unfold Sht at hk; unfold Spl S9; omega)
      refine T_iload_n (pc := 2) (i := 2) dX12_plays_2 rfl rfl ?_
      refine T_aload_n (pc := 3) (i := 0) dX12_plays_3 rfl rfl ?_
      refine R_getI (pc := 4) (x := nI H.length) fl_X12_431 rfl kc_572 lc_572 hT2.size dX12_plays_4 ?_
      refine R_icmp_ge (pc := 7) (tgt := 23) (by omega) (by omega) dX12_plays_7 (by decide) (fun h1 => ?_) (fun h1 => ?_)
      · exact absurd h1 (by omega)
      · skip
        refine T_aload_n (pc := 10) (i := 0) dX12_plays_10 rfl rfl ?_
        refine R_getR (pc := 11) (i := 593) fl_X12_95 rfl kc_572 lc_572 rc_572_49 dX12_plays_11 ?_
        refine T_iload_n (pc := 14) (i := 2) dX12_plays_14 rfl rfl ?_
        refine T_iconst (pc := 15) (v := nI 0) dX12_plays_15 (by decide) ?_
        refine R_iast (pc := 16) kc_593 lc_593 (by omega) (by first | decide | assumption) dX12_plays_16 ?_
        refine R_iinc (pc := 17) (i := 2) (n := 1) (ls' := [some (.ref 572), some (.int (nI N)), some (.int (nI (i + 1))), none, none]) dX12_plays_17 rfl rfl ?_
        refine T_goto (pc := 20) (tgt := 2) dX12_plays_20 (by decide) ?_
        exact ih (i + 1) _ (by omega) (fun j hj => by
          by_cases z : j = i
          · exact e_wI ⟨rfl, z⟩
          · exact (n_wI (by omega)).trans (hz j (by omega))) (OfM.sI hO (Or.inr (Or.inr rfl)) (by decide))
  intro g
  induction g with
  | zero =>
    intro k its m hk hend hless hO
    obtain ⟨e1, e2⟩ := hend (by omega)
    refine T_iload_n (pc := 27) (i := 3) dX12_plays_27 rfl rfl ?_
    refine T_iload_n (pc := 28) (i := 1) dX12_plays_28 rfl rfl ?_
    refine R_icmp_gt (pc := 29) (tgt := 146) (by omega) (by omega) dX12_plays_29 (by decide) (fun h1 => ?_) (fun h1 => ?_)
    · skip
      refine T_iload_n (pc := 146) (i := 2) dX12_plays_146 rfl rfl ?_
      rw [hQ, e1]
      exact T_iret (pc := 147) (ty := .int) dX12_plays_147 rfl rfl (Nat.le_refl _) (Nat.le_refl _) ⟨_, rfl, rfl, e2, hO⟩
    · exact absurd h1 (by omega)
  | succ g ih =>
    intro k its m hk hend hless hO
    refine T_iload_n (pc := 27) (i := 3) dX12_plays_27 rfl rfl ?_
    refine T_iload_n (pc := 28) (i := 1) dX12_plays_28 rfl rfl ?_
    refine R_icmp_gt (pc := 29) (tgt := 146) (by omega) (by omega) dX12_plays_29 (by decide) (fun h1 => ?_) (fun h1 => ?_)
    · exact absurd h1 (by omega)
    · skip
      refine T_iconst (pc := 32) (v := nI 0) dX12_plays_32 (by decide) ?_
      refine T_istore (pc := 33) (i := 4) (ls' := [some (.ref 572), some (.int (nI N)), some (.int (its)), some (.int (nI (k + 1))), some (.int (nI 0))]) dX12_plays_33 (by decide) rfl ?_
      have copy : ∀ (f i : Nat) (its : Int32) (m : SM2), i + f = H.length → (k + 1 = N → its = (plB (plV R w (N - 1)) R w l).1 ∧ m.1 572 50 = (plB (plV R w (N - 1)) R w l).2) → (∀ j, j < H.length → (hA H j).2 ≤ N - (k + 1) → m.1 592 j = plV R w (k + 1) (hA H j).1) → (∀ j, j < i → (hA H j).2 ≤ N - (k + 1) → m.1 593 j = plV R w (k + 1) (hA H j).1) → OfM F50 Spl μ m → T γ 10 0 0 M_X12_plays Q 0 0 111 [some (.ref 572), some (.int (nI N)), some (.int its), some (.int (nI (k + 1))), some (.int (nI i))] [] (rm m) := by
        intro f
        induction f with
        | zero =>
          intro i its m hi hend2 hW hC hO2
          have hT2 := hT.of hO2 (by unfold F50; omega) (fun k hk => by unfold Sht at hk; unfold Spl S9; omega)
          refine T_iload (pc := 111) (i := 4) dX12_plays_111 rfl ?_
          refine T_aload_n (pc := 113) (i := 0) dX12_plays_113 rfl rfl ?_
          refine R_getI (pc := 114) (x := nI H.length) fl_X12_431 rfl kc_572 lc_572 hT2.size dX12_plays_114 ?_
          refine R_icmp_ge (pc := 117) (tgt := 140) (by omega) (by omega) dX12_plays_117 (by decide) (fun h2 => ?_) (fun h2 => ?_)
          · skip
            refine R_iinc (pc := 140) (i := 3) (n := 1) (ls' := [some (.ref 572), some (.int (nI N)), some (.int (its)), some (.int (nI (k + 1 + 1))), some (.int (nI i))]) dX12_plays_140 rfl rfl ?_
            refine T_goto (pc := 143) (tgt := 27) dX12_plays_143 (by decide) ?_
            refine T_ls (ls' := [some (.ref 572), some (.int (nI N)), some (.int (its)), some (.int (nI (k + 1 + 1))), none]) (And.intro rfl (And.intro rfl (And.intro rfl (And.intro rfl True.intro)))) ?_
            exact ih (k + 1) its m (by omega) hend2 (fun j hj hd => hC j (by omega) hd) hO2
          · exact absurd h2 (by omega)
        | succ f ihC =>
          intro i its m hi hend2 hW hC hO2
          have hT2 := hT.of hO2 (by unfold F50; omega) (fun k hk => by unfold Sht at hk; unfold Spl S9; omega)
          refine T_iload (pc := 111) (i := 4) dX12_plays_111 rfl ?_
          refine T_aload_n (pc := 113) (i := 0) dX12_plays_113 rfl rfl ?_
          refine R_getI (pc := 114) (x := nI H.length) fl_X12_431 rfl kc_572 lc_572 hT2.size dX12_plays_114 ?_
          refine R_icmp_ge (pc := 117) (tgt := 140) (by omega) (by omega) dX12_plays_117 (by decide) (fun h2 => ?_) (fun h2 => ?_)
          · exact absurd h2 (by omega)
          · skip
            refine T_aload_n (pc := 120) (i := 0) dX12_plays_120 rfl rfl ?_
            refine R_getR (pc := 121) (i := 593) fl_X12_95 rfl kc_572 lc_572 rc_572_49 dX12_plays_121 ?_
            refine T_iload (pc := 124) (i := 4) dX12_plays_124 rfl ?_
            refine T_aload_n (pc := 126) (i := 0) dX12_plays_126 rfl rfl ?_
            refine R_getR (pc := 127) (i := 592) fl_X12_92 rfl kc_572 lc_572 rc_572_48 dX12_plays_127 ?_
            refine T_iload (pc := 130) (i := 4) dX12_plays_130 rfl ?_
            refine R_iald (pc := 132) (x := (m.1 592 i)) kc_592 lc_592 (by omega) (by first | decide | assumption) rfl dX12_plays_132 ?_
            refine R_iast (pc := 133) kc_593 lc_593 (by omega) (by first | decide | assumption) dX12_plays_133 ?_
            refine R_iinc (pc := 134) (i := 4) (n := 1) (ls' := [some (.ref 572), some (.int (nI N)), some (.int (its)), some (.int (nI (k + 1))), some (.int (nI (i + 1)))]) dX12_plays_134 rfl rfl ?_
            refine T_goto (pc := 137) (tgt := 111) dX12_plays_137 (by decide) ?_
            exact ihC (i + 1) its _ (by omega) (fun z => ⟨(hend2 z).1, (n_wI (by omega)).trans (hend2 z).2⟩) (fun j hj hd => (n_wI (by omega)).trans (hW j hj hd)) (fun j hj hd => by
              by_cases z : j = i
              · rw [z]
                exact (e_wI ⟨rfl, rfl⟩).trans (hW i (by omega) (by rw [← z]; exact hd))
              · exact (n_wI (by omega)).trans (hC j (by omega) hd)) (OfM.sI hO2 (Or.inr (Or.inr rfl)) (by decide))
      suffices inner : ∀ (f i : Nat) (m : SM2), i + f = H.length → (∀ j, j < i → (hA H j).2 ≤ N - (k + 1) → m.1 592 j = plV R w (k + 1) (hA H j).1) → (∀ j, j < H.length → (hA H j).2 ≤ N - k → m.1 593 j = plV R w k (hA H j).1) → OfM F50 Spl μ m → T γ 10 0 0 M_X12_plays Q 0 0 35 [some (.ref 572), some (.int (nI N)), some (.int its), some (.int (nI (k + 1))), some (.int (nI i))] [] (rm m) by
        exact inner H.length 0 m (Nat.zero_add _) (fun j hj => absurd hj (Nat.not_lt_zero _)) hless hO
      intro f
      induction f with
      | zero =>
        intro i m hi hW hl2 hO2
        obtain rfl : i = H.length := by omega
        have hT2 := hT.of hO2 (by unfold F50; omega) (fun k hk => by unfold Sht at hk; unfold Spl S9; omega)
        have hE2 : mEnv m R LL w := hE.om hO2 (by unfold Spl S9; omega) (by unfold F50; omega) (by unfold F50; omega)
        have row := hT2.row 0 h0.1
        have e0 : (hA H 0).1 = l := by rw [h0.2]
        have hs := succ m k 0 hT2 h0.1 (by omega) (by rw [h0.2]; exact Nat.zero_le _) hl2
        rw [e0] at hs row
        refine T_iload (pc := 35) (i := 4) dX12_plays_35 rfl ?_
        refine T_aload_n (pc := 37) (i := 0) dX12_plays_37 rfl rfl ?_
        refine R_getI (pc := 38) (x := nI H.length) fl_X12_431 rfl kc_572 lc_572 hT2.size dX12_plays_38 ?_
        refine R_icmp_ge (pc := 41) (tgt := 85) (by omega) (by omega) dX12_plays_41 (by decide) (fun h2 => ?_) (fun h2 => ?_)
        · skip
          refine T_aload_n (pc := 85) (i := 0) dX12_plays_85 rfl rfl ?_
          refine R_getR (pc := 86) (i := 592) fl_X12_92 rfl kc_572 lc_572 rc_572_48 dX12_plays_86 ?_
          refine T_iconst (pc := 89) (v := nI 0) dX12_plays_89 (by decide) ?_
          refine R_iald (pc := 90) (x := (m.1 592 0)) kc_592 lc_592 (by omega) (by first | decide | assumption) rfl dX12_plays_90 ?_
          refine T_istore_n (pc := 91) (i := 2) (ls' := [some (.ref 572), some (.int (nI N)), some (.int ((m.1 592 0))), some (.int (nI (k + 1))), some (.int (nI H.length))]) dX12_plays_91 rfl (by decide) rfl ?_
          refine T_iload_n (pc := 92) (i := 3) dX12_plays_92 rfl rfl ?_
          refine T_iload_n (pc := 93) (i := 1) dX12_plays_93 rfl rfl ?_
          refine R_icmp_ne (pc := 94) (tgt := 108) (by omega) (by omega) dX12_plays_94 (by decide) (fun h3 => ?_) (fun h3 => ?_)
          · skip
            refine T_iconst (pc := 108) (v := nI 0) dX12_plays_108 (by decide) ?_
            refine T_istore (pc := 109) (i := 4) (ls' := [some (.ref 572), some (.int (nI N)), some (.int ((m.1 592 0))), some (.int (nI (k + 1))), some (.int (nI 0))]) dX12_plays_109 (by decide) rfl ?_
            exact copy H.length 0 _ m (Nat.zero_add _) (fun z => absurd z (by omega)) hW (fun j z => absurd z (Nat.not_lt_zero j)) hO2
          · skip
            refine T_aload_n (pc := 97) (i := 0) dX12_plays_97 rfl rfl ?_
            refine T_aload_n (pc := 98) (i := 0) dX12_plays_98 rfl rfl ?_
            refine R_getR (pc := 99) (i := 582) fl_X12_62 rfl kc_572 lc_572 rc_572_26 dX12_plays_99 ?_
            refine T_iconst (pc := 102) (v := nI 0) dX12_plays_102 (by decide) ?_
            refine R_lald (pc := 103) (x := lN (cd l)) kc_582 lc_582 (by omega) (by first | decide | assumption) row.2.1 dX12_plays_103 ?_
            refine R_callVm1 (pc := 104) (As := [.long (lN (cd l))]) (rest := []) (Or.inl lk_X12_591) mk_X12_bestOf (m_bestOf hT2 hE2 row.1 (plV_3 k) hs) kc_572 ⟨by decide, rfl⟩ lc_572 dX12_plays_104 rfl rfl (Nat.le_of_ble_eq_true rfl) (by decide) rfl (Nat.le_refl _) (Nat.le_refl _) (fun m3 h4 => ?_)
            have hO3 : OfM F50 Spl μ m3 := hO2.trans (h4.2.mono (fun j hj => hj) (fun k hk => Or.inl hk))
            have ek : N - 1 = k := by omega
            refine T_istore_n (pc := 107) (i := 2) (ls' := [some (.ref 572), some (.int (nI N)), some (.int (((plB (plV R w k) R w l).1))), some (.int (nI (k + 1))), some (.int (nI H.length))]) dX12_plays_107 rfl (by decide) rfl ?_
            refine T_iconst (pc := 108) (v := nI 0) dX12_plays_108 (by decide) ?_
            refine T_istore (pc := 109) (i := 4) (ls' := [some (.ref 572), some (.int (nI N)), some (.int (((plB (plV R w k) R w l).1))), some (.int (nI (k + 1))), some (.int (nI 0))]) dX12_plays_109 (by decide) rfl ?_
            exact copy H.length 0 _ m3 (Nat.zero_add _) (fun z => by rw [ek]; exact ⟨rfl, h4.1⟩) (fun j hj hd => (h4.2.i (by decide) (by unfold S9; omega) j).trans (hW j hj hd)) (fun j z => absurd z (Nat.not_lt_zero j)) hO3
        · exact absurd h2 (by omega)
      | succ f ihW =>
        intro i m hi hW hl2 hO2
        have hi1 : i < H.length := by omega
        have hT2 := hT.of hO2 (by unfold F50; omega) (fun k hk => by unfold Sht at hk; unfold Spl S9; omega)
        have hE2 : mEnv m R LL w := hE.om hO2 (by unfold Spl S9; omega) (by unfold F50; omega) (by unfold F50; omega)
        have row := hT2.row i hi1
        have hd9 := hfar i hi1
        refine T_iload (pc := 35) (i := 4) dX12_plays_35 rfl ?_
        refine T_aload_n (pc := 37) (i := 0) dX12_plays_37 rfl rfl ?_
        refine R_getI (pc := 38) (x := nI H.length) fl_X12_431 rfl kc_572 lc_572 hT2.size dX12_plays_38 ?_
        refine R_icmp_ge (pc := 41) (tgt := 85) (by omega) (by omega) dX12_plays_41 (by decide) (fun h2 => ?_) (fun h2 => ?_)
        · exact absurd h2 (by omega)
        · skip
          refine T_aload_n (pc := 44) (i := 0) dX12_plays_44 rfl rfl ?_
          refine R_getR (pc := 45) (i := 592) fl_X12_92 rfl kc_572 lc_572 rc_572_48 dX12_plays_45 ?_
          refine T_iload (pc := 48) (i := 4) dX12_plays_48 rfl ?_
          refine T_aload_n (pc := 50) (i := 0) dX12_plays_50 rfl rfl ?_
          refine R_getR (pc := 51) (i := 583) fl_X12_65 rfl kc_572 lc_572 rc_572_27 dX12_plays_51 ?_
          refine T_iload (pc := 54) (i := 4) dX12_plays_54 rfl ?_
          refine R_iald (pc := 56) (x := nI ((hA H i).2)) kc_583 lc_583 (by omega) (by first | decide | assumption) row.2.2 dX12_plays_56 ?_
          refine T_iload_n (pc := 57) (i := 1) dX12_plays_57 rfl rfl ?_
          refine T_iload_n (pc := 58) (i := 3) dX12_plays_58 rfl rfl ?_
          refine R_isub (pc := 59) (by omega) dX12_plays_59 ?_
          refine R_icmp_gt (pc := 60) (tgt := 77) (by omega) (by omega) dX12_plays_60 (by decide) (fun h3 => ?_) (fun h3 => ?_)
          · skip
            refine T_iconst (pc := 77) (v := nI 0) dX12_plays_77 (by decide) ?_
            refine R_iast (pc := 78) kc_592 lc_592 (by omega) (by first | decide | assumption) dX12_plays_78 ?_
            refine R_iinc (pc := 79) (i := 4) (n := 1) (ls' := [some (.ref 572), some (.int (nI N)), some (.int (its)), some (.int (nI (k + 1))), some (.int (nI (i + 1)))]) dX12_plays_79 rfl rfl ?_
            refine T_goto (pc := 82) (tgt := 35) dX12_plays_82 (by decide) ?_
            exact ihW (i + 1) _ (by omega) (fun j hj hd => by
              by_cases z : j = i
              · rw [z] at hd
                exact absurd hd (by omega)
              · exact (n_wI (by omega)).trans (hW j (by omega) hd)) (fun j hj hd => (n_wI (by omega)).trans (hl2 j hj hd)) (OfM.sI hO2 (Or.inr (Or.inl rfl)) (by decide))
          · skip
            have hs := succ m k i hT2 hi1 (by omega) h3 hl2
            refine T_aload_n (pc := 63) (i := 0) dX12_plays_63 rfl rfl ?_
            refine T_aload_n (pc := 64) (i := 0) dX12_plays_64 rfl rfl ?_
            refine R_getR (pc := 65) (i := 582) fl_X12_62 rfl kc_572 lc_572 rc_572_26 dX12_plays_65 ?_
            refine T_iload (pc := 68) (i := 4) dX12_plays_68 rfl ?_
            refine R_lald (pc := 70) (x := lN (cd (hA H i).1)) kc_582 lc_582 (by omega) (by first | decide | assumption) row.2.1 dX12_plays_70 ?_
            refine R_callVm1 (pc := 71) (As := [.long (lN (cd (hA H i).1))]) (rest := [.int (nI i), .ref 592]) (Or.inl lk_X12_591) mk_X12_bestOf (m_bestOf hT2 hE2 row.1 (plV_3 k) hs) kc_572 ⟨by decide, rfl⟩ lc_572 dX12_plays_71 rfl rfl (Nat.le_of_ble_eq_true rfl) (by decide) rfl (Nat.le_refl _) (Nat.le_refl _) (fun m3 h4 => ?_)
            have hO3 : OfM F50 Spl μ m3 := hO2.trans (h4.2.mono (fun j hj => hj) (fun k hk => Or.inl hk))
            refine T_goto (pc := 74) (tgt := 78) dX12_plays_74 (by decide) ?_
            refine R_iast (pc := 78) kc_592 lc_592 (by omega) (by first | decide | assumption) dX12_plays_78 ?_
            refine R_iinc (pc := 79) (i := 4) (n := 1) (ls' := [some (.ref 572), some (.int (nI N)), some (.int (its)), some (.int (nI (k + 1))), some (.int (nI (i + 1)))]) dX12_plays_79 rfl rfl ?_
            refine T_goto (pc := 82) (tgt := 35) dX12_plays_82 (by decide) ?_
            exact ihW (i + 1) _ (by omega) (fun j hj hd => by
              by_cases z : j = i
              · rw [z]
                exact e_wI ⟨rfl, rfl⟩
              · exact (n_wI (by omega)).trans ((h4.2.i (by decide) (by unfold S9; omega) j).trans (hW j (by omega) hd))) (fun j hj hd => (n_wI (by omega)).trans ((h4.2.i (by decide) (by unfold S9; omega) j).trans (hl2 j hj hd))) (OfM.sI hO3 (Or.inr (Or.inl rfl)) (by decide))
theorem m_drovers {x : Int64} {y : Int32} {X : Td} {LL : List (List Int32)} (hX : mdT (μ.1 573) X) (hL : LawM (μ.1 573) LL) : Ex γ 12 0 0 M_X12_drovers [.ref 572, .long x, .int y] (rm μ) (Rm (some (.int (if (codeB x && chkN y 1 8) = true then gmD (gmV X.R (wOf X LL) (ml x) y.toNatClampNeg) else nI 0))) (fun m => MdN μ m (mT1 (codeB x && chkN y 1 8)))) := by
  have hX2 : mdT ((wI μ 572 0 (nI 0)).1 573) X := by rw [w573]; exact hX
  have hL2 : LawM ((wI μ 572 0 (nI 0)).1 573) LL := by rw [w573]; exact hL
  obtain ⟨Q, hQ⟩ : ∃ Q, Q = Rm (some (.int (if (codeB x && chkN y 1 8) = true then gmD (gmV X.R (wOf X LL) (ml x) y.toNatClampNeg) else nI 0))) (fun m => MdN μ m (mT1 (codeB x && chkN y 1 8))) := ⟨_, rfl⟩
  rw [← hQ]
  have bad1 : (codeB x && chkN y 1 8) = false → T γ 12 0 0 M_X12_drovers Q 0 0 23 [some (.ref 572), some (.long x), none, some (.int y)] [.ref 572] (rm (wI μ 572 0 (nI 0))) := fun eb => by
    rw [hQ, eb]
    simp only [Bool.false_eq_true, if_false]
    refine T_iconst (pc := 23) (v := nI 1) dX12_drovers_23 (by decide) ?_
    refine T_goto (pc := 24) (tgt := 28) dX12_drovers_24 (by decide) ?_
    refine T_iconst (pc := 28) (v := nI 1) dX12_drovers_28 (by decide) ?_
    refine R_callV1 (pc := 29) (As := [.int (nI 1), .int (nI 1)]) (rest := []) (Or.inl lk_X12_302) mk_X12_throwsIf m_throws1n kc_572 ⟨by decide, rfl⟩ lc_572 dX12_drovers_29 rfl rfl (Nat.le_of_ble_eq_true rfl) (by decide) rfl (Nat.le_refl _) (Nat.le_refl _) ?_
    refine R_ifb_eq (pc := 32) (tgt := 37) dX12_drovers_32 (by decide) (fun h3 => ?_) (fun h3 => ?_)
    · exact absurd h3 (by decide)
    · skip
      refine T_iconst (pc := 35) (v := nI 0) dX12_drovers_35 (by decide) ?_
      exact T_iret (pc := 36) (ty := .int) dX12_drovers_36 rfl rfl (Nat.le_refl _) (Nat.le_refl _) ⟨_, rfl, rfl, Tn.two.n⟩
  refine Ex.of (by decide +kernel) rfl (Nat.le_of_ble_eq_true rfl) ?_
  show T _ _ _ _ _ _ _ _ _ [some (.ref 572), some (.long (x)), none, some (.int (y))] [] (rm μ)
  refine T_aload_n (pc := 0) (i := 0) dX12_drovers_0 rfl rfl ?_
  refine T_iconst (pc := 1) (v := nI 0) dX12_drovers_1 (by decide) ?_
  refine R_putI (pc := 2) fl_X12_3 ⟨rfl, rfl⟩ (Or.inl rfl) kc_572 lc_572 dX12_drovers_2 ?_
  refine T_aload_n (pc := 5) (i := 0) dX12_drovers_5 rfl rfl ?_
  refine T_lload_n (pc := 6) (i := 1) dX12_drovers_6 rfl rfl ?_
  cases e1 : codeB x with
  | false =>
    rw [e1] at bad1
    refine R_callS1 (pc := 7) (av := [.long (x)]) (rest := [.ref 572]) (Or.inl lk_X12_382) mk_X12_isCode (m_isCodeE e1) dX12_drovers_7 rfl rfl (Nat.le_of_ble_eq_true rfl) (by decide) rfl (Nat.le_refl _) (Nat.le_refl _) ?_
    refine R_ifb_eq (pc := 10) (tgt := 23) dX12_drovers_10 (by decide) (fun h1 => ?_) (fun h1 => ?_)
    · skip
      exact bad1 rfl
    · exact absurd h1 (by decide)
  | true =>
    rw [e1] at bad1 hQ
    rw [Bool.true_and] at bad1
    rw [Bool.true_and] at hQ
    refine R_callS1 (pc := 7) (av := [.long (x)]) (rest := [.ref 572]) (Or.inl lk_X12_382) mk_X12_isCode (m_isCodeE e1) dX12_drovers_7 rfl rfl (Nat.le_of_ble_eq_true rfl) (by decide) rfl (Nat.le_refl _) (Nat.le_refl _) ?_
    refine R_ifb_eq (pc := 10) (tgt := 23) dX12_drovers_10 (by decide) (fun h1 => ?_) (fun h1 => ?_)
    · exact absurd h1 (by decide)
    · skip
      refine T_iload_n (pc := 13) (i := 3) dX12_drovers_13 rfl rfl ?_
      refine T_iconst (pc := 14) (v := nI 1) dX12_drovers_14 (by decide) ?_
      refine T_bipush (pc := 15) (v := nI 8) dX12_drovers_15 (by decide) ?_
      refine R_callS1 (pc := 17) (av := [.int (y), .int (nI 1), .int (nI 8)]) (rest := [.ref 572]) (Or.inl lk_X12_125) mk_X12_in m_inK dX12_drovers_17 rfl rfl (Nat.le_of_ble_eq_true rfl) (by decide) rfl (Nat.le_refl _) (Nat.le_refl _) ?_
      cases e2 : chkN y 1 8 with
      | false =>
        rw [e2] at bad1
        show T _ _ _ _ _ _ _ _ 20 [some (.ref 572), some (.long (x)), none, some (.int (y))] [.int (bI false), .ref 572] (rm (wI μ 572 0 (nI 0)))
        refine R_ifb_ne (pc := 20) (tgt := 27) dX12_drovers_20 (by decide) (fun h2 => ?_) (fun h2 => ?_)
        · exact absurd h2 (by decide)
        · skip
          exact bad1 rfl
      | true =>
        rw [e2] at hQ
        simp only [if_true] at hQ
        obtain ⟨l, hl, rfl⟩ := codeB_iff.mp e1
        obtain ⟨N, hN1, hN, rfl⟩ := chk_of (by decide) (by decide) e2
        rw [ml_cd hl, nI_clamp (n := N) (by omega)] at hQ
        have hQ2 : Q = Rm (some (.int (gmD (gmV X.R (wOf X LL) l N)))) (fun m => MdN μ m 0) := hQ
        clear bad1 hQ
        show T _ _ _ _ _ _ _ _ 20 [some (.ref 572), some (.long (lN (cd l))), none, some (.int (nI N))] [.int (bI true), .ref 572] (rm (wI μ 572 0 (nI 0)))
        refine R_ifb_ne (pc := 20) (tgt := 27) dX12_drovers_20 (by decide) (fun h2 => ?_) (fun h2 => ?_)
        · skip
          refine T_iconst (pc := 27) (v := nI 0) dX12_drovers_27 (by decide) ?_
          refine T_iconst (pc := 28) (v := nI 1) dX12_drovers_28 (by decide) ?_
          refine R_callV1 (pc := 29) (As := [.int (nI 0), .int (nI 1)]) (rest := []) (Or.inl lk_X12_302) mk_X12_throwsIf m_throws0n kc_572 ⟨by decide, rfl⟩ lc_572 dX12_drovers_29 rfl rfl (Nat.le_of_ble_eq_true rfl) (by decide) rfl (Nat.le_refl _) (Nat.le_refl _) ?_
          refine R_ifb_eq (pc := 32) (tgt := 37) dX12_drovers_32 (by decide) (fun h3 => ?_) (fun h3 => ?_)
          · skip
            refine T_aload_n (pc := 37) (i := 0) dX12_drovers_37 rfl rfl ?_
            refine T_lload_n (pc := 38) (i := 1) dX12_drovers_38 rfl rfl ?_
            refine T_iload_n (pc := 39) (i := 3) dX12_drovers_39 rfl rfl ?_
            refine R_callVm1 (pc := 40) (As := [.long (lN (cd l)), .int (nI N)]) (rest := []) (Or.inl lk_X12_444) mk_X12_searches (m_searches hX2 hL2 hl (by omega)) kc_572 ⟨by decide, rfl⟩ lc_572 dX12_drovers_40 rfl rfl (Nat.le_of_ble_eq_true rfl) (by decide) rfl (Nat.le_refl _) (Nat.le_refl _) (fun m1 h4 => ?_)
            obtain ⟨hH, hE, hO⟩ := h4
            have fin : ∀ m : SM2, OfM F50 Spl m1 m → MdN μ m 0 := fun m g => MdN.of (F := fun j => Fsr j ∨ F50 j) (S := fun k => Ssp k ∨ Spl k) ((hO.mono (fun j hj => Or.inl hj) (fun k hk => Or.inl hk)).trans (g.mono (fun j hj => Or.inr hj) (fun k hk => Or.inr hk))) (by unfold Fsr F50; omega) (fun j hj => by unfold Fsr F50 at hj; unfold Fz; omega) (fun k hk => by unfold Ssp Sht Spl S9 at hk; unfold Sz; omega)
            cases es : spd X.R (wOf X LL) l N with
            | none =>
              have eg : gmD (gmV X.R (wOf X LL) l N) = -3 := by unfold gmV; rw [es]; rfl
              rw [eg] at hQ2
              show T _ _ _ _ _ _ _ _ 43 [some (.ref 572), some (.long (lN (cd l))), none, some (.int (nI N))] [.int (bI false)] (rm m1)
              refine R_ifb_eq (pc := 43) (tgt := 54) dX12_drovers_43 (by decide) (fun h5 => ?_) (fun h5 => ?_)
              · skip
                refine T_bipush (pc := 54) (v := (-3)) dX12_drovers_54 (by decide) ?_
                rw [hQ2]
                exact T_iret (pc := 56) (ty := .int) dX12_drovers_56 rfl rfl (Nat.le_refl _) (Nat.le_refl _) ⟨_, rfl, rfl, fin _ (OfM.refl _ _ _)⟩
              · exact absurd h5 (by decide)
            | some H =>
              have eg : gmD (gmV X.R (wOf X LL) l N) = (plB (plV X.R (wOf X LL) (N - 1)) X.R (wOf X LL) l).1 := by unfold gmV; rw [es]; rfl
              rw [eg] at hQ2
              obtain ⟨hbf, hz⟩ := spd_bfs es
              show T _ _ _ _ _ _ _ _ 43 [some (.ref 572), some (.long (lN (cd l))), none, some (.int (nI N))] [.int (bI true)] (rm m1)
              refine R_ifb_eq (pc := 43) (tgt := 54) dX12_drovers_43 (by decide) (fun h5 => ?_) (fun h5 => ?_)
              · exact absurd h5 (by decide)
              · skip
                refine T_aload_n (pc := 46) (i := 0) dX12_drovers_46 rfl rfl ?_
                refine T_iload_n (pc := 47) (i := 3) dX12_drovers_47 rfl rfl ?_
                refine R_callVm1 (pc := 48) (As := [.int (nI N)]) (rest := []) (Or.inl lk_X12_594) mk_X12_plays (m_plays (hH H es) hE hbf hz ⟨hN1, hN⟩ (spd_far es)) kc_572 ⟨by decide, rfl⟩ lc_572 dX12_drovers_48 rfl rfl (Nat.le_of_ble_eq_true rfl) (by decide) rfl (Nat.le_refl _) (Nat.le_refl _) (fun m2 h6 => ?_)
                refine T_goto (pc := 51) (tgt := 56) dX12_drovers_51 (by decide) ?_
                rw [hQ2]
                exact T_iret (pc := 56) (ty := .int) dX12_drovers_56 rfl rfl (Nat.le_refl _) (Nat.le_refl _) ⟨_, rfl, rfl, fin _ h6.2⟩
          · exact absurd h3 (by decide)
        · exact absurd h2 (by decide)
theorem m_best {x : Int64} {y : Int32} {X : Td} {LL : List (List Int32)} (hX : mdT (μ.1 573) X) (hL : LawM (μ.1 573) LL) : Ex γ 12 0 0 M_X12_best [.ref 572, .long x, .int y] (rm μ) (Rm (some (.int (if (codeB x && chkN y 1 8) = true then gmB (gmV X.R (wOf X LL) (ml x) y.toNatClampNeg) else nI 0))) (fun m => MdN μ m (mT1 (codeB x && chkN y 1 8)))) := by
  have hX2 : mdT ((wI μ 572 0 (nI 0)).1 573) X := by rw [w573]; exact hX
  have hL2 : LawM ((wI μ 572 0 (nI 0)).1 573) LL := by rw [w573]; exact hL
  obtain ⟨Q, hQ⟩ : ∃ Q, Q = Rm (some (.int (if (codeB x && chkN y 1 8) = true then gmB (gmV X.R (wOf X LL) (ml x) y.toNatClampNeg) else nI 0))) (fun m => MdN μ m (mT1 (codeB x && chkN y 1 8))) := ⟨_, rfl⟩
  rw [← hQ]
  have bad1 : (codeB x && chkN y 1 8) = false → T γ 12 0 0 M_X12_best Q 0 0 23 [some (.ref 572), some (.long x), none, some (.int y)] [.ref 572] (rm (wI μ 572 0 (nI 0))) := fun eb => by
    rw [hQ, eb]
    simp only [Bool.false_eq_true, if_false]
    refine T_iconst (pc := 23) (v := nI 1) dX12_best_23 (by decide) ?_
    refine T_goto (pc := 24) (tgt := 28) dX12_best_24 (by decide) ?_
    refine T_iconst (pc := 28) (v := nI 1) dX12_best_28 (by decide) ?_
    refine R_callV1 (pc := 29) (As := [.int (nI 1), .int (nI 1)]) (rest := []) (Or.inl lk_X12_302) mk_X12_throwsIf m_throws1n kc_572 ⟨by decide, rfl⟩ lc_572 dX12_best_29 rfl rfl (Nat.le_of_ble_eq_true rfl) (by decide) rfl (Nat.le_refl _) (Nat.le_refl _) ?_
    refine R_ifb_eq (pc := 32) (tgt := 37) dX12_best_32 (by decide) (fun h3 => ?_) (fun h3 => ?_)
    · exact absurd h3 (by decide)
    · skip
      refine T_iconst (pc := 35) (v := nI 0) dX12_best_35 (by decide) ?_
      exact T_iret (pc := 36) (ty := .int) dX12_best_36 rfl rfl (Nat.le_refl _) (Nat.le_refl _) ⟨_, rfl, rfl, Tn.two.n⟩
  refine Ex.of (by decide +kernel) rfl (Nat.le_of_ble_eq_true rfl) ?_
  show T _ _ _ _ _ _ _ _ _ [some (.ref 572), some (.long (x)), none, some (.int (y))] [] (rm μ)
  refine T_aload_n (pc := 0) (i := 0) dX12_best_0 rfl rfl ?_
  refine T_iconst (pc := 1) (v := nI 0) dX12_best_1 (by decide) ?_
  refine R_putI (pc := 2) fl_X12_3 ⟨rfl, rfl⟩ (Or.inl rfl) kc_572 lc_572 dX12_best_2 ?_
  refine T_aload_n (pc := 5) (i := 0) dX12_best_5 rfl rfl ?_
  refine T_lload_n (pc := 6) (i := 1) dX12_best_6 rfl rfl ?_
  cases e1 : codeB x with
  | false =>
    rw [e1] at bad1
    refine R_callS1 (pc := 7) (av := [.long (x)]) (rest := [.ref 572]) (Or.inl lk_X12_382) mk_X12_isCode (m_isCodeE e1) dX12_best_7 rfl rfl (Nat.le_of_ble_eq_true rfl) (by decide) rfl (Nat.le_refl _) (Nat.le_refl _) ?_
    refine R_ifb_eq (pc := 10) (tgt := 23) dX12_best_10 (by decide) (fun h1 => ?_) (fun h1 => ?_)
    · skip
      exact bad1 rfl
    · exact absurd h1 (by decide)
  | true =>
    rw [e1] at bad1 hQ
    rw [Bool.true_and] at bad1
    rw [Bool.true_and] at hQ
    refine R_callS1 (pc := 7) (av := [.long (x)]) (rest := [.ref 572]) (Or.inl lk_X12_382) mk_X12_isCode (m_isCodeE e1) dX12_best_7 rfl rfl (Nat.le_of_ble_eq_true rfl) (by decide) rfl (Nat.le_refl _) (Nat.le_refl _) ?_
    refine R_ifb_eq (pc := 10) (tgt := 23) dX12_best_10 (by decide) (fun h1 => ?_) (fun h1 => ?_)
    · exact absurd h1 (by decide)
    · skip
      refine T_iload_n (pc := 13) (i := 3) dX12_best_13 rfl rfl ?_
      refine T_iconst (pc := 14) (v := nI 1) dX12_best_14 (by decide) ?_
      refine T_bipush (pc := 15) (v := nI 8) dX12_best_15 (by decide) ?_
      refine R_callS1 (pc := 17) (av := [.int (y), .int (nI 1), .int (nI 8)]) (rest := [.ref 572]) (Or.inl lk_X12_125) mk_X12_in m_inK dX12_best_17 rfl rfl (Nat.le_of_ble_eq_true rfl) (by decide) rfl (Nat.le_refl _) (Nat.le_refl _) ?_
      cases e2 : chkN y 1 8 with
      | false =>
        rw [e2] at bad1
        show T _ _ _ _ _ _ _ _ 20 [some (.ref 572), some (.long (x)), none, some (.int (y))] [.int (bI false), .ref 572] (rm (wI μ 572 0 (nI 0)))
        refine R_ifb_ne (pc := 20) (tgt := 27) dX12_best_20 (by decide) (fun h2 => ?_) (fun h2 => ?_)
        · exact absurd h2 (by decide)
        · skip
          exact bad1 rfl
      | true =>
        rw [e2] at hQ
        simp only [if_true] at hQ
        obtain ⟨l, hl, rfl⟩ := codeB_iff.mp e1
        obtain ⟨N, hN1, hN, rfl⟩ := chk_of (by decide) (by decide) e2
        rw [ml_cd hl, nI_clamp (n := N) (by omega)] at hQ
        have hQ2 : Q = Rm (some (.int (gmB (gmV X.R (wOf X LL) l N)))) (fun m => MdN μ m 0) := hQ
        clear bad1 hQ
        show T _ _ _ _ _ _ _ _ 20 [some (.ref 572), some (.long (lN (cd l))), none, some (.int (nI N))] [.int (bI true), .ref 572] (rm (wI μ 572 0 (nI 0)))
        refine R_ifb_ne (pc := 20) (tgt := 27) dX12_best_20 (by decide) (fun h2 => ?_) (fun h2 => ?_)
        · skip
          refine T_iconst (pc := 27) (v := nI 0) dX12_best_27 (by decide) ?_
          refine T_iconst (pc := 28) (v := nI 1) dX12_best_28 (by decide) ?_
          refine R_callV1 (pc := 29) (As := [.int (nI 0), .int (nI 1)]) (rest := []) (Or.inl lk_X12_302) mk_X12_throwsIf m_throws0n kc_572 ⟨by decide, rfl⟩ lc_572 dX12_best_29 rfl rfl (Nat.le_of_ble_eq_true rfl) (by decide) rfl (Nat.le_refl _) (Nat.le_refl _) ?_
          refine R_ifb_eq (pc := 32) (tgt := 37) dX12_best_32 (by decide) (fun h3 => ?_) (fun h3 => ?_)
          · skip
            refine T_aload_n (pc := 37) (i := 0) dX12_best_37 rfl rfl ?_
            refine T_lload_n (pc := 38) (i := 1) dX12_best_38 rfl rfl ?_
            refine T_iload_n (pc := 39) (i := 3) dX12_best_39 rfl rfl ?_
            refine R_callVm1 (pc := 40) (As := [.long (lN (cd l)), .int (nI N)]) (rest := []) (Or.inl lk_X12_444) mk_X12_searches (m_searches hX2 hL2 hl (by omega)) kc_572 ⟨by decide, rfl⟩ lc_572 dX12_best_40 rfl rfl (Nat.le_of_ble_eq_true rfl) (by decide) rfl (Nat.le_refl _) (Nat.le_refl _) (fun m1 h4 => ?_)
            obtain ⟨hH, hE, hO⟩ := h4
            have fin : ∀ m : SM2, OfM F50 Spl m1 m → MdN μ m 0 := fun m g => MdN.of (F := fun j => Fsr j ∨ F50 j) (S := fun k => Ssp k ∨ Spl k) ((hO.mono (fun j hj => Or.inl hj) (fun k hk => Or.inl hk)).trans (g.mono (fun j hj => Or.inr hj) (fun k hk => Or.inr hk))) (by unfold Fsr F50; omega) (fun j hj => by unfold Fsr F50 at hj; unfold Fz; omega) (fun k hk => by unfold Ssp Sht Spl S9 at hk; unfold Sz; omega)
            cases es : spd X.R (wOf X LL) l N with
            | none =>
              have eg : gmB (gmV X.R (wOf X LL) l N) = -3 := by unfold gmV; rw [es]; rfl
              rw [eg] at hQ2
              show T _ _ _ _ _ _ _ _ 43 [some (.ref 572), some (.long (lN (cd l))), none, some (.int (nI N))] [.int (bI false)] (rm m1)
              refine R_ifb_ne (pc := 43) (tgt := 49) dX12_best_43 (by decide) (fun h5 => ?_) (fun h5 => ?_)
              · exact absurd h5 (by decide)
              · skip
                refine T_bipush (pc := 46) (v := (-3)) dX12_best_46 (by decide) ?_
                rw [hQ2]
                exact T_iret (pc := 48) (ty := .int) dX12_best_48 rfl rfl (Nat.le_refl _) (Nat.le_refl _) ⟨_, rfl, rfl, fin _ (OfM.refl _ _ _)⟩
            | some H =>
              have eg : gmB (gmV X.R (wOf X LL) l N) = (plB (plV X.R (wOf X LL) (N - 1)) X.R (wOf X LL) l).2 := by unfold gmV; rw [es]; rfl
              rw [eg] at hQ2
              obtain ⟨hbf, hz⟩ := spd_bfs es
              show T _ _ _ _ _ _ _ _ 43 [some (.ref 572), some (.long (lN (cd l))), none, some (.int (nI N))] [.int (bI true)] (rm m1)
              refine R_ifb_ne (pc := 43) (tgt := 49) dX12_best_43 (by decide) (fun h5 => ?_) (fun h5 => ?_)
              · skip
                refine T_aload_n (pc := 49) (i := 0) dX12_best_49 rfl rfl ?_
                refine T_iload_n (pc := 50) (i := 3) dX12_best_50 rfl rfl ?_
                refine R_callVm1 (pc := 51) (As := [.int (nI N)]) (rest := []) (Or.inl lk_X12_594) mk_X12_plays (m_plays (hH H es) hE hbf hz ⟨hN1, hN⟩ (spd_far es)) kc_572 ⟨by decide, rfl⟩ lc_572 dX12_best_51 rfl rfl (Nat.le_of_ble_eq_true rfl) (by decide) rfl (Nat.le_refl _) (Nat.le_refl _) (fun m2 h6 => ?_)
                refine T_pop (pc := 54) dX12_best_54 rfl ?_
                refine T_aload_n (pc := 55) (i := 0) dX12_best_55 rfl rfl ?_
                refine R_getI (pc := 56) (x := ((plB (plV X.R (wOf X LL) (N - 1)) X.R (wOf X LL) l).2)) fl_X12_588 rfl kc_572 lc_572 h6.1 dX12_best_56 ?_
                rw [hQ2]
                exact T_iret (pc := 59) (ty := .int) dX12_best_59 rfl rfl (Nat.le_refl _) (Nat.le_refl _) ⟨_, rfl, rfl, fin _ h6.2⟩
              · exact absurd h5 (by decide)
          · exact absurd h3 (by decide)
        · exact absurd h2 (by decide)
end MGM

