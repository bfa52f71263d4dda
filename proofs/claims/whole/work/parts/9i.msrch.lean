/-! THE MODEL: searches -/
theorem tkL_app {d : Nat} : ∀ {A B : List (List Nat)} {H : Hd}, tkL d H (A ++ B) = (tkL d H A).bind (fun H' => tkL d H' B)
  | [], B, H => rfl
  | a :: t, B, H => by
    show (tk1 H d a).bind (fun H' => tkL d H' (t ++ B)) = ((tk1 H d a).bind (fun H' => tkL d H' t)).bind (fun H' => tkL d H' B)
    cases tk1 H d a with
    | none => rfl
    | some H1 => exact tkL_app (A := t) (H := H1)
theorem tkL_one {d : Nat} {H : Hd} {a : List Nat} : tkL d H [a] = tk1 H d a := by
  show (tk1 H d a).bind (fun H' => some H') = tk1 H d a
  cases tk1 H d a <;> rfl
theorem tuR_pre {f : Nat → Bool} {p b : Nat} : ∀ j, ∃ V, tuR f p (b + j) = tuR f p b ++ V
  | 0 => ⟨[], by rw [List.append_nil, Nat.add_zero]⟩
  | j + 1 => by
    obtain ⟨V, e⟩ := tuR_pre (f := f) (p := p) (b := b) j
    show ∃ V, tuR f p (b + j + 1) = _
    rw [tuR_s, e]
    split
    · exact ⟨V ++ [100 * p + (b + j)], by rw [List.append_assoc]⟩
    · exact ⟨V, rfl⟩
theorem tuP_pre {R : List Ru} {w : Wk} {l : List Nat} {a : Nat} : ∀ j, ∃ V, tuP R w l (a + j) = tuP R w l a ++ V
  | 0 => ⟨[], by rw [List.append_nil, Nat.add_zero]⟩
  | j + 1 => by
    obtain ⟨V, e⟩ := tuP_pre (R := R) (w := w) (l := l) (a := a) j
    show ∃ V, tuP R w l (a + j + 1) = _
    rw [tuP_s, e]
    exact ⟨V ++ tuR (fun r => fitB R w l r (a + j)) (a + j) R.length, by rw [List.append_assoc]⟩
/-- what was looked at stands ahead of all -/
theorem tu_pre {R : List Ru} {w : Wk} {l : List Nat} {a b : Nat} (ha : a < l.length) (hb : b ≤ R.length) : ∃ V, tuW R w l = tuP R w l a ++ tuR (fun r => fitB R w l r a) a b ++ V := by
  obtain ⟨V1, e1⟩ := tuR_pre (f := fun r => fitB R w l r a) (p := a) (b := b) (R.length - b)
  obtain ⟨V2, e2⟩ := tuP_pre (R := R) (w := w) (l := l) (a := a + 1) (l.length - (a + 1))
  rw [show b + (R.length - b) = R.length by omega] at e1
  rw [show a + 1 + (l.length - (a + 1)) = l.length by omega, tuP_s, e1] at e2
  exact ⟨V1 ++ V2, by unfold tuW; rw [e2]; simp only [List.append_assoc]⟩
theorem tkL_new {d : Nat} : ∀ {V : List (List Nat)} {H H' : Hd}, tkL d H V = some H' → ∀ j, H.length ≤ j → j < H'.length → (hA H' j).2 = d
  | [], H, H', h, j, h1, h2 => by
    cases h
    omega
  | l :: t, H, H', h, j, h1, h2 => by
    have h3 : (tk1 H d l).bind (fun H' => tkL d H' t) = some H' := h
    cases e : tk1 H d l with
    | none =>
      rw [e] at h3
      cases h3
    | some H1 =>
      rw [e] at h3
      have h4 : tkL d H1 t = some H' := h3
      by_cases g : H1.length ≤ j
      · exact tkL_new (V := t) h4 j g h2
      · have g2 := (tkL_get h4).2 j (by omega)
        rw [g2]
        unfold tk1 at e
        cases ei : inK (hKs H) l with
        | some i =>
          rw [ei] at e
          cases e
          omega
        | none =>
          rw [ei] at e
          have e2 : (if H.length < 1500 then some (H ++ [(l, d)]) else none) = some H1 := e
          by_cases e3 : H.length < 1500
          · rw [if_pos e3] at e2
            cases e2
            rw [List.length_append] at g
            have g3 : j < H.length + 1 := by have : [(l, d)].length = 1 := rfl; omega
            rw [show hA (H ++ [(l, d)]) j = if j < H.length then hA H j else (l, d) from getD_snoc g3, if_neg (by omega)]
          · rw [if_neg e3] at e2
            cases e2
def Ssp (k : Nat) : Prop := k = 579 ∨ Sht k
def Fsr (j : Nat) : Prop := j = 16 ∨ j = 17 ∨ j = 29
theorem mEnv.sp {μ m : SM2} {R : List Ru} {LL : List (List Int32)} {w : Wk} (h : mEnv μ R LL w) (g : OfM F29 Ssp μ m) : mEnv m R LL w := h.om g (by unfold Ssp Sht; omega) (by unfold F29; omega) (by unfold F29; omega)
theorem lvR_s {R : List Ru} {w : Wk} {n : Nat} {H : Hd} {lb ls : Nat} : lvR R w (n + 1) H lb ls = if lb < H.length then (spI R w (ls + 1) H lb (H.length - lb)).bind (fun H' => lvR R w n H' H.length (ls + 1)) else some H := rfl
theorem spI_s {R : List Ru} {w : Wk} {d f i : Nat} {H : Hd} : spI R w d H i (f + 1) = (tkL d H (sucW R w (hA H i).1)).bind (fun H' => spI R w d H' (i + 1) f) := rfl
section MS1
variable {γ : Ga} {μ : SM2}
theorem m_spreads {R : List Ru} {LL : List (List Int32)} {w : Wk} {H : Hd} {i : Nat} (hE : mEnv μ R LL w) (hT : MHd μ H) (hi : i < H.length) (hd : (hA H i).2 < 2 ^ 30) : Ex γ 9 0 0 M_X12_spreads [.ref 572, .int (nI i)] (rm μ) (Rm (some (.int (bI (tkL ((hA H i).2 + 1) H (sucW R w (hA H i).1)).isSome))) (fun m => (∀ H', tkL ((hA H i).2 + 1) H (sucW R w (hA H i).1) = some H' → MHd m H') ∧ OfM F29 Ssp μ m)) := by
  have h15 := hT.len
  have h12 := hE.1.1.2
  have hrow := hT.row i hi
  obtain ⟨l, el⟩ : ∃ l, (hA H i).1 = l := ⟨_, rfl⟩
  obtain ⟨d, ed⟩ : ∃ d, (hA H i).2 = d := ⟨_, rfl⟩
  rw [el] at hrow ⊢
  rw [ed] at hd ⊢
  have hl := hrow.1
  have h20 := hl.1
  obtain ⟨Q, hQ⟩ : ∃ Q, Q = Rm (some (.int (bI (tkL (d + 1) H (sucW R w l)).isSome))) (fun m => (∀ H', tkL (d + 1) H (sucW R w l) = some H' → MHd m H') ∧ OfM F29 Ssp μ m) := ⟨_, rfl⟩
  rw [← hQ]
  refine Ex.of (by decide +kernel) rfl (Nat.le_of_ble_eq_true rfl) ?_
  show T _ _ _ _ _ _ _ _ _ [some (.ref 572), some (.int (nI i)), none, none, none, none] [] (rm μ)
  refine T_aload_n (pc := 0) (i := 0) dX12_spreads_0 rfl rfl ?_
  refine R_getR (pc := 1) (i := 582) fl_X12_62 rfl kc_572 lc_572 rc_572_26 dX12_spreads_1 ?_
  refine T_iload_n (pc := 4) (i := 1) dX12_spreads_4 rfl rfl ?_
  refine R_lald (pc := 5) (x := lN (cd l)) kc_582 lc_582 (by omega) (by first | decide | assumption) hrow.2.1 dX12_spreads_5 ?_
  refine T_lstore_n (pc := 6) (i := 2) (ls' := [some (.ref 572), some (.int (nI i)), some (.long (lN (cd l))), none, none, none]) dX12_spreads_6 rfl (by decide) rfl ?_
  refine T_iconst (pc := 7) (v := nI 0) dX12_spreads_7 (by decide) ?_
  refine T_istore (pc := 8) (i := 4) (ls' := [some (.ref 572), some (.int (nI i)), some (.long (lN (cd l))), none, some (.int (nI 0)), none]) dX12_spreads_8 (by decide) rfl ?_
  suffices outer : ∀ (f a : Nat) (H1 : Hd) (m : SM2), a + f = l.length → tkL (d + 1) H ((tuP R w l a).map (trn R l)) = some H1 → MHd m H1 → OfM F29 Ssp μ m → T γ 9 0 0 M_X12_spreads Q 0 0 10 [some (.ref 572), some (.int (nI i)), some (.long (lN (cd l))), none, some (.int (nI a)), none] [] (rm m) by
    exact outer l.length 0 H μ (Nat.zero_add _) rfl hT (OfM.refl _ _ _)
  intro f
  induction f with
  | zero =>
    intro a H1 m ha hk hT1 hO
    obtain rfl : a = l.length := by omega
    refine T_iload (pc := 10) (i := 4) dX12_spreads_10 rfl ?_
    refine T_lload_n (pc := 12) (i := 2) dX12_spreads_12 rfl rfl ?_
    refine R_callS1 (pc := 13) (av := [.long (lN (cd l))]) (rest := [.int (nI l.length)]) (Or.inl lk_X12_13) mk_X12_size (m_size hl) dX12_spreads_13 rfl rfl (Nat.le_of_ble_eq_true rfl) (by decide) rfl (Nat.le_refl _) (Nat.le_refl _) ?_
    refine R_icmp_ge (pc := 16) (tgt := 81) (by omega) (by omega) dX12_spreads_16 (by decide) (fun h1 => ?_) (fun h1 => ?_)
    · skip
      refine T_iconst (pc := 81) (v := nI 1) dX12_spreads_81 (by decide) ?_
      have ek : tkL (d + 1) H (sucW R w l) = some H1 := hk
      rw [hQ, ek]
      exact T_iret (pc := 82) (ty := .boolean) dX12_spreads_82 rfl (by decide) (Nat.le_refl _) (Nat.le_refl _) ⟨_, rfl, rfl, fun H' z => (by cases z; exact hT1), hO⟩
    · exact absurd h1 (by omega)
  | succ f ihA =>
    intro a H1 m ha hk hT1 hO
    refine T_iload (pc := 10) (i := 4) dX12_spreads_10 rfl ?_
    refine T_lload_n (pc := 12) (i := 2) dX12_spreads_12 rfl rfl ?_
    refine R_callS1 (pc := 13) (av := [.long (lN (cd l))]) (rest := [.int (nI a)]) (Or.inl lk_X12_13) mk_X12_size (m_size hl) dX12_spreads_13 rfl rfl (Nat.le_of_ble_eq_true rfl) (by decide) rfl (Nat.le_refl _) (Nat.le_refl _) ?_
    refine R_icmp_ge (pc := 16) (tgt := 81) (by omega) (by omega) dX12_spreads_16 (by decide) (fun h1 => ?_) (fun h1 => ?_)
    · exact absurd h1 (by omega)
    · skip
      refine T_iconst (pc := 19) (v := nI 0) dX12_spreads_19 (by decide) ?_
      refine T_istore (pc := 20) (i := 5) (ls' := [some (.ref 572), some (.int (nI i)), some (.long (lN (cd l))), none, some (.int (nI a)), some (.int (nI 0))]) dX12_spreads_20 (by decide) rfl ?_
      suffices inner : ∀ (g b : Nat) (H2 : Hd) (m2 : SM2), b + g = R.length → tkL (d + 1) H ((tuP R w l a ++ tuR (fun r => fitB R w l r a) a b).map (trn R l)) = some H2 → MHd m2 H2 → OfM F29 Ssp μ m2 → T γ 9 0 0 M_X12_spreads Q 0 0 22 [some (.ref 572), some (.int (nI i)), some (.long (lN (cd l))), none, some (.int (nI a)), some (.int (nI b))] [] (rm m2) by
        exact inner R.length 0 H1 m (Nat.zero_add _) (by rw [show tuR (fun r => fitB R w l r a) a 0 = [] from rfl, List.append_nil]; exact hk) hT1 hO
      intro g
      induction g with
      | zero =>
        intro b H2 m2 hb hk2 hT2 hO2
        obtain rfl : b = R.length := by omega
        refine T_iload (pc := 22) (i := 5) dX12_spreads_22 rfl ?_
        refine T_aload_n (pc := 24) (i := 0) dX12_spreads_24 rfl rfl ?_
        refine R_callV1 (pc := 25) (As := []) (rest := [.int (nI R.length)]) (Or.inl lk_X12_121) mk_X12_rules (m_rules (hE.sp hO2).1) kc_572 ⟨by decide, rfl⟩ lc_572 dX12_spreads_25 rfl rfl (Nat.le_of_ble_eq_true rfl) (by decide) rfl (Nat.le_refl _) (Nat.le_refl _) ?_
        refine R_icmp_ge (pc := 28) (tgt := 75) (by omega) (by omega) dX12_spreads_28 (by decide) (fun h2 => ?_) (fun h2 => ?_)
        · skip
          refine R_iinc (pc := 75) (i := 4) (n := 1) (ls' := [some (.ref 572), some (.int (nI i)), some (.long (lN (cd l))), none, some (.int (nI (a + 1))), some (.int (nI R.length))]) dX12_spreads_75 rfl rfl ?_
          refine T_goto (pc := 78) (tgt := 10) dX12_spreads_78 (by decide) ?_
          refine T_ls (ls' := [some (.ref 572), some (.int (nI i)), some (.long (lN (cd l))), none, some (.int (nI (a + 1))), none]) (And.intro rfl (And.intro rfl (And.intro rfl (And.intro rfl True.intro)))) ?_
          exact ihA (a + 1) H2 m2 (by omega) hk2 hT2 hO2
        · exact absurd h2 (by omega)
      | succ g ihB =>
        intro b H2 m2 hb hk2 hT2 hO2
        have hE2 := hE.sp hO2
        refine T_iload (pc := 22) (i := 5) dX12_spreads_22 rfl ?_
        refine T_aload_n (pc := 24) (i := 0) dX12_spreads_24 rfl rfl ?_
        refine R_callV1 (pc := 25) (As := []) (rest := [.int (nI b)]) (Or.inl lk_X12_121) mk_X12_rules (m_rules hE2.1) kc_572 ⟨by decide, rfl⟩ lc_572 dX12_spreads_25 rfl rfl (Nat.le_of_ble_eq_true rfl) (by decide) rfl (Nat.le_refl _) (Nat.le_refl _) ?_
        refine R_icmp_ge (pc := 28) (tgt := 75) (by omega) (by omega) dX12_spreads_28 (by decide) (fun h2 => ?_) (fun h2 => ?_)
        · exact absurd h2 (by omega)
        · skip
          refine T_aload_n (pc := 31) (i := 0) dX12_spreads_31 rfl rfl ?_
          refine T_lload_n (pc := 32) (i := 2) dX12_spreads_32 rfl rfl ?_
          refine T_iload (pc := 33) (i := 5) dX12_spreads_33 rfl ?_
          refine T_iload (pc := 35) (i := 4) dX12_spreads_35 rfl ?_
          refine R_callVm1 (pc := 37) (As := [.long (lN (cd l)), .int (nI b), .int (nI a)]) (rest := []) (Or.inl lk_X12_339) mk_X12_isFit (m_isFit hE2 hl (by omega) (by omega)) kc_572 ⟨by decide, rfl⟩ lc_572 dX12_spreads_37 rfl rfl (Nat.le_of_ble_eq_true rfl) (by decide) rfl (Nat.le_refl _) (Nat.le_refl _) (fun m3 hO3 => ?_)
          have hO4 : OfM F29 Ssp μ m3 := hO2.trans (hO3.m (fun k hk => ⟨by unfold S9 at hk; omega, Or.inl hk⟩))
          have hT3 : MHd m3 H2 := hT2.of (hO3.k (F := fun _ => False)) id (fun k hk => by unfold Sht at hk; unfold S9; omega)
          have hE3 := hE.sp hO4
          cases eb : fitB R w l b a with
          | false =>
            have es : tuR (fun r => fitB R w l r a) a (b + 1) = tuR (fun r => fitB R w l r a) a b := by rw [tuR_s, if_neg (by rw [eb]; decide)]
            refine R_ifb_eq (pc := 40) (tgt := 69) dX12_spreads_40 (by decide) (fun h3 => ?_) (fun h3 => ?_)
            · skip
              refine R_iinc (pc := 69) (i := 5) (n := 1) (ls' := [some (.ref 572), some (.int (nI i)), some (.long (lN (cd l))), none, some (.int (nI a)), some (.int (nI (b + 1)))]) dX12_spreads_69 rfl rfl ?_
              refine T_goto (pc := 72) (tgt := 22) dX12_spreads_72 (by decide) ?_
              exact ihB (b + 1) H2 m3 (by omega) (by rw [es]; exact hk2) hT3 hO4
            · exact absurd h3 (by decide)
          | true =>
            have es : tuR (fun r => fitB R w l r a) a (b + 1) = tuR (fun r => fitB R w l r a) a b ++ [100 * a + b] := by rw [tuR_s, if_pos eb]
            have hg := fitB_get eb
            have ok := hE.1.2.1 b (by omega)
            have et : trn R l (100 * a + b) = usd l a (rAt R b).1 (rAt R b).2 := by unfold trn; rw [show (100 * a + b) / 100 = a by omega, show (100 * a + b) % 100 = b by omega]
            have hu : Mw (usd l a (rAt R b).1 (rAt R b).2) := usd_Mw hl.2 ok.2.2.2.1 hg.2.1 (by omega)
            have ek9 : tkL (d + 1) H ((tuP R w l a ++ tuR (fun r => fitB R w l r a) a (b + 1)).map (trn R l)) = tk1 H2 (d + 1) (usd l a (rAt R b).1 (rAt R b).2) := by
              rw [es, ← List.append_assoc, List.map_append, tkL_app, hk2]
              show tkL (d + 1) H2 [trn R l (100 * a + b)] = _
              rw [tkL_one, et]
            have hdi : m3.1 583 i = nI d := by
              have hr2 := (hT3.row i (by have := (tkL_get hk2).1; omega)).2.2
              rw [(tkL_get hk2).2 i hi, ed] at hr2
              exact hr2
            refine R_ifb_eq (pc := 40) (tgt := 69) dX12_spreads_40 (by decide) (fun h3 => ?_) (fun h3 => ?_)
            · exact absurd h3 (by decide)
            · skip
              refine T_aload_n (pc := 43) (i := 0) dX12_spreads_43 rfl rfl ?_
              refine T_aload_n (pc := 44) (i := 0) dX12_spreads_44 rfl rfl ?_
              refine T_lload_n (pc := 45) (i := 2) dX12_spreads_45 rfl rfl ?_
              refine T_iload (pc := 46) (i := 5) dX12_spreads_46 rfl ?_
              refine T_iload (pc := 48) (i := 4) dX12_spreads_48 rfl ?_
              refine R_callV1 (pc := 50) (As := [.long (lN (cd l)), .int (nI b), .int (nI a)]) (rest := [.ref 572]) (Or.inl lk_X12_360) mk_X12_used (m_used hE3.1 hl (by omega) hg.2.1) kc_572 ⟨by decide, rfl⟩ lc_572 dX12_spreads_50 rfl rfl (Nat.le_of_ble_eq_true rfl) (by decide) rfl (Nat.le_refl _) (Nat.le_refl _) ?_
              refine T_aload_n (pc := 53) (i := 0) dX12_spreads_53 rfl rfl ?_
              refine R_getR (pc := 54) (i := 583) fl_X12_65 rfl kc_572 lc_572 rc_572_27 dX12_spreads_54 ?_
              refine T_iload_n (pc := 57) (i := 1) dX12_spreads_57 rfl rfl ?_
              refine R_iald (pc := 58) (x := nI d) kc_583 lc_583 (by omega) (by first | decide | assumption) hdi dX12_spreads_58 ?_
              refine T_iconst (pc := 59) (v := nI 1) dX12_spreads_59 (by decide) ?_
              refine R_iadd (pc := 60) dX12_spreads_60 ?_
              refine R_callVm1 (pc := 61) (As := [.long (lN (cd (usd l a (rAt R b).1 (rAt R b).2))), .int (nI (d + 1))]) (rest := []) (Or.inl lk_X12_434) mk_X12_isMet (m_isMet hT3 hu) kc_572 ⟨by decide, rfl⟩ lc_572 dX12_spreads_61 rfl rfl (Nat.le_of_ble_eq_true rfl) (by decide) rfl (Nat.le_refl _) (Nat.le_refl _) (fun m4 h4 => ?_)
              have hO5 : OfM F29 Ssp μ m4 := hO4.trans (h4.2.mono (fun j hj => hj) (fun k hk => Or.inr hk))
              cases e5 : tk1 H2 (d + 1) (usd l a (rAt R b).1 (rAt R b).2) with
              | none =>
                obtain ⟨V, eV⟩ := tu_pre (R := R) (w := w) (l := l) (a := a) (b := b + 1) (by omega) (by omega)
                have ef : tkL (d + 1) H (sucW R w l) = none := by
                  unfold sucW
                  rw [eV, List.map_append, tkL_app, ek9, e5]
                  rfl
                show T _ _ _ _ _ _ _ _ 64 [some (.ref 572), some (.int (nI i)), some (.long (lN (cd l))), none, some (.int (nI a)), some (.int (nI b))] [.int (bI false)] (rm m4)
                refine R_ifb_ne (pc := 64) (tgt := 69) dX12_spreads_64 (by decide) (fun h6 => ?_) (fun h6 => ?_)
                · exact absurd h6 (by decide)
                · skip
                  refine T_iconst (pc := 67) (v := nI 0) dX12_spreads_67 (by decide) ?_
                  rw [hQ, ef]
                  exact T_iret (pc := 68) (ty := .boolean) dX12_spreads_68 rfl (by decide) (Nat.le_refl _) (Nat.le_refl _) ⟨_, rfl, rfl, fun H' z => (by cases z), hO5⟩
              | some H3 =>
                rw [e5] at h4 ek9
                show T _ _ _ _ _ _ _ _ 64 [some (.ref 572), some (.int (nI i)), some (.long (lN (cd l))), none, some (.int (nI a)), some (.int (nI b))] [.int (bI true)] (rm m4)
                refine R_ifb_ne (pc := 64) (tgt := 69) dX12_spreads_64 (by decide) (fun h6 => ?_) (fun h6 => ?_)
                · skip
                  refine R_iinc (pc := 69) (i := 5) (n := 1) (ls' := [some (.ref 572), some (.int (nI i)), some (.long (lN (cd l))), none, some (.int (nI a)), some (.int (nI (b + 1)))]) dX12_spreads_69 rfl rfl ?_
                  refine T_goto (pc := 72) (tgt := 22) dX12_spreads_72 (by decide) ?_
                  exact ihB (b + 1) H3 m4 (by omega) ek9 h4.1 hO5
                · exact absurd h6 (by decide)
theorem m_searches {X : Td} {LL : List (List Int32)} {l : List Nat} {n : Nat} (hX : mdT (μ.1 573) X) (hL : LawM (μ.1 573) LL) (hl : Mw l) (hn : n ≤ 1000) : Ex γ 10 0 0 M_X12_searches [.ref 572, .long (lN (cd l)), .int (nI n)] (rm μ) (Rm (some (.int (bI (spd X.R (wOf X LL) l n).isSome))) (fun m => (∀ H', spd X.R (wOf X LL) l n = some H' → MHd m H') ∧ mEnv m X.R LL (wOf X LL) ∧ OfM Fsr Ssp μ m)) := by
  obtain ⟨Q, hQ⟩ : ∃ Q, Q = Rm (some (.int (bI (spd X.R (wOf X LL) l n).isSome))) (fun m => (∀ H', spd X.R (wOf X LL) l n = some H' → MHd m H') ∧ mEnv m X.R LL (wOf X LL) ∧ OfM Fsr Ssp μ m) := ⟨_, rfl⟩
  rw [← hQ]
  refine Ex.of (by decide +kernel) rfl (Nat.le_of_ble_eq_true rfl) ?_
  show T _ _ _ _ _ _ _ _ _ [some (.ref 572), some (.long (lN (cd l))), none, some (.int (nI n)), none] [] (rm μ)
  refine T_aload_n (pc := 0) (i := 0) dX12_searches_0 rfl rfl ?_
  refine R_callVm0 (pc := 1) (As := []) (rest := []) (Or.inl lk_X12_386) mk_X12_asTold (m_asTold hX hL) kc_572 ⟨by decide, rfl⟩ lc_572 dX12_searches_1 rfl rfl (Nat.le_of_ble_eq_true rfl) (by decide) rfl (Nat.le_refl _) (Nat.le_refl _) (fun m0 h0 => ?_)
  obtain ⟨hE, hO⟩ := h0
  have hO0 : OfM Fsr Ssp μ m0 := hO.mono (fun j hj => hj.elim Or.inl (fun z => Or.inr (Or.inl z))) (fun k z => z.elim)
  refine T_aload_n (pc := 4) (i := 0) dX12_searches_4 rfl rfl ?_
  refine T_lload_n (pc := 5) (i := 1) dX12_searches_5 rfl rfl ?_
  refine R_callVm0 (pc := 6) (As := [.long (lN (cd l))]) (rest := []) (Or.inl lk_X12_437) mk_X12_beginsAt (m_beginsAt hl) kc_572 ⟨by decide, rfl⟩ lc_572 dX12_searches_6 rfl rfl (Nat.le_of_ble_eq_true rfl) (by decide) rfl (Nat.le_refl _) (Nat.le_refl _) (fun m1 h1 => ?_)
  have hO1 : OfM F29 Ssp m0 m1 := h1.2.mono (fun j hj => hj) (fun k hk => Or.inr hk)
  refine T_iconst (pc := 9) (v := nI 0) dX12_searches_9 (by decide) ?_
  refine T_istore (pc := 10) (i := 4) (ls' := [some (.ref 572), some (.long (lN (cd l))), none, some (.int (nI n)), some (.int (nI 0))]) dX12_searches_10 (by decide) rfl ?_
  have fin : ∀ (H : Hd) (m : SM2), spd X.R (wOf X LL) l n = some H → MHd m H → OfM F29 Ssp m0 m → T γ 10 0 0 M_X12_searches Q 0 0 49 [some (.ref 572), some (.long (lN (cd l))), none, some (.int (nI n)), none] [] (rm m) := fun H m es hT hO2 => by
    refine T_iconst (pc := 49) (v := nI 1) dX12_searches_49 (by decide) ?_
    rw [hQ, es]
    exact T_iret (pc := 50) (ty := .boolean) dX12_searches_50 rfl (by decide) (Nat.le_refl _) (Nat.le_refl _) ⟨_, rfl, rfl, fun H' z => (by cases z; exact hT), hE.sp hO2, hO0.trans (hO2.mono (fun j hj => Or.inr (Or.inr hj)) (fun k hk => hk))⟩
  suffices outer : ∀ (g ls lb : Nat) (H : Hd) (m : SM2), ls + g = n → lb ≤ H.length → (∀ i, lb ≤ i → i < H.length → (hA H i).2 = ls) → spd X.R (wOf X LL) l n = lvR X.R (wOf X LL) g H lb ls → MHd m H → OfM F29 Ssp m0 m → T γ 10 0 0 M_X12_searches Q 0 0 12 [some (.ref 572), some (.long (lN (cd l))), none, some (.int (nI n)), some (.int (nI lb))] [] (rm m) by
    exact outer n 0 0 [(l, 0)] m1 (Nat.zero_add _) (Nat.zero_le _) (fun i _ hi => by
      have hi2 : i < 1 := hi
      obtain rfl : i = 0 := by omega
      rfl) rfl h1.1 hO1
  intro g
  induction g with
  | zero =>
    intro ls lb H m hls hlb hdi es hT hO2
    have h15 := hT.len
    have es2 : spd X.R (wOf X LL) l n = some H := es
    refine T_iload (pc := 12) (i := 4) dX12_searches_12 rfl ?_
    refine T_aload_n (pc := 14) (i := 0) dX12_searches_14 rfl rfl ?_
    refine R_getI (pc := 15) (x := nI H.length) fl_X12_431 rfl kc_572 lc_572 hT.size dX12_searches_15 ?_
    refine R_icmp_ge (pc := 18) (tgt := 49) (by omega) (by omega) dX12_searches_18 (by decide) (fun h2 => ?_) (fun h2 => ?_)
    · skip
      refine T_ls (ls' := [some (.ref 572), some (.long (lN (cd l))), none, some (.int (nI n)), none]) (And.intro rfl (And.intro rfl (And.intro rfl True.intro))) ?_
      exact fin H m es2 hT hO2
    · skip
      have hd := hdi lb (Nat.le_refl _) h2
      refine T_aload_n (pc := 21) (i := 0) dX12_searches_21 rfl rfl ?_
      refine R_getR (pc := 22) (i := 583) fl_X12_65 rfl kc_572 lc_572 rc_572_27 dX12_searches_22 ?_
      refine T_iload (pc := 25) (i := 4) dX12_searches_25 rfl ?_
      refine R_iald (pc := 27) (x := nI ((hA H lb).2)) kc_583 lc_583 (by omega) (by first | decide | assumption) ((hT.row lb h2).2.2) dX12_searches_27 ?_
      refine T_iload_n (pc := 28) (i := 3) dX12_searches_28 rfl rfl ?_
      refine R_icmp_ge (pc := 29) (tgt := 49) (by omega) (by omega) dX12_searches_29 (by decide) (fun h3 => ?_) (fun h3 => ?_)
      · skip
        refine T_ls (ls' := [some (.ref 572), some (.long (lN (cd l))), none, some (.int (nI n)), none]) (And.intro rfl (And.intro rfl (And.intro rfl True.intro))) ?_
        exact fin H m es2 hT hO2
      · exact absurd h3 (by omega)
  | succ g ihg =>
    intro ls lb H m hls hlb hdi es hT hO2
    have h15 := hT.len
    rw [lvR_s] at es
    by_cases hlt : lb < H.length
    · rw [if_pos hlt] at es
      suffices inner : ∀ (f i : Nat) (H1 : Hd) (m : SM2), i + f = H.length → H.length ≤ H1.length → (∀ j, i ≤ j → j < H.length → (hA H1 j).2 = ls) → (∀ j, H.length ≤ j → j < H1.length → (hA H1 j).2 = ls + 1) → spd X.R (wOf X LL) l n = (spI X.R (wOf X LL) (ls + 1) H1 i f).bind (fun H' => lvR X.R (wOf X LL) g H' H.length (ls + 1)) → MHd m H1 → OfM F29 Ssp m0 m → T γ 10 0 0 M_X12_searches Q 0 0 12 [some (.ref 572), some (.long (lN (cd l))), none, some (.int (nI n)), some (.int (nI i))] [] (rm m) by
        exact inner (H.length - lb) lb H m (by omega) (Nat.le_refl _) (fun j h2 h3 => hdi j h2 h3) (fun j h2 h3 => absurd h3 (by omega)) es hT hO2
      intro f
      induction f with
      | zero =>
        intro i H1 m hi hle hd1 hd2 es1 hT1 hO3
        obtain rfl : i = H.length := by omega
        exact ihg (ls + 1) H.length H1 m (by omega) hle hd2 es1 hT1 hO3
      | succ f ihf =>
        intro i H1 m hi hle hd1 hd2 es1 hT1 hO3
        have h16 := hT1.len
        have hdi2 := hd1 i (Nat.le_refl _) (by omega)
        have hi1 : i < H1.length := by omega
        rw [spI_s] at es1
        refine T_iload (pc := 12) (i := 4) dX12_searches_12 rfl ?_
        refine T_aload_n (pc := 14) (i := 0) dX12_searches_14 rfl rfl ?_
        refine R_getI (pc := 15) (x := nI H1.length) fl_X12_431 rfl kc_572 lc_572 hT1.size dX12_searches_15 ?_
        refine R_icmp_ge (pc := 18) (tgt := 49) (by omega) (by omega) dX12_searches_18 (by decide) (fun h2 => ?_) (fun h2 => ?_)
        · exact absurd h2 (by omega)
        · skip
          refine T_aload_n (pc := 21) (i := 0) dX12_searches_21 rfl rfl ?_
          refine R_getR (pc := 22) (i := 583) fl_X12_65 rfl kc_572 lc_572 rc_572_27 dX12_searches_22 ?_
          refine T_iload (pc := 25) (i := 4) dX12_searches_25 rfl ?_
          refine R_iald (pc := 27) (x := nI ((hA H1 i).2)) kc_583 lc_583 (by omega) (by first | decide | assumption) ((hT1.row i hi1).2.2) dX12_searches_27 ?_
          refine T_iload_n (pc := 28) (i := 3) dX12_searches_28 rfl rfl ?_
          refine R_icmp_ge (pc := 29) (tgt := 49) (by omega) (by omega) dX12_searches_29 (by decide) (fun h3 => ?_) (fun h3 => ?_)
          · exact absurd h3 (by omega)
          · skip
            have hsp := m_spreads (γ := γ) (hE.sp hO3) hT1 hi1 (by omega)
            rw [hdi2] at hsp
            refine T_aload_n (pc := 32) (i := 0) dX12_searches_32 rfl rfl ?_
            refine T_iload (pc := 33) (i := 4) dX12_searches_33 rfl ?_
            refine R_callVm1 (pc := 35) (As := [.int (nI i)]) (rest := []) (Or.inl lk_X12_441) mk_X12_spreads hsp kc_572 ⟨by decide, rfl⟩ lc_572 dX12_searches_35 rfl rfl (Nat.le_of_ble_eq_true rfl) (by decide) rfl (Nat.le_refl _) (Nat.le_refl _) (fun m3 h4 => ?_)
            have hO4 := hO3.trans h4.2
            cases e5 : tkL (ls + 1) H1 (sucW X.R (wOf X LL) (hA H1 i).1) with
            | none =>
              rw [e5] at es1
              have es2 : spd X.R (wOf X LL) l n = none := es1
              show T _ _ _ _ _ _ _ _ 38 [some (.ref 572), some (.long (lN (cd l))), none, some (.int (nI n)), some (.int (nI i))] [.int (bI false)] (rm m3)
              refine R_ifb_ne (pc := 38) (tgt := 43) dX12_searches_38 (by decide) (fun h6 => ?_) (fun h6 => ?_)
              · exact absurd h6 (by decide)
              · skip
                refine T_iconst (pc := 41) (v := nI 0) dX12_searches_41 (by decide) ?_
                rw [hQ, es2]
                exact T_iret (pc := 42) (ty := .boolean) dX12_searches_42 rfl (by decide) (Nat.le_refl _) (Nat.le_refl _) ⟨_, rfl, rfl, fun H' z => (by cases z), hE.sp hO4, hO0.trans (hO4.mono (fun j hj => Or.inr (Or.inr hj)) (fun k hk => hk))⟩
            | some H2 =>
              rw [e5] at es1
              have es2 : spd X.R (wOf X LL) l n = (spI X.R (wOf X LL) (ls + 1) H2 (i + 1) f).bind (fun H' => lvR X.R (wOf X LL) g H' H.length (ls + 1)) := es1
              have hge := tkL_get e5
              have hnw := tkL_new e5
              show T _ _ _ _ _ _ _ _ 38 [some (.ref 572), some (.long (lN (cd l))), none, some (.int (nI n)), some (.int (nI i))] [.int (bI true)] (rm m3)
              refine R_ifb_ne (pc := 38) (tgt := 43) dX12_searches_38 (by decide) (fun h6 => ?_) (fun h6 => ?_)
              · skip
                refine R_iinc (pc := 43) (i := 4) (n := 1) (ls' := [some (.ref 572), some (.long (lN (cd l))), none, some (.int (nI n)), some (.int (nI (i + 1)))]) dX12_searches_43 rfl rfl ?_
                refine T_goto (pc := 46) (tgt := 12) dX12_searches_46 (by decide) ?_
                exact ihf (i + 1) H2 m3 (by omega) (by omega) (fun j h7 h8 => by rw [hge.2 j (by omega)]; exact hd1 j (by omega) h8) (fun j h7 h8 => by
                  by_cases g9 : j < H1.length
                  · rw [hge.2 j g9]
                    exact hd2 j h7 g9
                  · exact hnw j (by omega) h8) es2 (h4.1 H2 e5) hO4
              · exact absurd h6 (by decide)
    · rw [if_neg hlt] at es
      refine T_iload (pc := 12) (i := 4) dX12_searches_12 rfl ?_
      refine T_aload_n (pc := 14) (i := 0) dX12_searches_14 rfl rfl ?_
      refine R_getI (pc := 15) (x := nI H.length) fl_X12_431 rfl kc_572 lc_572 hT.size dX12_searches_15 ?_
      refine R_icmp_ge (pc := 18) (tgt := 49) (by omega) (by omega) dX12_searches_18 (by decide) (fun h2 => ?_) (fun h2 => ?_)
      · skip
        refine T_ls (ls' := [some (.ref 572), some (.long (lN (cd l))), none, some (.int (nI n)), none]) (And.intro rfl (And.intro rfl (And.intro rfl True.intro))) ?_
        exact fin H m es hT hO2
      · exact absurd h2 (by omega)
end MS1

