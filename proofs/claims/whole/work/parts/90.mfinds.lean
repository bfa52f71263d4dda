/-! THE MODEL: what is used by WAY left, right, rule -/
theorem ga_one {R : List Ru} {w : Wk} {l : List Nat} {i : Nat} (hl : l.length ≤ 20) (h3 : w.1 ≠ 3) (h0 : gaU R w l i = []) (hi : i < l.length * R.length) (hf : fitB R w l (prQ w.1 l.length R.length i).2 (prQ w.1 l.length R.length i).1 = true) : gaR R w l = [prQ w.1 l.length R.length i] := by
  have h1 : gaU R w l (i + 1) = [prQ w.1 l.length R.length i] := by
    rw [gaU_s, h0, if_pos ⟨by rw [if_neg h3]; exact Nat.one_pos, Nat.zero_le _, hf⟩]
    rfl
  have h2 := gaU_stop (R := R) (w := w) (l := l) (i := i + 1) (by rw [h1, if_neg h3]; exact Nat.le_refl _) (l.length * R.length - (i + 1))
  rw [show i + 1 + (l.length * R.length - (i + 1)) = l.length * R.length by omega, h1] at h2
  have hg := fitB_get hf
  unfold gaR
  rw [h2, if_pos]
  show l.length + ((rAt R (prQ w.1 l.length R.length i).2).2.length + 0) - ((rAt R (prQ w.1 l.length R.length i).2).1.length + 0) ≤ 20
  omega
theorem ga_no {R : List Ru} {w : Wk} {l : List Nat} (h0 : gaU R w l (l.length * R.length) = []) : gaR R w l = [] := by
  unfold gaR
  rw [h0]
  split <;> rfl
theorem ga_skip {R : List Ru} {w : Wk} {l : List Nat} {i : Nat} (h0 : gaU R w l i = []) (hf : fitB R w l (prQ w.1 l.length R.length i).2 (prQ w.1 l.length R.length i).1 = false) : gaU R w l (i + 1) = [] := by
  rw [gaU_s, h0, if_neg (fun z => by rw [hf] at z; exact Bool.noConfusion z.2.2)]
def Fk (j : Nat) : Prop := j = 19 ∨ j = 20
/-- what was found -/
def ItsP (R : List Ru) (w : Wk) (l : List Nat) (m : SM2) : Prop := ∀ q, gaR R w l = [q] → m.1 572 19 = nI q.2 ∧ m.1 572 20 = nI q.1
def Qfs (R : List Ru) (w : Wk) (l : List Nat) (μ : SM2) : Out → SMem → Prop := Rm (some (.int (bI (decide ((gaR R w l).length ≠ 0))))) (fun m => ItsP R w l m ∧ OfM Fk S9 μ m)
section MF2
variable {γ : Ga} {μ : SM2}
theorem m_finds {R : List Ru} {LL : List (List Int32)} {w : Wk} {l : List Nat} (hE : mEnv μ R LL w) (hl : Mw l) (h3 : w.1 < 3) : Ex γ 9 0 0 M_X12_finds [.ref 572, .long (lN (cd l)), .int (nI w.1)] (rm μ) (Qfs R w l μ) := by
  have h20 := hl.1
  have h12 := hE.1.1.2
  have h3' : w.1 ≠ 3 := by omega
  obtain ⟨A, hA⟩ : ∃ A, A = (if w.1 = 2 then R.length else l.length) := ⟨_, rfl⟩
  obtain ⟨B, hB⟩ : ∃ B, B = (if w.1 = 2 then l.length else R.length) := ⟨_, rfl⟩
  have hAB : A * B = l.length * R.length := by
    rw [hA, hB]
    split
    · exact Nat.mul_comm _ _
    · rfl
  have hA20 : A ≤ 20 := by rw [hA]; split <;> omega
  have hB20 : B ≤ 20 := by rw [hB]; split <;> omega
  have ki : ∀ (m : SM2), OfM Fk S9 μ m → mEnv m R LL w := fun m h => hE.om h (by unfold S9; omega) (by unfold Fk; omega) (by unfold Fk; omega)
  refine Ex.of (by decide +kernel) rfl (Nat.le_of_ble_eq_true rfl) ?_
  show T _ _ _ _ _ _ _ _ _ [some (.ref 572), some (.long (lN (cd l))), none, some (.int (nI w.1)), none, none, none, none, none] [] (rm μ)
  refine T_lload_n (pc := 0) (i := 1) dX12_finds_0 rfl rfl ?_
  refine R_callS1 (pc := 1) (av := [.long (lN (cd l))]) (rest := []) (Or.inl lk_X12_13) mk_X12_size (m_size hl) dX12_finds_1 rfl rfl (Nat.le_of_ble_eq_true rfl) (by decide) rfl (Nat.le_refl _) (Nat.le_refl _) ?_
  refine T_istore (pc := 4) (i := 4) (ls' := [some (.ref 572), some (.long (lN (cd l))), none, some (.int (nI w.1)), some (.int (nI l.length)), none, none, none, none]) dX12_finds_4 (by decide) rfl ?_
  refine T_iconst (pc := 6) (v := nI 0) dX12_finds_6 (by decide) ?_
  refine T_istore (pc := 7) (i := 5) (ls' := [some (.ref 572), some (.long (lN (cd l))), none, some (.int (nI w.1)), some (.int (nI l.length)), some (.int (nI 0)), none, none, none]) dX12_finds_7 (by decide) rfl ?_
  suffices outer : ∀ (f a : Nat) (m : SM2), a + f = A → gaU R w l (a * B) = [] → OfM Fk S9 μ m → T γ 9 0 0 M_X12_finds (Qfs R w l μ) 0 0 9 [some (.ref 572), some (.long (lN (cd l))), none, some (.int (nI w.1)), some (.int (nI l.length)), some (.int (nI a)), none, none, none] [] (rm m) by
    exact outer A 0 μ (Nat.zero_add _) (by rw [Nat.zero_mul]; rfl) (OfM.refl _ _ _)
  intro f
  induction f with
  | zero =>
    intro a m ha h0 hO
    have t25 : T γ 9 0 0 M_X12_finds (Qfs R w l μ) 0 0 25 [some (.ref 572), some (.long (lN (cd l))), none, some (.int (nI w.1)), some (.int (nI l.length)), some (.int (nI a)), none, none, none] [.int (nI A), .int (nI a)] (rm m) := by
      refine R_icmp_ge (pc := 25) (tgt := 134) (by omega) (by omega) dX12_finds_25 (by decide) (fun h1 => ?_) (fun h1 => ?_)
      · skip
        refine T_iconst (pc := 134) (v := nI 0) dX12_finds_134 (by decide) ?_
        have e : gaR R w l = [] := ga_no (by rw [← hAB, ← ha, Nat.add_zero]; exact h0)
        unfold Qfs ItsP
        rw [e]
        exact T_iret (pc := 135) (ty := .boolean) dX12_finds_135 rfl (by decide) (Nat.le_refl _) (Nat.le_refl _) ⟨_, rfl, rfl, fun q z => (by cases z), hO⟩
      · exact absurd h1 (by omega)
    refine T_iload (pc := 9) (i := 5) dX12_finds_9 rfl ?_
    refine T_iload_n (pc := 11) (i := 3) dX12_finds_11 rfl rfl ?_
    refine T_iconst (pc := 12) (v := nI 2) dX12_finds_12 (by decide) ?_
    refine R_icmp_ne (pc := 13) (tgt := 23) (by omega) (by omega) dX12_finds_13 (by decide) (fun h1 => ?_) (fun h1 => ?_)
    · skip
      refine T_iload (pc := 23) (i := 4) dX12_finds_23 rfl ?_
      rw [hA, if_neg h1] at t25
      exact t25
    · skip
      refine T_aload_n (pc := 16) (i := 0) dX12_finds_16 rfl rfl ?_
      refine R_callV1 (pc := 17) (As := []) (rest := [.int (nI a)]) (Or.inl lk_X12_121) mk_X12_rules (m_rules (ki m hO).1) kc_572 ⟨by decide, rfl⟩ lc_572 dX12_finds_17 rfl rfl (Nat.le_of_ble_eq_true rfl) (by decide) rfl (Nat.le_refl _) (Nat.le_refl _) ?_
      refine T_goto (pc := 20) (tgt := 25) dX12_finds_20 (by decide) ?_
      rw [hA, if_pos h1] at t25
      exact t25
  | succ f ihA =>
    intro a m ha h0 hO
    suffices inner : ∀ (g b : Nat) (m : SM2), b + g = B → gaU R w l (a * B + b) = [] → OfM Fk S9 μ m → T γ 9 0 0 M_X12_finds (Qfs R w l μ) 0 0 31 [some (.ref 572), some (.long (lN (cd l))), none, some (.int (nI w.1)), some (.int (nI l.length)), some (.int (nI a)), some (.int (nI b)), none, none] [] (rm m) by
      have t25 : T γ 9 0 0 M_X12_finds (Qfs R w l μ) 0 0 25 [some (.ref 572), some (.long (lN (cd l))), none, some (.int (nI w.1)), some (.int (nI l.length)), some (.int (nI a)), none, none, none] [.int (nI A), .int (nI a)] (rm m) := by
        refine R_icmp_ge (pc := 25) (tgt := 134) (by omega) (by omega) dX12_finds_25 (by decide) (fun h1 => ?_) (fun h1 => ?_)
        · exact absurd h1 (by omega)
        · skip
          refine T_iconst (pc := 28) (v := nI 0) dX12_finds_28 (by decide) ?_
          refine T_istore (pc := 29) (i := 6) (ls' := [some (.ref 572), some (.long (lN (cd l))), none, some (.int (nI w.1)), some (.int (nI l.length)), some (.int (nI a)), some (.int (nI 0)), none, none]) dX12_finds_29 (by decide) rfl ?_
          exact inner B 0 m (Nat.zero_add _) h0 hO
      refine T_iload (pc := 9) (i := 5) dX12_finds_9 rfl ?_
      refine T_iload_n (pc := 11) (i := 3) dX12_finds_11 rfl rfl ?_
      refine T_iconst (pc := 12) (v := nI 2) dX12_finds_12 (by decide) ?_
      refine R_icmp_ne (pc := 13) (tgt := 23) (by omega) (by omega) dX12_finds_13 (by decide) (fun h1 => ?_) (fun h1 => ?_)
      · skip
        refine T_iload (pc := 23) (i := 4) dX12_finds_23 rfl ?_
        rw [hA, if_neg h1] at t25
        exact t25
      · skip
        refine T_aload_n (pc := 16) (i := 0) dX12_finds_16 rfl rfl ?_
        refine R_callV1 (pc := 17) (As := []) (rest := [.int (nI a)]) (Or.inl lk_X12_121) mk_X12_rules (m_rules (ki m hO).1) kc_572 ⟨by decide, rfl⟩ lc_572 dX12_finds_17 rfl rfl (Nat.le_of_ble_eq_true rfl) (by decide) rfl (Nat.le_refl _) (Nat.le_refl _) ?_
        refine T_goto (pc := 20) (tgt := 25) dX12_finds_20 (by decide) ?_
        rw [hA, if_pos h1] at t25
        exact t25
    intro g
    induction g with
    | zero =>
      intro b m hb h0 hO
      have t47 : T γ 9 0 0 M_X12_finds (Qfs R w l μ) 0 0 47 [some (.ref 572), some (.long (lN (cd l))), none, some (.int (nI w.1)), some (.int (nI l.length)), some (.int (nI a)), some (.int (nI b)), none, none] [.int (nI B), .int (nI b)] (rm m) := by
        refine R_icmp_ge (pc := 47) (tgt := 128) (by omega) (by omega) dX12_finds_47 (by decide) (fun h1 => ?_) (fun h1 => ?_)
        · skip
          refine R_iinc (pc := 128) (i := 5) (n := 1) (ls' := [some (.ref 572), some (.long (lN (cd l))), none, some (.int (nI w.1)), some (.int (nI l.length)), some (.int (nI (a + 1))), some (.int (nI b)), none, none]) dX12_finds_128 rfl rfl ?_
          refine T_goto (pc := 131) (tgt := 9) dX12_finds_131 (by decide) ?_
          refine T_ls (ls' := [some (.ref 572), some (.long (lN (cd l))), none, some (.int (nI w.1)), some (.int (nI l.length)), some (.int (nI (a + 1))), none, none, none]) (And.intro rfl (And.intro rfl (And.intro rfl (And.intro rfl (And.intro rfl True.intro))))) ?_
          exact ihA (a + 1) m (by omega) (by rw [Nat.succ_mul, ← hb, Nat.add_zero]; rw [← hb, Nat.add_zero] at h0; exact h0) hO
        · exact absurd h1 (by omega)
      refine T_iload (pc := 31) (i := 6) dX12_finds_31 rfl ?_
      refine T_iload_n (pc := 33) (i := 3) dX12_finds_33 rfl rfl ?_
      refine T_iconst (pc := 34) (v := nI 2) dX12_finds_34 (by decide) ?_
      refine R_icmp_ne (pc := 35) (tgt := 43) (by omega) (by omega) dX12_finds_35 (by decide) (fun h1 => ?_) (fun h1 => ?_)
      · skip
        refine T_aload_n (pc := 43) (i := 0) dX12_finds_43 rfl rfl ?_
        refine R_callV1 (pc := 44) (As := []) (rest := [.int (nI b)]) (Or.inl lk_X12_121) mk_X12_rules (m_rules (ki m hO).1) kc_572 ⟨by decide, rfl⟩ lc_572 dX12_finds_44 rfl rfl (Nat.le_of_ble_eq_true rfl) (by decide) rfl (Nat.le_refl _) (Nat.le_refl _) ?_
        rw [hB, if_neg h1] at t47
        exact t47
      · skip
        refine T_iload (pc := 38) (i := 4) dX12_finds_38 rfl ?_
        refine T_goto (pc := 40) (tgt := 47) dX12_finds_40 (by decide) ?_
        rw [hB, if_pos h1] at t47
        exact t47
    | succ g ihB =>
      intro b m hb h0 hO
      have hlt : a * B + b < l.length * R.length := by
        rw [← hAB]
        have : (a + 1) * B ≤ A * B := Nat.mul_le_mul_right _ (by omega)
        rw [Nat.succ_mul] at this
        omega
      have hdiv : (a * B + b) / B = a := by
        rw [Nat.mul_comm, Nat.mul_add_div (by omega), Nat.div_eq_of_lt (by omega), Nat.add_zero]
      have hmod : (a * B + b) % B = b := by
        rw [Nat.mul_comm, Nat.mul_add_mod, Nat.mod_eq_of_lt (by omega)]
      have t93 : ∀ p r, prQ w.1 l.length R.length (a * B + b) = (p, r) → p < l.length → r < R.length → T γ 9 0 0 M_X12_finds (Qfs R w l μ) 0 0 93 [some (.ref 572), some (.long (lN (cd l))), none, some (.int (nI w.1)), some (.int (nI l.length)), some (.int (nI a)), some (.int (nI b)), some (.int (nI r)), some (.int (nI p))] [] (rm m) := fun p r e hp hr => by
        refine T_aload_n (pc := 93) (i := 0) dX12_finds_93 rfl rfl ?_
        refine T_lload_n (pc := 94) (i := 1) dX12_finds_94 rfl rfl ?_
        refine T_iload (pc := 95) (i := 7) dX12_finds_95 rfl ?_
        refine T_iload (pc := 97) (i := 8) dX12_finds_97 rfl ?_
        refine R_callVm1 (pc := 99) (As := [.long (lN (cd l)), .int (nI r), .int (nI p)]) (rest := []) (Or.inl lk_X12_339) mk_X12_isFit (m_isFit (ki m hO) hl hr (by omega)) kc_572 ⟨by decide, rfl⟩ lc_572 dX12_finds_99 rfl rfl (Nat.le_of_ble_eq_true rfl) (by decide) rfl (Nat.le_refl _) (Nat.le_refl _) (fun m2 hO2 => ?_)
        have hO3 : OfM Fk S9 μ m2 := hO.trans (hO2.m (fun k hk => ⟨by unfold S9 at hk; omega, hk⟩))
        refine R_ifb_ne (pc := 102) (tgt := 108) dX12_finds_102 (by decide) (fun h1 => ?_) (fun h1 => ?_)
        · skip
          have e2 := ga_one h20 h3' h0 hlt (by rw [e]; exact h1)
          rw [e] at e2
          refine T_aload_n (pc := 108) (i := 0) dX12_finds_108 rfl rfl ?_
          refine T_iload (pc := 109) (i := 7) dX12_finds_109 rfl ?_
          refine R_putI (pc := 111) fl_X12_343 ⟨rfl, rfl⟩ (Or.inl rfl) kc_572 lc_572 dX12_finds_111 ?_
          refine T_aload_n (pc := 114) (i := 0) dX12_finds_114 rfl rfl ?_
          refine T_iload (pc := 115) (i := 8) dX12_finds_115 rfl ?_
          refine R_putI (pc := 117) fl_X12_346 ⟨rfl, rfl⟩ (Or.inl rfl) kc_572 lc_572 dX12_finds_117 ?_
          refine T_iconst (pc := 120) (v := nI 1) dX12_finds_120 (by decide) ?_
          unfold Qfs ItsP
          rw [e2]
          exact T_iret (pc := 121) (ty := .boolean) dX12_finds_121 rfl (by decide) (Nat.le_refl _) (Nat.le_refl _) ⟨_, rfl, rfl, fun q z => (by cases z; exact ⟨(n_wI (by omega)).trans (e_wI ⟨rfl, rfl⟩), e_wI ⟨rfl, rfl⟩⟩), (hO3.sF (Or.inl rfl)).sF (Or.inr rfl)⟩
        · skip
          refine T_goto (pc := 105) (tgt := 122) dX12_finds_105 (by decide) ?_
          refine R_iinc (pc := 122) (i := 6) (n := 1) (ls' := [some (.ref 572), some (.long (lN (cd l))), none, some (.int (nI w.1)), some (.int (nI l.length)), some (.int (nI a)), some (.int (nI (b + 1))), some (.int (nI r)), some (.int (nI p))]) dX12_finds_122 rfl rfl ?_
          refine T_goto (pc := 125) (tgt := 31) dX12_finds_125 (by decide) ?_
          refine T_ls (ls' := [some (.ref 572), some (.long (lN (cd l))), none, some (.int (nI w.1)), some (.int (nI l.length)), some (.int (nI a)), some (.int (nI (b + 1))), none, none]) (And.intro rfl (And.intro rfl (And.intro rfl (And.intro rfl (And.intro rfl (And.intro rfl True.intro)))))) ?_
          exact ihB (b + 1) m2 (by omega) (ga_skip (i := a * B + b) h0 (by rw [e]; exact h1)) hO3
      have t47 : T γ 9 0 0 M_X12_finds (Qfs R w l μ) 0 0 47 [some (.ref 572), some (.long (lN (cd l))), none, some (.int (nI w.1)), some (.int (nI l.length)), some (.int (nI a)), some (.int (nI b)), none, none] [.int (nI B), .int (nI b)] (rm m) := by
        refine R_icmp_ge (pc := 47) (tgt := 128) (by omega) (by omega) dX12_finds_47 (by decide) (fun h1 => ?_) (fun h1 => ?_)
        · exact absurd h1 (by omega)
        · skip
          refine T_iload_n (pc := 50) (i := 3) dX12_finds_50 rfl rfl ?_
          refine T_iconst (pc := 51) (v := nI 2) dX12_finds_51 (by decide) ?_
          refine R_icmp_ne (pc := 52) (tgt := 60) (by omega) (by omega) dX12_finds_52 (by decide) (fun h2 => ?_) (fun h2 => ?_)
          · skip
            rw [if_neg h2] at hA hB
            subst hA
            subst hB
            refine T_iload (pc := 60) (i := 6) dX12_finds_60 rfl ?_
            refine T_istore (pc := 62) (i := 7) (ls' := [some (.ref 572), some (.long (lN (cd l))), none, some (.int (nI w.1)), some (.int (nI l.length)), some (.int (nI a)), some (.int (nI b)), some (.int (nI b)), none]) dX12_finds_62 (by decide) rfl ?_
            refine T_iload_n (pc := 64) (i := 3) dX12_finds_64 rfl rfl ?_
            refine T_iconst (pc := 65) (v := nI 2) dX12_finds_65 (by decide) ?_
            refine R_icmp_ne (pc := 66) (tgt := 74) (by omega) (by omega) dX12_finds_66 (by decide) (fun h4 => ?_) (fun h4 => ?_)
            · skip
              refine T_iload_n (pc := 74) (i := 3) dX12_finds_74 rfl rfl ?_
              refine T_iconst (pc := 75) (v := nI 1) dX12_finds_75 (by decide) ?_
              refine R_icmp_ne (pc := 76) (tgt := 89) (by omega) (by omega) dX12_finds_76 (by decide) (fun h5 => ?_) (fun h5 => ?_)
              · skip
                refine T_iload (pc := 89) (i := 5) dX12_finds_89 rfl ?_
                refine T_istore (pc := 91) (i := 8) (ls' := [some (.ref 572), some (.long (lN (cd l))), none, some (.int (nI w.1)), some (.int (nI l.length)), some (.int (nI a)), some (.int (nI b)), some (.int (nI b)), some (.int (nI a))]) dX12_finds_91 (by decide) rfl ?_
                exact t93 a b (by unfold prQ; rw [if_neg h2, if_neg h5, hdiv, hmod]) (by omega) (by omega)
              · skip
                refine T_iload (pc := 79) (i := 4) dX12_finds_79 rfl ?_
                refine T_iconst (pc := 81) (v := nI 1) dX12_finds_81 (by decide) ?_
                refine R_isub (pc := 82) (by omega) dX12_finds_82 ?_
                refine T_iload (pc := 83) (i := 5) dX12_finds_83 rfl ?_
                refine R_isub (pc := 85) (by omega) dX12_finds_85 ?_
                refine T_goto (pc := 86) (tgt := 91) dX12_finds_86 (by decide) ?_
                refine T_istore (pc := 91) (i := 8) (ls' := [some (.ref 572), some (.long (lN (cd l))), none, some (.int (nI w.1)), some (.int (nI l.length)), some (.int (nI a)), some (.int (nI b)), some (.int (nI b)), some (.int (nI ((l.length - 1) - a)))]) dX12_finds_91 (by decide) rfl ?_
                exact t93 (l.length - 1 - a) b (by unfold prQ; rw [if_neg h2, if_pos h5, hdiv, hmod]) (by omega) (by omega)
            · exact absurd h4 h2
          · skip
            rw [if_pos h2] at hA hB
            subst hA
            subst hB
            refine T_iload (pc := 55) (i := 5) dX12_finds_55 rfl ?_
            refine T_goto (pc := 57) (tgt := 62) dX12_finds_57 (by decide) ?_
            refine T_istore (pc := 62) (i := 7) (ls' := [some (.ref 572), some (.long (lN (cd l))), none, some (.int (nI w.1)), some (.int (nI l.length)), some (.int (nI a)), some (.int (nI b)), some (.int (nI a)), none]) dX12_finds_62 (by decide) rfl ?_
            refine T_iload_n (pc := 64) (i := 3) dX12_finds_64 rfl rfl ?_
            refine T_iconst (pc := 65) (v := nI 2) dX12_finds_65 (by decide) ?_
            refine R_icmp_ne (pc := 66) (tgt := 74) (by omega) (by omega) dX12_finds_66 (by decide) (fun h4 => ?_) (fun h4 => ?_)
            · exact absurd h2 h4
            · skip
              refine T_iload (pc := 69) (i := 6) dX12_finds_69 rfl ?_
              refine T_goto (pc := 71) (tgt := 91) dX12_finds_71 (by decide) ?_
              refine T_istore (pc := 91) (i := 8) (ls' := [some (.ref 572), some (.long (lN (cd l))), none, some (.int (nI w.1)), some (.int (nI l.length)), some (.int (nI a)), some (.int (nI b)), some (.int (nI a)), some (.int (nI b))]) dX12_finds_91 (by decide) rfl ?_
              exact t93 b a (by unfold prQ; rw [if_pos h2, hdiv, hmod]) (by omega) (by omega)
      refine T_iload (pc := 31) (i := 6) dX12_finds_31 rfl ?_
      refine T_iload_n (pc := 33) (i := 3) dX12_finds_33 rfl rfl ?_
      refine T_iconst (pc := 34) (v := nI 2) dX12_finds_34 (by decide) ?_
      refine R_icmp_ne (pc := 35) (tgt := 43) (by omega) (by omega) dX12_finds_35 (by decide) (fun h1 => ?_) (fun h1 => ?_)
      · skip
        refine T_aload_n (pc := 43) (i := 0) dX12_finds_43 rfl rfl ?_
        refine R_callV1 (pc := 44) (As := []) (rest := [.int (nI b)]) (Or.inl lk_X12_121) mk_X12_rules (m_rules (ki m hO).1) kc_572 ⟨by decide, rfl⟩ lc_572 dX12_finds_44 rfl rfl (Nat.le_of_ble_eq_true rfl) (by decide) rfl (Nat.le_refl _) (Nat.le_refl _) ?_
        rw [hB, if_neg h1] at t47
        exact t47
      · skip
        refine T_iload (pc := 38) (i := 4) dX12_finds_38 rfl ?_
        refine T_goto (pc := 40) (tgt := 47) dX12_finds_40 (by decide) ?_
        rw [hB, if_pos h1] at t47
        exact t47
end MF2

