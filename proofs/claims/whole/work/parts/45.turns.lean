/-! turns told; a FIELD goes on -/
def tuR (f : Nat → Bool) (p : Nat) : Nat → List Nat
  | 0 => []
  | j + 1 => if f j = true then tuR f p j ++ [100 * p + j] else tuR f p j
/-- all turns that fit at the first p PLACES, by PLACE, then RULE -/
def tuP (R : List Ru) (w : Wk) (l : List Nat) : Nat → List Nat
  | 0 => []
  | p + 1 => tuP R w l p ++ tuR (fun r => fitB R w l r p) p R.length
def tuW (R : List Ru) (w : Wk) (l : List Nat) : List Nat := tuP R w l l.length
theorem tuR_len (f : Nat → Bool) (p : Nat) : ∀ j, (tuR f p j).length ≤ j
  | 0 => Nat.le_refl _
  | j + 1 => by
    have h := tuR_len f p j
    unfold tuR
    split
    · rw [List.length_append]
      show _ + 1 ≤ _
      omega
    · omega
theorem tuP_len {R : List Ru} {w : Wk} {l : List Nat} (h : R.length ≤ 12) : ∀ p, (tuP R w l p).length ≤ 12 * p
  | 0 => Nat.le_refl _
  | p + 1 => by
    have h1 := tuP_len (w := w) (l := l) h p
    have h2 := tuR_len (fun r => fitB R w l r p) p R.length
    show (tuP R w l p ++ tuR (fun r => fitB R w l r p) p R.length).length ≤ _
    rw [List.length_append]
    omega
def TurnsAt (m : SM2) (T : List Nat) : Prop := ∀ i, i < T.length → m.1 98 i = nI (T.getD i 0)
theorem TurnsAt.ofs {S : Nat → Prop} {T : List Nat} {μ m : SM2} (h : TurnsAt μ T) (g : OfS S μ m) (h0 : ¬ S 98) : TurnsAt m T := fun i hi => (g.i h0 i).trans (h i hi)
theorem TurnsAt.push {T : List Nat} {m : SM2} {t : Nat} (h : TurnsAt m T) : TurnsAt (wI m 98 T.length (nI t)) (T ++ [t]) := fun i hi => by
  rw [List.length_append] at hi
  have hi2 : i < T.length + 1 := hi
  rw [getD_snoc hi2]
  by_cases h1 : i < T.length
  · rw [if_pos h1, n_wI (by omega)]
    exact h i h1
  · rw [if_neg h1, e_wI ⟨rfl, by omega⟩]
/-- what a turn tells fits -/
theorem tuR_mem {f : Nat → Bool} {p : Nat} : ∀ {j t}, t ∈ tuR f p j → ∃ r, r < j ∧ t = 100 * p + r ∧ f r = true
  | 0, t, h => by cases h
  | j + 1, t, h => by
    unfold tuR at h
    by_cases hf : f j = true
    · rw [if_pos hf] at h
      rcases List.mem_append.mp h with h | h
      · obtain ⟨r, h1, h2⟩ := tuR_mem h
        exact ⟨r, by omega, h2⟩
      · exact ⟨j, Nat.lt_succ_self _, List.mem_singleton.mp h, hf⟩
    · rw [if_neg hf] at h
      obtain ⟨r, h1, h2⟩ := tuR_mem h
      exact ⟨r, by omega, h2⟩
theorem tuP_mem {R : List Ru} {w : Wk} {l : List Nat} : ∀ {q t}, t ∈ tuP R w l q → ∃ p r, p < q ∧ r < R.length ∧ t = 100 * p + r ∧ fitB R w l r p = true
  | 0, t, h => by cases h
  | q + 1, t, h => by
    rcases List.mem_append.mp h with h | h
    · obtain ⟨p, r, h1, h2⟩ := tuP_mem h
      exact ⟨p, r, by omega, h2⟩
    · obtain ⟨r, h1, h2, h3⟩ := tuR_mem h
      exact ⟨q, r, Nat.lt_succ_self _, h1, h2, h3⟩
theorem tuW_mem {R : List Ru} {w : Wk} {l : List Nat} {t : Nat} (h12 : R.length ≤ 12) (h : t ∈ tuW R w l) : t % 100 < R.length ∧ t / 100 < l.length ∧ fitB R w l (t % 100) (t / 100) = true := by
  obtain ⟨p, r, h1, h2, h3, h4⟩ := tuP_mem h
  have e1 : t % 100 = r := by omega
  have e2 : t / 100 = p := by omega
  rw [e1, e2]
  exact ⟨h2, h1, h4⟩
/-- the MEADOW behind a turn -/
def trn (R : List Ru) (l : List Nat) (t : Nat) : List Nat := usd l (t / 100) (rAt R (t % 100)).1 (rAt R (t % 100)).2
theorem trn_mw {R : List Ru} {w : Wk} {l : List Nat} {t : Nat} (hl : Mw l) (hR : ∀ i, i < R.length → okR (rAt R i)) (h1 : t % 100 < R.length) (h : fitB R w l (t % 100) (t / 100) = true) : Mw (trn R l t) := by
  have h2 := fitB_get h
  have h3 := usd_len (R := (rAt R (t % 100)).2) h2.2.1
  refine ⟨?_, usd_ok hl.2 (hR _ h1).2.2.2.1⟩
  unfold trn
  omega
section TU
variable {γ : Ga} {μ : SM2}
theorem c_listTurns {R : List Ru} {LL : List (List Int32)} {w : Wk} {l : List Nat} (hE : EnvW μ R LL w) (hl : Mw l) : Ex γ 4 0 0 M_X10_listTurns [.ref 97, .long (lN (cd l))] (rm μ) (Rm (some (.int (nI (tuW R w l).length))) (fun m => EnvW m R LL w ∧ OfS SW μ m ∧ TurnsAt m (tuW R w l))) := by
  have h12 := hE.1.len
  have hn := hl.1
  refine Ex.of (by decide +kernel) rfl (Nat.le_of_ble_eq_true rfl) ?_
  show T _ _ _ _ _ _ _ _ _ [some (.ref 97), some (.long (lN (cd l))), none, none, none, none, none] [] (rm μ)
  refine T_lload_n (pc := 0) (i := 1) dX10_listTurns_0 rfl rfl ?_
  refine R_callS1 (pc := 1) (av := [.long (lN (cd l))]) (rest := []) (Or.inr lk_X10_91) mk_X11_sizeOf (c_sizeOf_cd hl) dX10_listTurns_1 rfl rfl (Nat.le_of_ble_eq_true rfl) (by decide) rfl (Nat.le_refl _) (Nat.le_refl _) ?_
  refine T_istore_n (pc := 4) (i := 3) (ls' := [some (.ref 97), some (.long (lN (cd l))), none, some (.int (nI l.length)), none, none, none]) dX10_listTurns_4 rfl (by decide) rfl ?_
  refine T_iconst (pc := 5) (v := nI 0) dX10_listTurns_5 (by decide) ?_
  refine T_istore (pc := 6) (i := 4) (ls' := [some (.ref 97), some (.long (lN (cd l))), none, some (.int (nI l.length)), some (.int (nI 0)), none, none]) dX10_listTurns_6 (by decide) rfl ?_
  refine T_iconst (pc := 8) (v := nI 0) dX10_listTurns_8 (by decide) ?_
  refine T_istore (pc := 9) (i := 5) (ls' := [some (.ref 97), some (.long (lN (cd l))), none, some (.int (nI l.length)), some (.int (nI 0)), some (.int (nI 0)), none]) dX10_listTurns_9 (by decide) rfl ?_
  refine T_forI (pc := 11) l.length (fun p => [some (.ref 97), some (.long (lN (cd l))), none, some (.int (nI l.length)), some (.int (nI ((tuP R w l p).length))), some (.int (nI p)), none]) (fun p m => EnvW m R LL w ∧ OfS SW μ m ∧ TurnsAt m (tuP R w l p)) (fun p m hle hI ih => ?_) 0 (Nat.zero_le _) (⟨hE, OfS.refl _ _, fun j hj => absurd hj (Nat.not_lt_zero _)⟩)
  show T _ _ _ _ _ _ _ _ 11 [some (.ref 97), some (.long (lN (cd l))), none, some (.int (nI l.length)), some (.int (nI ((tuP R w l p).length))), some (.int (nI p)), none] [] (rm m)
  obtain ⟨iE, iO, iT⟩ := hI
  have hpl := tuP_len (w := w) (l := l) h12 p
  refine T_iload (pc := 11) (i := 5) dX10_listTurns_11 rfl ?_
  refine T_iload_n (pc := 13) (i := 3) dX10_listTurns_13 rfl rfl ?_
  refine R_icmp_ge (pc := 14) (tgt := 85) (by omega) (by omega) dX10_listTurns_14 (by decide) (fun h1 => ?_) (fun h1 => ?_)
  · skip
    refine T_iload (pc := 85) (i := 4) dX10_listTurns_85 rfl ?_
    obtain rfl : p = l.length := by omega
    exact T_iret (pc := 87) (ty := .int) dX10_listTurns_87 rfl rfl (Nat.le_refl _) (Nat.le_refl _) ⟨_, rfl, rfl, iE, iO, iT⟩
  · skip
    refine T_iconst (pc := 17) (v := nI 0) dX10_listTurns_17 (by decide) ?_
    refine T_istore (pc := 18) (i := 6) (ls' := [some (.ref 97), some (.long (lN (cd l))), none, some (.int (nI l.length)), some (.int (nI ((tuP R w l p).length))), some (.int (nI p)), some (.int (nI 0))]) dX10_listTurns_18 (by decide) rfl ?_
    have e0 : tuP R w l p ++ tuR (fun r => fitB R w l r p) p 0 = tuP R w l p := List.append_nil _
    suffices inner : ∀ (g r : Nat) (m : SM2), r + g = R.length → EnvW m R LL w → OfS SW μ m → TurnsAt m (tuP R w l p ++ tuR (fun r => fitB R w l r p) p r) → T γ 4 0 0 M_X10_listTurns (Rm (some (.int (nI (tuW R w l).length))) (fun m => EnvW m R LL w ∧ OfS SW μ m ∧ TurnsAt m (tuW R w l))) 0 0 20 [some (.ref 97), some (.long (lN (cd l))), none, some (.int (nI l.length)), some (.int (nI (tuP R w l p ++ tuR (fun r => fitB R w l r p) p r).length)), some (.int (nI p)), some (.int (nI r))] [] (rm m) by
      have h9 := inner R.length 0 m (Nat.zero_add _) iE iO (by rw [e0]; exact iT)
      rw [e0] at h9
      exact h9
    intro g
    induction g with
    | zero =>
      intro r m1 hr jE jO jT
      obtain rfl : r = R.length := by omega
      refine T_iload (pc := 20) (i := 6) dX10_listTurns_20 rfl ?_
      refine T_aload_n (pc := 22) (i := 0) dX10_listTurns_22 rfl rfl ?_
      refine R_getR (pc := 23) (i := 4) fl_X10_33 rfl kc_97 lc_97 rc_97_0 dX10_listTurns_23 ?_
      refine R_getI (pc := 26) (x := nI R.length) fl_X10_118 rfl (kt_rules rules4) (lt_rules rules4) jE.1.size dX10_listTurns_26 ?_
      refine R_icmp_ge (pc := 29) (tgt := 79) (by omega) (by omega) dX10_listTurns_29 (by decide) (fun h2 => ?_) (fun h2 => ?_)
      · skip
        refine R_iinc (pc := 79) (i := 5) (n := 1) (ls' := [some (.ref 97), some (.long (lN (cd l))), none, some (.int (nI l.length)), some (.int (nI ((tuP R w l p ++ tuR (fun r => fitB R w l r p) p R.length).length))), some (.int (nI (p + 1))), some (.int (nI R.length))]) dX10_listTurns_79 rfl rfl ?_
        refine T_goto (pc := 82) (tgt := 11) dX10_listTurns_82 (by decide) ?_
        refine T_ls (ls' := [some (.ref 97), some (.long (lN (cd l))), none, some (.int (nI l.length)), some (.int (nI ((tuP R w l p ++ tuR (fun r => fitB R w l r p) p R.length).length))), some (.int (nI (p + 1))), none]) (And.intro rfl (And.intro rfl (And.intro rfl (And.intro rfl (And.intro rfl True.intro))))) ?_
        exact ih h1 m1 ⟨jE, jO, jT⟩
      · exact absurd h2 (by omega)
    | succ g ihg =>
      intro r m1 hr jE jO jT
      have hrl := tuR_len (fun r => fitB R w l r p) p r
      have hal : (tuP R w l p ++ tuR (fun r => fitB R w l r p) p r).length = (tuP R w l p).length + (tuR (fun r => fitB R w l r p) p r).length := List.length_append
      refine T_iload (pc := 20) (i := 6) dX10_listTurns_20 rfl ?_
      refine T_aload_n (pc := 22) (i := 0) dX10_listTurns_22 rfl rfl ?_
      refine R_getR (pc := 23) (i := 4) fl_X10_33 rfl kc_97 lc_97 rc_97_0 dX10_listTurns_23 ?_
      refine R_getI (pc := 26) (x := nI R.length) fl_X10_118 rfl (kt_rules rules4) (lt_rules rules4) jE.1.size dX10_listTurns_26 ?_
      refine R_icmp_ge (pc := 29) (tgt := 79) (by omega) (by omega) dX10_listTurns_29 (by decide) (fun h2 => ?_) (fun h2 => ?_)
      · exact absurd h2 (by omega)
      · skip
        refine T_iload (pc := 32) (i := 4) dX10_listTurns_32 rfl ?_
        refine T_aload_n (pc := 34) (i := 0) dX10_listTurns_34 rfl rfl ?_
        refine R_getR (pc := 35) (i := 98) fl_X10_9 rfl kc_97 lc_97 rc_97_7 dX10_listTurns_35 ?_
        refine R_alen (pc := 38) kc_98 (by decide) lc_98 dX10_listTurns_38 ?_
        refine R_icmp_ge (pc := 39) (tgt := 73) (by omega) (by omega) dX10_listTurns_39 (by decide) (fun h3 => ?_) (fun h3 => ?_)
        · exact absurd h3 (by omega)
        · skip
          refine T_aload_n (pc := 42) (i := 0) dX10_listTurns_42 rfl rfl ?_
          refine T_iload (pc := 43) (i := 6) dX10_listTurns_43 rfl ?_
          refine T_iload (pc := 45) (i := 5) dX10_listTurns_45 rfl ?_
          refine T_lload_n (pc := 47) (i := 1) dX10_listTurns_47 rfl rfl ?_
          refine T_iload_n (pc := 48) (i := 3) dX10_listTurns_48 rfl rfl ?_
          refine R_callVm1 (pc := 49) (As := [.int (nI r), .int (nI p), .long (lN (cd l)), .int (nI l.length)]) (rest := []) (Or.inl lk_X10_121) mk_X10_mayUse (c_mayUse jE hl (by omega) (by omega)) kc_97 ⟨by decide, rfl⟩ lc_97 dX10_listTurns_49 rfl rfl (Nat.le_of_ble_eq_true rfl) (by decide) rfl (Nat.le_refl _) (Nat.le_refl _) (fun m2 k => ?_)
          obtain ⟨kE, kO⟩ := k
          have kO2 := jO.trans (kO.mono (fun k => Sm_SW))
          have kT := jT.ofs kO (by unfold Sm; omega)
          refine R_ifb_eq (pc := 52) (tgt := 73) dX10_listTurns_52 (by decide) (fun h4 => ?_) (fun h4 => ?_)
          · skip
            have e1 : tuR (fun r => fitB R w l r p) p (r + 1) = tuR (fun r => fitB R w l r p) p r := if_neg (fun z : fitB R w l r p = true => by rw [h4] at z; cases z)
            have h9 := ihg (r + 1) m2 (by omega) kE kO2 (by rw [e1]; exact kT)
            rw [e1] at h9
            refine R_iinc (pc := 73) (i := 6) (n := 1) (ls' := [some (.ref 97), some (.long (lN (cd l))), none, some (.int (nI l.length)), some (.int (nI ((tuP R w l p ++ tuR (fun r => fitB R w l r p) p r).length))), some (.int (nI p)), some (.int (nI (r + 1)))]) dX10_listTurns_73 rfl rfl ?_
            refine T_goto (pc := 76) (tgt := 20) dX10_listTurns_76 (by decide) ?_
            exact h9
          · skip
            have e1 : tuR (fun r => fitB R w l r p) p (r + 1) = tuR (fun r => fitB R w l r p) p r ++ [100 * p + r] := if_pos h4
            refine T_aload_n (pc := 55) (i := 0) dX10_listTurns_55 rfl rfl ?_
            refine R_getR (pc := 56) (i := 98) fl_X10_9 rfl kc_97 lc_97 rc_97_7 dX10_listTurns_56 ?_
            refine T_iload (pc := 59) (i := 4) dX10_listTurns_59 rfl ?_
            refine T_bipush (pc := 61) (v := nI 100) dX10_listTurns_61 (by decide) ?_
            refine T_iload (pc := 63) (i := 5) dX10_listTurns_63 rfl ?_
            refine R_imul (pc := 65) dX10_listTurns_65 ?_
            refine T_iload (pc := 66) (i := 6) dX10_listTurns_66 rfl ?_
            refine R_iadd (pc := 68) dX10_listTurns_68 ?_
            refine R_iast (pc := 69) kc_98 lc_98 (by omega) (by first | decide | assumption) dX10_listTurns_69 ?_
            refine R_iinc (pc := 70) (i := 4) (n := 1) (ls' := [some (.ref 97), some (.long (lN (cd l))), none, some (.int (nI l.length)), some (.int (nI ((tuP R w l p ++ tuR (fun r => fitB R w l r p) p r).length + 1))), some (.int (nI p)), some (.int (nI r))]) dX10_listTurns_70 rfl rfl ?_
            refine R_iinc (pc := 73) (i := 6) (n := 1) (ls' := [some (.ref 97), some (.long (lN (cd l))), none, some (.int (nI l.length)), some (.int (nI ((tuP R w l p ++ tuR (fun r => fitB R w l r p) p r).length + 1))), some (.int (nI p)), some (.int (nI (r + 1)))]) dX10_listTurns_73 rfl rfl ?_
            refine T_goto (pc := 76) (tgt := 20) dX10_listTurns_76 (by decide) ?_
            have o9 : OfS SW μ (wI m2 98 (tuP R w l p ++ tuR (fun r => fitB R w l r p) p r).length (nI (100 * p + r))) := OfS.sI kO2 (by unfold SW; omega)
            have o8 : OfS (fun k => k = 98) m2 (wI m2 98 (tuP R w l p ++ tuR (fun r => fitB R w l r p) p r).length (nI (100 * p + r))) := OfS.sI (OfS.refl _ _) rfl
            have h9 := ihg (r + 1) _ (by omega) (kE.ofs o8 (fun k hk => by omega)) o9 (by rw [e1, ← List.append_assoc]; exact kT.push)
            rw [e1, ← List.append_assoc, List.length_append (bs := [100 * p + r])] at h9
            exact h9
theorem c_afterTurn {R : List Ru} {l : List Nat} {t : Nat} (hR : RulesAt μ 4 R) (hl : Mw l) (ht : t < 2 ^ 31) (hr : t % 100 < R.length) (hp : t / 100 + (rAt R (t % 100)).1.length ≤ l.length) : Ex γ 4 0 0 M_X10_afterTurn [.ref 97, .long (lN (cd l)), .int (nI t)] (rm μ) (Fn (some (.long (lN (cd (trn R l t))))) μ) := by
  have h12 := hR.len
  have row := hR.row _ hr
  refine Ex.of (by decide +kernel) rfl (Nat.le_of_ble_eq_true rfl) ?_
  show T _ _ _ _ _ _ _ _ _ [some (.ref 97), some (.long (lN (cd l))), none, some (.int (nI t)), none, none] [] (rm μ)
  refine T_iload_n (pc := 0) (i := 3) dX10_afterTurn_0 rfl rfl ?_
  refine T_bipush (pc := 1) (v := nI 100) dX10_afterTurn_1 (by decide) ?_
  refine R_irem (pc := 3) ⟨by omega, by omega, by omega⟩ dX10_afterTurn_3 ?_
  refine T_istore (pc := 4) (i := 4) (ls' := [some (.ref 97), some (.long (lN (cd l))), none, some (.int (nI t)), some (.int (nI (t % 100))), none]) dX10_afterTurn_4 (by decide) rfl ?_
  refine T_iload_n (pc := 6) (i := 3) dX10_afterTurn_6 rfl rfl ?_
  refine T_bipush (pc := 7) (v := nI 100) dX10_afterTurn_7 (by decide) ?_
  refine R_idiv (pc := 9) ⟨by omega, by omega, by omega⟩ dX10_afterTurn_9 ?_
  refine T_istore (pc := 10) (i := 5) (ls' := [some (.ref 97), some (.long (lN (cd l))), none, some (.int (nI t)), some (.int (nI (t % 100))), some (.int (nI (t / 100)))]) dX10_afterTurn_10 (by decide) rfl ?_
  refine T_lload_n (pc := 12) (i := 1) dX10_afterTurn_12 rfl rfl ?_
  refine T_lload_n (pc := 13) (i := 1) dX10_afterTurn_13 rfl rfl ?_
  refine R_callS1 (pc := 14) (av := [.long (lN (cd l))]) (rest := [.long (lN (cd l))]) (Or.inr lk_X10_91) mk_X11_sizeOf (c_sizeOf_cd hl) dX10_afterTurn_14 rfl rfl (Nat.le_of_ble_eq_true rfl) (by decide) rfl (Nat.le_refl _) (Nat.le_refl _) ?_
  refine T_iload (pc := 17) (i := 5) dX10_afterTurn_17 rfl ?_
  refine T_aload_n (pc := 19) (i := 0) dX10_afterTurn_19 rfl rfl ?_
  refine R_getR (pc := 20) (i := 4) fl_X10_33 rfl kc_97 lc_97 rc_97_0 dX10_afterTurn_20 ?_
  refine R_getR (pc := 23) (i := 7) fl_X10_71 rfl (kt_rules rules4) (lt_rules rules4) (rt_rules_leftSize rules4) dX10_afterTurn_23 ?_
  refine T_iload (pc := 26) (i := 4) dX10_afterTurn_26 rfl ?_
  refine R_iald (pc := 28) (x := nI ((rAt R (t % 100)).1.length)) (kt_rules_leftSize rules4) (lt_rules_leftSize rules4) (by omega) (by first | decide | assumption) row.leftSize dX10_afterTurn_28 ?_
  refine T_aload_n (pc := 29) (i := 0) dX10_afterTurn_29 rfl rfl ?_
  refine R_getR (pc := 30) (i := 4) fl_X10_33 rfl kc_97 lc_97 rc_97_0 dX10_afterTurn_30 ?_
  refine R_getR (pc := 33) (i := 6) fl_X10_129 rfl (kt_rules rules4) (lt_rules rules4) (rt_rules_right rules4) dX10_afterTurn_33 ?_
  refine T_iload (pc := 36) (i := 4) dX10_afterTurn_36 rfl ?_
  refine R_lald (pc := 38) (x := lN (cd (rAt R (t % 100)).2)) (kt_rules_right rules4) (lt_rules_right rules4) (by omega) (by first | decide | assumption) row.right dX10_afterTurn_38 ?_
  refine T_aload_n (pc := 39) (i := 0) dX10_afterTurn_39 rfl rfl ?_
  refine R_getR (pc := 40) (i := 4) fl_X10_33 rfl kc_97 lc_97 rc_97_0 dX10_afterTurn_40 ?_
  refine R_getR (pc := 43) (i := 8) fl_X10_84 rfl (kt_rules rules4) (lt_rules rules4) (rt_rules_rightSize rules4) dX10_afterTurn_43 ?_
  refine T_iload (pc := 46) (i := 4) dX10_afterTurn_46 rfl ?_
  refine R_iald (pc := 48) (x := nI ((rAt R (t % 100)).2.length)) (kt_rules_rightSize rules4) (lt_rules_rightSize rules4) (by omega) (by first | decide | assumption) row.rightSize dX10_afterTurn_48 ?_
  refine R_callS1 (pc := 49) (av := [.long (lN (cd l)), .int (nI l.length), .int (nI (t / 100)), .int (nI ((rAt R (t % 100)).1.length)), .long (lN (cd (rAt R (t % 100)).2)), .int (nI ((rAt R (t % 100)).2.length))]) (rest := []) (Or.inr lk_X10_151) mk_X11_replaced (c_replaced hl (hR.ok _ hr).r hp) dX10_afterTurn_49 rfl rfl (Nat.le_of_ble_eq_true rfl) (by decide) rfl (Nat.le_refl _) (Nat.le_refl _) ?_
  exact T_lret dX10_afterTurn_52 rfl (Nat.le_refl _) (Nat.le_refl _) ⟨rfl, rfl⟩
theorem c_turn {q t : Nat} {f : Fld} {R : List Ru} (hq : isField q) (hq2 : 13 ≤ q ∧ q + 3 ≤ 31) (hf : FieldAt μ q f) (hR : RulesAt μ 4 R) (ht : t < 2 ^ 31) (hr : t % 100 < R.length) (hp : t / 100 + (rAt R (t % 100)).1.length ≤ f.1.length) (hs : f.1.length - (rAt R (t % 100)).1.length + (rAt R (t % 100)).2.length ≤ 20) : Ex γ 5 0 0 M_X10_turn [.ref 97, .ref q, .int (nI t)] (rm μ) (Rm none (fun m => FieldAt m q (chF R f [(t / 100, t % 100)]) ∧ OfS (fun k => SW k ∨ (q ≤ k ∧ k < q + 3)) μ m)) := by
  have h12 := hR.len
  refine Ex.of (by decide +kernel) rfl (Nat.le_of_ble_eq_true rfl) ?_
  show T _ _ _ _ _ _ _ _ _ [some (.ref 97), some (.ref q), some (.int (nI t))] [] (rm μ)
  refine T_aload_n (pc := 0) (i := 0) dX10_turn_0 rfl rfl ?_
  refine R_getR (pc := 1) (i := 99) fl_X10_15 rfl kc_97 lc_97 rc_97_8 dX10_turn_1 ?_
  refine T_iconst (pc := 4) (v := nI 0) dX10_turn_4 (by decide) ?_
  refine T_iload_n (pc := 5) (i := 2) dX10_turn_5 rfl rfl ?_
  refine T_bipush (pc := 6) (v := nI 100) dX10_turn_6 (by decide) ?_
  refine R_idiv (pc := 8) ⟨by omega, by omega, by omega⟩ dX10_turn_8 ?_
  refine R_iast (pc := 9) kc_99 lc_99 (by omega) (by first | decide | assumption) dX10_turn_9 ?_
  refine T_aload_n (pc := 10) (i := 0) dX10_turn_10 rfl rfl ?_
  refine R_getR (pc := 11) (i := 100) fl_X10_18 rfl kc_97 lc_97 rc_97_9 dX10_turn_11 ?_
  refine T_iconst (pc := 14) (v := nI 0) dX10_turn_14 (by decide) ?_
  refine T_iload_n (pc := 15) (i := 2) dX10_turn_15 rfl rfl ?_
  refine T_bipush (pc := 16) (v := nI 100) dX10_turn_16 (by decide) ?_
  refine R_irem (pc := 18) ⟨by omega, by omega, by omega⟩ dX10_turn_18 ?_
  refine R_iast (pc := 19) kc_100 lc_100 (by omega) (by first | decide | assumption) dX10_turn_19 ?_
  refine T_aload_n (pc := 20) (i := 0) dX10_turn_20 rfl rfl ?_
  refine T_aload_n (pc := 21) (i := 1) dX10_turn_21 rfl rfl ?_
  refine T_iconst (pc := 22) (v := nI 1) dX10_turn_22 (by decide) ?_
  have o1 : OfS (fun k => k = 99 ∨ k = 100) μ (wI (wI μ 99 0 (nI (t / 100))) 100 0 (nI (t % 100))) := OfS.sI (OfS.sI (OfS.refl _ _) (Or.inl rfl)) (Or.inr rfl)
  have hU : chU (llR R) f.1.length R.length 0 [(t / 100, t % 100)] := ⟨Nat.zero_le _, hp, hr, trivial⟩
  have hm : UsesAt (wI (wI μ 99 0 (nI (t / 100))) 100 0 (nI (t % 100))) [(t / 100, t % 100)] := fun i hi => by
    have hi2 : i < 1 := hi
    obtain rfl : i = 0 := by omega
    exact ⟨(n_wI (by omega)).trans (e_wI ⟨rfl, rfl⟩), e_wI ⟨rfl, rfl⟩⟩
  have hnw : nwS R f.1 [(t / 100, t % 100)] ≤ 20 := by
    unfold nwS sL llR rrR
    simp only [List.map_cons, List.map_nil, List.sum_cons, List.sum_nil]
    omega
  refine R_callVm0 (pc := 23) (As := [.ref q, .int (nI 1)]) (rest := []) (Or.inl lk_X10_114) mk_X10_change (c_change hq hq2 (hf.ofs o1 (fun k h1 h2 => by omega)) (hR.ofs o1 (fun k h1 h2 => by omega)) hU (show 1 ≤ 20 by decide) hnw hm) kc_97 ⟨by decide, rfl⟩ lc_97 dX10_turn_23 rfl rfl (Nat.le_of_ble_eq_true rfl) (by decide) rfl (Nat.le_refl _) (Nat.le_refl _) (fun m k => ?_)
  obtain ⟨k1, k2⟩ := k
  exact T_vret dX10_turn_26 rfl (Nat.le_refl _) (Nat.le_refl _) ⟨_, rfl, rfl, k1, (o1.mono (fun k h => Or.inl (by unfold SW; omega))).trans (k2.mono (fun k h => by unfold Sf S34 at h; unfold SW; omega))⟩
theorem c_goOn {q : Nat} {f : Fld} {R : List Ru} {LL : List (List Int32)} {w : Wk} (hq : isField q) (hq2 : 13 ≤ q ∧ q + 3 ≤ 31) (hf : FieldAt μ q f) (hE : EnvW μ R LL w) : Ex γ 5 0 0 M_X10_goOn [.ref 97, .ref q] (rm μ) (Rm (some (.int (bI (decide ((gaR R w f.1).length ≠ 0))))) (fun m => (EnvW m R LL w ∧ FieldAt m q (if (gaR R w f.1).length = 0 then f else chF R f (gaR R w f.1))) ∧ OfS (fun k => SW k ∨ (q ≤ k ∧ k < q + 3)) μ m)) := by
  refine Ex.of (by decide +kernel) rfl (Nat.le_of_ble_eq_true rfl) ?_
  show T _ _ _ _ _ _ _ _ _ [some (.ref 97), some (.ref q), none] [] (rm μ)
  refine T_aload_n (pc := 0) (i := 0) dX10_goOn_0 rfl rfl ?_
  refine T_aload_n (pc := 1) (i := 1) dX10_goOn_1 rfl rfl ?_
  refine R_getL (pc := 2) (x := lN (cd f.1)) fl_X10_108 rfl (kt_field hq) (lt_field hq) hf.code dX10_goOn_2 ?_
  refine T_aload_n (pc := 5) (i := 1) dX10_goOn_5 rfl rfl ?_
  refine R_getL (pc := 6) (x := lN (cd f.1)) fl_X10_108 rfl (kt_field hq) (lt_field hq) hf.code dX10_goOn_6 ?_
  refine R_callS1 (pc := 9) (av := [.long (lN (cd f.1))]) (rest := [.long (lN (cd f.1)), .ref 97]) (Or.inr lk_X10_91) mk_X11_sizeOf (c_sizeOf_cd hf.mw) dX10_goOn_9 rfl rfl (Nat.le_of_ble_eq_true rfl) (by decide) rfl (Nat.le_refl _) (Nat.le_refl _) ?_
  have h20 := gaR_len (R := R) (w := w) (l := f.1)
  refine R_callVm1 (pc := 12) (As := [.long (lN (cd f.1)), .int (nI f.1.length)]) (rest := []) (Or.inl lk_X10_95) mk_X10_gather (c_gather hE hf.mw) kc_97 ⟨by decide, rfl⟩ lc_97 dX10_goOn_12 rfl rfl (Nat.le_of_ble_eq_true rfl) (by decide) rfl (Nat.le_refl _) (Nat.le_refl _) (fun m h => ?_)
  obtain ⟨hE1, hO, hU⟩ := h
  have hf1 := hf.ofs hO (fun k h1 h2 => by unfold SW; omega)
  refine T_istore_n (pc := 15) (i := 2) (ls' := [some (.ref 97), some (.ref q), some (.int (nI ((gaR R w f.1).length)))]) dX10_goOn_15 rfl (by decide) rfl ?_
  refine T_iload_n (pc := 16) (i := 2) dX10_goOn_16 rfl rfl ?_
  refine R_if_ne (pc := 17) (tgt := 22) (by omega) dX10_goOn_17 (by decide) (fun h1 => ?_) (fun h1 => ?_)
  · skip
    refine T_aload_n (pc := 22) (i := 0) dX10_goOn_22 rfl rfl ?_
    refine T_aload_n (pc := 23) (i := 1) dX10_goOn_23 rfl rfl ?_
    refine T_iload_n (pc := 24) (i := 2) dX10_goOn_24 rfl rfl ?_
    rw [decide_eq_true (p := (gaR R w f.1).length ≠ 0) h1]
    refine R_callVm0 (pc := 25) (As := [.ref q, .int (nI ((gaR R w f.1).length))]) (rest := []) (Or.inl lk_X10_114) mk_X10_change (c_change hq hq2 hf1 hE1.1 gaR_ok.1 h20 (gaR_nw hf.mw.1) hU) kc_97 ⟨by decide, rfl⟩ lc_97 dX10_goOn_25 rfl rfl (Nat.le_of_ble_eq_true rfl) (by decide) rfl (Nat.le_refl _) (Nat.le_refl _) (fun m2 k => ?_)
    obtain ⟨k1, k2⟩ := k
    refine T_iconst (pc := 28) (v := nI 1) dX10_goOn_28 (by decide) ?_
    rw [if_neg h1]
    exact T_iret (pc := 29) (ty := .boolean) dX10_goOn_29 rfl (by decide) (Nat.le_refl _) (Nat.le_refl _) ⟨_, rfl, rfl, ⟨hE1.ofs k2 (fun k hk => by unfold Sf S34; omega), k1⟩, (hO.mono (fun k h => Or.inl h)).trans (k2.mono (fun k h => by unfold Sf S34 at h; unfold SW; omega))⟩
  · skip
    refine T_iconst (pc := 20) (v := nI 0) dX10_goOn_20 (by decide) ?_
    rw [if_pos h1, decide_eq_false (p := (gaR R w f.1).length ≠ 0) (fun z => z h1)]
    exact T_iret (pc := 21) (ty := .boolean) dX10_goOn_21 rfl (by decide) (Nat.le_refl _) (Nat.le_refl _) ⟨_, rfl, rfl, ⟨hE1, hf1⟩, hO.mono (fun k h => Or.inl h)⟩
end TU

