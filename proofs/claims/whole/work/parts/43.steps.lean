/-! STEPS: what comes of the uses, what a MEADOW settles to -/
theorem drop_g {α : Type} {l t : List α} {s : α} (z : α) {i : Nat} (h : l.drop i = s :: t) : i < l.length ∧ l.getD i z = s ∧ l.drop (i + 1) = t := by
  have hi : i < l.length := Classical.byContradiction fun z => by rw [List.drop_of_length_le (by omega)] at h; cases h
  rw [drop_s z hi] at h
  cases h
  exact ⟨hi, rfl, rfl⟩
def stl (nx : List Nat → Option (List Nat)) : Nat → List Nat → Option (Nat × List Nat)
  | 0, l => match nx l with
    | none => some (0, l)
    | some _ => none
  | n + 1, l => match nx l with
    | none => some (0, l)
    | some t => (stl nx n t).map (fun q => (q.1 + 1, q.2))
theorem stl_stop {nx : List Nat → Option (List Nat)} {n : Nat} {l : List Nat} (h : nx l = none) : stl nx n l = some (0, l) := by
  cases n <;> (unfold stl; rw [h])
theorem stl_0 {nx : List Nat → Option (List Nat)} {l t : List Nat} (h : nx l = some t) : stl nx 0 l = none := by
  unfold stl; rw [h]
theorem stl_s {nx : List Nat → Option (List Nat)} {n : Nat} {l t : List Nat} (h : nx l = some t) : stl nx (n + 1) l = (stl nx n t).map (fun q => (q.1 + 1, q.2)) := by
  rw [stl]
  rw [h]
theorem stl_never {nx : List Nat → Option (List Nat)} {C : List Nat → Prop} (h : ∀ x, C x → ∃ y, C y ∧ nx x = some y) : ∀ (m : Nat) (x : List Nat), C x → stl nx m x = none
  | 0, x, hx => by
    obtain ⟨y, _, e⟩ := h x hx
    exact stl_0 e
  | m + 1, x, hx => by
    obtain ⟨y, hy, e⟩ := h x hx
    rw [stl_s e, stl_never h m y hy]
    rfl
def itN (nx : List Nat → Option (List Nat)) : Nat → List Nat → Option (List Nat)
  | 0, l => some l
  | n + 1, l => (itN nx n l).bind nx
theorem stl_cycle {nx : List Nat → Option (List Nat)} {k : Nat} {E H : List Nat} (h : itN nx k E = some H) (g : nx H = some E) (m : Nat) : stl nx m H = none := by
  have down : ∀ j, j ≤ k → ∃ x, itN nx (k - j) E = some x := by
    intro j
    induction j with
    | zero => intro _; exact ⟨H, h⟩
    | succ j ih =>
      intro hj
      obtain ⟨x, hx⟩ := ih (by omega)
      rw [show k - j = (k - (j + 1)) + 1 by omega] at hx
      cases e : itN nx (k - (j + 1)) E with
      | none =>
        have hx2 : (itN nx (k - (j + 1)) E).bind nx = some x := hx
        rw [e] at hx2
        cases hx2
      | some y => exact ⟨y, rfl⟩
  refine stl_never (C := fun x => ∃ j, j ≤ k ∧ itN nx j E = some x) (fun x hx => ?_) m H ⟨k, Nat.le_refl _, h⟩
  obtain ⟨j, hj, e⟩ := hx
  by_cases e2 : j = k
  · subst e2
    rw [h] at e
    cases e
    exact ⟨E, ⟨0, Nat.zero_le _, rfl⟩, g⟩
  · obtain ⟨y, hy⟩ := down (k - (j + 1)) (by omega)
    rw [show k - (k - (j + 1)) = j + 1 by omega] at hy
    refine ⟨y, ⟨j + 1, by omega, hy⟩, ?_⟩
    have hy2 : (itN nx j E).bind nx = some y := hy
    rw [e] at hy2
    exact hy2
section ST
variable {γ : Ga} {μ : SM2}
theorem c_after {R : List Ru} {l : List Nat} {U : List (Nat × Nat)} (hR : RulesAt μ 4 R) (hl : Mw l) (hU : chU (llR R) l.length R.length 0 U) (h20 : U.length ≤ 20) (hm : UsesAt μ U) : Ex γ 3 0 0 M_X10_after [.ref 97, .long (lN (cd l)), .int (nI l.length), .int (nI U.length)] (rm μ) (Fn (some (.long (lN (cd (aftW R l U))))) μ) := by
  have h12 := hR.len
  have hn := hl.1
  suffices loop : ∀ (V : List (Nat × Nat)) (i p : Nat) (acc : List Nat), U.drop i = V → i ≤ U.length → chU (llR R) l.length R.length p V → p ≤ l.length → T γ 3 0 0 M_X10_after (Fn (some (.long (lN (cd (acc ++ aftG (llR R) (rrR R) l V p))))) μ) 0 0 9 [some (.ref 97), some (.long (lN (cd l))), none, some (.int (nI l.length)), some (.int (nI U.length)), some (.long (lN (cd acc))), none, some (.int (nI p)), some (.int (nI i)), none] [] (rm μ) by
    refine Ex.of (by decide +kernel) rfl (Nat.le_of_ble_eq_true rfl) ?_
    show T _ _ _ _ _ _ _ _ _ [some (.ref 97), some (.long (lN (cd l))), none, some (.int (nI l.length)), some (.int (nI U.length)), none, none, none, none, none] [] (rm μ)
    refine T_lconst (pc := 0) (v := lN 1) dX10_after_0 rfl ?_
    refine T_lstore (pc := 1) (i := 5) (ls' := [some (.ref 97), some (.long (lN (cd l))), none, some (.int (nI l.length)), some (.int (nI U.length)), some (.long (lN 1)), none, none, none, none]) dX10_after_1 (by decide) rfl ?_
    refine T_iconst (pc := 3) (v := nI 0) dX10_after_3 (by decide) ?_
    refine T_istore (pc := 4) (i := 7) (ls' := [some (.ref 97), some (.long (lN (cd l))), none, some (.int (nI l.length)), some (.int (nI U.length)), some (.long (lN 1)), none, some (.int (nI 0)), none, none]) dX10_after_4 (by decide) rfl ?_
    refine T_iconst (pc := 6) (v := nI 0) dX10_after_6 (by decide) ?_
    refine T_istore (pc := 7) (i := 8) (ls' := [some (.ref 97), some (.long (lN (cd l))), none, some (.int (nI l.length)), some (.int (nI U.length)), some (.long (lN 1)), none, some (.int (nI 0)), some (.int (nI 0)), none]) dX10_after_7 (by decide) rfl ?_
    exact loop U 0 0 [] rfl (Nat.zero_le _) hU (Nat.zero_le _)
  intro V
  induction V with
  | nil =>
    intro i p acc hd hi hc hp
    have hi2 := List.drop_eq_nil_iff.mp hd
    refine T_iload (pc := 9) (i := 8) dX10_after_9 rfl ?_
    refine T_iload (pc := 11) (i := 4) dX10_after_11 rfl ?_
    refine R_icmp_ge (pc := 13) (tgt := 107) (by omega) (by omega) dX10_after_13 (by decide) (fun h1 => ?_) (fun h1 => ?_)
    · skip
      refine T_lload (pc := 107) (i := 5) dX10_after_107 rfl ?_
      refine T_lload_n (pc := 109) (i := 1) dX10_after_109 rfl rfl ?_
      refine T_iload_n (pc := 110) (i := 3) dX10_after_110 rfl rfl ?_
      refine T_iload (pc := 111) (i := 7) dX10_after_111 rfl ?_
      refine T_iload_n (pc := 113) (i := 3) dX10_after_113 rfl rfl ?_
      refine R_callS1 (pc := 114) (av := [.long (lN (cd acc)), .long (lN (cd l)), .int (nI l.length), .int (nI p), .int (nI l.length)]) (rest := []) (Or.inr lk_X10_125) mk_X11_withPart (c_withPart hl hp (Nat.le_refl _)) dX10_after_114 rfl rfl (Nat.le_of_ble_eq_true rfl) (by decide) rfl (Nat.le_refl _) (Nat.le_refl _) ?_
      exact T_lret dX10_after_117 rfl (Nat.le_refl _) (Nat.le_refl _) ⟨by rw [List.take_length]; rfl, rfl⟩
    · exact absurd h1 (by omega)
  | cons q t ih =>
    intro i p acc hd hi hc hp
    obtain ⟨hi1, hq, hd2⟩ := drop_g (0, 0) hd
    have c1 := hc.1
    have c2 := hc.2.1
    have c3 := hc.2.2.1
    have hu := hm i hi1
    rw [hq] at hu
    have row := hR.row q.2 c3
    refine T_iload (pc := 9) (i := 8) dX10_after_9 rfl ?_
    refine T_iload (pc := 11) (i := 4) dX10_after_11 rfl ?_
    refine R_icmp_ge (pc := 13) (tgt := 107) (by omega) (by omega) dX10_after_13 (by decide) (fun h1 => ?_) (fun h1 => ?_)
    · exact absurd h1 (by omega)
    · skip
      refine T_aload_n (pc := 16) (i := 0) dX10_after_16 rfl rfl ?_
      refine R_getR (pc := 17) (i := 100) fl_X10_18 rfl kc_97 lc_97 rc_97_9 dX10_after_17 ?_
      refine T_iload (pc := 20) (i := 8) dX10_after_20 rfl ?_
      refine R_iald (pc := 22) (x := nI q.2) kc_100 lc_100 (by omega) (by first | decide | assumption) hu.2 dX10_after_22 ?_
      refine T_istore (pc := 23) (i := 9) (ls' := [some (.ref 97), some (.long (lN (cd l))), none, some (.int (nI l.length)), some (.int (nI U.length)), some (.long (lN (cd acc))), none, some (.int (nI p)), some (.int (nI i)), some (.int (nI q.2))]) dX10_after_23 (by decide) rfl ?_
      refine T_lload (pc := 25) (i := 5) dX10_after_25 rfl ?_
      refine T_lload_n (pc := 27) (i := 1) dX10_after_27 rfl rfl ?_
      refine T_iload_n (pc := 28) (i := 3) dX10_after_28 rfl rfl ?_
      refine T_iload (pc := 29) (i := 7) dX10_after_29 rfl ?_
      refine T_aload_n (pc := 31) (i := 0) dX10_after_31 rfl rfl ?_
      refine R_getR (pc := 32) (i := 99) fl_X10_15 rfl kc_97 lc_97 rc_97_8 dX10_after_32 ?_
      refine T_iload (pc := 35) (i := 8) dX10_after_35 rfl ?_
      refine R_iald (pc := 37) (x := nI q.1) kc_99 lc_99 (by omega) (by first | decide | assumption) hu.1 dX10_after_37 ?_
      refine R_callS1 (pc := 38) (av := [.long (lN (cd acc)), .long (lN (cd l)), .int (nI l.length), .int (nI p), .int (nI q.1)]) (rest := []) (Or.inr lk_X10_125) mk_X11_withPart (c_withPart hl c1 (by omega)) dX10_after_38 rfl rfl (Nat.le_of_ble_eq_true rfl) (by decide) rfl (Nat.le_refl _) (Nat.le_refl _) ?_
      refine T_lstore (pc := 41) (i := 5) (ls' := [some (.ref 97), some (.long (lN (cd l))), none, some (.int (nI l.length)), some (.int (nI U.length)), some (.long (lN (cd (acc ++ (l.take q.1).drop p)))), none, some (.int (nI p)), some (.int (nI i)), some (.int (nI q.2))]) dX10_after_41 (by decide) rfl ?_
      refine T_lload (pc := 43) (i := 5) dX10_after_43 rfl ?_
      refine T_aload_n (pc := 45) (i := 0) dX10_after_45 rfl rfl ?_
      refine R_getR (pc := 46) (i := 4) fl_X10_33 rfl kc_97 lc_97 rc_97_0 dX10_after_46 ?_
      refine R_getR (pc := 49) (i := 6) fl_X10_129 rfl (kt_rules rules4) (lt_rules rules4) (rt_rules_right rules4) dX10_after_49 ?_
      refine T_iload (pc := 52) (i := 9) dX10_after_52 rfl ?_
      refine R_lald (pc := 54) (x := lN (cd (rAt R q.2).2)) (kt_rules_right rules4) (lt_rules_right rules4) (by omega) (by first | decide | assumption) row.right dX10_after_54 ?_
      refine T_aload_n (pc := 55) (i := 0) dX10_after_55 rfl rfl ?_
      refine R_getR (pc := 56) (i := 4) fl_X10_33 rfl kc_97 lc_97 rc_97_0 dX10_after_56 ?_
      refine R_getR (pc := 59) (i := 8) fl_X10_84 rfl (kt_rules rules4) (lt_rules rules4) (rt_rules_rightSize rules4) dX10_after_59 ?_
      refine T_iload (pc := 62) (i := 9) dX10_after_62 rfl ?_
      refine R_iald (pc := 64) (x := nI ((rAt R q.2).2.length)) (kt_rules_rightSize rules4) (lt_rules_rightSize rules4) (by omega) (by first | decide | assumption) row.rightSize dX10_after_64 ?_
      refine T_iconst (pc := 65) (v := nI 0) dX10_after_65 (by decide) ?_
      refine T_aload_n (pc := 66) (i := 0) dX10_after_66 rfl rfl ?_
      refine R_getR (pc := 67) (i := 4) fl_X10_33 rfl kc_97 lc_97 rc_97_0 dX10_after_67 ?_
      refine R_getR (pc := 70) (i := 8) fl_X10_84 rfl (kt_rules rules4) (lt_rules rules4) (rt_rules_rightSize rules4) dX10_after_70 ?_
      refine T_iload (pc := 73) (i := 9) dX10_after_73 rfl ?_
      refine R_iald (pc := 75) (x := nI ((rAt R q.2).2.length)) (kt_rules_rightSize rules4) (lt_rules_rightSize rules4) (by omega) (by first | decide | assumption) row.rightSize dX10_after_75 ?_
      refine R_callS1 (pc := 76) (av := [.long (lN (cd (acc ++ (l.take q.1).drop p))), .long (lN (cd (rAt R q.2).2)), .int (nI ((rAt R q.2).2.length)), .int (nI 0), .int (nI ((rAt R q.2).2.length))]) (rest := []) (Or.inr lk_X10_125) mk_X11_withPart (c_withPart (hR.ok q.2 c3).r (Nat.zero_le _) (Nat.le_refl _)) dX10_after_76 rfl rfl (Nat.le_of_ble_eq_true rfl) (by decide) rfl (Nat.le_refl _) (Nat.le_refl _) ?_
      refine T_lstore (pc := 79) (i := 5) (ls' := [some (.ref 97), some (.long (lN (cd l))), none, some (.int (nI l.length)), some (.int (nI U.length)), some (.long (lN (cd (acc ++ (l.take q.1).drop p ++ ((rAt R q.2).2.take (rAt R q.2).2.length).drop 0)))), none, some (.int (nI p)), some (.int (nI i)), some (.int (nI q.2))]) dX10_after_79 (by decide) rfl ?_
      refine T_aload_n (pc := 81) (i := 0) dX10_after_81 rfl rfl ?_
      refine R_getR (pc := 82) (i := 99) fl_X10_15 rfl kc_97 lc_97 rc_97_8 dX10_after_82 ?_
      refine T_iload (pc := 85) (i := 8) dX10_after_85 rfl ?_
      refine R_iald (pc := 87) (x := nI q.1) kc_99 lc_99 (by omega) (by first | decide | assumption) hu.1 dX10_after_87 ?_
      refine T_aload_n (pc := 88) (i := 0) dX10_after_88 rfl rfl ?_
      refine R_getR (pc := 89) (i := 4) fl_X10_33 rfl kc_97 lc_97 rc_97_0 dX10_after_89 ?_
      refine R_getR (pc := 92) (i := 7) fl_X10_71 rfl (kt_rules rules4) (lt_rules rules4) (rt_rules_leftSize rules4) dX10_after_92 ?_
      refine T_iload (pc := 95) (i := 9) dX10_after_95 rfl ?_
      refine R_iald (pc := 97) (x := nI ((rAt R q.2).1.length)) (kt_rules_leftSize rules4) (lt_rules_leftSize rules4) (by omega) (by first | decide | assumption) row.leftSize dX10_after_97 ?_
      refine R_iadd (pc := 98) dX10_after_98 ?_
      refine T_istore (pc := 99) (i := 7) (ls' := [some (.ref 97), some (.long (lN (cd l))), none, some (.int (nI l.length)), some (.int (nI U.length)), some (.long (lN (cd (acc ++ (l.take q.1).drop p ++ ((rAt R q.2).2.take (rAt R q.2).2.length).drop 0)))), none, some (.int (nI (q.1 + ((rAt R q.2).1.length)))), some (.int (nI i)), some (.int (nI q.2))]) dX10_after_99 (by decide) rfl ?_
      refine R_iinc (pc := 101) (i := 8) (n := 1) (ls' := [some (.ref 97), some (.long (lN (cd l))), none, some (.int (nI l.length)), some (.int (nI U.length)), some (.long (lN (cd (acc ++ (l.take q.1).drop p ++ ((rAt R q.2).2.take (rAt R q.2).2.length).drop 0)))), none, some (.int (nI (q.1 + ((rAt R q.2).1.length)))), some (.int (nI (i + 1))), some (.int (nI q.2))]) dX10_after_101 rfl rfl ?_
      refine T_goto (pc := 104) (tgt := 9) dX10_after_104 (by decide) ?_
      refine T_ls (ls' := [some (.ref 97), some (.long (lN (cd l))), none, some (.int (nI l.length)), some (.int (nI U.length)), some (.long (lN (cd (acc ++ (l.take q.1).drop p ++ ((rAt R q.2).2.take (rAt R q.2).2.length).drop 0)))), none, some (.int (nI (q.1 + ((rAt R q.2).1.length)))), some (.int (nI (i + 1))), none]) (And.intro rfl (And.intro rfl (And.intro rfl (And.intro rfl (And.intro rfl (And.intro rfl (And.intro rfl True.intro))))))) ?_
      rw [List.take_length, List.drop_zero]
      have e9 : acc ++ aftG (llR R) (rrR R) l (q :: t) p = acc ++ (l.take q.1).drop p ++ (rAt R q.2).2 ++ aftG (llR R) (rrR R) l t (q.1 + llR R q.2) := by
        show acc ++ ((l.take q.1).drop p ++ rrR R q.2 ++ aftG (llR R) (rrR R) l t (q.1 + llR R q.2)) = _
        simp only [List.append_assoc]
        rfl
      rw [e9]
      exact ih (i + 1) (q.1 + llR R q.2) (acc ++ (l.take q.1).drop p ++ (rAt R q.2).2) hd2 (by omega) hc.2.2.2 c2
theorem gaR_len {R : List Ru} {w : Wk} {l : List Nat} : (gaR R w l).length ≤ 20 := by
  unfold gaR
  split
  · have h1 := gaU_len (R := R) (w := w) (l := l) (l.length * R.length)
    have h2 : (if w.1 = 3 then 20 else 1) ≤ 20 := by split <;> decide
    omega
  · exact Nat.zero_le _
theorem c_next {R : List Ru} {LL : List (List Int32)} {w : Wk} {l : List Nat} (hE : EnvW μ R LL w) (hl : Mw l) : Ex γ 5 0 0 M_X10_next [.ref 97, .long (lN (cd l))] (rm μ) (Rm (some (.long (vO (nxR R w l)))) (fun m => EnvW m R LL w ∧ OfS SW μ m)) := by
  have h20 := gaR_len (R := R) (w := w) (l := l)
  refine Ex.of (by decide +kernel) rfl (Nat.le_of_ble_eq_true rfl) ?_
  show T _ _ _ _ _ _ _ _ _ [some (.ref 97), some (.long (lN (cd l))), none, none, none] [] (rm μ)
  refine T_lload_n (pc := 0) (i := 1) dX10_next_0 rfl rfl ?_
  refine R_callS1 (pc := 1) (av := [.long (lN (cd l))]) (rest := []) (Or.inr lk_X10_91) mk_X11_sizeOf (c_sizeOf_cd hl) dX10_next_1 rfl rfl (Nat.le_of_ble_eq_true rfl) (by decide) rfl (Nat.le_refl _) (Nat.le_refl _) ?_
  refine T_istore_n (pc := 4) (i := 3) (ls' := [some (.ref 97), some (.long (lN (cd l))), none, some (.int (nI l.length)), none]) dX10_next_4 rfl (by decide) rfl ?_
  refine T_aload_n (pc := 5) (i := 0) dX10_next_5 rfl rfl ?_
  refine T_lload_n (pc := 6) (i := 1) dX10_next_6 rfl rfl ?_
  refine T_iload_n (pc := 7) (i := 3) dX10_next_7 rfl rfl ?_
  refine R_callVm1 (pc := 8) (As := [.long (lN (cd l)), .int (nI l.length)]) (rest := []) (Or.inl lk_X10_95) mk_X10_gather (c_gather hE hl) kc_97 ⟨by decide, rfl⟩ lc_97 dX10_next_8 rfl rfl (Nat.le_of_ble_eq_true rfl) (by decide) rfl (Nat.le_refl _) (Nat.le_refl _) (fun m h => ?_)
  obtain ⟨hE1, hO, hU⟩ := h
  refine T_istore (pc := 11) (i := 4) (ls' := [some (.ref 97), some (.long (lN (cd l))), none, some (.int (nI l.length)), some (.int (nI ((gaR R w l).length)))]) dX10_next_11 (by decide) rfl ?_
  refine T_iload (pc := 13) (i := 4) dX10_next_13 rfl ?_
  refine R_if_ne (pc := 15) (tgt := 24) (by omega) dX10_next_15 (by decide) (fun h1 => ?_) (fun h1 => ?_)
  · skip
    refine T_aload_n (pc := 24) (i := 0) dX10_next_24 rfl rfl ?_
    refine T_lload_n (pc := 25) (i := 1) dX10_next_25 rfl rfl ?_
    refine T_iload_n (pc := 26) (i := 3) dX10_next_26 rfl rfl ?_
    refine T_iload (pc := 27) (i := 4) dX10_next_27 rfl ?_
    refine R_callV1 (pc := 29) (As := [.long (lN (cd l)), .int (nI l.length), .int (nI ((gaR R w l).length))]) (rest := []) (Or.inl lk_X10_101) mk_X10_after (c_after hE1.1 hl gaR_ok.1 h20 hU) kc_97 ⟨by decide, rfl⟩ lc_97 dX10_next_29 rfl rfl (Nat.le_of_ble_eq_true rfl) (by decide) rfl (Nat.le_refl _) (Nat.le_refl _) ?_
    rw [show nxR R w l = some (aftW R l (gaR R w l)) by unfold nxR; rw [if_neg h1]]
    exact T_lret dX10_next_32 rfl (Nat.le_refl _) (Nat.le_refl _) ⟨_, rfl, rfl, hE1, hO⟩
  · skip
    refine T_ldc2 (pc := 18) dX10_next_18 cn_X10_99 ?_
    refine T_goto (pc := 21) (tgt := 32) dX10_next_21 (by decide) ?_
    rw [show nxR R w l = none by unfold nxR; rw [if_pos h1]]
    exact T_lret dX10_next_32 rfl (Nat.le_refl _) (Nat.le_refl _) ⟨_, rfl, rfl, hE1, hO⟩
theorem c_isSettled {R : List Ru} {LL : List (List Int32)} {w : Wk} {l : List Nat} (hE : EnvW μ R LL w) (hl : Mw l) : Ex γ 5 0 0 M_X10_isSettled [.ref 97, .long (lN (cd l))] (rm μ) (Rm (some (.int (bI (nxR R w l).isNone))) (fun m => EnvW m R LL w ∧ OfS SW μ m)) := by
  have h20 := gaR_len (R := R) (w := w) (l := l)
  refine Ex.of (by decide +kernel) rfl (Nat.le_of_ble_eq_true rfl) ?_
  show T _ _ _ _ _ _ _ _ _ [some (.ref 97), some (.long (lN (cd l))), none] [] (rm μ)
  refine T_aload_n (pc := 0) (i := 0) dX10_isSettled_0 rfl rfl ?_
  refine T_lload_n (pc := 1) (i := 1) dX10_isSettled_1 rfl rfl ?_
  refine T_lload_n (pc := 2) (i := 1) dX10_isSettled_2 rfl rfl ?_
  refine R_callS1 (pc := 3) (av := [.long (lN (cd l))]) (rest := [.long (lN (cd l)), .ref 97]) (Or.inr lk_X10_91) mk_X11_sizeOf (c_sizeOf_cd hl) dX10_isSettled_3 rfl rfl (Nat.le_of_ble_eq_true rfl) (by decide) rfl (Nat.le_refl _) (Nat.le_refl _) ?_
  refine R_callVm1 (pc := 6) (As := [.long (lN (cd l)), .int (nI l.length)]) (rest := []) (Or.inl lk_X10_95) mk_X10_gather (c_gather hE hl) kc_97 ⟨by decide, rfl⟩ lc_97 dX10_isSettled_6 rfl rfl (Nat.le_of_ble_eq_true rfl) (by decide) rfl (Nat.le_refl _) (Nat.le_refl _) (fun m h => ?_)
  obtain ⟨hE1, hO, hU⟩ := h
  refine R_if_ne (pc := 9) (tgt := 16) (by omega) dX10_isSettled_9 (by decide) (fun h1 => ?_) (fun h1 => ?_)
  · skip
    refine T_iconst (pc := 16) (v := nI 0) dX10_isSettled_16 (by decide) ?_
    rw [show nxR R w l = some (aftW R l (gaR R w l)) by unfold nxR; rw [if_neg h1]]
    exact T_iret (pc := 17) (ty := .boolean) dX10_isSettled_17 rfl (by decide) (Nat.le_refl _) (Nat.le_refl _) ⟨_, rfl, rfl, hE1, hO⟩
  · skip
    refine T_iconst (pc := 12) (v := nI 1) dX10_isSettled_12 (by decide) ?_
    refine T_goto (pc := 13) (tgt := 17) dX10_isSettled_13 (by decide) ?_
    rw [show nxR R w l = none by unfold nxR; rw [if_pos h1]]
    exact T_iret (pc := 17) (ty := .boolean) dX10_isSettled_17 rfl (by decide) (Nat.le_refl _) (Nat.le_refl _) ⟨_, rfl, rfl, hE1, hO⟩
theorem c_settle {R : List Ru} {LL : List (List Int32)} {w : Wk} {l : List Nat} {N : Nat} (hE : EnvW μ R LL w) (hl : Mw l) (hN : N ≤ 500) : Ex γ 5 0 0 M_X10_settle [.ref 97, .long (lN (cd l)), .int (nI N)] (rm μ) (Rm (some (.long (vO ((stl (nxR R w) N l).map (fun q => q.2))))) (fun m => (EnvW m R LL w ∧ OfS SW μ m) ∧ ∀ q, stl (nxR R w) N l = some q → m.1 97 6 = nI q.1)) := by
  have exitT : ∀ (nl : Nat) (H E : List Nat) (m : SM2), EnvW m R LL w → OfS SW μ m → stl (nxR R w) N l = none → T γ 5 0 0 M_X10_settle (Rm (some (.long (vO ((stl (nxR R w) N l).map (fun q => q.2))))) (fun m => (EnvW m R LL w ∧ OfS SW μ m) ∧ ∀ q, stl (nxR R w) N l = some q → m.1 97 6 = nI q.1)) 0 0 12 [some (.ref 97), some (.long (lN (cd l))), none, some (.int (nI N)), some (.long (lN (cd H))), none, some (.long (lN (cd E))), none, some (.int (nI nl)), some (.int (nI (N + 1))), none, none, none, none] [] (rm m) := fun nl H E m hE1 hO hst => by
    rw [hst]
    refine T_iload (pc := 12) (i := 9) dX10_settle_12 rfl ?_
    refine T_iload_n (pc := 14) (i := 3) dX10_settle_14 rfl rfl ?_
    refine R_icmp_gt (pc := 15) (tgt := 102) (by omega) (by omega) dX10_settle_15 (by decide) (fun h1 => ?_) (fun h1 => ?_)
    · skip
      refine T_ldc2 (pc := 102) dX10_settle_102 cn_X10_99 ?_
      exact T_lret dX10_settle_105 rfl (Nat.le_refl _) (Nat.le_refl _) ⟨_, rfl, rfl, ⟨hE1, hO⟩, fun q hq => by cases hq⟩
    · exact absurd h1 (by omega)
  suffices loop : ∀ (f s nl : Nat) (H E : List Nat) (m : SM2), s + f = N → nl ≤ 2 * s + 1 → Mw H → Mw E → (∃ k, itN (nxR R w) k E = some H) → EnvW m R LL w → OfS SW μ m → stl (nxR R w) N l = (stl (nxR R w) f H).map (fun q => (q.1 + s, q.2)) → T γ 5 0 0 M_X10_settle (Rm (some (.long (vO ((stl (nxR R w) N l).map (fun q => q.2))))) (fun m => (EnvW m R LL w ∧ OfS SW μ m) ∧ ∀ q, stl (nxR R w) N l = some q → m.1 97 6 = nI q.1)) 0 0 12 [some (.ref 97), some (.long (lN (cd l))), none, some (.int (nI N)), some (.long (lN (cd H))), none, some (.long (lN (cd E))), none, some (.int (nI nl)), some (.int (nI s)), none, none, none, none] [] (rm m) by
    refine Ex.of (by decide +kernel) rfl (Nat.le_of_ble_eq_true rfl) ?_
    show T _ _ _ _ _ _ _ _ _ [some (.ref 97), some (.long (lN (cd l))), none, some (.int (nI N)), none, none, none, none, none, none, none, none, none, none] [] (rm μ)
    refine T_lload_n (pc := 0) (i := 1) dX10_settle_0 rfl rfl ?_
    refine T_lstore (pc := 1) (i := 4) (ls' := [some (.ref 97), some (.long (lN (cd l))), none, some (.int (nI N)), some (.long (lN (cd l))), none, none, none, none, none, none, none, none, none]) dX10_settle_1 (by decide) rfl ?_
    refine T_lload_n (pc := 3) (i := 1) dX10_settle_3 rfl rfl ?_
    refine T_lstore (pc := 4) (i := 6) (ls' := [some (.ref 97), some (.long (lN (cd l))), none, some (.int (nI N)), some (.long (lN (cd l))), none, some (.long (lN (cd l))), none, none, none, none, none, none, none]) dX10_settle_4 (by decide) rfl ?_
    refine T_iconst (pc := 6) (v := nI 1) dX10_settle_6 (by decide) ?_
    refine T_istore (pc := 7) (i := 8) (ls' := [some (.ref 97), some (.long (lN (cd l))), none, some (.int (nI N)), some (.long (lN (cd l))), none, some (.long (lN (cd l))), none, some (.int (nI 1)), none, none, none, none, none]) dX10_settle_7 (by decide) rfl ?_
    refine T_iconst (pc := 9) (v := nI 0) dX10_settle_9 (by decide) ?_
    refine T_istore (pc := 10) (i := 9) (ls' := [some (.ref 97), some (.long (lN (cd l))), none, some (.int (nI N)), some (.long (lN (cd l))), none, some (.long (lN (cd l))), none, some (.int (nI 1)), some (.int (nI 0)), none, none, none, none]) dX10_settle_10 (by decide) rfl ?_
    exact loop N 0 1 l l μ (Nat.zero_add _) (by decide) hl hl ⟨0, rfl⟩ hE (OfS.refl _ _) (by cases stl (nxR R w) N l <;> rfl)
  intro f
  induction f with
  | zero =>
    intro s nl H E m hs hnl hH hE2 hk hE1 hO hst
    have h20 := gaR_len (R := R) (w := w) (l := H)
    refine T_iload (pc := 12) (i := 9) dX10_settle_12 rfl ?_
    refine T_iload_n (pc := 14) (i := 3) dX10_settle_14 rfl rfl ?_
    refine R_icmp_gt (pc := 15) (tgt := 102) (by omega) (by omega) dX10_settle_15 (by decide) (fun h1 => ?_) (fun h1 => ?_)
    · exact absurd h1 (by omega)
    · skip
      refine T_lload (pc := 18) (i := 4) dX10_settle_18 rfl ?_
      refine R_callS1 (pc := 20) (av := [.long (lN (cd H))]) (rest := []) (Or.inr lk_X10_91) mk_X11_sizeOf (c_sizeOf_cd hH) dX10_settle_20 rfl rfl (Nat.le_of_ble_eq_true rfl) (by decide) rfl (Nat.le_refl _) (Nat.le_refl _) ?_
      refine T_istore (pc := 23) (i := 10) (ls' := [some (.ref 97), some (.long (lN (cd l))), none, some (.int (nI N)), some (.long (lN (cd H))), none, some (.long (lN (cd E))), none, some (.int (nI nl)), some (.int (nI s)), some (.int (nI H.length)), none, none, none]) dX10_settle_23 (by decide) rfl ?_
      refine T_aload_n (pc := 25) (i := 0) dX10_settle_25 rfl rfl ?_
      refine T_lload (pc := 26) (i := 4) dX10_settle_26 rfl ?_
      refine T_iload (pc := 28) (i := 10) dX10_settle_28 rfl ?_
      refine R_callVm1 (pc := 30) (As := [.long (lN (cd H)), .int (nI H.length)]) (rest := []) (Or.inl lk_X10_95) mk_X10_gather (c_gather hE1 hH) kc_97 ⟨by decide, rfl⟩ lc_97 dX10_settle_30 rfl rfl (Nat.le_of_ble_eq_true rfl) (by decide) rfl (Nat.le_refl _) (Nat.le_refl _) (fun m1 h => ?_)
      obtain ⟨gE, gO, gU⟩ := h
      refine T_istore (pc := 33) (i := 11) (ls' := [some (.ref 97), some (.long (lN (cd l))), none, some (.int (nI N)), some (.long (lN (cd H))), none, some (.long (lN (cd E))), none, some (.int (nI nl)), some (.int (nI s)), some (.int (nI H.length)), some (.int (nI ((gaR R w H).length))), none, none]) dX10_settle_33 (by decide) rfl ?_
      refine T_iload (pc := 35) (i := 11) dX10_settle_35 rfl ?_
      refine R_if_ne (pc := 37) (tgt := 49) (by omega) dX10_settle_37 (by decide) (fun h2 => ?_) (fun h2 => ?_)
      · skip
        have enx : nxR R w H = some (aftW R H (gaR R w H)) := by unfold nxR; rw [if_neg h2]
        have hT := nxR_mw hH hE.1.ok enx
        rw [stl_0 enx] at hst
        refine T_aload_n (pc := 49) (i := 0) dX10_settle_49 rfl rfl ?_
        refine T_lload (pc := 50) (i := 4) dX10_settle_50 rfl ?_
        refine T_iload (pc := 52) (i := 10) dX10_settle_52 rfl ?_
        refine T_iload (pc := 54) (i := 11) dX10_settle_54 rfl ?_
        refine R_callV1 (pc := 56) (As := [.long (lN (cd H)), .int (nI H.length), .int (nI ((gaR R w H).length))]) (rest := []) (Or.inl lk_X10_101) mk_X10_after (c_after gE.1 hH gaR_ok.1 h20 gU) kc_97 ⟨by decide, rfl⟩ lc_97 dX10_settle_56 rfl rfl (Nat.le_of_ble_eq_true rfl) (by decide) rfl (Nat.le_refl _) (Nat.le_refl _) ?_
        have b1 := cd_lt hT
        have b2 := cd_lt hE2
        refine T_lstore (pc := 59) (i := 12) (ls' := [some (.ref 97), some (.long (lN (cd l))), none, some (.int (nI N)), some (.long (lN (cd H))), none, some (.long (lN (cd E))), none, some (.int (nI nl)), some (.int (nI s)), some (.int (nI H.length)), some (.int (nI ((gaR R w H).length))), some (.long (lN (cd (aftW R H (gaR R w H))))), none]) dX10_settle_59 (by decide) rfl ?_
        refine T_lload (pc := 61) (i := 12) dX10_settle_61 rfl ?_
        refine T_lload (pc := 63) (i := 6) dX10_settle_63 rfl ?_
        refine T_lcmp (pc := 65) dX10_settle_65 ?_
        refine R_ln_ne (pc := 66) (tgt := 73) (by omega) (by omega) dX10_settle_66 (by decide) (fun h3 => ?_) (fun h3 => ?_)
        · skip
          refine T_lload (pc := 73) (i := 12) dX10_settle_73 rfl ?_
          refine T_lstore (pc := 75) (i := 4) (ls' := [some (.ref 97), some (.long (lN (cd l))), none, some (.int (nI N)), some (.long (lN (cd (aftW R H (gaR R w H))))), none, some (.long (lN (cd E))), none, some (.int (nI nl)), some (.int (nI s)), some (.int (nI H.length)), some (.int (nI ((gaR R w H).length))), some (.long (lN (cd (aftW R H (gaR R w H))))), none]) dX10_settle_75 (by decide) rfl ?_
          refine T_iload (pc := 77) (i := 9) dX10_settle_77 rfl ?_
          refine T_iconst (pc := 79) (v := nI 1) dX10_settle_79 (by decide) ?_
          refine R_iadd (pc := 80) dX10_settle_80 ?_
          refine T_iload (pc := 81) (i := 8) dX10_settle_81 rfl ?_
          refine R_icmp_ne (pc := 83) (tgt := 96) (by omega) (by omega) dX10_settle_83 (by decide) (fun h4 => ?_) (fun h4 => ?_)
          · skip
            refine R_iinc (pc := 96) (i := 9) (n := 1) (ls' := [some (.ref 97), some (.long (lN (cd l))), none, some (.int (nI N)), some (.long (lN (cd (aftW R H (gaR R w H))))), none, some (.long (lN (cd E))), none, some (.int (nI nl)), some (.int (nI (s + 1))), some (.int (nI H.length)), some (.int (nI ((gaR R w H).length))), some (.long (lN (cd (aftW R H (gaR R w H))))), none]) dX10_settle_96 rfl rfl ?_
            refine T_goto (pc := 99) (tgt := 12) dX10_settle_99 (by decide) ?_
            refine T_ls (ls' := [some (.ref 97), some (.long (lN (cd l))), none, some (.int (nI N)), some (.long (lN (cd (aftW R H (gaR R w H))))), none, some (.long (lN (cd E))), none, some (.int (nI nl)), some (.int (nI (s + 1))), none, none, none, none]) (And.intro rfl (And.intro rfl (And.intro rfl (And.intro rfl (And.intro rfl (And.intro rfl (And.intro rfl True.intro))))))) ?_
            obtain rfl : s = N := by omega
            exact exitT nl (aftW R H (gaR R w H)) E m1 gE (hO.trans gO) hst
          · skip
            refine T_lload (pc := 86) (i := 4) dX10_settle_86 rfl ?_
            refine T_lstore (pc := 88) (i := 6) (ls' := [some (.ref 97), some (.long (lN (cd l))), none, some (.int (nI N)), some (.long (lN (cd (aftW R H (gaR R w H))))), none, some (.long (lN (cd (aftW R H (gaR R w H))))), none, some (.int (nI nl)), some (.int (nI s)), some (.int (nI H.length)), some (.int (nI ((gaR R w H).length))), some (.long (lN (cd (aftW R H (gaR R w H))))), none]) dX10_settle_88 (by decide) rfl ?_
            refine T_iload (pc := 90) (i := 8) dX10_settle_90 rfl ?_
            refine T_iconst (pc := 92) (v := nI 2) dX10_settle_92 (by decide) ?_
            refine R_imul (pc := 93) dX10_settle_93 ?_
            refine T_istore (pc := 94) (i := 8) (ls' := [some (.ref 97), some (.long (lN (cd l))), none, some (.int (nI N)), some (.long (lN (cd (aftW R H (gaR R w H))))), none, some (.long (lN (cd (aftW R H (gaR R w H))))), none, some (.int (nI (nl * 2))), some (.int (nI s)), some (.int (nI H.length)), some (.int (nI ((gaR R w H).length))), some (.long (lN (cd (aftW R H (gaR R w H))))), none]) dX10_settle_94 (by decide) rfl ?_
            refine R_iinc (pc := 96) (i := 9) (n := 1) (ls' := [some (.ref 97), some (.long (lN (cd l))), none, some (.int (nI N)), some (.long (lN (cd (aftW R H (gaR R w H))))), none, some (.long (lN (cd (aftW R H (gaR R w H))))), none, some (.int (nI (nl * 2))), some (.int (nI (s + 1))), some (.int (nI H.length)), some (.int (nI ((gaR R w H).length))), some (.long (lN (cd (aftW R H (gaR R w H))))), none]) dX10_settle_96 rfl rfl ?_
            refine T_goto (pc := 99) (tgt := 12) dX10_settle_99 (by decide) ?_
            refine T_ls (ls' := [some (.ref 97), some (.long (lN (cd l))), none, some (.int (nI N)), some (.long (lN (cd (aftW R H (gaR R w H))))), none, some (.long (lN (cd (aftW R H (gaR R w H))))), none, some (.int (nI (nl * 2))), some (.int (nI (s + 1))), none, none, none, none]) (And.intro rfl (And.intro rfl (And.intro rfl (And.intro rfl (And.intro rfl (And.intro rfl (And.intro rfl True.intro))))))) ?_
            obtain rfl : s = N := by omega
            exact exitT (nl * 2) (aftW R H (gaR R w H)) (aftW R H (gaR R w H)) m1 gE (hO.trans gO) hst
        · skip
          refine T_ldc2 (pc := 69) dX10_settle_69 cn_X10_99 ?_
          rw [hst]
          exact T_lret dX10_settle_72 rfl (Nat.le_refl _) (Nat.le_refl _) ⟨_, rfl, rfl, ⟨gE, hO.trans gO⟩, fun q hq => by cases hq⟩
      · skip
        have enx : nxR R w H = none := by unfold nxR; rw [if_pos h2]
        rw [stl_stop enx] at hst
        refine T_aload_n (pc := 40) (i := 0) dX10_settle_40 rfl rfl ?_
        refine T_iload (pc := 41) (i := 9) dX10_settle_41 rfl ?_
        refine R_putI (pc := 43) fl_X10_105 ⟨rfl, rfl⟩ (Or.inl rfl) kc_97 lc_97 dX10_settle_43 ?_
        refine T_lload (pc := 46) (i := 4) dX10_settle_46 rfl ?_
        rw [hst]
        have o9 : OfS (fun k => k = 97) m1 (wI m1 97 6 (nI s)) := OfS.sI (OfS.refl _ _) rfl
        have o8 : OfS SW μ (wI m1 97 6 (nI s)) := OfS.sI (hO.trans gO) (by unfold SW; omega)
        have gE2 : EnvW (wI m1 97 6 (nI s)) R LL w := by
          obtain ⟨a1, a2, ⟨a3, a4, a5⟩⟩ := gE
          refine ⟨a1.ofs o9 (fun k _ _ => by omega), a2.ofs o9 (by omega) (by omega), ⟨(n_wI (by omega)).trans a3.1, a3.2⟩, ⟨(n_wI (by omega)).trans a4.1, a4.2⟩, ?_⟩
          rcases a5 with ⟨x1, x2⟩ | ⟨x1, ⟨y, x2, x3⟩, x4⟩
          · exact Or.inl ⟨(n_wI (by omega)).trans x1, x2⟩
          · refine Or.inr ⟨(n_wI (by omega)).trans x1, ⟨y, (n_wI (by omega)).trans x2, x3⟩, fun r p n hr hp hn h => ?_⟩
            rw [n_wI (by omega)] at h ⊢
            exact x4 r p n hr hp hn h
        exact T_lret dX10_settle_48 rfl (Nat.le_refl _) (Nat.le_refl _) ⟨_, rfl, rfl, ⟨gE2, o8⟩, fun q hq => by cases hq; rw [e_wI ⟨rfl, rfl⟩]; show nI s = nI (0 + s); rw [Nat.zero_add]⟩
  | succ f ih =>
    intro s nl H E m hs hnl hH hE2 hk hE1 hO hst
    have h20 := gaR_len (R := R) (w := w) (l := H)
    refine T_iload (pc := 12) (i := 9) dX10_settle_12 rfl ?_
    refine T_iload_n (pc := 14) (i := 3) dX10_settle_14 rfl rfl ?_
    refine R_icmp_gt (pc := 15) (tgt := 102) (by omega) (by omega) dX10_settle_15 (by decide) (fun h1 => ?_) (fun h1 => ?_)
    · exact absurd h1 (by omega)
    · skip
      refine T_lload (pc := 18) (i := 4) dX10_settle_18 rfl ?_
      refine R_callS1 (pc := 20) (av := [.long (lN (cd H))]) (rest := []) (Or.inr lk_X10_91) mk_X11_sizeOf (c_sizeOf_cd hH) dX10_settle_20 rfl rfl (Nat.le_of_ble_eq_true rfl) (by decide) rfl (Nat.le_refl _) (Nat.le_refl _) ?_
      refine T_istore (pc := 23) (i := 10) (ls' := [some (.ref 97), some (.long (lN (cd l))), none, some (.int (nI N)), some (.long (lN (cd H))), none, some (.long (lN (cd E))), none, some (.int (nI nl)), some (.int (nI s)), some (.int (nI H.length)), none, none, none]) dX10_settle_23 (by decide) rfl ?_
      refine T_aload_n (pc := 25) (i := 0) dX10_settle_25 rfl rfl ?_
      refine T_lload (pc := 26) (i := 4) dX10_settle_26 rfl ?_
      refine T_iload (pc := 28) (i := 10) dX10_settle_28 rfl ?_
      refine R_callVm1 (pc := 30) (As := [.long (lN (cd H)), .int (nI H.length)]) (rest := []) (Or.inl lk_X10_95) mk_X10_gather (c_gather hE1 hH) kc_97 ⟨by decide, rfl⟩ lc_97 dX10_settle_30 rfl rfl (Nat.le_of_ble_eq_true rfl) (by decide) rfl (Nat.le_refl _) (Nat.le_refl _) (fun m1 h => ?_)
      obtain ⟨gE, gO, gU⟩ := h
      refine T_istore (pc := 33) (i := 11) (ls' := [some (.ref 97), some (.long (lN (cd l))), none, some (.int (nI N)), some (.long (lN (cd H))), none, some (.long (lN (cd E))), none, some (.int (nI nl)), some (.int (nI s)), some (.int (nI H.length)), some (.int (nI ((gaR R w H).length))), none, none]) dX10_settle_33 (by decide) rfl ?_
      refine T_iload (pc := 35) (i := 11) dX10_settle_35 rfl ?_
      refine R_if_ne (pc := 37) (tgt := 49) (by omega) dX10_settle_37 (by decide) (fun h2 => ?_) (fun h2 => ?_)
      · skip
        have enx : nxR R w H = some (aftW R H (gaR R w H)) := by unfold nxR; rw [if_neg h2]
        have hT := nxR_mw hH hE.1.ok enx
        have hst2 := hst
        rw [stl_s enx, Option.map_map] at hst2
        have hst3 : stl (nxR R w) N l = (stl (nxR R w) f (aftW R H (gaR R w H))).map (fun q => (q.1 + (s + 1), q.2)) := by
          rw [hst2]
          congr 1
          funext q
          show (q.1 + 1 + s, q.2) = _
          rw [show q.1 + 1 + s = q.1 + (s + 1) by omega]
        refine T_aload_n (pc := 49) (i := 0) dX10_settle_49 rfl rfl ?_
        refine T_lload (pc := 50) (i := 4) dX10_settle_50 rfl ?_
        refine T_iload (pc := 52) (i := 10) dX10_settle_52 rfl ?_
        refine T_iload (pc := 54) (i := 11) dX10_settle_54 rfl ?_
        refine R_callV1 (pc := 56) (As := [.long (lN (cd H)), .int (nI H.length), .int (nI ((gaR R w H).length))]) (rest := []) (Or.inl lk_X10_101) mk_X10_after (c_after gE.1 hH gaR_ok.1 h20 gU) kc_97 ⟨by decide, rfl⟩ lc_97 dX10_settle_56 rfl rfl (Nat.le_of_ble_eq_true rfl) (by decide) rfl (Nat.le_refl _) (Nat.le_refl _) ?_
        have b1 := cd_lt hT
        have b2 := cd_lt hE2
        refine T_lstore (pc := 59) (i := 12) (ls' := [some (.ref 97), some (.long (lN (cd l))), none, some (.int (nI N)), some (.long (lN (cd H))), none, some (.long (lN (cd E))), none, some (.int (nI nl)), some (.int (nI s)), some (.int (nI H.length)), some (.int (nI ((gaR R w H).length))), some (.long (lN (cd (aftW R H (gaR R w H))))), none]) dX10_settle_59 (by decide) rfl ?_
        refine T_lload (pc := 61) (i := 12) dX10_settle_61 rfl ?_
        refine T_lload (pc := 63) (i := 6) dX10_settle_63 rfl ?_
        refine T_lcmp (pc := 65) dX10_settle_65 ?_
        refine R_ln_ne (pc := 66) (tgt := 73) (by omega) (by omega) dX10_settle_66 (by decide) (fun h3 => ?_) (fun h3 => ?_)
        · skip
          refine T_lload (pc := 73) (i := 12) dX10_settle_73 rfl ?_
          refine T_lstore (pc := 75) (i := 4) (ls' := [some (.ref 97), some (.long (lN (cd l))), none, some (.int (nI N)), some (.long (lN (cd (aftW R H (gaR R w H))))), none, some (.long (lN (cd E))), none, some (.int (nI nl)), some (.int (nI s)), some (.int (nI H.length)), some (.int (nI ((gaR R w H).length))), some (.long (lN (cd (aftW R H (gaR R w H))))), none]) dX10_settle_75 (by decide) rfl ?_
          refine T_iload (pc := 77) (i := 9) dX10_settle_77 rfl ?_
          refine T_iconst (pc := 79) (v := nI 1) dX10_settle_79 (by decide) ?_
          refine R_iadd (pc := 80) dX10_settle_80 ?_
          refine T_iload (pc := 81) (i := 8) dX10_settle_81 rfl ?_
          refine R_icmp_ne (pc := 83) (tgt := 96) (by omega) (by omega) dX10_settle_83 (by decide) (fun h4 => ?_) (fun h4 => ?_)
          · skip
            refine R_iinc (pc := 96) (i := 9) (n := 1) (ls' := [some (.ref 97), some (.long (lN (cd l))), none, some (.int (nI N)), some (.long (lN (cd (aftW R H (gaR R w H))))), none, some (.long (lN (cd E))), none, some (.int (nI nl)), some (.int (nI (s + 1))), some (.int (nI H.length)), some (.int (nI ((gaR R w H).length))), some (.long (lN (cd (aftW R H (gaR R w H))))), none]) dX10_settle_96 rfl rfl ?_
            refine T_goto (pc := 99) (tgt := 12) dX10_settle_99 (by decide) ?_
            refine T_ls (ls' := [some (.ref 97), some (.long (lN (cd l))), none, some (.int (nI N)), some (.long (lN (cd (aftW R H (gaR R w H))))), none, some (.long (lN (cd E))), none, some (.int (nI nl)), some (.int (nI (s + 1))), none, none, none, none]) (And.intro rfl (And.intro rfl (And.intro rfl (And.intro rfl (And.intro rfl (And.intro rfl (And.intro rfl True.intro))))))) ?_
            refine ih (s + 1) nl (aftW R H (gaR R w H)) E m1 (by omega) (by omega) hT hE2 ?_ gE (hO.trans gO) hst3
            obtain ⟨k, hk⟩ := hk
            refine ⟨k + 1, ?_⟩
            show (itN (nxR R w) k E).bind _ = _
            rw [hk]
            exact enx
          · skip
            refine T_lload (pc := 86) (i := 4) dX10_settle_86 rfl ?_
            refine T_lstore (pc := 88) (i := 6) (ls' := [some (.ref 97), some (.long (lN (cd l))), none, some (.int (nI N)), some (.long (lN (cd (aftW R H (gaR R w H))))), none, some (.long (lN (cd (aftW R H (gaR R w H))))), none, some (.int (nI nl)), some (.int (nI s)), some (.int (nI H.length)), some (.int (nI ((gaR R w H).length))), some (.long (lN (cd (aftW R H (gaR R w H))))), none]) dX10_settle_88 (by decide) rfl ?_
            refine T_iload (pc := 90) (i := 8) dX10_settle_90 rfl ?_
            refine T_iconst (pc := 92) (v := nI 2) dX10_settle_92 (by decide) ?_
            refine R_imul (pc := 93) dX10_settle_93 ?_
            refine T_istore (pc := 94) (i := 8) (ls' := [some (.ref 97), some (.long (lN (cd l))), none, some (.int (nI N)), some (.long (lN (cd (aftW R H (gaR R w H))))), none, some (.long (lN (cd (aftW R H (gaR R w H))))), none, some (.int (nI (nl * 2))), some (.int (nI s)), some (.int (nI H.length)), some (.int (nI ((gaR R w H).length))), some (.long (lN (cd (aftW R H (gaR R w H))))), none]) dX10_settle_94 (by decide) rfl ?_
            refine R_iinc (pc := 96) (i := 9) (n := 1) (ls' := [some (.ref 97), some (.long (lN (cd l))), none, some (.int (nI N)), some (.long (lN (cd (aftW R H (gaR R w H))))), none, some (.long (lN (cd (aftW R H (gaR R w H))))), none, some (.int (nI (nl * 2))), some (.int (nI (s + 1))), some (.int (nI H.length)), some (.int (nI ((gaR R w H).length))), some (.long (lN (cd (aftW R H (gaR R w H))))), none]) dX10_settle_96 rfl rfl ?_
            refine T_goto (pc := 99) (tgt := 12) dX10_settle_99 (by decide) ?_
            refine T_ls (ls' := [some (.ref 97), some (.long (lN (cd l))), none, some (.int (nI N)), some (.long (lN (cd (aftW R H (gaR R w H))))), none, some (.long (lN (cd (aftW R H (gaR R w H))))), none, some (.int (nI (nl * 2))), some (.int (nI (s + 1))), none, none, none, none]) (And.intro rfl (And.intro rfl (And.intro rfl (And.intro rfl (And.intro rfl (And.intro rfl (And.intro rfl True.intro))))))) ?_
            exact ih (s + 1) (nl * 2) (aftW R H (gaR R w H)) (aftW R H (gaR R w H)) m1 (by omega) (by omega) hT hT ⟨0, rfl⟩ gE (hO.trans gO) hst3
        · skip
          refine T_ldc2 (pc := 69) dX10_settle_69 cn_X10_99 ?_
          have e1 : aftW R H (gaR R w H) = E := cd_inj hT.2 hE2.2 h3
          rw [e1] at enx
          obtain ⟨k, hk⟩ := hk
          rw [stl_cycle hk enx] at hst
          have hst4 : stl (nxR R w) N l = none := hst
          rw [hst4]
          exact T_lret dX10_settle_72 rfl (Nat.le_refl _) (Nat.le_refl _) ⟨_, rfl, rfl, ⟨gE, hO.trans gO⟩, fun q hq => by cases hq⟩
      · skip
        have enx : nxR R w H = none := by unfold nxR; rw [if_pos h2]
        rw [stl_stop enx] at hst
        refine T_aload_n (pc := 40) (i := 0) dX10_settle_40 rfl rfl ?_
        refine T_iload (pc := 41) (i := 9) dX10_settle_41 rfl ?_
        refine R_putI (pc := 43) fl_X10_105 ⟨rfl, rfl⟩ (Or.inl rfl) kc_97 lc_97 dX10_settle_43 ?_
        refine T_lload (pc := 46) (i := 4) dX10_settle_46 rfl ?_
        rw [hst]
        have o9 : OfS (fun k => k = 97) m1 (wI m1 97 6 (nI s)) := OfS.sI (OfS.refl _ _) rfl
        have o8 : OfS SW μ (wI m1 97 6 (nI s)) := OfS.sI (hO.trans gO) (by unfold SW; omega)
        have gE2 : EnvW (wI m1 97 6 (nI s)) R LL w := by
          obtain ⟨a1, a2, ⟨a3, a4, a5⟩⟩ := gE
          refine ⟨a1.ofs o9 (fun k _ _ => by omega), a2.ofs o9 (by omega) (by omega), ⟨(n_wI (by omega)).trans a3.1, a3.2⟩, ⟨(n_wI (by omega)).trans a4.1, a4.2⟩, ?_⟩
          rcases a5 with ⟨x1, x2⟩ | ⟨x1, ⟨y, x2, x3⟩, x4⟩
          · exact Or.inl ⟨(n_wI (by omega)).trans x1, x2⟩
          · refine Or.inr ⟨(n_wI (by omega)).trans x1, ⟨y, (n_wI (by omega)).trans x2, x3⟩, fun r p n hr hp hn h => ?_⟩
            rw [n_wI (by omega)] at h ⊢
            exact x4 r p n hr hp hn h
        exact T_lret dX10_settle_48 rfl (Nat.le_refl _) (Nat.le_refl _) ⟨_, rfl, rfl, ⟨gE2, o8⟩, fun q hq => by cases hq; rw [e_wI ⟨rfl, rfl⟩]; show nI s = nI (0 + s); rw [Nat.zero_add]⟩
end ST

