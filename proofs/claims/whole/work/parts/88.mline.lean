/-! THE MODEL: a LINE of THE LAW reckoned -/
def tyV : List Bool → List Int32 → Prop
  | [], [] => True
  | b :: t, v :: s => (b = true → v = 0 ∨ v = 1) ∧ tyV t s
  | _, _ => False
theorem tyV.len : ∀ {ts : List Bool} {st : List Int32}, tyV ts st → st.length = ts.length
  | [], [], _ => rfl
  | _ :: t, _ :: s, h => congrArg (· + 1) (tyV.len (ts := t) (st := s) h.2)
  | [], _ :: _, h => h.elim
  | _ :: _, [], h => h.elim
theorem tyS_pushE {ts ts' : List Bool} {s : Int32} (h : tyS (some ts) s = some ts') (hs : -8 < s) : ts' = decide (s = -7) :: ts := by
  unfold tyS at h
  simp only [hs, if_true] at h
  by_cases hl : ts.length < 17
  · rw [if_pos hl] at h
    cases h
    rfl
  · rw [if_neg hl] at h
    cases h
theorem tyS_notE {ts ts' : List Bool} (h : tyS (some ts) (-8) = some ts') : ∃ r, ts = true :: r ∧ ts' = true :: r := by
  have e : ¬ (-8 : Int32) < -8 := by decide
  unfold tyS at h
  simp only [e, if_false, if_true] at h
  split at h
  · next r =>
    cases h
    exact ⟨r, rfl, rfl⟩
  · cases h
theorem tyS_binE {ts ts' : List Bool} {s : Int32} (h : tyS (some ts) s = some ts') (hs : ¬ -8 < s) (h8 : s ≠ -8) : (s = -10 ∧ ∃ r, ts = false :: false :: r ∧ ts' = false :: r) ∨ ((s = -11 ∨ s = -12) ∧ ∃ r, ts = false :: false :: r ∧ ts' = true :: r) ∨ ((s = -13 ∨ s = -14) ∧ ∃ r, ts = true :: true :: r ∧ ts' = true :: r) := by
  unfold tyS at h
  simp only [hs, h8, if_false] at h
  split at h
  · next q =>
    split at h
    · next r => cases h; exact Or.inl ⟨q, r, rfl, rfl⟩
    · cases h
  · split at h
    · next q =>
      split at h
      · next r => cases h; exact Or.inr (Or.inl ⟨q, r, rfl, rfl⟩)
      · cases h
    · split at h
      · next q =>
        split at h
        · next r => cases h; exact Or.inr (Or.inr ⟨q, r, rfl, rfl⟩)
        · cases h
      · cases h
theorem sg01 {c : Cx} : sgV c (-7) = 0 ∨ sgV c (-7) = 1 := by
  show (if c.2.1 = 0 ∨ c.2.2.2.1 = 0 then (1 : Int32) else 0) = 0 ∨ (if c.2.1 = 0 ∨ c.2.2.2.1 = 0 then (1 : Int32) else 0) = 1
  split
  · exact Or.inr rfl
  · exact Or.inl rfl
section ML2
variable {γ : Ga} {μ : SM2}
theorem m_holdsLine {R : List Ru} {LL : List (List Int32)} {k r p n : Nat} {y : Int32} (hR : mdR (μ.1 573) R) (hL : mdL (μ.1 573) 339 LL) (hw : ∀ ln ∈ LL, wfl ln) (hy : μ.1 573 7 = y) (hk : k < LL.length) (hr : r < R.length) (hn : n ≤ 20) (hp : p + (rAt R r).1.length ≤ n) : Ex γ 6 0 0 M_X12_holdsLine [.ref 572, .int (nI k), .int (nI r), .int (nI p), .int (nI n)] (rm μ) (Rm (some (.int (bI (evB (nI r, nI p, nI n, nI (n - p - (rAt R r).1.length), y) (lnA LL k))))) (fun m => OfS S9 μ m)) := by
  have h12 := hL.1.1
  have h400 := hL.1.2
  have hle := ofL_le LL (k + 1)
  have hsu := ofL_s hk
  have hmem : lnA LL k ∈ LL := by
    show LL.getD k [] ∈ LL
    rw [List.getD_eq_getElem?_getD, List.getElem?_eq_getElem hk]
    exact List.getElem_mem hk
  obtain ⟨c, hc⟩ : ∃ c : Cx, c = (nI r, nI p, nI n, nI (n - p - (rAt R r).1.length), y) := ⟨_, rfl⟩
  rw [← hc]
  suffices inner : ∀ (rest st : List Int32) (ts : List Bool) (j : Nat) (m : SM2), rest.foldl tyS (some ts) = some [true] → tyV ts st → ts.length ≤ 17 → (lnA LL k).drop j = rest → j ≤ (lnA LL k).length → StkAt m 579 st → OfS S9 μ m → T γ 6 0 0 M_X12_holdsLine (Rm (some (.int (bI (decide ((rest.foldl (stV c) st).headD 0 ≠ 0))))) (fun m => OfS S9 μ m)) 0 0 21 [some (.ref 572), some (.int (nI k)), some (.int (nI r)), some (.int (nI p)), some (.int (nI n)), some (.int (nI st.length)), some (.int (nI (340 + 2 * k))), some (.int (nI (ofL LL k + j))), none, none, none, none] [] (rm m) by
    refine Ex.of (by decide +kernel) rfl (Nat.le_of_ble_eq_true rfl) ?_
    show T _ _ _ _ _ _ _ _ _ [some (.ref 572), some (.int (nI k)), some (.int (nI r)), some (.int (nI p)), some (.int (nI n)), none, none, none, none, none, none, none] [] (rm μ)
    refine T_iconst (pc := 0) (v := nI 0) dX12_holdsLine_0 (by decide) ?_
    refine T_istore (pc := 1) (i := 5) (ls' := [some (.ref 572), some (.int (nI k)), some (.int (nI r)), some (.int (nI p)), some (.int (nI n)), some (.int (nI 0)), none, none, none, none, none, none]) dX12_holdsLine_1 (by decide) rfl ?_
    refine T_sipush (pc := 3) (v := nI 340) dX12_holdsLine_3 (by decide) ?_
    refine T_iconst (pc := 6) (v := nI 2) dX12_holdsLine_6 (by decide) ?_
    refine T_iload_n (pc := 7) (i := 1) dX12_holdsLine_7 rfl rfl ?_
    refine R_imul (pc := 8) dX12_holdsLine_8 ?_
    refine R_iadd (pc := 9) dX12_holdsLine_9 ?_
    refine T_istore (pc := 10) (i := 6) (ls' := [some (.ref 572), some (.int (nI k)), some (.int (nI r)), some (.int (nI p)), some (.int (nI n)), some (.int (nI 0)), some (.int (nI (340 + (2 * k)))), none, none, none, none, none]) dX12_holdsLine_10 (by decide) rfl ?_
    refine T_aload_n (pc := 12) (i := 0) dX12_holdsLine_12 rfl rfl ?_
    refine R_getR (pc := 13) (i := 573) fl_X12_29 rfl kc_572 lc_572 rc_572_1 dX12_holdsLine_13 ?_
    refine T_iload (pc := 16) (i := 6) dX12_holdsLine_16 rfl ?_
    refine R_iald (pc := 18) (x := nI (ofL LL k)) kc_573 lc_573 (by omega) (by first | decide | assumption) ((hL.2.1 k hk).1) dX12_holdsLine_18 ?_
    refine T_istore (pc := 19) (i := 7) (ls' := [some (.ref 572), some (.int (nI k)), some (.int (nI r)), some (.int (nI p)), some (.int (nI n)), some (.int (nI 0)), some (.int (nI (340 + (2 * k)))), some (.int (nI (ofL LL k))), none, none, none, none]) dX12_holdsLine_19 (by decide) rfl ?_
    by_cases he : lnA LL k = []
    · rw [he] at hsu ⊢
      refine T_iload (pc := 21) (i := 7) dX12_holdsLine_21 rfl ?_
      refine T_aload_n (pc := 23) (i := 0) dX12_holdsLine_23 rfl rfl ?_
      refine R_getR (pc := 24) (i := 573) fl_X12_29 rfl kc_572 lc_572 rc_572_1 dX12_holdsLine_24 ?_
      refine T_iload (pc := 27) (i := 6) dX12_holdsLine_27 rfl ?_
      refine T_iconst (pc := 29) (v := nI 1) dX12_holdsLine_29 (by decide) ?_
      refine R_iadd (pc := 30) dX12_holdsLine_30 ?_
      refine R_iald (pc := 31) (x := nI (ofL LL (k + 1))) kc_573 lc_573 (by omega) (by first | decide | assumption) ((hL.2.1 k hk).2) dX12_holdsLine_31 ?_
      refine R_icmp_ge (pc := 32) (tgt := 271) (by omega) (by omega) dX12_holdsLine_32 (by decide) (fun h1 => ?_) (fun h1 => ?_)
      · skip
        refine T_iload (pc := 271) (i := 5) dX12_holdsLine_271 rfl ?_
        refine R_if_eq (pc := 273) (tgt := 286) (by omega) dX12_holdsLine_273 (by decide) (fun h2 => ?_) (fun h2 => ?_)
        · skip
          refine T_iconst (pc := 286) (v := nI 1) dX12_holdsLine_286 (by decide) ?_
          refine T_goto (pc := 287) (tgt := 291) dX12_holdsLine_287 (by decide) ?_
          rw [show evB c [] = true from rfl]
          exact T_iret (pc := 291) (ty := .boolean) dX12_holdsLine_291 rfl (by decide) (Nat.le_refl _) (Nat.le_refl _) ⟨_, rfl, rfl, OfS.refl _ _⟩
        · exact absurd rfl h2
      · exact absurd h1 (by rw [List.length_nil] at hsu; omega)
    · have ht : (lnA LL k).foldl tyS (some []) = some [true] := (hw _ hmem).elim (fun z => absurd z he) id
      have h9 := inner (lnA LL k) [] [] 0 μ ht trivial (Nat.zero_le _) rfl (Nat.zero_le _) trivial (OfS.refl _ _)
      have e9 : evB c (lnA LL k) = decide (((lnA LL k).foldl (stV c) []).headD 0 ≠ 0) := by unfold evB ln1; rw [if_neg he]
      rw [e9]
      exact h9
  intro rest
  induction rest with
  | nil =>
    intro st ts j m ht hv h17 hd hj hk2 hO
    cases ht
    have hjl : j = (lnA LL k).length := by
      have := List.drop_eq_nil_iff.mp hd
      omega
    obtain ⟨v, rfl, hv1⟩ : ∃ v, st = [v] ∧ (v = 0 ∨ v = 1) := by
      match st, hv with
      | [v], h => exact ⟨v, rfl, h.1 rfl⟩
    show T _ _ _ _ _ _ _ _ 21 [some (.ref 572), some (.int (nI k)), some (.int (nI r)), some (.int (nI p)), some (.int (nI n)), some (.int (nI 1)), some (.int (nI (340 + 2 * k))), some (.int (nI (ofL LL k + j))), none, none, none, none] [] (rm m)
    refine T_iload (pc := 21) (i := 7) dX12_holdsLine_21 rfl ?_
    refine T_aload_n (pc := 23) (i := 0) dX12_holdsLine_23 rfl rfl ?_
    refine R_getR (pc := 24) (i := 573) fl_X12_29 rfl kc_572 lc_572 rc_572_1 dX12_holdsLine_24 ?_
    refine T_iload (pc := 27) (i := 6) dX12_holdsLine_27 rfl ?_
    refine T_iconst (pc := 29) (v := nI 1) dX12_holdsLine_29 (by decide) ?_
    refine R_iadd (pc := 30) dX12_holdsLine_30 ?_
    refine R_iald (pc := 31) (x := nI (ofL LL (k + 1))) kc_573 lc_573 (by omega) (by first | decide | assumption) ((hO.i (by unfold S9; omega) _).trans (hL.2.1 k hk).2) dX12_holdsLine_31 ?_
    refine R_icmp_ge (pc := 32) (tgt := 271) (by omega) (by omega) dX12_holdsLine_32 (by decide) (fun h1 => ?_) (fun h1 => ?_)
    · skip
      refine T_iload (pc := 271) (i := 5) dX12_holdsLine_271 rfl ?_
      refine R_if_eq (pc := 273) (tgt := 286) (by omega) dX12_holdsLine_273 (by decide) (fun h2 => ?_) (fun h2 => ?_)
      · exact absurd h2 (by decide)
      · skip
        refine T_aload_n (pc := 276) (i := 0) dX12_holdsLine_276 rfl rfl ?_
        refine R_getR (pc := 277) (i := 579) fl_X12_52 rfl kc_572 lc_572 rc_572_18 dX12_holdsLine_277 ?_
        refine T_iconst (pc := 280) (v := nI 0) dX12_holdsLine_280 (by decide) ?_
        refine R_iald (pc := 281) (x := v) kc_579 lc_579 (by omega) (by first | decide | assumption) hk2.1 dX12_holdsLine_281 ?_
        refine T_iconst (pc := 282) (v := nI 1) dX12_holdsLine_282 (by decide) ?_
        refine T_icmp_ne (pc := 283) (tgt := 290) dX12_holdsLine_283 (by decide) (fun h3 => ?_) (fun h3 => ?_)
        · skip
          refine T_iconst (pc := 290) (v := nI 0) dX12_holdsLine_290 (by decide) ?_
          have e1 : v = 0 := hv1.elim id (fun z => absurd z h3)
          rw [e1]
          exact T_iret (pc := 291) (ty := .boolean) dX12_holdsLine_291 rfl (by decide) (Nat.le_refl _) (Nat.le_refl _) ⟨_, rfl, rfl, hO⟩
        · skip
          refine T_iconst (pc := 286) (v := nI 1) dX12_holdsLine_286 (by decide) ?_
          refine T_goto (pc := 287) (tgt := 291) dX12_holdsLine_287 (by decide) ?_
          rw [h3]
          exact T_iret (pc := 291) (ty := .boolean) dX12_holdsLine_291 rfl (by decide) (Nat.le_refl _) (Nat.le_refl _) ⟨_, rfl, rfl, hO⟩
    · exact absurd h1 (by omega)
  | cons s rest' ihR =>
    intro st ts j m ht hv h17 hd hj hk2 hO
    obtain ⟨hi, hg, hd2⟩ := drop_c hd
    have ht0 : rest'.foldl tyS (tyS (some ts) s) = some [true] := ht
    have hlen := hv.len
    cases et : tyS (some ts) s with
    | none =>
      rw [et, tyS_none] at ht0
      cases ht0
    | some ts' =>
    rw [et] at ht0
    have e0 : List.foldl (stV c) st (s :: rest') = List.foldl (stV c) (stV c st s) rest' := rfl
    rw [e0]
    have hat := hL.at hk hi
    rw [hg] at hat
    have hend : m.1 573 (340 + 2 * k + 1) = nI (ofL LL (k + 1)) := (hO.i (by unfold S9; omega) _).trans (hL.2.1 k hk).2
    have hstep : m.1 573 (364 + 2 * (ofL LL k + j)) = sgA s := (hO.i (by unfold S9; omega) _).trans hat.2.1
    have hnum : m.1 573 (364 + 2 * (ofL LL k + j) + 1) = sgN s := (hO.i (by unfold S9; omega) _).trans hat.2.2
    have h40 := hat.1
    by_cases h8 : -8 < s
    · obtain ⟨hp1, hp2⟩ := tyS_push et h8
      have e8 : stV c st s = sgV c s :: st := by unfold stV; rw [if_pos h8]
      rw [e8]
      have hRm : mdR (m.1 573) R := by rw [(hO 573 (by unfold S9; omega)).1]; exact hR
      have hf := m_factOf (γ := γ) (μ := m) (y := y) hRm hr hn hp ((hO.i (by unfold S9; omega) 7).trans hy) h8
      rw [← hc] at hf
      have htv : tyV ts' (sgV c s :: st) := by
        rw [tyS_pushE et h8]
        refine ⟨fun z => ?_, hv⟩
        rw [of_decide_eq_true z]
        exact sg01
      have hle6 : ¬ nI 6 < sgA s := by rcases sgA_push h8 with z | z | z | z | z | z | z <;> rw [z] <;> decide
      refine T_iload (pc := 21) (i := 7) dX12_holdsLine_21 rfl ?_
      refine T_aload_n (pc := 23) (i := 0) dX12_holdsLine_23 rfl rfl ?_
      refine R_getR (pc := 24) (i := 573) fl_X12_29 rfl kc_572 lc_572 rc_572_1 dX12_holdsLine_24 ?_
      refine T_iload (pc := 27) (i := 6) dX12_holdsLine_27 rfl ?_
      refine T_iconst (pc := 29) (v := nI 1) dX12_holdsLine_29 (by decide) ?_
      refine R_iadd (pc := 30) dX12_holdsLine_30 ?_
      refine R_iald (pc := 31) (x := nI (ofL LL (k + 1))) kc_573 lc_573 (by omega) (by first | decide | assumption) hend dX12_holdsLine_31 ?_
      refine R_icmp_ge (pc := 32) (tgt := 271) (by omega) (by omega) dX12_holdsLine_32 (by decide) (fun h1 => ?_) (fun h1 => ?_)
      · exact absurd h1 (by omega)
      · skip
        refine T_aload_n (pc := 35) (i := 0) dX12_holdsLine_35 rfl rfl ?_
        refine R_getR (pc := 36) (i := 573) fl_X12_29 rfl kc_572 lc_572 rc_572_1 dX12_holdsLine_36 ?_
        refine T_sipush (pc := 39) (v := nI 364) dX12_holdsLine_39 (by decide) ?_
        refine T_iconst (pc := 42) (v := nI 2) dX12_holdsLine_42 (by decide) ?_
        refine T_iload (pc := 43) (i := 7) dX12_holdsLine_43 rfl ?_
        refine R_imul (pc := 45) dX12_holdsLine_45 ?_
        refine R_iadd (pc := 46) dX12_holdsLine_46 ?_
        refine R_iald (pc := 47) (x := (sgA s)) kc_573 lc_573 (by omega) (by first | decide | assumption) hstep dX12_holdsLine_47 ?_
        refine T_istore (pc := 48) (i := 8) (ls' := [some (.ref 572), some (.int (nI k)), some (.int (nI r)), some (.int (nI p)), some (.int (nI n)), some (.int (nI st.length)), some (.int (nI (340 + 2 * k))), some (.int (nI (ofL LL k + j))), some (.int ((sgA s))), none, none, none]) dX12_holdsLine_48 (by decide) rfl ?_
        refine T_iload (pc := 50) (i := 8) dX12_holdsLine_50 rfl ?_
        refine T_bipush (pc := 52) (v := nI 6) dX12_holdsLine_52 (by decide) ?_
        refine T_icmp_gt (pc := 54) (tgt := 95) dX12_holdsLine_54 (by decide) (fun h2 => ?_) (fun h2 => ?_)
        · exact absurd h2 hle6
        · skip
          refine T_aload_n (pc := 57) (i := 0) dX12_holdsLine_57 rfl rfl ?_
          refine R_getR (pc := 58) (i := 579) fl_X12_52 rfl kc_572 lc_572 rc_572_18 dX12_holdsLine_58 ?_
          refine T_iload (pc := 61) (i := 5) dX12_holdsLine_61 rfl ?_
          refine T_aload_n (pc := 63) (i := 0) dX12_holdsLine_63 rfl rfl ?_
          refine T_iload (pc := 64) (i := 8) dX12_holdsLine_64 rfl ?_
          refine T_aload_n (pc := 66) (i := 0) dX12_holdsLine_66 rfl rfl ?_
          refine R_getR (pc := 67) (i := 573) fl_X12_29 rfl kc_572 lc_572 rc_572_1 dX12_holdsLine_67 ?_
          refine T_sipush (pc := 70) (v := nI 364) dX12_holdsLine_70 (by decide) ?_
          refine T_iconst (pc := 73) (v := nI 2) dX12_holdsLine_73 (by decide) ?_
          refine T_iload (pc := 74) (i := 7) dX12_holdsLine_74 rfl ?_
          refine R_imul (pc := 76) dX12_holdsLine_76 ?_
          refine R_iadd (pc := 77) dX12_holdsLine_77 ?_
          refine T_iconst (pc := 78) (v := nI 1) dX12_holdsLine_78 (by decide) ?_
          refine R_iadd (pc := 79) dX12_holdsLine_79 ?_
          refine R_iald (pc := 80) (x := (sgN s)) kc_573 lc_573 (by omega) (by first | decide | assumption) hnum dX12_holdsLine_80 ?_
          refine T_iload_n (pc := 81) (i := 2) dX12_holdsLine_81 rfl rfl ?_
          refine T_iload_n (pc := 82) (i := 3) dX12_holdsLine_82 rfl rfl ?_
          refine T_iload (pc := 83) (i := 4) dX12_holdsLine_83 rfl ?_
          refine R_callV1 (pc := 85) (As := [.int ((sgA s)), .int ((sgN s)), .int (nI r), .int (nI p), .int (nI n)]) (rest := [.int (nI st.length), .ref 579]) (Or.inl lk_X12_314) mk_X12_factOf hf kc_572 ⟨by decide, rfl⟩ lc_572 dX12_holdsLine_85 rfl rfl (Nat.le_of_ble_eq_true rfl) (by decide) rfl (Nat.le_refl _) (Nat.le_refl _) ?_
          refine R_iast (pc := 88) kc_579 lc_579 (by omega) (by first | decide | assumption) dX12_holdsLine_88 ?_
          refine R_iinc (pc := 89) (i := 5) (n := 1) (ls' := [some (.ref 572), some (.int (nI k)), some (.int (nI r)), some (.int (nI p)), some (.int (nI n)), some (.int (nI (st.length + 1))), some (.int (nI (340 + 2 * k))), some (.int (nI (ofL LL k + j))), some (.int ((sgA s))), none, none, none]) dX12_holdsLine_89 rfl rfl ?_
          refine T_goto (pc := 92) (tgt := 265) dX12_holdsLine_92 (by decide) ?_
          refine R_iinc (pc := 265) (i := 7) (n := 1) (ls' := [some (.ref 572), some (.int (nI k)), some (.int (nI r)), some (.int (nI p)), some (.int (nI n)), some (.int (nI (st.length + 1))), some (.int (nI (340 + 2 * k))), some (.int (nI (ofL LL k + j + 1))), some (.int ((sgA s))), none, none, none]) dX12_holdsLine_265 rfl rfl ?_
          refine T_goto (pc := 268) (tgt := 21) dX12_holdsLine_268 (by decide) ?_
          refine T_ls (ls' := [some (.ref 572), some (.int (nI k)), some (.int (nI r)), some (.int (nI p)), some (.int (nI n)), some (.int (nI (st.length + 1))), some (.int (nI (340 + 2 * k))), some (.int (nI (ofL LL k + j + 1))), none, none, none, none]) (And.intro rfl (And.intro rfl (And.intro rfl (And.intro rfl (And.intro rfl (And.intro rfl (And.intro rfl (And.intro rfl True.intro)))))))) ?_
          exact ihR (sgV c s :: st) ts' (j + 1) _ ht0 htv (by omega) hd2 (by omega) ⟨e_wI ⟨rfl, rfl⟩, hk2.up (Nat.le_refl _)⟩ (OfS.sI hO rfl)
    · have h8' : s ≤ -8 := i_nlt.mp h8
      by_cases h7 : s = -8
      · subst h7
        obtain ⟨r0, rfl, rfl⟩ := tyS_notE et
        obtain ⟨a, t, rfl⟩ : ∃ a t, st = a :: t := by
          match st, hv with
          | a :: t, _ => exact ⟨a, t, rfl⟩
        have hlt : t.length + 1 = r0.length + 1 := hlen
        have h17' : r0.length + 1 ≤ 17 := h17
        have e8 : stV c (a :: t) (-8) = (1 - a) :: t := by unfold stV; rw [if_neg (by decide), if_pos rfl]
        rw [e8]
        refine T_iload (pc := 21) (i := 7) dX12_holdsLine_21 rfl ?_
        refine T_aload_n (pc := 23) (i := 0) dX12_holdsLine_23 rfl rfl ?_
        refine R_getR (pc := 24) (i := 573) fl_X12_29 rfl kc_572 lc_572 rc_572_1 dX12_holdsLine_24 ?_
        refine T_iload (pc := 27) (i := 6) dX12_holdsLine_27 rfl ?_
        refine T_iconst (pc := 29) (v := nI 1) dX12_holdsLine_29 (by decide) ?_
        refine R_iadd (pc := 30) dX12_holdsLine_30 ?_
        refine R_iald (pc := 31) (x := nI (ofL LL (k + 1))) kc_573 lc_573 (by omega) (by first | decide | assumption) hend dX12_holdsLine_31 ?_
        refine R_icmp_ge (pc := 32) (tgt := 271) (by omega) (by omega) dX12_holdsLine_32 (by decide) (fun h1 => ?_) (fun h1 => ?_)
        · exact absurd h1 (by omega)
        · skip
          refine T_aload_n (pc := 35) (i := 0) dX12_holdsLine_35 rfl rfl ?_
          refine R_getR (pc := 36) (i := 573) fl_X12_29 rfl kc_572 lc_572 rc_572_1 dX12_holdsLine_36 ?_
          refine T_sipush (pc := 39) (v := nI 364) dX12_holdsLine_39 (by decide) ?_
          refine T_iconst (pc := 42) (v := nI 2) dX12_holdsLine_42 (by decide) ?_
          refine T_iload (pc := 43) (i := 7) dX12_holdsLine_43 rfl ?_
          refine R_imul (pc := 45) dX12_holdsLine_45 ?_
          refine R_iadd (pc := 46) dX12_holdsLine_46 ?_
          refine R_iald (pc := 47) (x := nI 10) kc_573 lc_573 (by omega) (by first | decide | assumption) hstep dX12_holdsLine_47 ?_
          refine T_istore (pc := 48) (i := 8) (ls' := [some (.ref 572), some (.int (nI k)), some (.int (nI r)), some (.int (nI p)), some (.int (nI n)), some (.int (nI (t.length + 1))), some (.int (nI (340 + 2 * k))), some (.int (nI (ofL LL k + j))), some (.int (nI 10)), none, none, none]) dX12_holdsLine_48 (by decide) rfl ?_
          refine T_iload (pc := 50) (i := 8) dX12_holdsLine_50 rfl ?_
          refine T_bipush (pc := 52) (v := nI 6) dX12_holdsLine_52 (by decide) ?_
          refine R_icmp_gt (pc := 54) (tgt := 95) (by omega) (by omega) dX12_holdsLine_54 (by decide) (fun h2 => ?_) (fun h2 => ?_)
          · skip
            refine T_iload (pc := 95) (i := 8) dX12_holdsLine_95 rfl ?_
            refine T_bipush (pc := 97) (v := nI 10) dX12_holdsLine_97 (by decide) ?_
            refine R_icmp_ne (pc := 99) (tgt := 125) (by omega) (by omega) dX12_holdsLine_99 (by decide) (fun h3 => ?_) (fun h3 => ?_)
            · exact absurd rfl h3
            · skip
              refine T_aload_n (pc := 102) (i := 0) dX12_holdsLine_102 rfl rfl ?_
              refine R_getR (pc := 103) (i := 579) fl_X12_52 rfl kc_572 lc_572 rc_572_18 dX12_holdsLine_103 ?_
              refine T_iload (pc := 106) (i := 5) dX12_holdsLine_106 rfl ?_
              refine T_iconst (pc := 108) (v := nI 1) dX12_holdsLine_108 (by decide) ?_
              refine R_isub (pc := 109) (by omega) dX12_holdsLine_109 ?_
              refine T_iconst (pc := 110) (v := nI 1) dX12_holdsLine_110 (by decide) ?_
              refine T_aload_n (pc := 111) (i := 0) dX12_holdsLine_111 rfl rfl ?_
              refine R_getR (pc := 112) (i := 579) fl_X12_52 rfl kc_572 lc_572 rc_572_18 dX12_holdsLine_112 ?_
              refine T_iload (pc := 115) (i := 5) dX12_holdsLine_115 rfl ?_
              refine T_iconst (pc := 117) (v := nI 1) dX12_holdsLine_117 (by decide) ?_
              refine R_isub (pc := 118) (by omega) dX12_holdsLine_118 ?_
              refine R_iald (pc := 119) (x := a) kc_579 lc_579 (by omega) (by first | decide | assumption) hk2.1 dX12_holdsLine_119 ?_
              refine T_isub (pc := 120) dX12_holdsLine_120 ?_
              refine R_iast (pc := 121) kc_579 lc_579 (by omega) (by first | decide | assumption) dX12_holdsLine_121 ?_
              refine T_goto (pc := 122) (tgt := 265) dX12_holdsLine_122 (by decide) ?_
              refine R_iinc (pc := 265) (i := 7) (n := 1) (ls' := [some (.ref 572), some (.int (nI k)), some (.int (nI r)), some (.int (nI p)), some (.int (nI n)), some (.int (nI (t.length + 1))), some (.int (nI (340 + 2 * k))), some (.int (nI (ofL LL k + j + 1))), some (.int (nI 10)), none, none, none]) dX12_holdsLine_265 rfl rfl ?_
              refine T_goto (pc := 268) (tgt := 21) dX12_holdsLine_268 (by decide) ?_
              refine T_ls (ls' := [some (.ref 572), some (.int (nI k)), some (.int (nI r)), some (.int (nI p)), some (.int (nI n)), some (.int (nI (t.length + 1))), some (.int (nI (340 + 2 * k))), some (.int (nI (ofL LL k + j + 1))), none, none, none, none]) (And.intro rfl (And.intro rfl (And.intro rfl (And.intro rfl (And.intro rfl (And.intro rfl (And.intro rfl (And.intro rfl True.intro)))))))) ?_
              exact ihR ((1 - a) :: t) _ (j + 1) _ ht0 ⟨fun _ => by rcases hv.1 rfl with z | z <;> rw [z] <;> decide, hv.2⟩ h17 hd2 (by omega) ⟨e_wI ⟨rfl, rfl⟩, hk2.2.up (by omega)⟩ (OfS.sI hO rfl)
          · exact absurd h2 (by decide)
      · have hb := tyS_binE et h8 h7
        obtain ⟨hp1, hp2, h9⟩ := tyS_bin et h8 h7
        obtain ⟨v, a, t, rfl⟩ : ∃ v a t, st = v :: a :: t := by
          match st, hlen with
          | [], z => rw [← z] at hp1; cases hp1
          | [_], z => rw [← z] at hp1; exact absurd hp1 (by simp)
          | v :: a :: t, _ => exact ⟨v, a, t, rfl⟩
        have hlt : t.length + 2 = ts.length := hlen
        have e8 : stV c (v :: a :: t) s = jnV s a v :: t := by unfold stV; rw [if_neg h8, if_neg h7]
        rw [e8]
        have fin : ∀ (x : Int32) (q : Bool), ts' = q :: ts.drop 2 → (q = true → x = 0 ∨ x = 1) → jnV s a v = x → T γ 6 0 0 M_X12_holdsLine (Rm (some (.int (bI (decide ((rest'.foldl (stV c) (jnV s a v :: t)).headD 0 ≠ 0))))) (fun m => OfS S9 μ m)) 0 0 21 [some (.ref 572), some (.int (nI k)), some (.int (nI r)), some (.int (nI p)), some (.int (nI n)), some (.int (nI (t.length + 1))), some (.int (nI (340 + 2 * k))), some (.int (nI (ofL LL k + j + 1))), none, none, none, none] [] (rm (wI m 579 (t.length + 1 - 1) x)) := fun x q et' hx ex => by
          rw [ex]
          have hv3 : tyV (ts.drop 2) t := by
            match ts, hv with
            | _ :: _ :: _, h => exact h.2.2
          exact ihR (x :: t) ts' (j + 1) _ ht0 (by rw [et']; exact ⟨hx, hv3⟩) (by omega) hd2 (by omega) ⟨e_wI ⟨rfl, by omega⟩, hk2.2.2.up (by omega)⟩ (OfS.sI hO rfl)
        rcases hb with ⟨rfl, r0, rfl, rfl⟩ | ⟨rfl | rfl, r0, rfl, rfl⟩ | ⟨rfl | rfl, r0, rfl, rfl⟩
        · skip
          refine T_iload (pc := 21) (i := 7) dX12_holdsLine_21 rfl ?_
          refine T_aload_n (pc := 23) (i := 0) dX12_holdsLine_23 rfl rfl ?_
          refine R_getR (pc := 24) (i := 573) fl_X12_29 rfl kc_572 lc_572 rc_572_1 dX12_holdsLine_24 ?_
          refine T_iload (pc := 27) (i := 6) dX12_holdsLine_27 rfl ?_
          refine T_iconst (pc := 29) (v := nI 1) dX12_holdsLine_29 (by decide) ?_
          refine R_iadd (pc := 30) dX12_holdsLine_30 ?_
          refine R_iald (pc := 31) (x := nI (ofL LL (k + 1))) kc_573 lc_573 (by omega) (by first | decide | assumption) hend dX12_holdsLine_31 ?_
          refine R_icmp_ge (pc := 32) (tgt := 271) (by omega) (by omega) dX12_holdsLine_32 (by decide) (fun h1 => ?_) (fun h1 => ?_)
          · exact absurd h1 (by omega)
          · skip
            refine T_aload_n (pc := 35) (i := 0) dX12_holdsLine_35 rfl rfl ?_
            refine R_getR (pc := 36) (i := 573) fl_X12_29 rfl kc_572 lc_572 rc_572_1 dX12_holdsLine_36 ?_
            refine T_sipush (pc := 39) (v := nI 364) dX12_holdsLine_39 (by decide) ?_
            refine T_iconst (pc := 42) (v := nI 2) dX12_holdsLine_42 (by decide) ?_
            refine T_iload (pc := 43) (i := 7) dX12_holdsLine_43 rfl ?_
            refine R_imul (pc := 45) dX12_holdsLine_45 ?_
            refine R_iadd (pc := 46) dX12_holdsLine_46 ?_
            refine R_iald (pc := 47) (x := nI 7) kc_573 lc_573 (by omega) (by first | decide | assumption) hstep dX12_holdsLine_47 ?_
            refine T_istore (pc := 48) (i := 8) (ls' := [some (.ref 572), some (.int (nI k)), some (.int (nI r)), some (.int (nI p)), some (.int (nI n)), some (.int (nI (t.length + 2))), some (.int (nI (340 + 2 * k))), some (.int (nI (ofL LL k + j))), some (.int (nI 7)), none, none, none]) dX12_holdsLine_48 (by decide) rfl ?_
            refine T_iload (pc := 50) (i := 8) dX12_holdsLine_50 rfl ?_
            refine T_bipush (pc := 52) (v := nI 6) dX12_holdsLine_52 (by decide) ?_
            refine R_icmp_gt (pc := 54) (tgt := 95) (by omega) (by omega) dX12_holdsLine_54 (by decide) (fun h2 => ?_) (fun h2 => ?_)
            · skip
              refine T_iload (pc := 95) (i := 8) dX12_holdsLine_95 rfl ?_
              refine T_bipush (pc := 97) (v := nI 10) dX12_holdsLine_97 (by decide) ?_
              refine R_icmp_ne (pc := 99) (tgt := 125) (by omega) (by omega) dX12_holdsLine_99 (by decide) (fun h3 => ?_) (fun h3 => ?_)
              · skip
                refine R_idec (pc := 125) (i := 5) (ls' := [some (.ref 572), some (.int (nI k)), some (.int (nI r)), some (.int (nI p)), some (.int (nI n)), some (.int (nI (t.length + 2 - 1))), some (.int (nI (340 + 2 * k))), some (.int (nI (ofL LL k + j))), some (.int (nI 7)), none, none, none]) dX12_holdsLine_125 (by omega) rfl rfl ?_
                refine T_aload_n (pc := 128) (i := 0) dX12_holdsLine_128 rfl rfl ?_
                refine R_getR (pc := 129) (i := 579) fl_X12_52 rfl kc_572 lc_572 rc_572_18 dX12_holdsLine_129 ?_
                refine T_iload (pc := 132) (i := 5) dX12_holdsLine_132 rfl ?_
                refine T_iconst (pc := 134) (v := nI 1) dX12_holdsLine_134 (by decide) ?_
                refine R_isub (pc := 135) (by omega) dX12_holdsLine_135 ?_
                refine R_iald (pc := 136) (x := a) kc_579 lc_579 (by omega) (by first | decide | assumption) hk2.2.1 dX12_holdsLine_136 ?_
                refine T_istore (pc := 137) (i := 9) (ls' := [some (.ref 572), some (.int (nI k)), some (.int (nI r)), some (.int (nI p)), some (.int (nI n)), some (.int (nI (t.length + 2 - 1))), some (.int (nI (340 + 2 * k))), some (.int (nI (ofL LL k + j))), some (.int (nI 7)), some (.int (a)), none, none]) dX12_holdsLine_137 (by decide) rfl ?_
                refine T_aload_n (pc := 139) (i := 0) dX12_holdsLine_139 rfl rfl ?_
                refine R_getR (pc := 140) (i := 579) fl_X12_52 rfl kc_572 lc_572 rc_572_18 dX12_holdsLine_140 ?_
                refine T_iload (pc := 143) (i := 5) dX12_holdsLine_143 rfl ?_
                refine R_iald (pc := 145) (x := v) kc_579 lc_579 (by omega) (by first | decide | assumption) hk2.1 dX12_holdsLine_145 ?_
                refine T_istore (pc := 146) (i := 10) (ls' := [some (.ref 572), some (.int (nI k)), some (.int (nI r)), some (.int (nI p)), some (.int (nI n)), some (.int (nI (t.length + 2 - 1))), some (.int (nI (340 + 2 * k))), some (.int (nI (ofL LL k + j))), some (.int (nI 7)), some (.int (a)), some (.int (v)), none]) dX12_holdsLine_146 (by decide) rfl ?_
                refine T_iload (pc := 148) (i := 8) dX12_holdsLine_148 rfl ?_
                refine T_bipush (pc := 150) (v := nI 8) dX12_holdsLine_150 (by decide) ?_
                refine R_icmp_ne (pc := 152) (tgt := 170) (by omega) (by omega) dX12_holdsLine_152 (by decide) (fun c1 => ?_) (fun c1 => ?_)
                · skip
                  refine T_iload (pc := 170) (i := 8) dX12_holdsLine_170 rfl ?_
                  refine T_bipush (pc := 172) (v := nI 9) dX12_holdsLine_172 (by decide) ?_
                  refine R_icmp_ne (pc := 174) (tgt := 192) (by omega) (by omega) dX12_holdsLine_174 (by decide) (fun c2 => ?_) (fun c2 => ?_)
                  · skip
                    refine T_iload (pc := 192) (i := 8) dX12_holdsLine_192 rfl ?_
                    refine T_bipush (pc := 194) (v := nI 11) dX12_holdsLine_194 (by decide) ?_
                    refine R_icmp_ne (pc := 196) (tgt := 216) (by omega) (by omega) dX12_holdsLine_196 (by decide) (fun c3 => ?_) (fun c3 => ?_)
                    · skip
                      refine T_iload (pc := 216) (i := 9) dX12_holdsLine_216 rfl ?_
                      refine T_iload (pc := 218) (i := 10) dX12_holdsLine_218 rfl ?_
                      refine T_iadd (pc := 220) dX12_holdsLine_220 ?_
                      refine T_if_le (pc := 221) (tgt := 228) dX12_holdsLine_221 (by decide) (fun c4 => ?_) (fun c4 => ?_)
                      · skip
                        refine T_iconst (pc := 228) (v := nI 0) dX12_holdsLine_228 (by decide) ?_
                        refine T_istore (pc := 229) (i := 11) (ls' := [some (.ref 572), some (.int (nI k)), some (.int (nI r)), some (.int (nI p)), some (.int (nI n)), some (.int (nI (t.length + 2 - 1))), some (.int (nI (340 + 2 * k))), some (.int (nI (ofL LL k + j))), some (.int (nI 7)), some (.int (a)), some (.int (v)), some (.int (nI 0))]) dX12_holdsLine_229 (by decide) rfl ?_
                        refine T_aload_n (pc := 231) (i := 0) dX12_holdsLine_231 rfl rfl ?_
                        refine R_getR (pc := 232) (i := 579) fl_X12_52 rfl kc_572 lc_572 rc_572_18 dX12_holdsLine_232 ?_
                        refine T_iload (pc := 235) (i := 5) dX12_holdsLine_235 rfl ?_
                        refine T_iconst (pc := 237) (v := nI 1) dX12_holdsLine_237 (by decide) ?_
                        refine R_isub (pc := 238) (by omega) dX12_holdsLine_238 ?_
                        refine T_iload (pc := 239) (i := 8) dX12_holdsLine_239 rfl ?_
                        refine T_bipush (pc := 241) (v := nI 7) dX12_holdsLine_241 (by decide) ?_
                        refine R_icmp_ne (pc := 243) (tgt := 254) (by omega) (by omega) dX12_holdsLine_243 (by decide) (fun g1 => ?_) (fun g1 => ?_)
                        · exact absurd rfl g1
                        · skip
                          refine T_iload (pc := 246) (i := 9) dX12_holdsLine_246 rfl ?_
                          refine T_iload (pc := 248) (i := 10) dX12_holdsLine_248 rfl ?_
                          refine T_iadd (pc := 250) dX12_holdsLine_250 ?_
                          refine T_goto (pc := 251) (tgt := 264) dX12_holdsLine_251 (by decide) ?_
                          refine R_iast (pc := 264) kc_579 lc_579 (by omega) (by first | decide | assumption) dX12_holdsLine_264 ?_
                          refine R_iinc (pc := 265) (i := 7) (n := 1) (ls' := [some (.ref 572), some (.int (nI k)), some (.int (nI r)), some (.int (nI p)), some (.int (nI n)), some (.int (nI (t.length + 2 - 1))), some (.int (nI (340 + 2 * k))), some (.int (nI (ofL LL k + j + 1))), some (.int (nI 7)), some (.int (a)), some (.int (v)), some (.int (nI 0))]) dX12_holdsLine_265 rfl rfl ?_
                          refine T_goto (pc := 268) (tgt := 21) dX12_holdsLine_268 (by decide) ?_
                          refine T_ls (ls' := [some (.ref 572), some (.int (nI k)), some (.int (nI r)), some (.int (nI p)), some (.int (nI n)), some (.int (nI (t.length + 2 - 1))), some (.int (nI (340 + 2 * k))), some (.int (nI (ofL LL k + j + 1))), none, none, none, none]) (And.intro rfl (And.intro rfl (And.intro rfl (And.intro rfl (And.intro rfl (And.intro rfl (And.intro rfl (And.intro rfl True.intro)))))))) ?_
                          exact fin (a + v) false rfl (fun z => Bool.noConfusion z) (rfl)
                      · skip
                        refine T_iconst (pc := 224) (v := nI 1) dX12_holdsLine_224 (by decide) ?_
                        refine T_goto (pc := 225) (tgt := 229) dX12_holdsLine_225 (by decide) ?_
                        refine T_istore (pc := 229) (i := 11) (ls' := [some (.ref 572), some (.int (nI k)), some (.int (nI r)), some (.int (nI p)), some (.int (nI n)), some (.int (nI (t.length + 2 - 1))), some (.int (nI (340 + 2 * k))), some (.int (nI (ofL LL k + j))), some (.int (nI 7)), some (.int (a)), some (.int (v)), some (.int (nI 1))]) dX12_holdsLine_229 (by decide) rfl ?_
                        refine T_aload_n (pc := 231) (i := 0) dX12_holdsLine_231 rfl rfl ?_
                        refine R_getR (pc := 232) (i := 579) fl_X12_52 rfl kc_572 lc_572 rc_572_18 dX12_holdsLine_232 ?_
                        refine T_iload (pc := 235) (i := 5) dX12_holdsLine_235 rfl ?_
                        refine T_iconst (pc := 237) (v := nI 1) dX12_holdsLine_237 (by decide) ?_
                        refine R_isub (pc := 238) (by omega) dX12_holdsLine_238 ?_
                        refine T_iload (pc := 239) (i := 8) dX12_holdsLine_239 rfl ?_
                        refine T_bipush (pc := 241) (v := nI 7) dX12_holdsLine_241 (by decide) ?_
                        refine R_icmp_ne (pc := 243) (tgt := 254) (by omega) (by omega) dX12_holdsLine_243 (by decide) (fun g1 => ?_) (fun g1 => ?_)
                        · exact absurd rfl g1
                        · skip
                          refine T_iload (pc := 246) (i := 9) dX12_holdsLine_246 rfl ?_
                          refine T_iload (pc := 248) (i := 10) dX12_holdsLine_248 rfl ?_
                          refine T_iadd (pc := 250) dX12_holdsLine_250 ?_
                          refine T_goto (pc := 251) (tgt := 264) dX12_holdsLine_251 (by decide) ?_
                          refine R_iast (pc := 264) kc_579 lc_579 (by omega) (by first | decide | assumption) dX12_holdsLine_264 ?_
                          refine R_iinc (pc := 265) (i := 7) (n := 1) (ls' := [some (.ref 572), some (.int (nI k)), some (.int (nI r)), some (.int (nI p)), some (.int (nI n)), some (.int (nI (t.length + 2 - 1))), some (.int (nI (340 + 2 * k))), some (.int (nI (ofL LL k + j + 1))), some (.int (nI 7)), some (.int (a)), some (.int (v)), some (.int (nI 1))]) dX12_holdsLine_265 rfl rfl ?_
                          refine T_goto (pc := 268) (tgt := 21) dX12_holdsLine_268 (by decide) ?_
                          refine T_ls (ls' := [some (.ref 572), some (.int (nI k)), some (.int (nI r)), some (.int (nI p)), some (.int (nI n)), some (.int (nI (t.length + 2 - 1))), some (.int (nI (340 + 2 * k))), some (.int (nI (ofL LL k + j + 1))), none, none, none, none]) (And.intro rfl (And.intro rfl (And.intro rfl (And.intro rfl (And.intro rfl (And.intro rfl (And.intro rfl (And.intro rfl True.intro)))))))) ?_
                          exact fin (a + v) false rfl (fun z => Bool.noConfusion z) (rfl)
                    · exact absurd c3 (by decide)
                  · exact absurd c2 (by decide)
                · exact absurd c1 (by decide)
              · exact absurd h3 (by decide)
            · exact absurd h2 (by decide)
        · skip
          refine T_iload (pc := 21) (i := 7) dX12_holdsLine_21 rfl ?_
          refine T_aload_n (pc := 23) (i := 0) dX12_holdsLine_23 rfl rfl ?_
          refine R_getR (pc := 24) (i := 573) fl_X12_29 rfl kc_572 lc_572 rc_572_1 dX12_holdsLine_24 ?_
          refine T_iload (pc := 27) (i := 6) dX12_holdsLine_27 rfl ?_
          refine T_iconst (pc := 29) (v := nI 1) dX12_holdsLine_29 (by decide) ?_
          refine R_iadd (pc := 30) dX12_holdsLine_30 ?_
          refine R_iald (pc := 31) (x := nI (ofL LL (k + 1))) kc_573 lc_573 (by omega) (by first | decide | assumption) hend dX12_holdsLine_31 ?_
          refine R_icmp_ge (pc := 32) (tgt := 271) (by omega) (by omega) dX12_holdsLine_32 (by decide) (fun h1 => ?_) (fun h1 => ?_)
          · exact absurd h1 (by omega)
          · skip
            refine T_aload_n (pc := 35) (i := 0) dX12_holdsLine_35 rfl rfl ?_
            refine R_getR (pc := 36) (i := 573) fl_X12_29 rfl kc_572 lc_572 rc_572_1 dX12_holdsLine_36 ?_
            refine T_sipush (pc := 39) (v := nI 364) dX12_holdsLine_39 (by decide) ?_
            refine T_iconst (pc := 42) (v := nI 2) dX12_holdsLine_42 (by decide) ?_
            refine T_iload (pc := 43) (i := 7) dX12_holdsLine_43 rfl ?_
            refine R_imul (pc := 45) dX12_holdsLine_45 ?_
            refine R_iadd (pc := 46) dX12_holdsLine_46 ?_
            refine R_iald (pc := 47) (x := nI 8) kc_573 lc_573 (by omega) (by first | decide | assumption) hstep dX12_holdsLine_47 ?_
            refine T_istore (pc := 48) (i := 8) (ls' := [some (.ref 572), some (.int (nI k)), some (.int (nI r)), some (.int (nI p)), some (.int (nI n)), some (.int (nI (t.length + 2))), some (.int (nI (340 + 2 * k))), some (.int (nI (ofL LL k + j))), some (.int (nI 8)), none, none, none]) dX12_holdsLine_48 (by decide) rfl ?_
            refine T_iload (pc := 50) (i := 8) dX12_holdsLine_50 rfl ?_
            refine T_bipush (pc := 52) (v := nI 6) dX12_holdsLine_52 (by decide) ?_
            refine R_icmp_gt (pc := 54) (tgt := 95) (by omega) (by omega) dX12_holdsLine_54 (by decide) (fun h2 => ?_) (fun h2 => ?_)
            · skip
              refine T_iload (pc := 95) (i := 8) dX12_holdsLine_95 rfl ?_
              refine T_bipush (pc := 97) (v := nI 10) dX12_holdsLine_97 (by decide) ?_
              refine R_icmp_ne (pc := 99) (tgt := 125) (by omega) (by omega) dX12_holdsLine_99 (by decide) (fun h3 => ?_) (fun h3 => ?_)
              · skip
                refine R_idec (pc := 125) (i := 5) (ls' := [some (.ref 572), some (.int (nI k)), some (.int (nI r)), some (.int (nI p)), some (.int (nI n)), some (.int (nI (t.length + 2 - 1))), some (.int (nI (340 + 2 * k))), some (.int (nI (ofL LL k + j))), some (.int (nI 8)), none, none, none]) dX12_holdsLine_125 (by omega) rfl rfl ?_
                refine T_aload_n (pc := 128) (i := 0) dX12_holdsLine_128 rfl rfl ?_
                refine R_getR (pc := 129) (i := 579) fl_X12_52 rfl kc_572 lc_572 rc_572_18 dX12_holdsLine_129 ?_
                refine T_iload (pc := 132) (i := 5) dX12_holdsLine_132 rfl ?_
                refine T_iconst (pc := 134) (v := nI 1) dX12_holdsLine_134 (by decide) ?_
                refine R_isub (pc := 135) (by omega) dX12_holdsLine_135 ?_
                refine R_iald (pc := 136) (x := a) kc_579 lc_579 (by omega) (by first | decide | assumption) hk2.2.1 dX12_holdsLine_136 ?_
                refine T_istore (pc := 137) (i := 9) (ls' := [some (.ref 572), some (.int (nI k)), some (.int (nI r)), some (.int (nI p)), some (.int (nI n)), some (.int (nI (t.length + 2 - 1))), some (.int (nI (340 + 2 * k))), some (.int (nI (ofL LL k + j))), some (.int (nI 8)), some (.int (a)), none, none]) dX12_holdsLine_137 (by decide) rfl ?_
                refine T_aload_n (pc := 139) (i := 0) dX12_holdsLine_139 rfl rfl ?_
                refine R_getR (pc := 140) (i := 579) fl_X12_52 rfl kc_572 lc_572 rc_572_18 dX12_holdsLine_140 ?_
                refine T_iload (pc := 143) (i := 5) dX12_holdsLine_143 rfl ?_
                refine R_iald (pc := 145) (x := v) kc_579 lc_579 (by omega) (by first | decide | assumption) hk2.1 dX12_holdsLine_145 ?_
                refine T_istore (pc := 146) (i := 10) (ls' := [some (.ref 572), some (.int (nI k)), some (.int (nI r)), some (.int (nI p)), some (.int (nI n)), some (.int (nI (t.length + 2 - 1))), some (.int (nI (340 + 2 * k))), some (.int (nI (ofL LL k + j))), some (.int (nI 8)), some (.int (a)), some (.int (v)), none]) dX12_holdsLine_146 (by decide) rfl ?_
                refine T_iload (pc := 148) (i := 8) dX12_holdsLine_148 rfl ?_
                refine T_bipush (pc := 150) (v := nI 8) dX12_holdsLine_150 (by decide) ?_
                refine R_icmp_ne (pc := 152) (tgt := 170) (by omega) (by omega) dX12_holdsLine_152 (by decide) (fun c1 => ?_) (fun c1 => ?_)
                · exact absurd rfl c1
                · skip
                  refine T_iload (pc := 155) (i := 9) dX12_holdsLine_155 rfl ?_
                  refine T_iload (pc := 157) (i := 10) dX12_holdsLine_157 rfl ?_
                  refine T_icmp_ge (pc := 159) (tgt := 166) dX12_holdsLine_159 (by decide) (fun c4 => ?_) (fun c4 => ?_)
                  · skip
                    refine T_iconst (pc := 166) (v := nI 0) dX12_holdsLine_166 (by decide) ?_
                    refine T_goto (pc := 167) (tgt := 229) dX12_holdsLine_167 (by decide) ?_
                    refine T_istore (pc := 229) (i := 11) (ls' := [some (.ref 572), some (.int (nI k)), some (.int (nI r)), some (.int (nI p)), some (.int (nI n)), some (.int (nI (t.length + 2 - 1))), some (.int (nI (340 + 2 * k))), some (.int (nI (ofL LL k + j))), some (.int (nI 8)), some (.int (a)), some (.int (v)), some (.int (nI 0))]) dX12_holdsLine_229 (by decide) rfl ?_
                    refine T_aload_n (pc := 231) (i := 0) dX12_holdsLine_231 rfl rfl ?_
                    refine R_getR (pc := 232) (i := 579) fl_X12_52 rfl kc_572 lc_572 rc_572_18 dX12_holdsLine_232 ?_
                    refine T_iload (pc := 235) (i := 5) dX12_holdsLine_235 rfl ?_
                    refine T_iconst (pc := 237) (v := nI 1) dX12_holdsLine_237 (by decide) ?_
                    refine R_isub (pc := 238) (by omega) dX12_holdsLine_238 ?_
                    refine T_iload (pc := 239) (i := 8) dX12_holdsLine_239 rfl ?_
                    refine T_bipush (pc := 241) (v := nI 7) dX12_holdsLine_241 (by decide) ?_
                    refine R_icmp_ne (pc := 243) (tgt := 254) (by omega) (by omega) dX12_holdsLine_243 (by decide) (fun g1 => ?_) (fun g1 => ?_)
                    · skip
                      refine T_iload (pc := 254) (i := 11) dX12_holdsLine_254 rfl ?_
                      refine R_if_eq (pc := 256) (tgt := 263) (by omega) dX12_holdsLine_256 (by decide) (fun g2 => ?_) (fun g2 => ?_)
                      · skip
                        refine T_iconst (pc := 263) (v := nI 0) dX12_holdsLine_263 (by decide) ?_
                        refine R_iast (pc := 264) kc_579 lc_579 (by omega) (by first | decide | assumption) dX12_holdsLine_264 ?_
                        refine R_iinc (pc := 265) (i := 7) (n := 1) (ls' := [some (.ref 572), some (.int (nI k)), some (.int (nI r)), some (.int (nI p)), some (.int (nI n)), some (.int (nI (t.length + 2 - 1))), some (.int (nI (340 + 2 * k))), some (.int (nI (ofL LL k + j + 1))), some (.int (nI 8)), some (.int (a)), some (.int (v)), some (.int (nI 0))]) dX12_holdsLine_265 rfl rfl ?_
                        refine T_goto (pc := 268) (tgt := 21) dX12_holdsLine_268 (by decide) ?_
                        refine T_ls (ls' := [some (.ref 572), some (.int (nI k)), some (.int (nI r)), some (.int (nI p)), some (.int (nI n)), some (.int (nI (t.length + 2 - 1))), some (.int (nI (340 + 2 * k))), some (.int (nI (ofL LL k + j + 1))), none, none, none, none]) (And.intro rfl (And.intro rfl (And.intro rfl (And.intro rfl (And.intro rfl (And.intro rfl (And.intro rfl (And.intro rfl True.intro)))))))) ?_
                        exact fin (0) true rfl (fun _ => Or.inl rfl) (if_neg (fun z => absurd c4 (i_nle.mpr z)))
                      · exact absurd rfl g2
                    · exact absurd g1 (by decide)
                  · skip
                    refine T_iconst (pc := 162) (v := nI 1) dX12_holdsLine_162 (by decide) ?_
                    refine T_goto (pc := 163) (tgt := 229) dX12_holdsLine_163 (by decide) ?_
                    refine T_istore (pc := 229) (i := 11) (ls' := [some (.ref 572), some (.int (nI k)), some (.int (nI r)), some (.int (nI p)), some (.int (nI n)), some (.int (nI (t.length + 2 - 1))), some (.int (nI (340 + 2 * k))), some (.int (nI (ofL LL k + j))), some (.int (nI 8)), some (.int (a)), some (.int (v)), some (.int (nI 1))]) dX12_holdsLine_229 (by decide) rfl ?_
                    refine T_aload_n (pc := 231) (i := 0) dX12_holdsLine_231 rfl rfl ?_
                    refine R_getR (pc := 232) (i := 579) fl_X12_52 rfl kc_572 lc_572 rc_572_18 dX12_holdsLine_232 ?_
                    refine T_iload (pc := 235) (i := 5) dX12_holdsLine_235 rfl ?_
                    refine T_iconst (pc := 237) (v := nI 1) dX12_holdsLine_237 (by decide) ?_
                    refine R_isub (pc := 238) (by omega) dX12_holdsLine_238 ?_
                    refine T_iload (pc := 239) (i := 8) dX12_holdsLine_239 rfl ?_
                    refine T_bipush (pc := 241) (v := nI 7) dX12_holdsLine_241 (by decide) ?_
                    refine R_icmp_ne (pc := 243) (tgt := 254) (by omega) (by omega) dX12_holdsLine_243 (by decide) (fun g1 => ?_) (fun g1 => ?_)
                    · skip
                      refine T_iload (pc := 254) (i := 11) dX12_holdsLine_254 rfl ?_
                      refine R_if_eq (pc := 256) (tgt := 263) (by omega) dX12_holdsLine_256 (by decide) (fun g2 => ?_) (fun g2 => ?_)
                      · exact absurd g2 (by decide)
                      · skip
                        refine T_iconst (pc := 259) (v := nI 1) dX12_holdsLine_259 (by decide) ?_
                        refine T_goto (pc := 260) (tgt := 264) dX12_holdsLine_260 (by decide) ?_
                        refine R_iast (pc := 264) kc_579 lc_579 (by omega) (by first | decide | assumption) dX12_holdsLine_264 ?_
                        refine R_iinc (pc := 265) (i := 7) (n := 1) (ls' := [some (.ref 572), some (.int (nI k)), some (.int (nI r)), some (.int (nI p)), some (.int (nI n)), some (.int (nI (t.length + 2 - 1))), some (.int (nI (340 + 2 * k))), some (.int (nI (ofL LL k + j + 1))), some (.int (nI 8)), some (.int (a)), some (.int (v)), some (.int (nI 1))]) dX12_holdsLine_265 rfl rfl ?_
                        refine T_goto (pc := 268) (tgt := 21) dX12_holdsLine_268 (by decide) ?_
                        refine T_ls (ls' := [some (.ref 572), some (.int (nI k)), some (.int (nI r)), some (.int (nI p)), some (.int (nI n)), some (.int (nI (t.length + 2 - 1))), some (.int (nI (340 + 2 * k))), some (.int (nI (ofL LL k + j + 1))), none, none, none, none]) (And.intro rfl (And.intro rfl (And.intro rfl (And.intro rfl (And.intro rfl (And.intro rfl (And.intro rfl (And.intro rfl True.intro)))))))) ?_
                        exact fin (1) true rfl (fun _ => Or.inr rfl) (if_pos (i_nle.mp c4))
                    · exact absurd g1 (by decide)
              · exact absurd h3 (by decide)
            · exact absurd h2 (by decide)
        · skip
          refine T_iload (pc := 21) (i := 7) dX12_holdsLine_21 rfl ?_
          refine T_aload_n (pc := 23) (i := 0) dX12_holdsLine_23 rfl rfl ?_
          refine R_getR (pc := 24) (i := 573) fl_X12_29 rfl kc_572 lc_572 rc_572_1 dX12_holdsLine_24 ?_
          refine T_iload (pc := 27) (i := 6) dX12_holdsLine_27 rfl ?_
          refine T_iconst (pc := 29) (v := nI 1) dX12_holdsLine_29 (by decide) ?_
          refine R_iadd (pc := 30) dX12_holdsLine_30 ?_
          refine R_iald (pc := 31) (x := nI (ofL LL (k + 1))) kc_573 lc_573 (by omega) (by first | decide | assumption) hend dX12_holdsLine_31 ?_
          refine R_icmp_ge (pc := 32) (tgt := 271) (by omega) (by omega) dX12_holdsLine_32 (by decide) (fun h1 => ?_) (fun h1 => ?_)
          · exact absurd h1 (by omega)
          · skip
            refine T_aload_n (pc := 35) (i := 0) dX12_holdsLine_35 rfl rfl ?_
            refine R_getR (pc := 36) (i := 573) fl_X12_29 rfl kc_572 lc_572 rc_572_1 dX12_holdsLine_36 ?_
            refine T_sipush (pc := 39) (v := nI 364) dX12_holdsLine_39 (by decide) ?_
            refine T_iconst (pc := 42) (v := nI 2) dX12_holdsLine_42 (by decide) ?_
            refine T_iload (pc := 43) (i := 7) dX12_holdsLine_43 rfl ?_
            refine R_imul (pc := 45) dX12_holdsLine_45 ?_
            refine R_iadd (pc := 46) dX12_holdsLine_46 ?_
            refine R_iald (pc := 47) (x := nI 9) kc_573 lc_573 (by omega) (by first | decide | assumption) hstep dX12_holdsLine_47 ?_
            refine T_istore (pc := 48) (i := 8) (ls' := [some (.ref 572), some (.int (nI k)), some (.int (nI r)), some (.int (nI p)), some (.int (nI n)), some (.int (nI (t.length + 2))), some (.int (nI (340 + 2 * k))), some (.int (nI (ofL LL k + j))), some (.int (nI 9)), none, none, none]) dX12_holdsLine_48 (by decide) rfl ?_
            refine T_iload (pc := 50) (i := 8) dX12_holdsLine_50 rfl ?_
            refine T_bipush (pc := 52) (v := nI 6) dX12_holdsLine_52 (by decide) ?_
            refine R_icmp_gt (pc := 54) (tgt := 95) (by omega) (by omega) dX12_holdsLine_54 (by decide) (fun h2 => ?_) (fun h2 => ?_)
            · skip
              refine T_iload (pc := 95) (i := 8) dX12_holdsLine_95 rfl ?_
              refine T_bipush (pc := 97) (v := nI 10) dX12_holdsLine_97 (by decide) ?_
              refine R_icmp_ne (pc := 99) (tgt := 125) (by omega) (by omega) dX12_holdsLine_99 (by decide) (fun h3 => ?_) (fun h3 => ?_)
              · skip
                refine R_idec (pc := 125) (i := 5) (ls' := [some (.ref 572), some (.int (nI k)), some (.int (nI r)), some (.int (nI p)), some (.int (nI n)), some (.int (nI (t.length + 2 - 1))), some (.int (nI (340 + 2 * k))), some (.int (nI (ofL LL k + j))), some (.int (nI 9)), none, none, none]) dX12_holdsLine_125 (by omega) rfl rfl ?_
                refine T_aload_n (pc := 128) (i := 0) dX12_holdsLine_128 rfl rfl ?_
                refine R_getR (pc := 129) (i := 579) fl_X12_52 rfl kc_572 lc_572 rc_572_18 dX12_holdsLine_129 ?_
                refine T_iload (pc := 132) (i := 5) dX12_holdsLine_132 rfl ?_
                refine T_iconst (pc := 134) (v := nI 1) dX12_holdsLine_134 (by decide) ?_
                refine R_isub (pc := 135) (by omega) dX12_holdsLine_135 ?_
                refine R_iald (pc := 136) (x := a) kc_579 lc_579 (by omega) (by first | decide | assumption) hk2.2.1 dX12_holdsLine_136 ?_
                refine T_istore (pc := 137) (i := 9) (ls' := [some (.ref 572), some (.int (nI k)), some (.int (nI r)), some (.int (nI p)), some (.int (nI n)), some (.int (nI (t.length + 2 - 1))), some (.int (nI (340 + 2 * k))), some (.int (nI (ofL LL k + j))), some (.int (nI 9)), some (.int (a)), none, none]) dX12_holdsLine_137 (by decide) rfl ?_
                refine T_aload_n (pc := 139) (i := 0) dX12_holdsLine_139 rfl rfl ?_
                refine R_getR (pc := 140) (i := 579) fl_X12_52 rfl kc_572 lc_572 rc_572_18 dX12_holdsLine_140 ?_
                refine T_iload (pc := 143) (i := 5) dX12_holdsLine_143 rfl ?_
                refine R_iald (pc := 145) (x := v) kc_579 lc_579 (by omega) (by first | decide | assumption) hk2.1 dX12_holdsLine_145 ?_
                refine T_istore (pc := 146) (i := 10) (ls' := [some (.ref 572), some (.int (nI k)), some (.int (nI r)), some (.int (nI p)), some (.int (nI n)), some (.int (nI (t.length + 2 - 1))), some (.int (nI (340 + 2 * k))), some (.int (nI (ofL LL k + j))), some (.int (nI 9)), some (.int (a)), some (.int (v)), none]) dX12_holdsLine_146 (by decide) rfl ?_
                refine T_iload (pc := 148) (i := 8) dX12_holdsLine_148 rfl ?_
                refine T_bipush (pc := 150) (v := nI 8) dX12_holdsLine_150 (by decide) ?_
                refine R_icmp_ne (pc := 152) (tgt := 170) (by omega) (by omega) dX12_holdsLine_152 (by decide) (fun c1 => ?_) (fun c1 => ?_)
                · skip
                  refine T_iload (pc := 170) (i := 8) dX12_holdsLine_170 rfl ?_
                  refine T_bipush (pc := 172) (v := nI 9) dX12_holdsLine_172 (by decide) ?_
                  refine R_icmp_ne (pc := 174) (tgt := 192) (by omega) (by omega) dX12_holdsLine_174 (by decide) (fun c2 => ?_) (fun c2 => ?_)
                  · exact absurd rfl c2
                  · skip
                    refine T_iload (pc := 177) (i := 9) dX12_holdsLine_177 rfl ?_
                    refine T_iload (pc := 179) (i := 10) dX12_holdsLine_179 rfl ?_
                    refine T_icmp_le (pc := 181) (tgt := 188) dX12_holdsLine_181 (by decide) (fun c4 => ?_) (fun c4 => ?_)
                    · skip
                      refine T_iconst (pc := 188) (v := nI 0) dX12_holdsLine_188 (by decide) ?_
                      refine T_goto (pc := 189) (tgt := 229) dX12_holdsLine_189 (by decide) ?_
                      refine T_istore (pc := 229) (i := 11) (ls' := [some (.ref 572), some (.int (nI k)), some (.int (nI r)), some (.int (nI p)), some (.int (nI n)), some (.int (nI (t.length + 2 - 1))), some (.int (nI (340 + 2 * k))), some (.int (nI (ofL LL k + j))), some (.int (nI 9)), some (.int (a)), some (.int (v)), some (.int (nI 0))]) dX12_holdsLine_229 (by decide) rfl ?_
                      refine T_aload_n (pc := 231) (i := 0) dX12_holdsLine_231 rfl rfl ?_
                      refine R_getR (pc := 232) (i := 579) fl_X12_52 rfl kc_572 lc_572 rc_572_18 dX12_holdsLine_232 ?_
                      refine T_iload (pc := 235) (i := 5) dX12_holdsLine_235 rfl ?_
                      refine T_iconst (pc := 237) (v := nI 1) dX12_holdsLine_237 (by decide) ?_
                      refine R_isub (pc := 238) (by omega) dX12_holdsLine_238 ?_
                      refine T_iload (pc := 239) (i := 8) dX12_holdsLine_239 rfl ?_
                      refine T_bipush (pc := 241) (v := nI 7) dX12_holdsLine_241 (by decide) ?_
                      refine R_icmp_ne (pc := 243) (tgt := 254) (by omega) (by omega) dX12_holdsLine_243 (by decide) (fun g1 => ?_) (fun g1 => ?_)
                      · skip
                        refine T_iload (pc := 254) (i := 11) dX12_holdsLine_254 rfl ?_
                        refine R_if_eq (pc := 256) (tgt := 263) (by omega) dX12_holdsLine_256 (by decide) (fun g2 => ?_) (fun g2 => ?_)
                        · skip
                          refine T_iconst (pc := 263) (v := nI 0) dX12_holdsLine_263 (by decide) ?_
                          refine R_iast (pc := 264) kc_579 lc_579 (by omega) (by first | decide | assumption) dX12_holdsLine_264 ?_
                          refine R_iinc (pc := 265) (i := 7) (n := 1) (ls' := [some (.ref 572), some (.int (nI k)), some (.int (nI r)), some (.int (nI p)), some (.int (nI n)), some (.int (nI (t.length + 2 - 1))), some (.int (nI (340 + 2 * k))), some (.int (nI (ofL LL k + j + 1))), some (.int (nI 9)), some (.int (a)), some (.int (v)), some (.int (nI 0))]) dX12_holdsLine_265 rfl rfl ?_
                          refine T_goto (pc := 268) (tgt := 21) dX12_holdsLine_268 (by decide) ?_
                          refine T_ls (ls' := [some (.ref 572), some (.int (nI k)), some (.int (nI r)), some (.int (nI p)), some (.int (nI n)), some (.int (nI (t.length + 2 - 1))), some (.int (nI (340 + 2 * k))), some (.int (nI (ofL LL k + j + 1))), none, none, none, none]) (And.intro rfl (And.intro rfl (And.intro rfl (And.intro rfl (And.intro rfl (And.intro rfl (And.intro rfl (And.intro rfl True.intro)))))))) ?_
                          exact fin (0) true rfl (fun _ => Or.inl rfl) (if_neg (fun z => absurd c4 (i_nle.mpr z)))
                        · exact absurd rfl g2
                      · exact absurd g1 (by decide)
                    · skip
                      refine T_iconst (pc := 184) (v := nI 1) dX12_holdsLine_184 (by decide) ?_
                      refine T_goto (pc := 185) (tgt := 229) dX12_holdsLine_185 (by decide) ?_
                      refine T_istore (pc := 229) (i := 11) (ls' := [some (.ref 572), some (.int (nI k)), some (.int (nI r)), some (.int (nI p)), some (.int (nI n)), some (.int (nI (t.length + 2 - 1))), some (.int (nI (340 + 2 * k))), some (.int (nI (ofL LL k + j))), some (.int (nI 9)), some (.int (a)), some (.int (v)), some (.int (nI 1))]) dX12_holdsLine_229 (by decide) rfl ?_
                      refine T_aload_n (pc := 231) (i := 0) dX12_holdsLine_231 rfl rfl ?_
                      refine R_getR (pc := 232) (i := 579) fl_X12_52 rfl kc_572 lc_572 rc_572_18 dX12_holdsLine_232 ?_
                      refine T_iload (pc := 235) (i := 5) dX12_holdsLine_235 rfl ?_
                      refine T_iconst (pc := 237) (v := nI 1) dX12_holdsLine_237 (by decide) ?_
                      refine R_isub (pc := 238) (by omega) dX12_holdsLine_238 ?_
                      refine T_iload (pc := 239) (i := 8) dX12_holdsLine_239 rfl ?_
                      refine T_bipush (pc := 241) (v := nI 7) dX12_holdsLine_241 (by decide) ?_
                      refine R_icmp_ne (pc := 243) (tgt := 254) (by omega) (by omega) dX12_holdsLine_243 (by decide) (fun g1 => ?_) (fun g1 => ?_)
                      · skip
                        refine T_iload (pc := 254) (i := 11) dX12_holdsLine_254 rfl ?_
                        refine R_if_eq (pc := 256) (tgt := 263) (by omega) dX12_holdsLine_256 (by decide) (fun g2 => ?_) (fun g2 => ?_)
                        · exact absurd g2 (by decide)
                        · skip
                          refine T_iconst (pc := 259) (v := nI 1) dX12_holdsLine_259 (by decide) ?_
                          refine T_goto (pc := 260) (tgt := 264) dX12_holdsLine_260 (by decide) ?_
                          refine R_iast (pc := 264) kc_579 lc_579 (by omega) (by first | decide | assumption) dX12_holdsLine_264 ?_
                          refine R_iinc (pc := 265) (i := 7) (n := 1) (ls' := [some (.ref 572), some (.int (nI k)), some (.int (nI r)), some (.int (nI p)), some (.int (nI n)), some (.int (nI (t.length + 2 - 1))), some (.int (nI (340 + 2 * k))), some (.int (nI (ofL LL k + j + 1))), some (.int (nI 9)), some (.int (a)), some (.int (v)), some (.int (nI 1))]) dX12_holdsLine_265 rfl rfl ?_
                          refine T_goto (pc := 268) (tgt := 21) dX12_holdsLine_268 (by decide) ?_
                          refine T_ls (ls' := [some (.ref 572), some (.int (nI k)), some (.int (nI r)), some (.int (nI p)), some (.int (nI n)), some (.int (nI (t.length + 2 - 1))), some (.int (nI (340 + 2 * k))), some (.int (nI (ofL LL k + j + 1))), none, none, none, none]) (And.intro rfl (And.intro rfl (And.intro rfl (And.intro rfl (And.intro rfl (And.intro rfl (And.intro rfl (And.intro rfl True.intro)))))))) ?_
                          exact fin (1) true rfl (fun _ => Or.inr rfl) (if_pos (i_nle.mp c4))
                      · exact absurd g1 (by decide)
                · exact absurd c1 (by decide)
              · exact absurd h3 (by decide)
            · exact absurd h2 (by decide)
        · skip
          refine T_iload (pc := 21) (i := 7) dX12_holdsLine_21 rfl ?_
          refine T_aload_n (pc := 23) (i := 0) dX12_holdsLine_23 rfl rfl ?_
          refine R_getR (pc := 24) (i := 573) fl_X12_29 rfl kc_572 lc_572 rc_572_1 dX12_holdsLine_24 ?_
          refine T_iload (pc := 27) (i := 6) dX12_holdsLine_27 rfl ?_
          refine T_iconst (pc := 29) (v := nI 1) dX12_holdsLine_29 (by decide) ?_
          refine R_iadd (pc := 30) dX12_holdsLine_30 ?_
          refine R_iald (pc := 31) (x := nI (ofL LL (k + 1))) kc_573 lc_573 (by omega) (by first | decide | assumption) hend dX12_holdsLine_31 ?_
          refine R_icmp_ge (pc := 32) (tgt := 271) (by omega) (by omega) dX12_holdsLine_32 (by decide) (fun h1 => ?_) (fun h1 => ?_)
          · exact absurd h1 (by omega)
          · skip
            refine T_aload_n (pc := 35) (i := 0) dX12_holdsLine_35 rfl rfl ?_
            refine R_getR (pc := 36) (i := 573) fl_X12_29 rfl kc_572 lc_572 rc_572_1 dX12_holdsLine_36 ?_
            refine T_sipush (pc := 39) (v := nI 364) dX12_holdsLine_39 (by decide) ?_
            refine T_iconst (pc := 42) (v := nI 2) dX12_holdsLine_42 (by decide) ?_
            refine T_iload (pc := 43) (i := 7) dX12_holdsLine_43 rfl ?_
            refine R_imul (pc := 45) dX12_holdsLine_45 ?_
            refine R_iadd (pc := 46) dX12_holdsLine_46 ?_
            refine R_iald (pc := 47) (x := nI 11) kc_573 lc_573 (by omega) (by first | decide | assumption) hstep dX12_holdsLine_47 ?_
            refine T_istore (pc := 48) (i := 8) (ls' := [some (.ref 572), some (.int (nI k)), some (.int (nI r)), some (.int (nI p)), some (.int (nI n)), some (.int (nI (t.length + 2))), some (.int (nI (340 + 2 * k))), some (.int (nI (ofL LL k + j))), some (.int (nI 11)), none, none, none]) dX12_holdsLine_48 (by decide) rfl ?_
            refine T_iload (pc := 50) (i := 8) dX12_holdsLine_50 rfl ?_
            refine T_bipush (pc := 52) (v := nI 6) dX12_holdsLine_52 (by decide) ?_
            refine R_icmp_gt (pc := 54) (tgt := 95) (by omega) (by omega) dX12_holdsLine_54 (by decide) (fun h2 => ?_) (fun h2 => ?_)
            · skip
              refine T_iload (pc := 95) (i := 8) dX12_holdsLine_95 rfl ?_
              refine T_bipush (pc := 97) (v := nI 10) dX12_holdsLine_97 (by decide) ?_
              refine R_icmp_ne (pc := 99) (tgt := 125) (by omega) (by omega) dX12_holdsLine_99 (by decide) (fun h3 => ?_) (fun h3 => ?_)
              · skip
                refine R_idec (pc := 125) (i := 5) (ls' := [some (.ref 572), some (.int (nI k)), some (.int (nI r)), some (.int (nI p)), some (.int (nI n)), some (.int (nI (t.length + 2 - 1))), some (.int (nI (340 + 2 * k))), some (.int (nI (ofL LL k + j))), some (.int (nI 11)), none, none, none]) dX12_holdsLine_125 (by omega) rfl rfl ?_
                refine T_aload_n (pc := 128) (i := 0) dX12_holdsLine_128 rfl rfl ?_
                refine R_getR (pc := 129) (i := 579) fl_X12_52 rfl kc_572 lc_572 rc_572_18 dX12_holdsLine_129 ?_
                refine T_iload (pc := 132) (i := 5) dX12_holdsLine_132 rfl ?_
                refine T_iconst (pc := 134) (v := nI 1) dX12_holdsLine_134 (by decide) ?_
                refine R_isub (pc := 135) (by omega) dX12_holdsLine_135 ?_
                refine R_iald (pc := 136) (x := a) kc_579 lc_579 (by omega) (by first | decide | assumption) hk2.2.1 dX12_holdsLine_136 ?_
                refine T_istore (pc := 137) (i := 9) (ls' := [some (.ref 572), some (.int (nI k)), some (.int (nI r)), some (.int (nI p)), some (.int (nI n)), some (.int (nI (t.length + 2 - 1))), some (.int (nI (340 + 2 * k))), some (.int (nI (ofL LL k + j))), some (.int (nI 11)), some (.int (a)), none, none]) dX12_holdsLine_137 (by decide) rfl ?_
                refine T_aload_n (pc := 139) (i := 0) dX12_holdsLine_139 rfl rfl ?_
                refine R_getR (pc := 140) (i := 579) fl_X12_52 rfl kc_572 lc_572 rc_572_18 dX12_holdsLine_140 ?_
                refine T_iload (pc := 143) (i := 5) dX12_holdsLine_143 rfl ?_
                refine R_iald (pc := 145) (x := v) kc_579 lc_579 (by omega) (by first | decide | assumption) hk2.1 dX12_holdsLine_145 ?_
                refine T_istore (pc := 146) (i := 10) (ls' := [some (.ref 572), some (.int (nI k)), some (.int (nI r)), some (.int (nI p)), some (.int (nI n)), some (.int (nI (t.length + 2 - 1))), some (.int (nI (340 + 2 * k))), some (.int (nI (ofL LL k + j))), some (.int (nI 11)), some (.int (a)), some (.int (v)), none]) dX12_holdsLine_146 (by decide) rfl ?_
                refine T_iload (pc := 148) (i := 8) dX12_holdsLine_148 rfl ?_
                refine T_bipush (pc := 150) (v := nI 8) dX12_holdsLine_150 (by decide) ?_
                refine R_icmp_ne (pc := 152) (tgt := 170) (by omega) (by omega) dX12_holdsLine_152 (by decide) (fun c1 => ?_) (fun c1 => ?_)
                · skip
                  refine T_iload (pc := 170) (i := 8) dX12_holdsLine_170 rfl ?_
                  refine T_bipush (pc := 172) (v := nI 9) dX12_holdsLine_172 (by decide) ?_
                  refine R_icmp_ne (pc := 174) (tgt := 192) (by omega) (by omega) dX12_holdsLine_174 (by decide) (fun c2 => ?_) (fun c2 => ?_)
                  · skip
                    refine T_iload (pc := 192) (i := 8) dX12_holdsLine_192 rfl ?_
                    refine T_bipush (pc := 194) (v := nI 11) dX12_holdsLine_194 (by decide) ?_
                    refine R_icmp_ne (pc := 196) (tgt := 216) (by omega) (by omega) dX12_holdsLine_196 (by decide) (fun c3 => ?_) (fun c3 => ?_)
                    · exact absurd rfl c3
                    · skip
                      have hb1 := hv.1 rfl
                      have hb2 := hv.2.1 rfl
                      refine T_iload (pc := 199) (i := 9) dX12_holdsLine_199 rfl ?_
                      refine T_iload (pc := 201) (i := 10) dX12_holdsLine_201 rfl ?_
                      refine T_iadd (pc := 203) dX12_holdsLine_203 ?_
                      refine T_iconst (pc := 204) (v := nI 2) dX12_holdsLine_204 (by decide) ?_
                      refine T_icmp_ne (pc := 205) (tgt := 212) dX12_holdsLine_205 (by decide) (fun c4 => ?_) (fun c4 => ?_)
                      · skip
                        refine T_iconst (pc := 212) (v := nI 0) dX12_holdsLine_212 (by decide) ?_
                        refine T_goto (pc := 213) (tgt := 229) dX12_holdsLine_213 (by decide) ?_
                        refine T_istore (pc := 229) (i := 11) (ls' := [some (.ref 572), some (.int (nI k)), some (.int (nI r)), some (.int (nI p)), some (.int (nI n)), some (.int (nI (t.length + 2 - 1))), some (.int (nI (340 + 2 * k))), some (.int (nI (ofL LL k + j))), some (.int (nI 11)), some (.int (a)), some (.int (v)), some (.int (nI 0))]) dX12_holdsLine_229 (by decide) rfl ?_
                        refine T_aload_n (pc := 231) (i := 0) dX12_holdsLine_231 rfl rfl ?_
                        refine R_getR (pc := 232) (i := 579) fl_X12_52 rfl kc_572 lc_572 rc_572_18 dX12_holdsLine_232 ?_
                        refine T_iload (pc := 235) (i := 5) dX12_holdsLine_235 rfl ?_
                        refine T_iconst (pc := 237) (v := nI 1) dX12_holdsLine_237 (by decide) ?_
                        refine R_isub (pc := 238) (by omega) dX12_holdsLine_238 ?_
                        refine T_iload (pc := 239) (i := 8) dX12_holdsLine_239 rfl ?_
                        refine T_bipush (pc := 241) (v := nI 7) dX12_holdsLine_241 (by decide) ?_
                        refine R_icmp_ne (pc := 243) (tgt := 254) (by omega) (by omega) dX12_holdsLine_243 (by decide) (fun g1 => ?_) (fun g1 => ?_)
                        · skip
                          refine T_iload (pc := 254) (i := 11) dX12_holdsLine_254 rfl ?_
                          refine R_if_eq (pc := 256) (tgt := 263) (by omega) dX12_holdsLine_256 (by decide) (fun g2 => ?_) (fun g2 => ?_)
                          · skip
                            refine T_iconst (pc := 263) (v := nI 0) dX12_holdsLine_263 (by decide) ?_
                            refine R_iast (pc := 264) kc_579 lc_579 (by omega) (by first | decide | assumption) dX12_holdsLine_264 ?_
                            refine R_iinc (pc := 265) (i := 7) (n := 1) (ls' := [some (.ref 572), some (.int (nI k)), some (.int (nI r)), some (.int (nI p)), some (.int (nI n)), some (.int (nI (t.length + 2 - 1))), some (.int (nI (340 + 2 * k))), some (.int (nI (ofL LL k + j + 1))), some (.int (nI 11)), some (.int (a)), some (.int (v)), some (.int (nI 0))]) dX12_holdsLine_265 rfl rfl ?_
                            refine T_goto (pc := 268) (tgt := 21) dX12_holdsLine_268 (by decide) ?_
                            refine T_ls (ls' := [some (.ref 572), some (.int (nI k)), some (.int (nI r)), some (.int (nI p)), some (.int (nI n)), some (.int (nI (t.length + 2 - 1))), some (.int (nI (340 + 2 * k))), some (.int (nI (ofL LL k + j + 1))), none, none, none, none]) (And.intro rfl (And.intro rfl (And.intro rfl (And.intro rfl (And.intro rfl (And.intro rfl (And.intro rfl (And.intro rfl True.intro)))))))) ?_
                            exact fin (0) true rfl (fun _ => Or.inl rfl) (by rcases hb1 with z | z <;> rcases hb2 with z2 | z2 <;> subst z <;> subst z2 <;> first | rfl | exact absurd rfl c4)
                          · exact absurd rfl g2
                        · exact absurd g1 (by decide)
                      · skip
                        refine T_iconst (pc := 208) (v := nI 1) dX12_holdsLine_208 (by decide) ?_
                        refine T_goto (pc := 209) (tgt := 229) dX12_holdsLine_209 (by decide) ?_
                        refine T_istore (pc := 229) (i := 11) (ls' := [some (.ref 572), some (.int (nI k)), some (.int (nI r)), some (.int (nI p)), some (.int (nI n)), some (.int (nI (t.length + 2 - 1))), some (.int (nI (340 + 2 * k))), some (.int (nI (ofL LL k + j))), some (.int (nI 11)), some (.int (a)), some (.int (v)), some (.int (nI 1))]) dX12_holdsLine_229 (by decide) rfl ?_
                        refine T_aload_n (pc := 231) (i := 0) dX12_holdsLine_231 rfl rfl ?_
                        refine R_getR (pc := 232) (i := 579) fl_X12_52 rfl kc_572 lc_572 rc_572_18 dX12_holdsLine_232 ?_
                        refine T_iload (pc := 235) (i := 5) dX12_holdsLine_235 rfl ?_
                        refine T_iconst (pc := 237) (v := nI 1) dX12_holdsLine_237 (by decide) ?_
                        refine R_isub (pc := 238) (by omega) dX12_holdsLine_238 ?_
                        refine T_iload (pc := 239) (i := 8) dX12_holdsLine_239 rfl ?_
                        refine T_bipush (pc := 241) (v := nI 7) dX12_holdsLine_241 (by decide) ?_
                        refine R_icmp_ne (pc := 243) (tgt := 254) (by omega) (by omega) dX12_holdsLine_243 (by decide) (fun g1 => ?_) (fun g1 => ?_)
                        · skip
                          refine T_iload (pc := 254) (i := 11) dX12_holdsLine_254 rfl ?_
                          refine R_if_eq (pc := 256) (tgt := 263) (by omega) dX12_holdsLine_256 (by decide) (fun g2 => ?_) (fun g2 => ?_)
                          · exact absurd g2 (by decide)
                          · skip
                            refine T_iconst (pc := 259) (v := nI 1) dX12_holdsLine_259 (by decide) ?_
                            refine T_goto (pc := 260) (tgt := 264) dX12_holdsLine_260 (by decide) ?_
                            refine R_iast (pc := 264) kc_579 lc_579 (by omega) (by first | decide | assumption) dX12_holdsLine_264 ?_
                            refine R_iinc (pc := 265) (i := 7) (n := 1) (ls' := [some (.ref 572), some (.int (nI k)), some (.int (nI r)), some (.int (nI p)), some (.int (nI n)), some (.int (nI (t.length + 2 - 1))), some (.int (nI (340 + 2 * k))), some (.int (nI (ofL LL k + j + 1))), some (.int (nI 11)), some (.int (a)), some (.int (v)), some (.int (nI 1))]) dX12_holdsLine_265 rfl rfl ?_
                            refine T_goto (pc := 268) (tgt := 21) dX12_holdsLine_268 (by decide) ?_
                            refine T_ls (ls' := [some (.ref 572), some (.int (nI k)), some (.int (nI r)), some (.int (nI p)), some (.int (nI n)), some (.int (nI (t.length + 2 - 1))), some (.int (nI (340 + 2 * k))), some (.int (nI (ofL LL k + j + 1))), none, none, none, none]) (And.intro rfl (And.intro rfl (And.intro rfl (And.intro rfl (And.intro rfl (And.intro rfl (And.intro rfl (And.intro rfl True.intro)))))))) ?_
                            exact fin (1) true rfl (fun _ => Or.inr rfl) (by rcases hb1 with z | z <;> rcases hb2 with z2 | z2 <;> subst z <;> subst z2 <;> first | rfl | exact absurd c4 (by decide))
                        · exact absurd g1 (by decide)
                  · exact absurd c2 (by decide)
                · exact absurd c1 (by decide)
              · exact absurd h3 (by decide)
            · exact absurd h2 (by decide)
        · skip
          refine T_iload (pc := 21) (i := 7) dX12_holdsLine_21 rfl ?_
          refine T_aload_n (pc := 23) (i := 0) dX12_holdsLine_23 rfl rfl ?_
          refine R_getR (pc := 24) (i := 573) fl_X12_29 rfl kc_572 lc_572 rc_572_1 dX12_holdsLine_24 ?_
          refine T_iload (pc := 27) (i := 6) dX12_holdsLine_27 rfl ?_
          refine T_iconst (pc := 29) (v := nI 1) dX12_holdsLine_29 (by decide) ?_
          refine R_iadd (pc := 30) dX12_holdsLine_30 ?_
          refine R_iald (pc := 31) (x := nI (ofL LL (k + 1))) kc_573 lc_573 (by omega) (by first | decide | assumption) hend dX12_holdsLine_31 ?_
          refine R_icmp_ge (pc := 32) (tgt := 271) (by omega) (by omega) dX12_holdsLine_32 (by decide) (fun h1 => ?_) (fun h1 => ?_)
          · exact absurd h1 (by omega)
          · skip
            refine T_aload_n (pc := 35) (i := 0) dX12_holdsLine_35 rfl rfl ?_
            refine R_getR (pc := 36) (i := 573) fl_X12_29 rfl kc_572 lc_572 rc_572_1 dX12_holdsLine_36 ?_
            refine T_sipush (pc := 39) (v := nI 364) dX12_holdsLine_39 (by decide) ?_
            refine T_iconst (pc := 42) (v := nI 2) dX12_holdsLine_42 (by decide) ?_
            refine T_iload (pc := 43) (i := 7) dX12_holdsLine_43 rfl ?_
            refine R_imul (pc := 45) dX12_holdsLine_45 ?_
            refine R_iadd (pc := 46) dX12_holdsLine_46 ?_
            refine R_iald (pc := 47) (x := nI 12) kc_573 lc_573 (by omega) (by first | decide | assumption) hstep dX12_holdsLine_47 ?_
            refine T_istore (pc := 48) (i := 8) (ls' := [some (.ref 572), some (.int (nI k)), some (.int (nI r)), some (.int (nI p)), some (.int (nI n)), some (.int (nI (t.length + 2))), some (.int (nI (340 + 2 * k))), some (.int (nI (ofL LL k + j))), some (.int (nI 12)), none, none, none]) dX12_holdsLine_48 (by decide) rfl ?_
            refine T_iload (pc := 50) (i := 8) dX12_holdsLine_50 rfl ?_
            refine T_bipush (pc := 52) (v := nI 6) dX12_holdsLine_52 (by decide) ?_
            refine R_icmp_gt (pc := 54) (tgt := 95) (by omega) (by omega) dX12_holdsLine_54 (by decide) (fun h2 => ?_) (fun h2 => ?_)
            · skip
              refine T_iload (pc := 95) (i := 8) dX12_holdsLine_95 rfl ?_
              refine T_bipush (pc := 97) (v := nI 10) dX12_holdsLine_97 (by decide) ?_
              refine R_icmp_ne (pc := 99) (tgt := 125) (by omega) (by omega) dX12_holdsLine_99 (by decide) (fun h3 => ?_) (fun h3 => ?_)
              · skip
                refine R_idec (pc := 125) (i := 5) (ls' := [some (.ref 572), some (.int (nI k)), some (.int (nI r)), some (.int (nI p)), some (.int (nI n)), some (.int (nI (t.length + 2 - 1))), some (.int (nI (340 + 2 * k))), some (.int (nI (ofL LL k + j))), some (.int (nI 12)), none, none, none]) dX12_holdsLine_125 (by omega) rfl rfl ?_
                refine T_aload_n (pc := 128) (i := 0) dX12_holdsLine_128 rfl rfl ?_
                refine R_getR (pc := 129) (i := 579) fl_X12_52 rfl kc_572 lc_572 rc_572_18 dX12_holdsLine_129 ?_
                refine T_iload (pc := 132) (i := 5) dX12_holdsLine_132 rfl ?_
                refine T_iconst (pc := 134) (v := nI 1) dX12_holdsLine_134 (by decide) ?_
                refine R_isub (pc := 135) (by omega) dX12_holdsLine_135 ?_
                refine R_iald (pc := 136) (x := a) kc_579 lc_579 (by omega) (by first | decide | assumption) hk2.2.1 dX12_holdsLine_136 ?_
                refine T_istore (pc := 137) (i := 9) (ls' := [some (.ref 572), some (.int (nI k)), some (.int (nI r)), some (.int (nI p)), some (.int (nI n)), some (.int (nI (t.length + 2 - 1))), some (.int (nI (340 + 2 * k))), some (.int (nI (ofL LL k + j))), some (.int (nI 12)), some (.int (a)), none, none]) dX12_holdsLine_137 (by decide) rfl ?_
                refine T_aload_n (pc := 139) (i := 0) dX12_holdsLine_139 rfl rfl ?_
                refine R_getR (pc := 140) (i := 579) fl_X12_52 rfl kc_572 lc_572 rc_572_18 dX12_holdsLine_140 ?_
                refine T_iload (pc := 143) (i := 5) dX12_holdsLine_143 rfl ?_
                refine R_iald (pc := 145) (x := v) kc_579 lc_579 (by omega) (by first | decide | assumption) hk2.1 dX12_holdsLine_145 ?_
                refine T_istore (pc := 146) (i := 10) (ls' := [some (.ref 572), some (.int (nI k)), some (.int (nI r)), some (.int (nI p)), some (.int (nI n)), some (.int (nI (t.length + 2 - 1))), some (.int (nI (340 + 2 * k))), some (.int (nI (ofL LL k + j))), some (.int (nI 12)), some (.int (a)), some (.int (v)), none]) dX12_holdsLine_146 (by decide) rfl ?_
                refine T_iload (pc := 148) (i := 8) dX12_holdsLine_148 rfl ?_
                refine T_bipush (pc := 150) (v := nI 8) dX12_holdsLine_150 (by decide) ?_
                refine R_icmp_ne (pc := 152) (tgt := 170) (by omega) (by omega) dX12_holdsLine_152 (by decide) (fun c1 => ?_) (fun c1 => ?_)
                · skip
                  refine T_iload (pc := 170) (i := 8) dX12_holdsLine_170 rfl ?_
                  refine T_bipush (pc := 172) (v := nI 9) dX12_holdsLine_172 (by decide) ?_
                  refine R_icmp_ne (pc := 174) (tgt := 192) (by omega) (by omega) dX12_holdsLine_174 (by decide) (fun c2 => ?_) (fun c2 => ?_)
                  · skip
                    refine T_iload (pc := 192) (i := 8) dX12_holdsLine_192 rfl ?_
                    refine T_bipush (pc := 194) (v := nI 11) dX12_holdsLine_194 (by decide) ?_
                    refine R_icmp_ne (pc := 196) (tgt := 216) (by omega) (by omega) dX12_holdsLine_196 (by decide) (fun c3 => ?_) (fun c3 => ?_)
                    · skip
                      have hb1 := hv.1 rfl
                      have hb2 := hv.2.1 rfl
                      refine T_iload (pc := 216) (i := 9) dX12_holdsLine_216 rfl ?_
                      refine T_iload (pc := 218) (i := 10) dX12_holdsLine_218 rfl ?_
                      refine T_iadd (pc := 220) dX12_holdsLine_220 ?_
                      refine T_if_le (pc := 221) (tgt := 228) dX12_holdsLine_221 (by decide) (fun c4 => ?_) (fun c4 => ?_)
                      · skip
                        refine T_iconst (pc := 228) (v := nI 0) dX12_holdsLine_228 (by decide) ?_
                        refine T_istore (pc := 229) (i := 11) (ls' := [some (.ref 572), some (.int (nI k)), some (.int (nI r)), some (.int (nI p)), some (.int (nI n)), some (.int (nI (t.length + 2 - 1))), some (.int (nI (340 + 2 * k))), some (.int (nI (ofL LL k + j))), some (.int (nI 12)), some (.int (a)), some (.int (v)), some (.int (nI 0))]) dX12_holdsLine_229 (by decide) rfl ?_
                        refine T_aload_n (pc := 231) (i := 0) dX12_holdsLine_231 rfl rfl ?_
                        refine R_getR (pc := 232) (i := 579) fl_X12_52 rfl kc_572 lc_572 rc_572_18 dX12_holdsLine_232 ?_
                        refine T_iload (pc := 235) (i := 5) dX12_holdsLine_235 rfl ?_
                        refine T_iconst (pc := 237) (v := nI 1) dX12_holdsLine_237 (by decide) ?_
                        refine R_isub (pc := 238) (by omega) dX12_holdsLine_238 ?_
                        refine T_iload (pc := 239) (i := 8) dX12_holdsLine_239 rfl ?_
                        refine T_bipush (pc := 241) (v := nI 7) dX12_holdsLine_241 (by decide) ?_
                        refine R_icmp_ne (pc := 243) (tgt := 254) (by omega) (by omega) dX12_holdsLine_243 (by decide) (fun g1 => ?_) (fun g1 => ?_)
                        · skip
                          refine T_iload (pc := 254) (i := 11) dX12_holdsLine_254 rfl ?_
                          refine R_if_eq (pc := 256) (tgt := 263) (by omega) dX12_holdsLine_256 (by decide) (fun g2 => ?_) (fun g2 => ?_)
                          · skip
                            refine T_iconst (pc := 263) (v := nI 0) dX12_holdsLine_263 (by decide) ?_
                            refine R_iast (pc := 264) kc_579 lc_579 (by omega) (by first | decide | assumption) dX12_holdsLine_264 ?_
                            refine R_iinc (pc := 265) (i := 7) (n := 1) (ls' := [some (.ref 572), some (.int (nI k)), some (.int (nI r)), some (.int (nI p)), some (.int (nI n)), some (.int (nI (t.length + 2 - 1))), some (.int (nI (340 + 2 * k))), some (.int (nI (ofL LL k + j + 1))), some (.int (nI 12)), some (.int (a)), some (.int (v)), some (.int (nI 0))]) dX12_holdsLine_265 rfl rfl ?_
                            refine T_goto (pc := 268) (tgt := 21) dX12_holdsLine_268 (by decide) ?_
                            refine T_ls (ls' := [some (.ref 572), some (.int (nI k)), some (.int (nI r)), some (.int (nI p)), some (.int (nI n)), some (.int (nI (t.length + 2 - 1))), some (.int (nI (340 + 2 * k))), some (.int (nI (ofL LL k + j + 1))), none, none, none, none]) (And.intro rfl (And.intro rfl (And.intro rfl (And.intro rfl (And.intro rfl (And.intro rfl (And.intro rfl (And.intro rfl True.intro)))))))) ?_
                            exact fin (0) true rfl (fun _ => Or.inl rfl) (by rcases hb1 with z | z <;> rcases hb2 with z2 | z2 <;> subst z <;> subst z2 <;> first | rfl | exact absurd c4 (by decide))
                          · exact absurd rfl g2
                        · exact absurd g1 (by decide)
                      · skip
                        refine T_iconst (pc := 224) (v := nI 1) dX12_holdsLine_224 (by decide) ?_
                        refine T_goto (pc := 225) (tgt := 229) dX12_holdsLine_225 (by decide) ?_
                        refine T_istore (pc := 229) (i := 11) (ls' := [some (.ref 572), some (.int (nI k)), some (.int (nI r)), some (.int (nI p)), some (.int (nI n)), some (.int (nI (t.length + 2 - 1))), some (.int (nI (340 + 2 * k))), some (.int (nI (ofL LL k + j))), some (.int (nI 12)), some (.int (a)), some (.int (v)), some (.int (nI 1))]) dX12_holdsLine_229 (by decide) rfl ?_
                        refine T_aload_n (pc := 231) (i := 0) dX12_holdsLine_231 rfl rfl ?_
                        refine R_getR (pc := 232) (i := 579) fl_X12_52 rfl kc_572 lc_572 rc_572_18 dX12_holdsLine_232 ?_
                        refine T_iload (pc := 235) (i := 5) dX12_holdsLine_235 rfl ?_
                        refine T_iconst (pc := 237) (v := nI 1) dX12_holdsLine_237 (by decide) ?_
                        refine R_isub (pc := 238) (by omega) dX12_holdsLine_238 ?_
                        refine T_iload (pc := 239) (i := 8) dX12_holdsLine_239 rfl ?_
                        refine T_bipush (pc := 241) (v := nI 7) dX12_holdsLine_241 (by decide) ?_
                        refine R_icmp_ne (pc := 243) (tgt := 254) (by omega) (by omega) dX12_holdsLine_243 (by decide) (fun g1 => ?_) (fun g1 => ?_)
                        · skip
                          refine T_iload (pc := 254) (i := 11) dX12_holdsLine_254 rfl ?_
                          refine R_if_eq (pc := 256) (tgt := 263) (by omega) dX12_holdsLine_256 (by decide) (fun g2 => ?_) (fun g2 => ?_)
                          · exact absurd g2 (by decide)
                          · skip
                            refine T_iconst (pc := 259) (v := nI 1) dX12_holdsLine_259 (by decide) ?_
                            refine T_goto (pc := 260) (tgt := 264) dX12_holdsLine_260 (by decide) ?_
                            refine R_iast (pc := 264) kc_579 lc_579 (by omega) (by first | decide | assumption) dX12_holdsLine_264 ?_
                            refine R_iinc (pc := 265) (i := 7) (n := 1) (ls' := [some (.ref 572), some (.int (nI k)), some (.int (nI r)), some (.int (nI p)), some (.int (nI n)), some (.int (nI (t.length + 2 - 1))), some (.int (nI (340 + 2 * k))), some (.int (nI (ofL LL k + j + 1))), some (.int (nI 12)), some (.int (a)), some (.int (v)), some (.int (nI 1))]) dX12_holdsLine_265 rfl rfl ?_
                            refine T_goto (pc := 268) (tgt := 21) dX12_holdsLine_268 (by decide) ?_
                            refine T_ls (ls' := [some (.ref 572), some (.int (nI k)), some (.int (nI r)), some (.int (nI p)), some (.int (nI n)), some (.int (nI (t.length + 2 - 1))), some (.int (nI (340 + 2 * k))), some (.int (nI (ofL LL k + j + 1))), none, none, none, none]) (And.intro rfl (And.intro rfl (And.intro rfl (And.intro rfl (And.intro rfl (And.intro rfl (And.intro rfl (And.intro rfl True.intro)))))))) ?_
                            exact fin (1) true rfl (fun _ => Or.inr rfl) (by rcases hb1 with z | z <;> rcases hb2 with z2 | z2 <;> subst z <;> subst z2 <;> first | rfl | exact absurd (by decide) c4)
                        · exact absurd g1 (by decide)
                    · exact absurd c3 (by decide)
                  · exact absurd c2 (by decide)
                · exact absurd c1 (by decide)
              · exact absurd h3 (by decide)
            · exact absurd h2 (by decide)
end ML2

