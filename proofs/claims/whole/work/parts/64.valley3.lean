/-! valley -/
theorem vLine_texts {B : List Nat} {X : Td} {p : Nat} {q : Nat × Td} (h : vLine B X p = .inr q) : q.2.texts = X.texts := by
  have hR : ∀ p, vRule B X p = .inr q → q.2.texts = X.texts := fun p h => by
    unfold vRule at h
    split at h
    · cases h
    · split at h
      · split at h
        · cases h
        · cases h
          rfl
      · cases h
  have hF : ∀ p, vField B X p = .inr q → q.2.texts = X.texts := fun p h => by
    unfold vField at h
    split at h
    · cases h
    · cases h
      rfl
  have hS : ∀ p, vSeen B X p = .inr q → q.2.texts = X.texts := fun p h => by
    unfold vSeen at h
    split at h
    · cases h
    · split at h
      · split at h
        · cases h
        · cases h
          rfl
      · cases h
  have hW : ∀ p, vFirst B X p = .inr q → q.2.texts = X.texts := fun p h => by
    unfold vFirst at h
    split at h
    · cases h
    · cases h
      rfl
  have hG : ∀ p, vFog B X p = .inr q → q.2.texts = X.texts := fun p h => by
    unfold vFog at h
    split at h
    · cases h
    · cases h
      rfl
  have hB : ∀ p, vWeight B X p = .inr q → q.2.texts = X.texts := fun p h => by
    unfold vWeight at h
    split at h
    · cases h
    · split at h
      · cases h
      · cases h
        rfl
  have hD : ∀ p, vDrop B X p = .inr q → q.2.texts = X.texts := fun p h => by
    unfold vDrop at h
    split at h
    · cases h
    · cases h
      rfl
  unfold vLine at h
  split at h
  · split at h
    · exact hR _ h
    · cases h
  · split at h
    · split at h
      · exact hF _ h
      · cases h
    · split at h
      · split at h
        · exact hS _ h
        · cases h
      · split at h
        · exact hW _ h
        · split at h
          · exact hG _ h
          · split at h
            · exact hB _ h
            · split at h
              · exact hD _ h
              · cases h
theorem vLines_texts {B : List Nat} : ∀ {n : Nat} {X : Td} {p : Nat} {q : Nat × Td}, vLines B n X p = .inr q → q.2.texts = X.texts
  | 0, X, p, q, h => by cases h
  | n + 1, X, p, q, h => by
    rw [vLines] at h
    cases e : vLine B X p with
    | inl f =>
      rw [e] at h
      cases h
    | inr r =>
      rw [e] at h
      dsimp only at h
      have hr := vLine_texts e
      split at h
      · cases h
        exact hr
      · split at h
        · exact (vLines_texts h).trans hr
        · cases h
theorem vText_texts {B : List Nat} {X : Td} {q : Nat × Td} (h : vText B X = .inr q) : q.2.texts = X.texts := by
  unfold vText at h
  split at h
  · cases h
    rfl
  · exact vLines_texts h
def VrP (B : List Nat) (m : SM2) : Pv → Prop
  | .inl f => m.1 1 6 = nI f ∧ BytesAt m B
  | .inr q => BytesAt m B ∧ ToldAt m 31 q.2 ∧ m.1 1 6 = -1
def Vr (B : List Nat) (μ : SM2) (r : Pv) : Out → SMem → Prop := Rm (some (.int (bI r.isRight))) (fun m => VrP B m r ∧ OfS SV μ m)
def vyE (B : List Nat) (X : Td) : String ⊕ Value := match vText B X with
  | .inl _ => .inl "java/lang/IllegalArgumentException"
  | .inr _ => if X.texts < 10 then .inr (.int (nI (X.texts + 1))) else .inl "java/lang/UnsupportedOperationException"
def vyX (B : List Nat) (X : Td) : Td := match vText B X with
  | .inl _ => X
  | .inr q => if X.texts < 10 then tdQ q.2 (q.2.texts + 1, q.2.way, q.2.fog) else X
def vyU (B : List Nat) (X : Td) (U : List Td) : List Td := match vText B X with
  | .inl _ => U
  | .inr _ => if X.texts < 10 then [] else U
def vyF (B : List Nat) (X : Td) : Int32 := match vText B X with
  | .inl f => nI f
  | .inr _ => -1
def SVy (k : Nat) : Prop := k = 0 ∨ k = 1 ∨ (3 ≤ k ∧ k < 59)
section VC
variable {γ : Ga} {μ : SM2}
theorem c_Told_read {B : List Nat} {X : Td} (hB : BytesAt μ B) (hX : ToldAt μ 31 X) : Ex γ 9 0 0 M_X9_read [.ref 31, .ref 1] (rm μ) (Vr B μ (vText B X)) := by
  suffices loop : ∀ (n i p : Nat) (X : Td) (m : SM2), i + n = 14 → TokAt m B p → ToldAt m 31 X → m.1 1 6 = -1 → OfS SV μ m → T γ 9 0 0 M_X9_read (Vr B μ (vLines B n X p)) 0 0 16 [some (.ref 31), some (.ref 1), some (.int (nI i))] [] (rm m) by
    refine Ex.of (by decide +kernel) rfl (Nat.le_of_ble_eq_true rfl) ?_
    show T _ _ _ _ _ _ _ _ _ [some (.ref 31), some (.ref 1), none] [] (rm μ)
    refine T_aload_n (pc := 0) (i := 1) dX9_read_0 rfl rfl ?_
    refine R_callVm0 (pc := 1) (As := []) (rest := []) (Or.inl lk_X9_106) mk_X8_begin (c_Text_begin hB) kc_1 ⟨by decide, rfl⟩ lc_1 dX9_read_1 rfl rfl (Nat.le_of_ble_eq_true rfl) (by decide) rfl (Nat.le_refl _) (Nat.le_refl _) (fun m1 h1 => ?_)
    obtain ⟨t1, f1, o1⟩ := h1
    have O1 : OfS SV μ m1 := o1.mono (fun k => S1_SV)
    refine T_aload_n (pc := 4) (i := 1) dX9_read_4 rfl rfl ?_
    refine R_getI (pc := 5) (x := (tK B 0)) fl_X9_111 rfl kc_1 lc_1 t1.2.2.2.1 dX9_read_5 ?_
    refine T_iconst (pc := 8) (v := (-1)) dX9_read_8 (by decide) ?_
    refine T_icmp_ne (pc := 9) (tgt := 14) dX9_read_9 (by decide) (fun h2 => ?_) (fun h2 => ?_)
    · skip
      have ev : vText B X = vLines B 14 X 0 := by unfold vText; rw [if_neg h2]
      rw [ev]
      refine T_iconst (pc := 14) (v := nI 0) dX9_read_14 (by decide) ?_
      refine T_istore_n (pc := 15) (i := 2) (ls' := [some (.ref 31), some (.ref 1), some (.int (nI 0))]) dX9_read_15 rfl (by decide) rfl ?_
      exact loop 14 0 0 X m1 rfl t1 (hX.s1 o1) f1 O1
    · skip
      have ev : vText B X = .inr (0, X) := by unfold vText; rw [if_pos h2]
      rw [ev]
      refine T_iconst (pc := 12) (v := nI 1) dX9_read_12 (by decide) ?_
      exact T_iret (pc := 13) (ty := .boolean) dX9_read_13 rfl (by decide) (Nat.le_refl _) (Nat.le_refl _) ⟨_, rfl, rfl, ⟨t1.1.1, hX.s1 o1, f1⟩, O1⟩
  intro n
  induction n with
  | zero =>
    intro i p X m hi iT iX i6 iO
    refine T_iload_n (pc := 16) (i := 2) dX9_read_16 rfl rfl ?_
    refine T_bipush (pc := 17) (v := nI 14) dX9_read_17 (by decide) ?_
    refine R_icmp_ge (pc := 19) (tgt := 59) (by omega) (by omega) dX9_read_19 (by decide) (fun h1 => ?_) (fun h1 => ?_)
    · skip
      refine T_aload_n (pc := 59) (i := 1) dX9_read_59 rfl rfl ?_
      refine R_callVm1 (pc := 60) (As := []) (rest := []) (Or.inl lk_X9_122) mk_X8_isWrong (c_isWrong iT) kc_1 ⟨by decide, rfl⟩ lc_1 dX9_read_60 rfl rfl (Nat.le_of_ble_eq_true rfl) (by decide) rfl (Nat.le_refl _) (Nat.le_refl _) (fun m2 h2 => ?_)
      exact T_iret (pc := 63) (ty := .boolean) dX9_read_63 rfl (nar_b _) (Nat.le_refl _) (Nat.le_refl _) ⟨_, rfl, rfl, ⟨h2.1, h2.2.1⟩, iO.trans (h2.2.2.mono (fun k => S1_SV))⟩
    · exact absurd h1 (by omega)
  | succ n ih =>
    intro i p X m hi iT iX i6 iO
    have ev : vLines B (n + 1) X p = match vLine B X p with | .inl f => .inl f | .inr q => if tK B q.1 = -1 then .inr q else if tK B q.1 = nI 59 then vLines B n q.2 (tE B q.1) else .inl (tS B q.1) := by rw [vLines]; rfl
    rw [ev]
    refine T_iload_n (pc := 16) (i := 2) dX9_read_16 rfl rfl ?_
    refine T_bipush (pc := 17) (v := nI 14) dX9_read_17 (by decide) ?_
    refine R_icmp_ge (pc := 19) (tgt := 59) (by omega) (by omega) dX9_read_19 (by decide) (fun h1 => ?_) (fun h1 => ?_)
    · exact absurd h1 (by omega)
    · skip
      refine T_aload_n (pc := 22) (i := 0) dX9_read_22 rfl rfl ?_
      refine T_aload_n (pc := 23) (i := 1) dX9_read_23 rfl rfl ?_
      refine R_callVm1 (pc := 24) (As := [.ref 1]) (rest := []) (Or.inl lk_X9_114) mk_X9_readLine (c_vLine iT iX) (kt_told told31) ⟨by decide, rfl⟩ (lt_told told31) dX9_read_24 rfl rfl (Nat.le_of_ble_eq_true rfl) (by decide) rfl (Nat.le_refl _) (Nat.le_refl _) (fun m2 h2 => ?_)
      obtain ⟨w2, o2⟩ := h2
      have O2 := iO.trans o2
      cases e : vLine B X p with
      | inl f =>
        rw [e] at w2
        dsimp only
        refine R_ifb_ne (pc := 27) (tgt := 32) dX9_read_27 (by decide) (fun h3 => ?_) (fun h3 => ?_)
        · exact absurd h3 (fun z => by cases z)
        · skip
          refine T_iconst (pc := 30) (v := nI 0) dX9_read_30 (by decide) ?_
          exact T_iret (pc := 31) (ty := .boolean) dX9_read_31 rfl (by decide) (Nat.le_refl _) (Nat.le_refl _) ⟨_, rfl, rfl, w2, O2⟩
      | inr q =>
        rw [e] at w2
        dsimp only
        obtain ⟨t2, X2, f2⟩ := w2
        have f3 := f2.trans i6
        refine R_ifb_ne (pc := 27) (tgt := 32) dX9_read_27 (by decide) (fun h3 => ?_) (fun h3 => ?_)
        · skip
          refine T_aload_n (pc := 32) (i := 1) dX9_read_32 rfl rfl ?_
          refine R_getI (pc := 33) (x := (tK B q.1)) fl_X9_111 rfl kc_1 lc_1 t2.2.2.2.1 dX9_read_33 ?_
          refine T_iconst (pc := 36) (v := (-1)) dX9_read_36 (by decide) ?_
          refine T_icmp_ne (pc := 37) (tgt := 42) dX9_read_37 (by decide) (fun h4 => ?_) (fun h4 => ?_)
          · skip
            rw [if_neg h4]
            refine T_aload_n (pc := 42) (i := 1) dX9_read_42 rfl rfl ?_
            refine T_bipush (pc := 43) (v := nI 59) dX9_read_43 (by decide) ?_
            refine R_callVm1 (pc := 45) (As := [.int (nI 59)]) (rest := []) (Or.inl lk_X9_118) mk_X8_skip (c_skip t2) kc_1 ⟨by decide, rfl⟩ lc_1 dX9_read_45 rfl rfl (Nat.le_of_ble_eq_true rfl) (by decide) rfl (Nat.le_refl _) (Nat.le_refl _) (fun m3 h5 => ?_)
            obtain ⟨w5, o5⟩ := h5
            have O3 := O2.trans (o5.mono (fun k => S1_SV))
            refine R_ifb_ne (pc := 48) (tgt := 53) dX9_read_48 (by decide) (fun h6 => ?_) (fun h6 => ?_)
            · skip
              have h7 := of_decide_eq_true h6
              have w6 := w5.1 h6
              rw [if_pos h7]
              refine R_iinc (pc := 53) (i := 2) (n := 1) (ls' := [some (.ref 31), some (.ref 1), some (.int (nI (i + 1)))]) dX9_read_53 rfl rfl ?_
              refine T_goto (pc := 56) (tgt := 16) dX9_read_56 (by decide) ?_
              exact ih (i + 1) (tE B q.1) q.2 m3 (by omega) w6.1 (X2.s1 o5) (w6.2.trans f3) O3
            · skip
              have h7 := of_decide_eq_false h6
              have w6 := w5.2 h6
              rw [if_neg h7]
              refine T_iconst (pc := 51) (v := nI 0) dX9_read_51 (by decide) ?_
              exact T_iret (pc := 52) (ty := .boolean) dX9_read_52 rfl (by decide) (Nat.le_refl _) (Nat.le_refl _) ⟨_, rfl, rfl, w6, O3⟩
          · skip
            rw [if_pos h4]
            refine T_iconst (pc := 40) (v := nI 1) dX9_read_40 (by decide) ?_
            exact T_iret (pc := 41) (ty := .boolean) dX9_read_41 rfl (by decide) (Nat.le_refl _) (Nat.le_refl _) ⟨_, rfl, rfl, ⟨t2.1.1, X2, f3⟩, O2⟩
        · exact absurd h3 (fun z => by cases z)
theorem c_valley {B : List Nat} {X : Td} {U : List Td} (hB : BytesAt μ B) (hX : ToldAt μ 3 X) (hU : ActsAt μ U) : Ex γ 10 1 6 M_X11_valley [.ref 0] (rm μ) (Ay (vyE B X) (fun m => ((ToldAt m 3 (vyX B X) ∧ ActsAt m (vyU B X U)) ∧ BytesAt m [] ∧ m.1 1 6 = vyF B X) ∧ OfS SVy μ m ∧ m.1 0 7 = μ.1 0 7)) := by
  refine Ex.of (by decide +kernel) rfl (Nat.le_of_ble_eq_true rfl) ?_
  show T _ _ _ _ _ _ _ _ _ [some (.ref 0), none] [] (rm μ)
  refine T_aload_n (pc := 0) (i := 0) dX11_valley_0 rfl rfl ?_
  refine R_getR (pc := 1) (i := 31) fl_X11_23 rfl kc_0 lc_0 rc_0_2 dX11_valley_1 ?_
  refine T_aload_n (pc := 4) (i := 0) dX11_valley_4 rfl rfl ?_
  refine R_getR (pc := 5) (i := 3) fl_X11_19 rfl kc_0 lc_0 rc_0_1 dX11_valley_5 ?_
  refine R_callVm0 (pc := 8) (As := [.ref 3]) (rest := []) (Or.inl lk_X11_105) mk_X9_copyFrom (c_Told_copyFrom told31 told3 (by omega) hX) (kt_told told31) ⟨by decide, rfl⟩ (lt_told told31) dX11_valley_8 rfl rfl (Nat.le_of_ble_eq_true rfl) (by decide) rfl (by decide) (by decide) (fun m1 h1 => ?_)
  obtain ⟨X1, o1⟩ := h1
  have O1 : OfS SVy μ m1 := o1.ofs (fun k h1 h2 => by unfold SVy; omega)
  have B1 : BytesAt m1 B := hB.keep (o1.i (by omega) 1) (o1.i (by omega))
  have T1 := hX.off o1 (by omega)
  have U1 : ActsAt m1 U := hU.ofs (S := fun k => 31 ≤ k ∧ k < 59) (o1.ofs (fun k h1 h2 => by omega)) (fun k h => by omega)
  have z1 : m1.1 0 7 = μ.1 0 7 := o1.i (by omega) 7
  refine T_aload_n (pc := 11) (i := 0) dX11_valley_11 rfl rfl ?_
  refine R_getR (pc := 12) (i := 31) fl_X11_23 rfl kc_0 lc_0 rc_0_2 dX11_valley_12 ?_
  refine T_aload_n (pc := 15) (i := 0) dX11_valley_15 rfl rfl ?_
  refine R_getR (pc := 16) (i := 1) fl_X11_10 rfl kc_0 lc_0 rc_0_0 dX11_valley_16 ?_
  refine R_callVm1 (pc := 19) (As := [.ref 1]) (rest := []) (Or.inl lk_X11_109) mk_X9_read (c_Told_read B1 X1) (kt_told told31) ⟨by decide, rfl⟩ (lt_told told31) dX11_valley_19 rfl rfl (Nat.le_of_ble_eq_true rfl) (by decide) rfl (by decide) (by decide) (fun m2 h2 => ?_)
  obtain ⟨w2, o2⟩ := h2
  have T2 := T1.ofs o2 (fun k h1 h2 => by unfold SV; omega)
  have U2 := U1.ofs o2 (fun k h => by unfold SV; omega)
  have O2 : OfS SVy μ m2 := O1.trans (o2.mono (fun k hk => by unfold SV at hk; unfold SVy; omega))
  have z2 : m2.1 0 7 = μ.1 0 7 := (o2.i (by unfold SV; omega) 7).trans z1
  have oo : OfS (fun k => k = 1) m2 (wI m2 1 1 (nI 0)) := OfS.sI (OfS.refl _ _) rfl
  have T3 := T2.ofs oo (fun k h1 h2 => by omega)
  have U3 := U2.ofs oo (fun k h => by omega)
  have O3 : OfS SVy μ (wI m2 1 1 (nI 0)) := O2.trans (oo.mono (fun k hk => by unfold SVy; omega))
  have z3 : (wI m2 1 1 (nI 0)).1 0 7 = μ.1 0 7 := (n_wI (by omega)).trans z2
  have B3 : BytesAt (wI m2 1 1 (nI 0)) [] := ⟨⟨e_wI ⟨rfl, rfl⟩, Nat.zero_le _⟩, fun i hi => absurd hi (Nat.not_lt_zero _)⟩
  cases e : vText B X with
  | inl f =>
    rw [e] at w2
    have e1 : vyE B X = .inl "java/lang/IllegalArgumentException" := by unfold vyE; rw [e]
    have e2 : vyX B X = X := by unfold vyX; rw [e]
    have e3 : vyU B X U = U := by unfold vyU; rw [e]
    have e4 : vyF B X = nI f := by unfold vyF; rw [e]
    rw [e1, e2, e3, e4]
    refine T_istore_n (pc := 22) (i := 1) (ls' := [some (.ref 0), some (.int (bI ((Sum.inl f : Pv).isRight)))]) dX11_valley_22 rfl (by decide) rfl ?_
    refine T_aload_n (pc := 23) (i := 0) dX11_valley_23 rfl rfl ?_
    refine R_getR (pc := 24) (i := 1) fl_X11_10 rfl kc_0 lc_0 rc_0_0 dX11_valley_24 ?_
    refine T_iconst (pc := 27) (v := nI 0) dX11_valley_27 (by decide) ?_
    refine R_putI (pc := 28) fl_X11_97 ⟨rfl, rfl⟩ (Or.inl rfl) kc_1 lc_1 dX11_valley_28 ?_
    refine T_iload_n (pc := 31) (i := 1) dX11_valley_31 rfl rfl ?_
    refine R_ifb_ne (pc := 32) (tgt := 43) dX11_valley_32 (by decide) (fun h3 => ?_) (fun h3 => ?_)
    · exact absurd h3 (fun z => by cases z)
    · skip
      exact T_throw (pc := 35) (ik := 113) (ic := 115) thr_X11_113 thw_X11_113 dX11_valley_35 dX11_valley_38 dX11_valley_39 dX11_valley_42 rfl (Nat.le_of_ble_eq_true rfl) (by decide) (by decide) rfl (⟨_, rfl, ⟨⟨⟨T3, U3⟩, B3, (n_wI (by omega)).trans w2.1⟩, O3, z3⟩, rfl⟩)
  | inr q =>
    rw [e] at w2
    obtain ⟨b2, X2, f2⟩ := w2
    have hq := vText_texts e
    have X3 := X2.ofs oo (fun k h1 h2 => by omega)
    have e1 : vyE B X = if X.texts < 10 then .inr (.int (nI (X.texts + 1))) else .inl "java/lang/UnsupportedOperationException" := by unfold vyE; rw [e]
    have e2 : vyX B X = if X.texts < 10 then tdQ q.2 (q.2.texts + 1, q.2.way, q.2.fog) else X := by unfold vyX; rw [e]
    have e3 : vyU B X U = if X.texts < 10 then [] else U := by unfold vyU; rw [e]
    have e4 : vyF B X = -1 := by unfold vyF; rw [e]
    have t10 := hX.2.2.2.2.1.1
    have r3 := T3.2.2.2.2
    have s3 := X3.2.2.2.2
    rw [e1, e2, e3, e4]
    have f3 : (wI m2 1 1 (nI 0)).1 1 6 = -1 := (n_wI (by omega)).trans f2
    refine T_istore_n (pc := 22) (i := 1) (ls' := [some (.ref 0), some (.int (bI ((Sum.inr q : Pv).isRight)))]) dX11_valley_22 rfl (by decide) rfl ?_
    refine T_aload_n (pc := 23) (i := 0) dX11_valley_23 rfl rfl ?_
    refine R_getR (pc := 24) (i := 1) fl_X11_10 rfl kc_0 lc_0 rc_0_0 dX11_valley_24 ?_
    refine T_iconst (pc := 27) (v := nI 0) dX11_valley_27 (by decide) ?_
    refine R_putI (pc := 28) fl_X11_97 ⟨rfl, rfl⟩ (Or.inl rfl) kc_1 lc_1 dX11_valley_28 ?_
    refine T_mem (μ' := rm (wI m2 1 1 (nI 0))) (rfl) ?_
    generalize wI m2 1 1 (nI 0) = m3 at *
    refine T_iload_n (pc := 31) (i := 1) dX11_valley_31 rfl rfl ?_
    refine R_ifb_ne (pc := 32) (tgt := 43) dX11_valley_32 (by decide) (fun h3 => ?_) (fun h3 => ?_)
    · skip
      refine T_aload_n (pc := 43) (i := 0) dX11_valley_43 rfl rfl ?_
      refine R_getR (pc := 44) (i := 3) fl_X11_19 rfl kc_0 lc_0 rc_0_1 dX11_valley_44 ?_
      refine R_getI (pc := 47) (x := nI X.texts) fl_X11_116 rfl (kt_told told3) (lt_told told3) r3.2.1 dX11_valley_47 ?_
      refine T_bipush (pc := 50) (v := nI 10) dX11_valley_50 (by decide) ?_
      refine R_icmp_lt (pc := 52) (tgt := 63) (by omega) (by omega) dX11_valley_52 (by decide) (fun h4 => ?_) (fun h4 => ?_)
      · skip
        rw [if_pos h4, if_pos h4, if_pos h4]
        refine T_aload_n (pc := 63) (i := 0) dX11_valley_63 rfl rfl ?_
        refine R_getR (pc := 64) (i := 31) fl_X11_23 rfl kc_0 lc_0 rc_0_2 dX11_valley_64 ?_
        refine T_dup (pc := 67) dX11_valley_67 rfl ?_
        refine R_getI (pc := 68) (x := nI X.texts) fl_X11_116 rfl (kt_told told31) (lt_told told31) (s3.2.1.trans (by rw [hq])) dX11_valley_68 ?_
        refine T_iconst (pc := 71) (v := nI 1) dX11_valley_71 (by decide) ?_
        refine R_iadd (pc := 72) dX11_valley_72 ?_
        refine R_putI (pc := 73) fl_X11_116 ⟨rfl, rfl⟩ (Or.inl rfl) (kt_told told31) (lt_told told31) dX11_valley_73 ?_
        refine T_aload_n (pc := 76) (i := 0) dX11_valley_76 rfl rfl ?_
        refine R_getR (pc := 77) (i := 3) fl_X11_19 rfl kc_0 lc_0 rc_0_1 dX11_valley_77 ?_
        refine T_aload_n (pc := 80) (i := 0) dX11_valley_80 rfl rfl ?_
        refine R_getR (pc := 81) (i := 31) fl_X11_23 rfl kc_0 lc_0 rc_0_2 dX11_valley_81 ?_
        have ow : OfS (fun k => k = 31) m3 (wI m3 31 7 (nI (X.texts + 1))) := OfS.sI (OfS.refl _ _) rfl
        have X4 : ToldAt (wI m3 31 7 (nI (X.texts + 1))) 31 (tdQ q.2 (q.2.texts + 1, q.2.way, q.2.fog)) := X3.rest (fun k hk => up2_ne hk) rfl (fun j hj => n_wI (by omega)) ⟨by show q.2.texts + 1 ≤ 10; omega, s3.1.2⟩ ((e_wI ⟨rfl, rfl⟩).trans (by rw [hq])) ((n_wI (by omega)).trans s3.2.2.1) ((n_wI (by omega)).trans s3.2.2.2.1)
        refine R_callVm0 (pc := 84) (As := [.ref 31]) (rest := []) (Or.inl lk_X11_105) mk_X9_copyFrom (c_Told_copyFrom told3 told31 (by omega) X4) (kt_told told3) ⟨by decide, rfl⟩ (lt_told told3) dX11_valley_84 rfl rfl (Nat.le_of_ble_eq_true rfl) (by decide) rfl (by decide) (by decide) (fun m4 h5 => ?_)
        obtain ⟨X5, o5⟩ := h5
        have O4 : OfS SVy μ m4 := O3.trans ((ow.mono (fun k hk => by unfold SVy; omega)).trans (o5.ofs (fun k h1 h2 => by unfold SVy; omega)))
        refine T_aload_n (pc := 87) (i := 0) dX11_valley_87 rfl rfl ?_
        refine R_callV0 (pc := 88) (As := []) (rest := []) (Or.inl lk_X11_122) mk_X11_forgetActs c_forgetActs kc_0 ⟨by decide, rfl⟩ lc_0 dX11_valley_88 rfl rfl (Nat.le_of_ble_eq_true rfl) (by decide) rfl (by decide) (by decide) ?_
        have of : OfS (fun k => k = 0) m4 (wI m4 0 9 (nI 0)) := OfS.sI (OfS.refl _ _) rfl
        have U4 : ActsAt (wI m4 0 9 (nI 0)) [] := by
          have U5 := (U3.ofs ow (fun k h => by omega)).ofs (S := fun k => 3 ≤ k ∧ k < 31) (o5.ofs (fun k h1 h2 => by omega)) (fun k h => by omega)
          obtain ⟨nx, hn, e10, e9, hl, hu⟩ := U5
          exact ⟨nx, hn, (n_wI (by omega)).trans e10, e_wI ⟨rfl, rfl⟩, Nat.zero_le _, fun j hj => absurd hj (Nat.not_lt_zero _)⟩
        have X6 := X5.ofs of (fun k h1 h2 => by omega)
        refine T_aload_n (pc := 91) (i := 0) dX11_valley_91 rfl rfl ?_
        refine R_getR (pc := 92) (i := 3) fl_X11_19 rfl kc_0 lc_0 rc_0_1 dX11_valley_92 ?_
        refine R_getI (pc := 95) (x := nI (X.texts + 1)) fl_X11_116 rfl (kt_told told3) (lt_told told3) (((n_wI (by omega)).trans ((X5.2.2.2.2.2.1).trans (by show nI (q.2.texts + 1) = _; rw [hq])))) dX11_valley_95 ?_
        exact T_iret (pc := 98) (ty := .int) dX11_valley_98 rfl rfl (by decide) (by decide) ⟨_, rfl, ⟨⟨⟨X6, U4⟩, (B3.ofs ow (by omega) (by omega)).keep ((n_wI (by omega)).trans (o5.i (by omega) 1)) (fun j => (n_wI (by omega)).trans (o5.i (by omega) j)), (n_wI (by omega)).trans ((o5.i (by omega) 6).trans ((n_wI (by omega)).trans f3))⟩, O4.trans (of.mono (fun k hk => by unfold SVy; omega)), (n_wI (by omega)).trans ((o5.i (by omega) 7).trans ((n_wI (by omega)).trans z3))⟩, rfl⟩
      · skip
        rw [if_neg (by omega), if_neg (by omega), if_neg (by omega)]
        exact T_throw (pc := 55) (ik := 119) (ic := 121) thr_X11_119 thw_X11_119 dX11_valley_55 dX11_valley_58 dX11_valley_59 dX11_valley_62 rfl (Nat.le_of_ble_eq_true rfl) (by decide) (by decide) rfl (⟨_, rfl, ⟨⟨⟨T3, U3⟩, B3, f3⟩, O3, z3⟩, rfl⟩)
    · exact absurd h3 (fun z => by cases z)
end VC

