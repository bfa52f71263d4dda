/-! THE LAW is read: parts, sums -/
def SLw (k : Nat) : Prop := k = 1 ∨ (62 ≤ k ∧ k < 65)
theorem S1_SLw {k : Nat} (h : S1 k) : SLw k := Or.inl h
def LqP (B : List Nat) (μ m : SM2) (L : Lw) : Lv → Prop
  | .inl f => m.1 1 6 = nI f ∧ BytesAt m B
  | .inr q => TokAt m B q.1 ∧ LawAt m 62 (L.1, L.2 ++ q.2) ∧ m.1 1 6 = μ.1 1 6
def Lq (B : List Nat) (μ : SM2) (L : Lw) (r : Lv) : Out → SMem → Prop := Rm (some (.int (bI r.isRight))) (fun m => LqP B μ m L r ∧ OfS SLw μ m)
theorem LawAt.write {μ : SM2} {L : Lw} {x : Int32} (h : LawAt μ 62 L) (hn : L.2.length < 400) : LawAt (wI (wI μ 63 L.2.length x) 62 1 (nI (L.2.length + 1))) 62 (L.1, L.2 ++ [x]) := by
  have hl : (L.2 ++ [x]).length = L.2.length + 1 := by rw [List.length_append]; rfl
  refine ⟨?_, ?_, ?_, fun i hi => ?_⟩
  · skip
    simp (disch := omega) only [n_wI, e_wI, n_wL, e_wL, m_wI2, m_wL1, n_wCI, e_wCI, n_wCL, e_wCL, m_wCI2, m_wCL1, n_wF, e_wF, m_wF2]
    exact h.1
  · show (wI (wI μ 63 L.2.length x) 62 1 (nI (L.2.length + 1))).1 62 1 = nI (L.2 ++ [x]).length
    rw [hl]
    exact e_wI ⟨rfl, rfl⟩
  · show (L.2 ++ [x]).length ≤ 400
    omega
  · have hi' : i < L.2.length + 1 := by rw [← hl]; exact hi
    show (wI (wI μ 63 L.2.length x) 62 1 (nI (L.2.length + 1))).1 63 i = (L.2 ++ [x]).getD i 0
    rw [getD_snoc hi', n_wI (by omega)]
    by_cases hi2 : i < L.2.length
    · rw [if_pos hi2, n_wI (by omega)]
      exact h.2.2.2 i hi2
    · rw [if_neg hi2]
      exact e_wI ⟨rfl, by omega⟩
theorem LawAt.s1 {μ m : SM2} {L : Lw} (h : LawAt μ 62 L) (g : OfS S1 μ m) : LawAt m 62 L := h.ofs g (by unfold S1; omega) (by unfold S1; omega)
theorem TokAt.lw {μ m : SM2} {B : List Nat} {p : Nat} (h : TokAt μ B p) (g : OfS (fun k => 62 ≤ k ∧ k < 65) μ m) : TokAt m B p := h.ofs g (by omega) (by omega)
theorem law_asc {m : SM2} {c : Int32} {a b d e : List Int32} (h : LawAt m 62 (c, a ++ b ++ d ++ e)) : LawAt m 62 (c, a ++ (b ++ d ++ e)) := by
  rw [List.append_assoc, List.append_assoc] at h
  rw [List.append_assoc]
  exact h
theorem asc3 {a b d : List Int32} : a ++ (b ++ d) = a ++ b ++ d := (List.append_assoc _ _ _).symm
section LX
variable {γ : Ga} {μ : SM2}
theorem c_write {L : Lw} {x : Int32} (h : LawAt μ 62 L) (hn : L.2.length < 400) : Ex γ 1 0 0 M_X5_write [.ref 62, .int x] (rm μ) (Rm none (fun m => LawAt m 62 (L.1, L.2 ++ [x]) ∧ OfS (fun k => 62 ≤ k ∧ k < 65) μ m)) := by
  refine Ex.of (by decide +kernel) rfl (Nat.le_of_ble_eq_true rfl) ?_
  show T _ _ _ _ _ _ _ _ _ [some (.ref 62), some (.int (x))] [] (rm μ)
  refine T_aload_n (pc := 0) (i := 0) dX5_write_0 rfl rfl ?_
  refine R_getI (pc := 1) (x := nI L.2.length) fl_X5_22 rfl (kt_law law62) (lt_law law62) h.2.1 dX5_write_1 ?_
  refine T_aload_n (pc := 4) (i := 0) dX5_write_4 rfl rfl ?_
  refine R_getR (pc := 5) (i := 63) fl_X5_15 rfl (kt_law law62) (lt_law law62) (rt_law_signs law62) dX5_write_5 ?_
  refine R_alen (pc := 8) (kt_law_signs law62) (by decide) (lt_law_signs law62) dX5_write_8 ?_
  refine R_icmp_ge (pc := 9) (tgt := 32) (by omega) (by omega) dX5_write_9 (by decide) (fun h1 => ?_) (fun h1 => ?_)
  · exact absurd h1 (by omega)
  · skip
    refine T_aload_n (pc := 12) (i := 0) dX5_write_12 rfl rfl ?_
    refine R_getR (pc := 13) (i := 63) fl_X5_15 rfl (kt_law law62) (lt_law law62) (rt_law_signs law62) dX5_write_13 ?_
    refine T_aload_n (pc := 16) (i := 0) dX5_write_16 rfl rfl ?_
    refine R_getI (pc := 17) (x := nI L.2.length) fl_X5_22 rfl (kt_law law62) (lt_law law62) h.2.1 dX5_write_17 ?_
    refine T_iload_n (pc := 20) (i := 1) dX5_write_20 rfl rfl ?_
    refine R_iast (pc := 21) (kt_law_signs law62) (lt_law_signs law62) (by omega) (by first | decide | assumption) dX5_write_21 ?_
    refine T_aload_n (pc := 22) (i := 0) dX5_write_22 rfl rfl ?_
    refine T_dup (pc := 23) dX5_write_23 rfl ?_
    refine R_getI (pc := 24) (x := nI L.2.length) fl_X5_22 rfl (kt_law law62) (lt_law law62) ((wI_ne (by first | omega | simp)).trans h.2.1) dX5_write_24 ?_
    refine T_iconst (pc := 27) (v := nI 1) dX5_write_27 (by decide) ?_
    refine R_iadd (pc := 28) dX5_write_28 ?_
    refine R_putI (pc := 29) fl_X5_22 ⟨rfl, rfl⟩ (Or.inl rfl) (kt_law law62) (lt_law law62) dX5_write_29 ?_
    exact T_vret dX5_write_32 rfl (Nat.le_refl _) (Nat.le_refl _) ⟨_, rfl, rfl, h.write hn, OfS.sI (OfS.sI (OfS.refl _ _) (by omega)) (by omega)⟩
theorem c_readPart {B : List Nat} {p : Nat} {L : Lw} (hT : TokAt μ B p) (hL : LawAt μ 62 L) (hn : L.2.length ≤ p) : Ex γ 6 0 0 M_X5_readPart [.ref 62, .ref 1] (rm μ) (Lq B μ L (lvP B p)) := by
  have hse := tE_le hT.1.2
  have h400 := hT.1.1.1.2
  have fin : T γ 6 0 0 M_X5_readPart (Lq B μ L (lvP B p)) 0 0 87 [some (.ref 62), some (.ref 1), none] [.int (sgP B p)] (rm μ) := by
    obtain ⟨x, ex⟩ : ∃ x, sgP B p = x := ⟨_, rfl⟩
    rw [ex]
    refine T_istore_n (pc := 87) (i := 2) (ls' := [some (.ref 62), some (.ref 1), some (.int (x))]) dX5_readPart_87 rfl (by decide) rfl ?_
    refine T_iload_n (pc := 88) (i := 2) dX5_readPart_88 rfl rfl ?_
    refine T_iconst (pc := 89) (v := (-1)) dX5_readPart_89 (by decide) ?_
    refine T_icmp_ne (pc := 90) (tgt := 98) dX5_readPart_90 (by decide) (fun h1 => ?_) (fun h1 => ?_)
    · skip
      have ev : lvP B p = .inr (tE B p, [x]) := by unfold lvP; rw [ex, if_neg h1]
      have hgt := tE_gt hT.1.2 (sgP_k (by rw [ex]; exact h1))
      rw [ev]
      refine T_aload_n (pc := 98) (i := 1) dX5_readPart_98 rfl rfl ?_
      refine R_callVm0 (pc := 99) (As := []) (rest := []) (Or.inl lk_X5_54) mk_X8_advance (c_advance hT.1.1 hT.2.2.1 hse.2) kc_1 ⟨by decide, rfl⟩ lc_1 dX5_readPart_99 rfl rfl (Nat.le_of_ble_eq_true rfl) (by decide) rfl (Nat.le_refl _) (Nat.le_refl _) (fun m1 h2 => ?_)
      obtain ⟨t1, f1, o1⟩ := h2
      refine T_aload_n (pc := 102) (i := 0) dX5_readPart_102 rfl rfl ?_
      refine T_iload_n (pc := 103) (i := 2) dX5_readPart_103 rfl rfl ?_
      refine R_callVm0 (pc := 104) (As := [.int (x)]) (rest := []) (Or.inl lk_X5_50) mk_X5_write (c_write (hL.s1 o1) (by omega)) (kt_law law62) ⟨by decide, rfl⟩ (lt_law law62) dX5_readPart_104 rfl rfl (Nat.le_of_ble_eq_true rfl) (by decide) rfl (Nat.le_refl _) (Nat.le_refl _) (fun m2 h3 => ?_)
      obtain ⟨l2, o2⟩ := h3
      refine T_iconst (pc := 107) (v := nI 1) dX5_readPart_107 (by decide) ?_
      exact T_iret (pc := 108) (ty := .boolean) dX5_readPart_108 rfl (by decide) (Nat.le_refl _) (Nat.le_refl _) ⟨_, rfl, rfl, ⟨t1.lw o2, l2, (o2.i (by omega) 6).trans f1⟩, (o1.mono (fun k => S1_SLw)).trans (o2.mono (fun k hk => Or.inr hk))⟩
    · skip
      have ev : lvP B p = .inl (tS B p) := by unfold lvP; rw [ex, if_pos (by simpa using h1)]
      rw [ev]
      refine T_aload_n (pc := 93) (i := 1) dX5_readPart_93 rfl rfl ?_
      refine R_callVm1 (pc := 94) (As := []) (rest := []) (Or.inl lk_X5_65) mk_X8_isWrong (c_isWrong hT) kc_1 ⟨by decide, rfl⟩ lc_1 dX5_readPart_94 rfl rfl (Nat.le_of_ble_eq_true rfl) (by decide) rfl (Nat.le_refl _) (Nat.le_refl _) (fun m2 h2 => ?_)
      exact T_iret (pc := 97) (ty := .boolean) dX5_readPart_97 rfl (nar_b _) (Nat.le_refl _) (Nat.le_refl _) ⟨_, rfl, rfl, ⟨h2.1, h2.2.1⟩, h2.2.2.mono (fun k => S1_SLw)⟩
  refine Ex.of (by decide +kernel) rfl (Nat.le_of_ble_eq_true rfl) ?_
  show T _ _ _ _ _ _ _ _ _ [some (.ref 62), some (.ref 1), none] [] (rm μ)
  refine T_aload_n (pc := 0) (i := 1) dX5_readPart_0 rfl rfl ?_
  refine R_getI (pc := 1) (x := (tK B p)) fl_X5_36 rfl kc_1 lc_1 hT.2.2.2.1 dX5_readPart_1 ?_
  refine T_bipush (pc := 4) (v := (-3)) dX5_readPart_4 (by decide) ?_
  refine T_icmp_ne (pc := 6) (tgt := 16) dX5_readPart_6 (by decide) (fun h0 => ?_) (fun h0 => ?_)
  · skip

    refine T_aload_n (pc := 16) (i := 1) dX5_readPart_16 rfl rfl ?_
    refine T_ldcS (pc := 17) (i := 15) rfl dX5_readPart_17 ?_
    refine R_callV1 (pc := 19) (As := [.ref (XB + (15 + 1))]) (rest := []) (Or.inl lk_X5_47) mk_X8_isWord (c_isWord hT st15) kc_1 ⟨by decide, rfl⟩ lc_1 dX5_readPart_19 rfl rfl (Nat.le_of_ble_eq_true rfl) (by decide) rfl (Nat.le_refl _) (Nat.le_refl _) ?_
    refine R_ifb_eq (pc := 22) (tgt := 30) dX5_readPart_22 (by decide) (fun k0 => ?_) (fun k0 => ?_)
    · skip
      have n0 : ¬ wdB B p wRule = true := by rw [show wdB B p wRule = false from k0]; decide
      refine T_aload_n (pc := 30) (i := 1) dX5_readPart_30 rfl rfl ?_
      refine T_ldcS (pc := 31) (i := 16) rfl dX5_readPart_31 ?_
      refine R_callV1 (pc := 33) (As := [.ref (XB + (16 + 1))]) (rest := []) (Or.inl lk_X5_47) mk_X8_isWord (c_isWord hT st16) kc_1 ⟨by decide, rfl⟩ lc_1 dX5_readPart_33 rfl rfl (Nat.le_of_ble_eq_true rfl) (by decide) rfl (Nat.le_refl _) (Nat.le_refl _) ?_
      refine R_ifb_eq (pc := 36) (tgt := 44) dX5_readPart_36 (by decide) (fun k1 => ?_) (fun k1 => ?_)
      · skip
        have n1 : ¬ wdB B p wPlace = true := by rw [show wdB B p wPlace = false from k1]; decide
        refine T_aload_n (pc := 44) (i := 1) dX5_readPart_44 rfl rfl ?_
        refine T_ldcS (pc := 45) (i := 17) rfl dX5_readPart_45 ?_
        refine R_callV1 (pc := 47) (As := [.ref (XB + (17 + 1))]) (rest := []) (Or.inl lk_X5_47) mk_X8_isWord (c_isWord hT st17) kc_1 ⟨by decide, rfl⟩ lc_1 dX5_readPart_47 rfl rfl (Nat.le_of_ble_eq_true rfl) (by decide) rfl (Nat.le_refl _) (Nat.le_refl _) ?_
        refine R_ifb_eq (pc := 50) (tgt := 58) dX5_readPart_50 (by decide) (fun k2 => ?_) (fun k2 => ?_)
        · skip
          have n2 : ¬ wdB B p wLong = true := by rw [show wdB B p wLong = false from k2]; decide
          refine T_aload_n (pc := 58) (i := 1) dX5_readPart_58 rfl rfl ?_
          refine T_ldcS (pc := 59) (i := 18) rfl dX5_readPart_59 ?_
          refine R_callV1 (pc := 61) (As := [.ref (XB + (18 + 1))]) (rest := []) (Or.inl lk_X5_47) mk_X8_isWord (c_isWord hT st18) kc_1 ⟨by decide, rfl⟩ lc_1 dX5_readPart_61 rfl rfl (Nat.le_of_ble_eq_true rfl) (by decide) rfl (Nat.le_refl _) (Nat.le_refl _) ?_
          refine R_ifb_eq (pc := 64) (tgt := 72) dX5_readPart_64 (by decide) (fun k3 => ?_) (fun k3 => ?_)
          · skip
            have n3 : ¬ wdB B p wBehind = true := by rw [show wdB B p wBehind = false from k3]; decide
            refine T_aload_n (pc := 72) (i := 1) dX5_readPart_72 rfl rfl ?_
            refine T_ldcS (pc := 73) (i := 19) rfl dX5_readPart_73 ?_
            refine R_callV1 (pc := 75) (As := [.ref (XB + (19 + 1))]) (rest := []) (Or.inl lk_X5_47) mk_X8_isWord (c_isWord hT st19) kc_1 ⟨by decide, rfl⟩ lc_1 dX5_readPart_75 rfl rfl (Nat.le_of_ble_eq_true rfl) (by decide) rfl (Nat.le_refl _) (Nat.le_refl _) ?_
            refine R_ifb_eq (pc := 78) (tgt := 86) dX5_readPart_78 (by decide) (fun k4 => ?_) (fun k4 => ?_)
            · skip
              have n4 : ¬ wdB B p wYear = true := by rw [show wdB B p wYear = false from k4]; decide
              have e : sgP B p = -1 := by unfold sgP; rw [if_neg h0, if_neg n0, if_neg n1, if_neg n2, if_neg n3, if_neg n4]
              rw [e] at fin
              refine T_iconst (pc := 86) (v := (-1)) dX5_readPart_86 (by decide) ?_
              exact fin
            · skip
              have p4 : wdB B p wYear = true := k4
              have e : sgP B p = -6 := by unfold sgP; rw [if_neg h0, if_neg n0, if_neg n1, if_neg n2, if_neg n3, if_pos p4]
              rw [e] at fin
              refine T_bipush (pc := 81) (v := (-6)) dX5_readPart_81 (by decide) ?_
              refine T_goto (pc := 83) (tgt := 87) dX5_readPart_83 (by decide) ?_
              exact fin
          · skip
            have p3 : wdB B p wBehind = true := k3
            have e : sgP B p = -5 := by unfold sgP; rw [if_neg h0, if_neg n0, if_neg n1, if_neg n2, if_pos p3]
            rw [e] at fin
            refine T_bipush (pc := 67) (v := (-5)) dX5_readPart_67 (by decide) ?_
            refine T_goto (pc := 69) (tgt := 87) dX5_readPart_69 (by decide) ?_
            exact fin
        · skip
          have p2 : wdB B p wLong = true := k2
          have e : sgP B p = -4 := by unfold sgP; rw [if_neg h0, if_neg n0, if_neg n1, if_pos p2]
          rw [e] at fin
          refine T_bipush (pc := 53) (v := (-4)) dX5_readPart_53 (by decide) ?_
          refine T_goto (pc := 55) (tgt := 87) dX5_readPart_55 (by decide) ?_
          exact fin
      · skip
        have p1 : wdB B p wPlace = true := k1
        have e : sgP B p = -3 := by unfold sgP; rw [if_neg h0, if_neg n0, if_pos p1]
        rw [e] at fin
        refine T_bipush (pc := 39) (v := (-3)) dX5_readPart_39 (by decide) ?_
        refine T_goto (pc := 41) (tgt := 87) dX5_readPart_41 (by decide) ?_
        exact fin
    · skip
      have p0 : wdB B p wRule = true := k0
      have e : sgP B p = -2 := by unfold sgP; rw [if_neg h0, if_pos p0]
      rw [e] at fin
      refine T_bipush (pc := 25) (v := (-2)) dX5_readPart_25 (by decide) ?_
      refine T_goto (pc := 27) (tgt := 87) dX5_readPart_27 (by decide) ?_
      exact fin
  · skip
    have h0' : tK B p = -3 := by simpa using h0
    have e : sgP B p = tV B p := by unfold sgP; rw [if_pos h0']
    rw [e] at fin
    refine T_aload_n (pc := 9) (i := 1) dX5_readPart_9 rfl rfl ?_
    refine R_getI (pc := 10) (x := (tV B p)) fl_X5_90 rfl kc_1 lc_1 (hT.2.2.2.2 h0') dX5_readPart_10 ?_
    refine T_goto (pc := 13) (tgt := 87) dX5_readPart_13 (by decide) ?_
    exact fin
theorem c_readSum {B : List Nat} {p : Nat} {L : Lw} (hT : TokAt μ B p) (hL : LawAt μ 62 L) (hn : L.2.length ≤ p) : Ex γ 7 0 0 M_X5_readSum [.ref 62, .ref 1] (rm μ) (Lq B μ L (lvSum B p)) := by
  have hse := tE_le hT.1.2
  have h400 := hT.1.1.1.2
  refine Ex.of (by decide +kernel) rfl (Nat.le_of_ble_eq_true rfl) ?_
  show T _ _ _ _ _ _ _ _ _ [some (.ref 62), some (.ref 1), none] [] (rm μ)
  refine T_aload_n (pc := 0) (i := 0) dX5_readSum_0 rfl rfl ?_
  refine T_aload_n (pc := 1) (i := 1) dX5_readSum_1 rfl rfl ?_
  refine R_callVm1 (pc := 2) (As := [.ref 1]) (rest := []) (Or.inl lk_X5_87) mk_X5_readPart (c_readPart hT hL hn) (kt_law law62) ⟨by decide, rfl⟩ (lt_law law62) dX5_readSum_2 rfl rfl (Nat.le_of_ble_eq_true rfl) (by decide) rfl (Nat.le_refl _) (Nat.le_refl _) (fun m1 h1 => ?_)
  cases e : lvP B p with
  | inl z =>
    rw [e] at h1
    have ev : lvSum B p = .inl z := by unfold lvSum lvS; rw [e]
    rw [ev]
    refine R_ifb_ne (pc := 5) (tgt := 10) dX5_readSum_5 (by decide) (fun h2 => ?_) (fun h2 => ?_)
    · exact absurd h2 (fun z => by cases z)
    · skip
      refine T_iconst (pc := 8) (v := nI 0) dX5_readSum_8 (by decide) ?_
      exact T_iret (pc := 9) (ty := .boolean) dX5_readSum_9 rfl (by decide) (Nat.le_refl _) (Nat.le_refl _) ⟨_, rfl, rfl, h1⟩
  | inr q =>
    rw [e] at h1
    have ev : lvSum B p = lvL B (lvP B) (cPl B) (-10) 400 q.1 q.2 := by unfold lvSum lvS; rw [e]
    have gq := gr_lvP p q hT.1.2 e
    rw [ev]
    refine R_ifb_ne (pc := 5) (tgt := 10) dX5_readSum_5 (by decide) (fun h2 => ?_) (fun h2 => ?_)
    · skip
      refine T_iconst (pc := 10) (v := nI 0) dX5_readSum_10 (by decide) ?_
      refine T_istore_n (pc := 11) (i := 2) (ls' := [some (.ref 62), some (.ref 1), some (.int (nI 0))]) dX5_readSum_11 rfl (by decide) rfl ?_
      suffices loop : ∀ (f k : Nat) (m : SM2) (pp : Nat) (l : List Int32), k + f = 400 → LqP B μ m L (.inr (pp, l)) → L.2.length + l.length ≤ pp → OfS SLw μ m → T γ 7 0 0 M_X5_readSum (Lq B μ L (lvL B (lvP B) (cPl B) (-10) f pp l)) 0 0 12 [some (.ref 62), some (.ref 1), some (.int (nI k))] [] (rm m) by
        exact loop 400 0 m1 q.1 q.2 rfl h1.1 (by omega) h1.2
      intro f
      induction f with
      | zero =>
        intro k m pp l hk hP hl hO
        show T _ _ _ _ _ (Lq B μ L (.inr (pp, l))) _ _ _ _ _ _
        refine T_iload_n (pc := 12) (i := 2) dX5_readSum_12 rfl rfl ?_
        refine T_sipush (pc := 13) (v := nI 400) dX5_readSum_13 (by decide) ?_
        refine R_icmp_ge (pc := 16) (tgt := 54) (by omega) (by omega) dX5_readSum_16 (by decide) (fun h3 => ?_) (fun h3 => ?_)
        · skip
          refine T_iconst (pc := 54) (v := nI 1) dX5_readSum_54 (by decide) ?_
          exact T_iret (pc := 55) (ty := .boolean) dX5_readSum_55 rfl (by decide) (Nat.le_refl _) (Nat.le_refl _) ⟨_, rfl, rfl, hP, hO⟩
        · exact absurd h3 (by omega)
      | succ f ih =>
        intro k m pp l hk hP hl hO
        obtain ⟨t, lw, f6⟩ := hP
        replace t : TokAt m B pp := t
        replace lw : LawAt m 62 (L.1, L.2 ++ l) := lw
        have hpp := tE_le t.1.2
        have ev0 : lvL B (lvP B) (cPl B) (-10) (f + 1) pp l = if (cPl B) pp = true then (match (lvP B) (tE B pp) with | .inl e => .inl e | .inr q => lvL B (lvP B) (cPl B) (-10) f q.1 (l ++ q.2 ++ [-10])) else .inr (pp, l) := rfl
        rw [ev0]
        refine T_iload_n (pc := 12) (i := 2) dX5_readSum_12 rfl rfl ?_
        refine T_sipush (pc := 13) (v := nI 400) dX5_readSum_13 (by decide) ?_
        refine R_icmp_ge (pc := 16) (tgt := 54) (by omega) (by omega) dX5_readSum_16 (by decide) (fun h3 => ?_) (fun h3 => ?_)
        · exact absurd h3 (by omega)
        · skip
          refine T_aload_n (pc := 19) (i := 1) dX5_readSum_19 rfl rfl ?_
          refine R_getI (pc := 20) (x := (tK B pp)) fl_X5_36 rfl kc_1 lc_1 t.2.2.2.1 dX5_readSum_20 ?_
          refine T_bipush (pc := 23) (v := nI 43) dX5_readSum_23 (by decide) ?_
          skip
          refine T_icmp_ne (pc := 25) (tgt := 54) dX5_readSum_25 (by decide) (fun h4 => ?_) (fun h4 => ?_)
          · skip
            rw [if_neg (by unfold cPl; rw [decide_eq_false h4]; decide)]
            refine T_iconst (pc := 54) (v := nI 1) dX5_readSum_54 (by decide) ?_
            exact T_iret (pc := 55) (ty := .boolean) dX5_readSum_55 rfl (by decide) (Nat.le_refl _) (Nat.le_refl _) ⟨_, rfl, rfl, ⟨t, lw, f6⟩, hO⟩
          · skip
            have hc : (cPl B) pp = true := decide_eq_true (by simpa using h4)
            have hgt := cPl_gt pp t.1.2 hc
            rw [if_pos hc]
            refine T_aload_n (pc := 28) (i := 1) dX5_readSum_28 rfl rfl ?_
            refine R_callVm0 (pc := 29) (As := []) (rest := []) (Or.inl lk_X5_54) mk_X8_advance (c_advance t.1.1 t.2.2.1 hpp.2) kc_1 ⟨by decide, rfl⟩ lc_1 dX5_readSum_29 rfl rfl (Nat.le_of_ble_eq_true rfl) (by decide) rfl (Nat.le_refl _) (Nat.le_refl _) (fun m2 h5 => ?_)
            obtain ⟨t2, f2, o2⟩ := h5
            have hll : (L.2 ++ l).length = L.2.length + l.length := List.length_append
            have hO2 := hO.trans (o2.mono (fun k => S1_SLw))
            refine T_aload_n (pc := 32) (i := 0) dX5_readSum_32 rfl rfl ?_
            refine T_aload_n (pc := 33) (i := 1) dX5_readSum_33 rfl rfl ?_
            refine R_callVm1 (pc := 34) (As := [.ref 1]) (rest := []) (Or.inl lk_X5_87) mk_X5_readPart (c_readPart t2 (lw.s1 o2) (by show (L.2 ++ l).length ≤ tE B pp; omega)) (kt_law law62) ⟨by decide, rfl⟩ (lt_law law62) dX5_readSum_34 rfl rfl (Nat.le_of_ble_eq_true rfl) (by decide) rfl (Nat.le_refl _) (Nat.le_refl _) (fun m3 h6 => ?_)
            obtain ⟨w3, o3⟩ := h6
            have hO3 := hO2.trans o3
            cases e2 : (lvP B) (tE B pp) with
            | inl z =>
              rw [e2] at w3
              show T _ _ _ _ _ (Lq B μ L (.inl z)) _ _ _ _ _ _
              refine R_ifb_ne (pc := 37) (tgt := 42) dX5_readSum_37 (by decide) (fun h7 => ?_) (fun h7 => ?_)
              · exact absurd h7 (fun z => by cases z)
              · skip
                refine T_iconst (pc := 40) (v := nI 0) dX5_readSum_40 (by decide) ?_
                exact T_iret (pc := 41) (ty := .boolean) dX5_readSum_41 rfl (by decide) (Nat.le_refl _) (Nat.le_refl _) ⟨_, rfl, rfl, w3, hO3⟩
            | inr r =>
              rw [e2] at w3
              obtain ⟨t3, l3, f3⟩ := w3
              replace l3 : LawAt m3 62 (L.1, L.2 ++ l ++ r.2) := l3
              have gr := gr_lvP _ r hpp.2 e2
              have hl3 : (L.2 ++ l ++ r.2).length = L.2.length + l.length + r.2.length := by rw [List.length_append, List.length_append]
              show T _ _ _ _ _ (Lq B μ L (lvL B (lvP B) (cPl B) (-10) f r.1 (l ++ r.2 ++ [-10]))) _ _ _ _ _ _
              refine R_ifb_ne (pc := 37) (tgt := 42) dX5_readSum_37 (by decide) (fun h7 => ?_) (fun h7 => ?_)
              · skip
                refine T_aload_n (pc := 42) (i := 0) dX5_readSum_42 rfl rfl ?_
                refine T_bipush (pc := 43) (v := (-10)) dX5_readSum_43 (by decide) ?_
                refine R_callVm0 (pc := 45) (As := [.int ((-10))]) (rest := []) (Or.inl lk_X5_50) mk_X5_write (c_write l3 (by show (L.2 ++ l ++ r.2).length < 400; omega)) (kt_law law62) ⟨by decide, rfl⟩ (lt_law law62) dX5_readSum_45 rfl rfl (Nat.le_of_ble_eq_true rfl) (by decide) rfl (Nat.le_refl _) (Nat.le_refl _) (fun m4 h8 => ?_)
                obtain ⟨l4, o4⟩ := h8
                refine R_iinc (pc := 48) (i := 2) (n := 1) (ls' := [some (.ref 62), some (.ref 1), some (.int (nI (k + 1)))]) dX5_readSum_48 rfl rfl ?_
                refine T_goto (pc := 51) (tgt := 12) dX5_readSum_51 (by decide) ?_
                exact ih (k + 1) m4 r.1 _ (by omega) ⟨t3.lw o4, law_asc l4, (o4.i (by omega) 6).trans (f3.trans (f2.trans f6))⟩ (by rw [List.length_append, List.length_append]; show L.2.length + (l.length + r.2.length + 1) ≤ r.1; omega) (hO3.trans (o4.mono (fun k hk => Or.inr hk)))
              · exact absurd h7 (fun z => by cases z)
    · exact absurd h2 (fun z => by cases z)

def LqC (γ : Ga) (M : MI) (B : List Nat) (A : Nat → Lv) (deep D : Nat) : Prop := ∀ (μ : SM2) (p : Nat) (L : Lw), TokAt μ B p → LawAt μ 62 L → L.2.length ≤ p → Ex γ D 0 0 M [.ref 62, .ref 1, .int (nI deep)] (rm μ) (Lq B μ L (A p))
theorem c_readEach {B : List Nat} {A : Nat → Lv} {deep D : Nat} (hdp : deep < 100) (hD : 6 ≤ D) (gA : Gr B A) (hA : LqC γ M_X5_readAtom B A deep D) : LqC γ M_X5_readEach B (lvS B A (fun p => wdB B p wAnd) (-13)) deep (D + 1) := by
  intro μ p L hT hL hn
  have hse := tE_le hT.1.2
  have h400 := hT.1.1.1.2
  refine Ex.of (by decide +kernel) rfl (Nat.le_of_ble_eq_true rfl) ?_
  show T _ _ _ _ _ _ _ _ _ [some (.ref 62), some (.ref 1), some (.int (nI deep)), none] [] (rm μ)
  refine T_aload_n (pc := 0) (i := 0) dX5_readEach_0 rfl rfl ?_
  refine T_aload_n (pc := 1) (i := 1) dX5_readEach_1 rfl rfl ?_
  refine T_iload_n (pc := 2) (i := 2) dX5_readEach_2 rfl rfl ?_
  refine R_callVm1 (pc := 3) (As := [.ref 1, .int (nI deep)]) (rest := []) (Or.inl lk_X5_74) mk_X5_readAtom (hA μ p L hT hL hn) (kt_law law62) ⟨by decide, rfl⟩ (lt_law law62) dX5_readEach_3 rfl rfl (Nat.le_of_ble_eq_true rfl) (by omega) rfl (Nat.le_refl _) (Nat.le_refl _) (fun m1 h1 => ?_)
  cases e : A p with
  | inl z =>
    rw [e] at h1
    have ev : lvS B A (fun p => wdB B p wAnd) (-13) p = .inl z := by unfold lvS; rw [e]
    rw [ev]
    refine R_ifb_ne (pc := 6) (tgt := 11) dX5_readEach_6 (by decide) (fun h2 => ?_) (fun h2 => ?_)
    · exact absurd h2 (fun z => by cases z)
    · skip
      refine T_iconst (pc := 9) (v := nI 0) dX5_readEach_9 (by decide) ?_
      exact T_iret (pc := 10) (ty := .boolean) dX5_readEach_10 rfl (by decide) (Nat.le_refl _) (Nat.le_refl _) ⟨_, rfl, rfl, h1⟩
  | inr q =>
    rw [e] at h1
    have ev : lvS B A (fun p => wdB B p wAnd) (-13) p = lvL B A (fun p => wdB B p wAnd) (-13) 400 q.1 q.2 := by unfold lvS; rw [e]
    have gq := gA p q hT.1.2 e
    rw [ev]
    refine R_ifb_ne (pc := 6) (tgt := 11) dX5_readEach_6 (by decide) (fun h2 => ?_) (fun h2 => ?_)
    · skip
      refine T_iconst (pc := 11) (v := nI 0) dX5_readEach_11 (by decide) ?_
      refine T_istore_n (pc := 12) (i := 3) (ls' := [some (.ref 62), some (.ref 1), some (.int (nI deep)), some (.int (nI 0))]) dX5_readEach_12 rfl (by decide) rfl ?_
      suffices loop : ∀ (f k : Nat) (m : SM2) (pp : Nat) (l : List Int32), k + f = 400 → LqP B μ m L (.inr (pp, l)) → L.2.length + l.length ≤ pp → OfS SLw μ m → T γ (D + 1) 0 0 M_X5_readEach (Lq B μ L (lvL B A (fun p => wdB B p wAnd) (-13) f pp l)) 0 0 13 [some (.ref 62), some (.ref 1), some (.int (nI deep)), some (.int (nI k))] [] (rm m) by
        exact loop 400 0 m1 q.1 q.2 rfl h1.1 (by omega) h1.2
      intro f
      induction f with
      | zero =>
        intro k m pp l hk hP hl hO
        show T _ _ _ _ _ (Lq B μ L (.inr (pp, l))) _ _ _ _ _ _
        refine T_iload_n (pc := 13) (i := 3) dX5_readEach_13 rfl rfl ?_
        refine T_sipush (pc := 14) (v := nI 400) dX5_readEach_14 (by decide) ?_
        refine R_icmp_ge (pc := 17) (tgt := 56) (by omega) (by omega) dX5_readEach_17 (by decide) (fun h3 => ?_) (fun h3 => ?_)
        · skip
          refine T_iconst (pc := 56) (v := nI 1) dX5_readEach_56 (by decide) ?_
          exact T_iret (pc := 57) (ty := .boolean) dX5_readEach_57 rfl (by decide) (Nat.le_refl _) (Nat.le_refl _) ⟨_, rfl, rfl, hP, hO⟩
        · exact absurd h3 (by omega)
      | succ f ih =>
        intro k m pp l hk hP hl hO
        obtain ⟨t, lw, f6⟩ := hP
        replace t : TokAt m B pp := t
        replace lw : LawAt m 62 (L.1, L.2 ++ l) := lw
        have hpp := tE_le t.1.2
        have ev0 : lvL B A (fun p => wdB B p wAnd) (-13) (f + 1) pp l = if (fun p => wdB B p wAnd) pp = true then (match A (tE B pp) with | .inl e => .inl e | .inr q => lvL B A (fun p => wdB B p wAnd) (-13) f q.1 (l ++ q.2 ++ [-13])) else .inr (pp, l) := rfl
        rw [ev0]
        skip
        refine T_iload_n (pc := 13) (i := 3) dX5_readEach_13 rfl rfl ?_
        refine T_sipush (pc := 14) (v := nI 400) dX5_readEach_14 (by decide) ?_
        refine R_icmp_ge (pc := 17) (tgt := 56) (by omega) (by omega) dX5_readEach_17 (by decide) (fun h3 => ?_) (fun h3 => ?_)
        · exact absurd h3 (by omega)
        · skip
          refine T_aload_n (pc := 20) (i := 1) dX5_readEach_20 rfl rfl ?_
          refine T_ldcS (pc := 21) (i := 20) rfl dX5_readEach_21 ?_
          refine R_callV1 (pc := 23) (As := [.ref (XB + (20 + 1))]) (rest := []) (Or.inl lk_X5_47) mk_X8_isWord (c_isWord t st20) kc_1 ⟨by decide, rfl⟩ lc_1 dX5_readEach_23 rfl rfl (Nat.le_of_ble_eq_true rfl) (by omega) rfl (Nat.le_refl _) (Nat.le_refl _) ?_
          refine R_ifb_eq (pc := 26) (tgt := 56) dX5_readEach_26 (by decide) (fun h4 => ?_) (fun h4 => ?_)
          · skip
            rw [if_neg (fun z => Bool.noConfusion ((show wdB B pp wAnd = false from h4).symm.trans z))]
            refine T_iconst (pc := 56) (v := nI 1) dX5_readEach_56 (by decide) ?_
            exact T_iret (pc := 57) (ty := .boolean) dX5_readEach_57 rfl (by decide) (Nat.le_refl _) (Nat.le_refl _) ⟨_, rfl, rfl, ⟨t, lw, f6⟩, hO⟩
          · skip
            have hc : (fun p => wdB B p wAnd) pp = true := h4
            have hgt := (fun pp hp h => wd_gt (w := wAnd) hp h : ∀ pp, pp ≤ B.length → wdB B pp wAnd = true → pp < tE B pp) pp t.1.2 hc
            rw [if_pos hc]
            refine T_aload_n (pc := 29) (i := 1) dX5_readEach_29 rfl rfl ?_
            refine R_callVm0 (pc := 30) (As := []) (rest := []) (Or.inl lk_X5_54) mk_X8_advance (c_advance t.1.1 t.2.2.1 hpp.2) kc_1 ⟨by decide, rfl⟩ lc_1 dX5_readEach_30 rfl rfl (Nat.le_of_ble_eq_true rfl) (by omega) rfl (Nat.le_refl _) (Nat.le_refl _) (fun m2 h5 => ?_)
            obtain ⟨t2, f2, o2⟩ := h5
            have hll : (L.2 ++ l).length = L.2.length + l.length := List.length_append
            have hO2 := hO.trans (o2.mono (fun k => S1_SLw))
            refine T_aload_n (pc := 33) (i := 0) dX5_readEach_33 rfl rfl ?_
            refine T_aload_n (pc := 34) (i := 1) dX5_readEach_34 rfl rfl ?_
            refine T_iload_n (pc := 35) (i := 2) dX5_readEach_35 rfl rfl ?_
            refine R_callVm1 (pc := 36) (As := [.ref 1, .int (nI deep)]) (rest := []) (Or.inl lk_X5_74) mk_X5_readAtom (hA _ _ _ t2 (lw.s1 o2) (by show (L.2 ++ l).length ≤ tE B pp; omega)) (kt_law law62) ⟨by decide, rfl⟩ (lt_law law62) dX5_readEach_36 rfl rfl (Nat.le_of_ble_eq_true rfl) (by omega) rfl (Nat.le_refl _) (Nat.le_refl _) (fun m3 h6 => ?_)
            obtain ⟨w3, o3⟩ := h6
            have hO3 := hO2.trans o3
            cases e2 : A (tE B pp) with
            | inl z =>
              rw [e2] at w3
              show T _ _ _ _ _ (Lq B μ L (.inl z)) _ _ _ _ _ _
              refine R_ifb_ne (pc := 39) (tgt := 44) dX5_readEach_39 (by decide) (fun h7 => ?_) (fun h7 => ?_)
              · exact absurd h7 (fun z => by cases z)
              · skip
                refine T_iconst (pc := 42) (v := nI 0) dX5_readEach_42 (by decide) ?_
                exact T_iret (pc := 43) (ty := .boolean) dX5_readEach_43 rfl (by decide) (Nat.le_refl _) (Nat.le_refl _) ⟨_, rfl, rfl, w3, hO3⟩
            | inr r =>
              rw [e2] at w3
              obtain ⟨t3, l3, f3⟩ := w3
              replace l3 : LawAt m3 62 (L.1, L.2 ++ l ++ r.2) := l3
              have gr := gA _ r hpp.2 e2
              have hl3 : (L.2 ++ l ++ r.2).length = L.2.length + l.length + r.2.length := by rw [List.length_append, List.length_append]
              show T _ _ _ _ _ (Lq B μ L (lvL B A (fun p => wdB B p wAnd) (-13) f r.1 (l ++ r.2 ++ [-13]))) _ _ _ _ _ _
              refine R_ifb_ne (pc := 39) (tgt := 44) dX5_readEach_39 (by decide) (fun h7 => ?_) (fun h7 => ?_)
              · skip
                refine T_aload_n (pc := 44) (i := 0) dX5_readEach_44 rfl rfl ?_
                refine T_bipush (pc := 45) (v := (-13)) dX5_readEach_45 (by decide) ?_
                refine R_callVm0 (pc := 47) (As := [.int ((-13))]) (rest := []) (Or.inl lk_X5_50) mk_X5_write (c_write l3 (by show (L.2 ++ l ++ r.2).length < 400; omega)) (kt_law law62) ⟨by decide, rfl⟩ (lt_law law62) dX5_readEach_47 rfl rfl (Nat.le_of_ble_eq_true rfl) (by omega) rfl (Nat.le_refl _) (Nat.le_refl _) (fun m4 h8 => ?_)
                obtain ⟨l4, o4⟩ := h8
                refine R_iinc (pc := 50) (i := 3) (n := 1) (ls' := [some (.ref 62), some (.ref 1), some (.int (nI deep)), some (.int (nI (k + 1)))]) dX5_readEach_50 rfl rfl ?_
                refine T_goto (pc := 53) (tgt := 13) dX5_readEach_53 (by decide) ?_
                exact ih (k + 1) m4 r.1 _ (by omega) ⟨t3.lw o4, law_asc l4, (o4.i (by omega) 6).trans (f3.trans (f2.trans f6))⟩ (by rw [List.length_append, List.length_append]; show L.2.length + (l.length + r.2.length + 1) ≤ r.1; omega) (hO3.trans (o4.mono (fun k hk => Or.inr hk)))
              · exact absurd h7 (fun z => by cases z)
    · exact absurd h2 (fun z => by cases z)

theorem c_readAny {B : List Nat} {A : Nat → Lv} {deep D : Nat} (hdp : deep < 100) (hD : 6 ≤ D) (gA : Gr B A) (hA : LqC γ M_X5_readEach B A deep D) : LqC γ M_X5_readAny B (lvS B A (fun p => wdB B p wOr) (-14)) deep (D + 1) := by
  intro μ p L hT hL hn
  have hse := tE_le hT.1.2
  have h400 := hT.1.1.1.2
  refine Ex.of (by decide +kernel) rfl (Nat.le_of_ble_eq_true rfl) ?_
  show T _ _ _ _ _ _ _ _ _ [some (.ref 62), some (.ref 1), some (.int (nI deep)), none] [] (rm μ)
  refine T_aload_n (pc := 0) (i := 0) dX5_readAny_0 rfl rfl ?_
  refine T_aload_n (pc := 1) (i := 1) dX5_readAny_1 rfl rfl ?_
  refine T_iload_n (pc := 2) (i := 2) dX5_readAny_2 rfl rfl ?_
  refine R_callVm1 (pc := 3) (As := [.ref 1, .int (nI deep)]) (rest := []) (Or.inl lk_X5_69) mk_X5_readEach (hA μ p L hT hL hn) (kt_law law62) ⟨by decide, rfl⟩ (lt_law law62) dX5_readAny_3 rfl rfl (Nat.le_of_ble_eq_true rfl) (by omega) rfl (Nat.le_refl _) (Nat.le_refl _) (fun m1 h1 => ?_)
  cases e : A p with
  | inl z =>
    rw [e] at h1
    have ev : lvS B A (fun p => wdB B p wOr) (-14) p = .inl z := by unfold lvS; rw [e]
    rw [ev]
    refine R_ifb_ne (pc := 6) (tgt := 11) dX5_readAny_6 (by decide) (fun h2 => ?_) (fun h2 => ?_)
    · exact absurd h2 (fun z => by cases z)
    · skip
      refine T_iconst (pc := 9) (v := nI 0) dX5_readAny_9 (by decide) ?_
      exact T_iret (pc := 10) (ty := .boolean) dX5_readAny_10 rfl (by decide) (Nat.le_refl _) (Nat.le_refl _) ⟨_, rfl, rfl, h1⟩
  | inr q =>
    rw [e] at h1
    have ev : lvS B A (fun p => wdB B p wOr) (-14) p = lvL B A (fun p => wdB B p wOr) (-14) 400 q.1 q.2 := by unfold lvS; rw [e]
    have gq := gA p q hT.1.2 e
    rw [ev]
    refine R_ifb_ne (pc := 6) (tgt := 11) dX5_readAny_6 (by decide) (fun h2 => ?_) (fun h2 => ?_)
    · skip
      refine T_iconst (pc := 11) (v := nI 0) dX5_readAny_11 (by decide) ?_
      refine T_istore_n (pc := 12) (i := 3) (ls' := [some (.ref 62), some (.ref 1), some (.int (nI deep)), some (.int (nI 0))]) dX5_readAny_12 rfl (by decide) rfl ?_
      suffices loop : ∀ (f k : Nat) (m : SM2) (pp : Nat) (l : List Int32), k + f = 400 → LqP B μ m L (.inr (pp, l)) → L.2.length + l.length ≤ pp → OfS SLw μ m → T γ (D + 1) 0 0 M_X5_readAny (Lq B μ L (lvL B A (fun p => wdB B p wOr) (-14) f pp l)) 0 0 13 [some (.ref 62), some (.ref 1), some (.int (nI deep)), some (.int (nI k))] [] (rm m) by
        exact loop 400 0 m1 q.1 q.2 rfl h1.1 (by omega) h1.2
      intro f
      induction f with
      | zero =>
        intro k m pp l hk hP hl hO
        show T _ _ _ _ _ (Lq B μ L (.inr (pp, l))) _ _ _ _ _ _
        refine T_iload_n (pc := 13) (i := 3) dX5_readAny_13 rfl rfl ?_
        refine T_sipush (pc := 14) (v := nI 400) dX5_readAny_14 (by decide) ?_
        refine R_icmp_ge (pc := 17) (tgt := 56) (by omega) (by omega) dX5_readAny_17 (by decide) (fun h3 => ?_) (fun h3 => ?_)
        · skip
          refine T_iconst (pc := 56) (v := nI 1) dX5_readAny_56 (by decide) ?_
          exact T_iret (pc := 57) (ty := .boolean) dX5_readAny_57 rfl (by decide) (Nat.le_refl _) (Nat.le_refl _) ⟨_, rfl, rfl, hP, hO⟩
        · exact absurd h3 (by omega)
      | succ f ih =>
        intro k m pp l hk hP hl hO
        obtain ⟨t, lw, f6⟩ := hP
        replace t : TokAt m B pp := t
        replace lw : LawAt m 62 (L.1, L.2 ++ l) := lw
        have hpp := tE_le t.1.2
        have ev0 : lvL B A (fun p => wdB B p wOr) (-14) (f + 1) pp l = if (fun p => wdB B p wOr) pp = true then (match A (tE B pp) with | .inl e => .inl e | .inr q => lvL B A (fun p => wdB B p wOr) (-14) f q.1 (l ++ q.2 ++ [-14])) else .inr (pp, l) := rfl
        rw [ev0]
        skip
        refine T_iload_n (pc := 13) (i := 3) dX5_readAny_13 rfl rfl ?_
        refine T_sipush (pc := 14) (v := nI 400) dX5_readAny_14 (by decide) ?_
        refine R_icmp_ge (pc := 17) (tgt := 56) (by omega) (by omega) dX5_readAny_17 (by decide) (fun h3 => ?_) (fun h3 => ?_)
        · exact absurd h3 (by omega)
        · skip
          refine T_aload_n (pc := 20) (i := 1) dX5_readAny_20 rfl rfl ?_
          refine T_ldcS (pc := 21) (i := 21) rfl dX5_readAny_21 ?_
          refine R_callV1 (pc := 23) (As := [.ref (XB + (21 + 1))]) (rest := []) (Or.inl lk_X5_47) mk_X8_isWord (c_isWord t st21) kc_1 ⟨by decide, rfl⟩ lc_1 dX5_readAny_23 rfl rfl (Nat.le_of_ble_eq_true rfl) (by omega) rfl (Nat.le_refl _) (Nat.le_refl _) ?_
          refine R_ifb_eq (pc := 26) (tgt := 56) dX5_readAny_26 (by decide) (fun h4 => ?_) (fun h4 => ?_)
          · skip
            rw [if_neg (fun z => Bool.noConfusion ((show wdB B pp wOr = false from h4).symm.trans z))]
            refine T_iconst (pc := 56) (v := nI 1) dX5_readAny_56 (by decide) ?_
            exact T_iret (pc := 57) (ty := .boolean) dX5_readAny_57 rfl (by decide) (Nat.le_refl _) (Nat.le_refl _) ⟨_, rfl, rfl, ⟨t, lw, f6⟩, hO⟩
          · skip
            have hc : (fun p => wdB B p wOr) pp = true := h4
            have hgt := (fun pp hp h => wd_gt (w := wOr) hp h : ∀ pp, pp ≤ B.length → wdB B pp wOr = true → pp < tE B pp) pp t.1.2 hc
            rw [if_pos hc]
            refine T_aload_n (pc := 29) (i := 1) dX5_readAny_29 rfl rfl ?_
            refine R_callVm0 (pc := 30) (As := []) (rest := []) (Or.inl lk_X5_54) mk_X8_advance (c_advance t.1.1 t.2.2.1 hpp.2) kc_1 ⟨by decide, rfl⟩ lc_1 dX5_readAny_30 rfl rfl (Nat.le_of_ble_eq_true rfl) (by omega) rfl (Nat.le_refl _) (Nat.le_refl _) (fun m2 h5 => ?_)
            obtain ⟨t2, f2, o2⟩ := h5
            have hll : (L.2 ++ l).length = L.2.length + l.length := List.length_append
            have hO2 := hO.trans (o2.mono (fun k => S1_SLw))
            refine T_aload_n (pc := 33) (i := 0) dX5_readAny_33 rfl rfl ?_
            refine T_aload_n (pc := 34) (i := 1) dX5_readAny_34 rfl rfl ?_
            refine T_iload_n (pc := 35) (i := 2) dX5_readAny_35 rfl rfl ?_
            refine R_callVm1 (pc := 36) (As := [.ref 1, .int (nI deep)]) (rest := []) (Or.inl lk_X5_69) mk_X5_readEach (hA _ _ _ t2 (lw.s1 o2) (by show (L.2 ++ l).length ≤ tE B pp; omega)) (kt_law law62) ⟨by decide, rfl⟩ (lt_law law62) dX5_readAny_36 rfl rfl (Nat.le_of_ble_eq_true rfl) (by omega) rfl (Nat.le_refl _) (Nat.le_refl _) (fun m3 h6 => ?_)
            obtain ⟨w3, o3⟩ := h6
            have hO3 := hO2.trans o3
            cases e2 : A (tE B pp) with
            | inl z =>
              rw [e2] at w3
              show T _ _ _ _ _ (Lq B μ L (.inl z)) _ _ _ _ _ _
              refine R_ifb_ne (pc := 39) (tgt := 44) dX5_readAny_39 (by decide) (fun h7 => ?_) (fun h7 => ?_)
              · exact absurd h7 (fun z => by cases z)
              · skip
                refine T_iconst (pc := 42) (v := nI 0) dX5_readAny_42 (by decide) ?_
                exact T_iret (pc := 43) (ty := .boolean) dX5_readAny_43 rfl (by decide) (Nat.le_refl _) (Nat.le_refl _) ⟨_, rfl, rfl, w3, hO3⟩
            | inr r =>
              rw [e2] at w3
              obtain ⟨t3, l3, f3⟩ := w3
              replace l3 : LawAt m3 62 (L.1, L.2 ++ l ++ r.2) := l3
              have gr := gA _ r hpp.2 e2
              have hl3 : (L.2 ++ l ++ r.2).length = L.2.length + l.length + r.2.length := by rw [List.length_append, List.length_append]
              show T _ _ _ _ _ (Lq B μ L (lvL B A (fun p => wdB B p wOr) (-14) f r.1 (l ++ r.2 ++ [-14]))) _ _ _ _ _ _
              refine R_ifb_ne (pc := 39) (tgt := 44) dX5_readAny_39 (by decide) (fun h7 => ?_) (fun h7 => ?_)
              · skip
                refine T_aload_n (pc := 44) (i := 0) dX5_readAny_44 rfl rfl ?_
                refine T_bipush (pc := 45) (v := (-14)) dX5_readAny_45 (by decide) ?_
                refine R_callVm0 (pc := 47) (As := [.int ((-14))]) (rest := []) (Or.inl lk_X5_50) mk_X5_write (c_write l3 (by show (L.2 ++ l ++ r.2).length < 400; omega)) (kt_law law62) ⟨by decide, rfl⟩ (lt_law law62) dX5_readAny_47 rfl rfl (Nat.le_of_ble_eq_true rfl) (by omega) rfl (Nat.le_refl _) (Nat.le_refl _) (fun m4 h8 => ?_)
                obtain ⟨l4, o4⟩ := h8
                refine R_iinc (pc := 50) (i := 3) (n := 1) (ls' := [some (.ref 62), some (.ref 1), some (.int (nI deep)), some (.int (nI (k + 1)))]) dX5_readAny_50 rfl rfl ?_
                refine T_goto (pc := 53) (tgt := 13) dX5_readAny_53 (by decide) ?_
                exact ih (k + 1) m4 r.1 _ (by omega) ⟨t3.lw o4, law_asc l4, (o4.i (by omega) 6).trans (f3.trans (f2.trans f6))⟩ (by rw [List.length_append, List.length_append]; show L.2.length + (l.length + r.2.length + 1) ≤ r.1; omega) (hO3.trans (o4.mono (fun k hk => Or.inr hk)))
              · exact absurd h7 (fun z => by cases z)
    · exact absurd h2 (fun z => by cases z)

end LX

