/-! THE LAW is read: its lines -/
def lwL (B : List Nat) (p : Nat) : Lv := if wdB B p wBar = true then (if wdB B (tE B p) wIf = true then lvOr B (lvA B 6) (tE B (tE B p)) else .inr (tE B p, [])) else .inl (tS B p)
abbrev Ls : Type := Nat ⊕ List (List Int32)
def lwF (B : List Nat) : Nat → Nat → List (List Int32) → Ls
  | 0, p, _ => .inl (tS B p)
  | n + 1, p, LL => match lwL B p with
    | .inl f => .inl f
    | .inr q => if tK B q.1 = -1 then .inr (LL ++ [q.2]) else if tK B q.1 = nI 59 then lwF B n (tE B q.1) (LL ++ [q.2]) else .inl (tS B q.1)
def lawF (B : List Nat) : Ls := if tK B 0 = -1 then .inr [] else lwF B 12 0 []
theorem wd_len {B : List Nat} {p : Nat} {w : List Int32} (hp : p ≤ B.length) (h : wdB B p w = true) : p + w.length ≤ tE B p ∧ tE B p ≤ B.length := by
  have h1 := tS_le hp
  have h2 := tE_le hp
  unfold wdB at h
  rw [Bool.and_eq_true] at h
  have e := congrArg List.length (of_decide_eq_true h.2)
  rw [List.length_map, List.length_drop, List.length_take] at e
  omega
def LsP (B : List Nat) (m : SM2) : Ls → Prop
  | .inl f => m.1 1 6 = nI f ∧ BytesAt m B
  | .inr LL => BytesAt m B ∧ (LawAt m 62 (nI LL.length, LL.flatMap clS) ∧ ∀ ln ∈ LL, wfl ln) ∧ m.1 1 6 = -1
def Lr (B : List Nat) (μ : SM2) (r : Ls) : Out → SMem → Prop := Rm (some (.int (bI r.isRight))) (fun m => LsP B m r ∧ OfS SLw μ m)
theorem bytes_lt {m : SM2} {B : List Nat} (h : BytesAt m B) : ∀ i, i < B.length → B.getD i 0 < 256 := fun i hi => (h.2 i hi).1
theorem flat_snoc {LL : List (List Int32)} {ln : List Int32} : (LL ++ [ln]).flatMap clS = LL.flatMap clS ++ (ln1 ln ++ [-9]) := by
  rw [List.flatMap_append]
  show _ ++ (clS ln ++ []) = _
  rw [List.append_nil]
  rfl
theorem len_snoc {LL : List (List Int32)} {ln : List Int32} : (LL ++ [ln]).length = LL.length + 1 := List.length_append
theorem law_count {μ : SM2} {c : Int32} {n : Nat} {l : List Int32} (h : LawAt μ 62 (c, l)) : LawAt (wI μ 62 0 (nI n)) 62 (nI n, l) := ⟨e_wI ⟨rfl, rfl⟩, (n_wI (by omega)).trans h.2.1, h.2.2.1, fun i hi => (n_wI (by omega)).trans (h.2.2.2 i hi)⟩
section LZ
variable {γ : Ga} {μ : SM2}
theorem c_Law_read {B : List Nat} (hB : BytesAt μ B) : Ex γ 29 0 0 M_X5_read [.ref 62, .ref 1] (rm μ) (Lr B μ (lawF B)) := by
  have h400 := hB.1.2
  have h256 := bytes_lt hB
  suffices loop : ∀ (n : Nat) (LL : List (List Int32)) (p : Nat) (m : SM2), n + LL.length = 12 → TokAt m B p → LawAt m 62 (nI LL.length, LL.flatMap clS) → (∀ ln ∈ LL, wfl ln) → (LL.flatMap clS).length ≤ p → m.1 1 6 = -1 → OfS SLw μ m → T γ 29 0 0 M_X5_read (Lr B μ (lwF B n p LL)) 0 0 24 [some (.ref 62), some (.ref 1)] [] (rm m) by
    refine Ex.of (by decide +kernel) rfl (Nat.le_of_ble_eq_true rfl) ?_
    show T _ _ _ _ _ _ _ _ _ [some (.ref 62), some (.ref 1)] [] (rm μ)
    refine T_aload_n (pc := 0) (i := 0) dX5_read_0 rfl rfl ?_
    refine T_iconst (pc := 1) (v := nI 0) dX5_read_1 (by decide) ?_
    refine R_putI (pc := 2) fl_X5_11 ⟨rfl, rfl⟩ (Or.inl rfl) (kt_law law62) (lt_law law62) dX5_read_2 ?_
    refine T_aload_n (pc := 5) (i := 0) dX5_read_5 rfl rfl ?_
    refine T_iconst (pc := 6) (v := nI 0) dX5_read_6 (by decide) ?_
    refine R_putI (pc := 7) fl_X5_22 ⟨rfl, rfl⟩ (Or.inl rfl) (kt_law law62) (lt_law law62) dX5_read_7 ?_
    refine T_aload_n (pc := 10) (i := 1) dX5_read_10 rfl rfl ?_
    have o1 : OfS (fun k => 62 ≤ k ∧ k < 65) μ (wI (wI μ 62 0 (nI 0)) 62 1 (nI 0)) := OfS.sI (OfS.sI (OfS.refl _ _) (by omega)) (by omega)
    have l1 : LawAt (wI (wI μ 62 0 (nI 0)) 62 1 (nI 0)) 62 (nI 0, []) := ⟨(n_wI (by omega)).trans (e_wI ⟨rfl, rfl⟩), e_wI ⟨rfl, rfl⟩, Nat.zero_le _, fun i hi => absurd hi (Nat.not_lt_zero _)⟩
    refine R_callVm0 (pc := 11) (As := []) (rest := []) (Or.inl lk_X5_31) mk_X8_begin (c_Text_begin (hB.ofs o1 (by omega) (by omega))) kc_1 ⟨by decide, rfl⟩ lc_1 dX5_read_11 rfl rfl (Nat.le_of_ble_eq_true rfl) (by decide) rfl (Nat.le_refl _) (Nat.le_refl _) (fun m1 h1 => ?_)
    obtain ⟨t1, f1, o2⟩ := h1
    have l2 := l1.s1 o2
    have hO : OfS SLw μ m1 := (o1.mono (fun k hk => Or.inr hk)).trans (o2.mono (fun k => S1_SLw))
    refine T_aload_n (pc := 14) (i := 1) dX5_read_14 rfl rfl ?_
    refine R_getI (pc := 15) (x := (tK B 0)) fl_X5_36 rfl kc_1 lc_1 t1.2.2.2.1 dX5_read_15 ?_
    refine T_iconst (pc := 18) (v := (-1)) dX5_read_18 (by decide) ?_
    refine T_icmp_ne (pc := 19) (tgt := 24) dX5_read_19 (by decide) (fun h2 => ?_) (fun h2 => ?_)
    · skip
      have ev : lawF B = lwF B 12 0 [] := by unfold lawF; rw [if_neg h2]
      rw [ev]
      exact loop 12 [] 0 m1 rfl t1 l2 (fun ln h => absurd h List.not_mem_nil) (Nat.le_refl _) f1 hO
    · skip
      have ev : lawF B = .inr [] := by unfold lawF; rw [if_pos (by simpa using h2)]
      rw [ev]
      refine T_iconst (pc := 22) (v := nI 1) dX5_read_22 (by decide) ?_
      exact T_iret (pc := 23) (ty := .boolean) dX5_read_23 rfl (by decide) (Nat.le_refl _) (Nat.le_refl _) ⟨_, rfl, rfl, ⟨t1.1.1, ⟨l2, fun ln h => absurd h List.not_mem_nil⟩, f1⟩, hO⟩
  intro n
  induction n with
  | zero =>
    intro LL p m hn t l wf hl f6 hO
    show T _ _ _ _ _ (Lr B μ (.inl (tS B p))) _ _ _ _ _ _
    refine T_aload_n (pc := 24) (i := 0) dX5_read_24 rfl rfl ?_
    refine R_getI (pc := 25) (x := nI LL.length) fl_X5_11 rfl (kt_law law62) (lt_law law62) l.1 dX5_read_25 ?_
    refine T_bipush (pc := 28) (v := nI 12) dX5_read_28 (by decide) ?_
    refine R_icmp_ge (pc := 30) (tgt := 113) (by omega) (by omega) dX5_read_30 (by decide) (fun h1 => ?_) (fun h1 => ?_)
    · skip
      refine T_aload_n (pc := 113) (i := 1) dX5_read_113 rfl rfl ?_
      refine R_callVm1 (pc := 114) (As := []) (rest := []) (Or.inl lk_X5_65) mk_X8_isWrong (c_isWrong t) kc_1 ⟨by decide, rfl⟩ lc_1 dX5_read_114 rfl rfl (Nat.le_of_ble_eq_true rfl) (by decide) rfl (Nat.le_refl _) (Nat.le_refl _) (fun m2 h2 => ?_)
      exact T_iret (pc := 117) (ty := .boolean) dX5_read_117 rfl (nar_b _) (Nat.le_refl _) (Nat.le_refl _) ⟨_, rfl, rfl, ⟨h2.1, h2.2.1⟩, hO.trans (h2.2.2.mono (fun k => S1_SLw))⟩
    · exact absurd h1 (by omega)
  | succ n ih =>
    intro LL p m hn t l wf hl f6 hO
    have hse := tE_le t.1.2
    have ev0 : lwF B (n + 1) p LL = match lwL B p with | .inl f => .inl f | .inr q => if tK B q.1 = -1 then .inr (LL ++ [q.2]) else if tK B q.1 = nI 59 then lwF B n (tE B q.1) (LL ++ [q.2]) else .inl (tS B q.1) := rfl
    -- behind a line's condition
    have tail : ∀ (q : Nat × List Int32) (m : SM2), lwL B p = .inr q → TokAt m B q.1 → LawAt m 62 (nI LL.length, LL.flatMap clS ++ ln1 q.2) → wfl q.2 → (LL.flatMap clS).length + (ln1 q.2).length + 1 ≤ q.1 → m.1 1 6 = -1 → OfS SLw μ m → T γ 29 0 0 M_X5_read (Lr B μ (lwF B (n + 1) p LL)) 0 0 76 [some (.ref 62), some (.ref 1)] [] (rm m) := fun q m e t l w hl f6 hO => by
      have hqb := t.1.2
      have hq := tE_le hqb
      have ev : lwF B (n + 1) p LL = if tK B q.1 = -1 then .inr (LL ++ [q.2]) else if tK B q.1 = nI 59 then lwF B n (tE B q.1) (LL ++ [q.2]) else .inl (tS B q.1) := by rw [ev0, e]
      have hll : (LL.flatMap clS ++ ln1 q.2).length = (LL.flatMap clS).length + (ln1 q.2).length := List.length_append
      rw [ev]
      refine T_aload_n (pc := 76) (i := 0) dX5_read_76 rfl rfl ?_
      refine T_bipush (pc := 77) (v := (-9)) dX5_read_77 (by decide) ?_
      refine R_callVm0 (pc := 79) (As := [.int ((-9))]) (rest := []) (Or.inl lk_X5_50) mk_X5_write (c_write l (by show (LL.flatMap clS ++ ln1 q.2).length < 400; omega)) (kt_law law62) ⟨by decide, rfl⟩ (lt_law law62) dX5_read_79 rfl rfl (Nat.le_of_ble_eq_true rfl) (by decide) rfl (Nat.le_refl _) (Nat.le_refl _) (fun m1 h1 => ?_)
      obtain ⟨l1, o1⟩ := h1
      have l1' : LawAt m1 62 (nI LL.length, (LL ++ [q.2]).flatMap clS) := by
        rw [flat_snoc, asc3]
        exact l1
      refine T_aload_n (pc := 82) (i := 0) dX5_read_82 rfl rfl ?_
      refine T_dup (pc := 83) dX5_read_83 rfl ?_
      refine R_getI (pc := 84) (x := nI LL.length) fl_X5_11 rfl (kt_law law62) (lt_law law62) (l1'.1) dX5_read_84 ?_
      refine T_iconst (pc := 87) (v := nI 1) dX5_read_87 (by decide) ?_
      refine R_iadd (pc := 88) dX5_read_88 ?_
      refine R_putI (pc := 89) fl_X5_11 ⟨rfl, rfl⟩ (Or.inl rfl) (kt_law law62) (lt_law law62) dX5_read_89 ?_
      have l2 : LawAt (wI m1 62 0 (nI (LL.length + 1))) 62 (nI (LL ++ [q.2]).length, (LL ++ [q.2]).flatMap clS) := by
        rw [len_snoc]
        exact law_count l1'
      have o2 : OfS (fun k => 62 ≤ k ∧ k < 65) m (wI m1 62 0 (nI (LL.length + 1))) := OfS.sI o1 (by omega)
      have t2 := t.lw o2
      have f2 := (o2.i (by omega) 6).trans f6
      have hO2 := hO.trans (o2.mono (fun k hk => Or.inr hk : ∀ k, _ → SLw k))
      have wf2 : ∀ ln ∈ LL ++ [q.2], wfl ln := fun ln h => by
        rcases List.mem_append.mp h with h | h
        · exact wf ln h
        · rw [List.mem_singleton.mp h]
          exact w
      have hl2 : ((LL ++ [q.2]).flatMap clS).length ≤ q.1 := by
        rw [flat_snoc, List.length_append, List.length_append]
        show _ + (_ + 1) ≤ _
        omega
      generalize wI m1 62 0 (nI (LL.length + 1)) = m2 at *
      refine T_aload_n (pc := 92) (i := 1) dX5_read_92 rfl rfl ?_
      refine R_getI (pc := 93) (x := (tK B q.1)) fl_X5_36 rfl kc_1 lc_1 t2.2.2.2.1 dX5_read_93 ?_
      refine T_iconst (pc := 96) (v := (-1)) dX5_read_96 (by decide) ?_
      refine T_icmp_ne (pc := 97) (tgt := 102) dX5_read_97 (by decide) (fun h2 => ?_) (fun h2 => ?_)
      · skip
        rw [if_neg h2]
        refine T_aload_n (pc := 102) (i := 1) dX5_read_102 rfl rfl ?_
        refine T_bipush (pc := 103) (v := nI 59) dX5_read_103 (by decide) ?_
        refine R_callVm1 (pc := 105) (As := [.int (nI 59)]) (rest := []) (Or.inl lk_X5_61) mk_X8_skip (c_skip t2) kc_1 ⟨by decide, rfl⟩ lc_1 dX5_read_105 rfl rfl (Nat.le_of_ble_eq_true rfl) (by decide) rfl (Nat.le_refl _) (Nat.le_refl _) (fun m3 h3 => ?_)
        obtain ⟨w3, o3⟩ := h3
        have hO3 := hO2.trans (o3.mono (fun k => S1_SLw))
        refine R_ifb_ne (pc := 108) (tgt := 24) dX5_read_108 (by decide) (fun h4 => ?_) (fun h4 => ?_)
        · skip
          have g : tK B q.1 = nI 59 := of_decide_eq_true h4
          have w4 := w3.1 h4
          rw [if_pos g]
          exact ih (LL ++ [q.2]) _ m3 (by rw [len_snoc]; omega) w4.1 (l2.s1 o3) wf2 (by have := tS_le t2.1.2; omega) (w4.2.trans f2) hO3
        · skip
          have g : ¬ tK B q.1 = nI 59 := of_decide_eq_false h4
          have w4 := w3.2 h4
          rw [if_neg g]
          refine T_iconst (pc := 111) (v := nI 0) dX5_read_111 (by decide) ?_
          exact T_iret (pc := 112) (ty := .boolean) dX5_read_112 rfl (by decide) (Nat.le_refl _) (Nat.le_refl _) ⟨_, rfl, rfl, w4, hO3⟩
      · skip
        rw [if_pos (by simpa using h2)]
        refine T_iconst (pc := 100) (v := nI 1) dX5_read_100 (by decide) ?_
        exact T_iret (pc := 101) (ty := .boolean) dX5_read_101 rfl (by decide) (Nat.le_refl _) (Nat.le_refl _) ⟨_, rfl, rfl, ⟨t2.1.1, ⟨l2, wf2⟩, f2⟩, hO2⟩
    have evL : lwL B p = if wdB B p wBar = true then (if wdB B (tE B p) wIf = true then lvOr B (lvA B 6) (tE B (tE B p)) else .inr (tE B p, [])) else .inl (tS B p) := rfl
    refine T_aload_n (pc := 24) (i := 0) dX5_read_24 rfl rfl ?_
    refine R_getI (pc := 25) (x := nI LL.length) fl_X5_11 rfl (kt_law law62) (lt_law law62) l.1 dX5_read_25 ?_
    refine T_bipush (pc := 28) (v := nI 12) dX5_read_28 (by decide) ?_
    refine R_icmp_ge (pc := 30) (tgt := 113) (by omega) (by omega) dX5_read_30 (by decide) (fun h1 => ?_) (fun h1 => ?_)
    · exact absurd h1 (by omega)
    · skip
      refine T_aload_n (pc := 33) (i := 1) dX5_read_33 rfl rfl ?_
      refine T_ldcS (pc := 34) (i := 11) rfl dX5_read_34 ?_
      refine R_callVm1 (pc := 36) (As := [.ref (XB + (11 + 1))]) (rest := []) (Or.inl lk_X5_41) mk_X8_skipWord (c_skipWord t st11) kc_1 ⟨by decide, rfl⟩ lc_1 dX5_read_36 rfl rfl (Nat.le_of_ble_eq_true rfl) (by decide) rfl (Nat.le_refl _) (Nat.le_refl _) (fun m1 h2 => ?_)
      obtain ⟨w1, o1⟩ := h2
      have hO1 := hO.trans (o1.mono (fun k => S1_SLw))
      refine R_ifb_ne (pc := 39) (tgt := 44) dX5_read_39 (by decide) (fun h3 => ?_) (fun h3 => ?_)
      · skip
        have b1 : wdB B p wBar = true := h3
        have w2 := w1.1 h3
        obtain ⟨t1, f1⟩ := w2
        have l1 := l.s1 o1
        have hw := wd_len t.1.2 b1
        have hw3 : p + 3 ≤ tE B p := hw.1
        have hse2 := tE_le t1.1.2
        rw [if_pos b1] at evL
        refine T_aload_n (pc := 44) (i := 1) dX5_read_44 rfl rfl ?_
        refine T_ldcS (pc := 45) (i := 12) rfl dX5_read_45 ?_
        refine R_callV1 (pc := 47) (As := [.ref (XB + (12 + 1))]) (rest := []) (Or.inl lk_X5_47) mk_X8_isWord (c_isWord t1 st12) kc_1 ⟨by decide, rfl⟩ lc_1 dX5_read_47 rfl rfl (Nat.le_of_ble_eq_true rfl) (by decide) rfl (Nat.le_refl _) (Nat.le_refl _) ?_
        refine R_ifb_ne (pc := 50) (tgt := 61) dX5_read_50 (by decide) (fun h4 => ?_) (fun h4 => ?_)
        · skip
          have b2 : wdB B (tE B p) wIf = true := h4
          have hgt := wd_gt t1.1.2 b2
          rw [if_pos b2] at evL
          refine T_aload_n (pc := 61) (i := 1) dX5_read_61 rfl rfl ?_
          refine R_callVm0 (pc := 62) (As := []) (rest := []) (Or.inl lk_X5_54) mk_X8_advance (c_advance t1.1.1 t1.2.2.1 hse2.2) kc_1 ⟨by decide, rfl⟩ lc_1 dX5_read_62 rfl rfl (Nat.le_of_ble_eq_true rfl) (by decide) rfl (Nat.le_refl _) (Nat.le_refl _) (fun m2 h5 => ?_)
          obtain ⟨t2, f2, o2⟩ := h5
          have hO2 := hO1.trans (o2.mono (fun k => S1_SLw))
          refine T_aload_n (pc := 65) (i := 0) dX5_read_65 rfl rfl ?_
          refine T_aload_n (pc := 66) (i := 1) dX5_read_66 rfl rfl ?_
          refine T_iconst (pc := 67) (v := nI 0) dX5_read_67 (by decide) ?_
          refine R_callVm1 (pc := 68) (As := [.ref 1, .int (nI 0)]) (rest := []) (Or.inl lk_X5_57) mk_X5_readAny (c_readAny0 _ _ _ t2 (l1.s1 o2) (by show (LL.flatMap clS).length ≤ _; omega)) (kt_law law62) ⟨by decide, rfl⟩ (lt_law law62) dX5_read_68 rfl rfl (Nat.le_of_ble_eq_true rfl) (by decide) rfl (Nat.le_refl _) (Nat.le_refl _) (fun m3 h6 => ?_)
          obtain ⟨w3, o3⟩ := h6
          have hO3 := hO2.trans o3
          cases e : lvOr B (lvA B 6) (tE B (tE B p)) with
          | inl z =>
            rw [e] at w3
            have ev : lwF B (n + 1) p LL = .inl z := by rw [ev0, evL, e]
            rw [ev]
            refine R_ifb_ne (pc := 71) (tgt := 76) dX5_read_71 (by decide) (fun h7 => ?_) (fun h7 => ?_)
            · exact absurd h7 (fun z => by cases z)
            · skip
              refine T_iconst (pc := 74) (v := nI 0) dX5_read_74 (by decide) ?_
              exact T_iret (pc := 75) (ty := .boolean) dX5_read_75 rfl (by decide) (Nat.le_refl _) (Nat.le_refl _) ⟨_, rfl, rfl, w3, hO3⟩
          | inr q =>
            rw [e] at w3
            obtain ⟨t3, l3, f3⟩ := w3
            have gq := gr_lvOr (gr_lvA 6) _ q hse2.2 e
            have tq := ty_lvOr (b := 0) (ty_lvA h256 6 (by decide)) _ q [] e (Nat.le_refl _)
            have ne : q.2 ≠ [] := fun z => by rw [z] at tq; cases tq
            have l1q : ln1 q.2 = q.2 := by unfold ln1; rw [if_neg ne]
            refine R_ifb_ne (pc := 71) (tgt := 76) dX5_read_71 (by decide) (fun h7 => ?_) (fun h7 => ?_)
            · skip
              exact tail q m3 (evL.trans e) t3 (by rw [l1q]; exact l3) (Or.inr tq) (by rw [l1q]; omega) (f3.trans (f2.trans (f1.trans f6))) hO3
            · exact absurd h7 (fun z => by cases z)
        · skip
          have b2 : ¬ wdB B (tE B p) wIf = true := fun z => Bool.noConfusion ((show wdB B (tE B p) wIf = false from h4).symm.trans z)
          rw [if_neg b2] at evL
          refine T_aload_n (pc := 53) (i := 0) dX5_read_53 rfl rfl ?_
          refine T_iconst (pc := 54) (v := nI 1) dX5_read_54 (by decide) ?_
          refine R_callVm0 (pc := 55) (As := [.int (nI 1)]) (rest := []) (Or.inl lk_X5_50) mk_X5_write (c_write l1 (by show (LL.flatMap clS).length < 400; omega)) (kt_law law62) ⟨by decide, rfl⟩ (lt_law law62) dX5_read_55 rfl rfl (Nat.le_of_ble_eq_true rfl) (by decide) rfl (Nat.le_refl _) (Nat.le_refl _) (fun m2 h5 => ?_)
          obtain ⟨l2, o2⟩ := h5
          refine T_goto (pc := 58) (tgt := 76) dX5_read_58 (by decide) ?_
          exact tail (tE B p, []) m2 evL (t1.lw o2) l2 (Or.inl rfl) (by show _ + 1 + 1 ≤ tE B p; omega) ((o2.i (by omega) 6).trans (f1.trans f6)) (hO1.trans (o2.mono (fun k hk => Or.inr hk)))
      · skip
        have b1 : ¬ wdB B p wBar = true := fun z => Bool.noConfusion ((show wdB B p wBar = false from h3).symm.trans z)
        have w2 := w1.2 h3
        rw [if_neg b1] at evL
        have ev : lwF B (n + 1) p LL = .inl (tS B p) := by rw [ev0, evL]
        rw [ev]
        refine T_iconst (pc := 42) (v := nI 0) dX5_read_42 (by decide) ?_
        exact T_iret (pc := 43) (ty := .boolean) dX5_read_43 rfl (by decide) (Nat.le_refl _) (Nat.le_refl _) ⟨_, rfl, rfl, w2, hO1⟩
def lyE (B : List Nat) : String ⊕ Value := match lawF B with
  | .inl _ => .inl "java/lang/IllegalArgumentException"
  | .inr LL => .inr (.int (nI LL.length))
def lyX (B : List Nat) (L0 : List (List Int32)) : List (List Int32) := match lawF B with
  | .inl _ => L0
  | .inr LL => LL
def lyU (B : List Nat) (U : List Td) : List Td := match lawF B with
  | .inl _ => U
  | .inr _ => []
def lyF (B : List Nat) : Int32 := match lawF B with
  | .inl f => nI f
  | .inr _ => -1
def SLy (k : Nat) : Prop := k = 0 ∨ k = 1 ∨ (59 ≤ k ∧ k < 65)
/-- THE LAW at 59: how many LINES (-1: none), and they -/
def LawN (μ : SM2) (c : Int32) (LL : List (List Int32)) : Prop := LawAt μ 59 (c, LL.flatMap clS) ∧ ∀ ln ∈ LL, wfl ln
def lyC (B : List Nat) (c : Int32) : Int32 := match lawF B with
  | .inl _ => c
  | .inr LL => nI LL.length
theorem c_law {B : List Nat} {U : List Td} {c : Int32} {L0 : List (List Int32)} (hB : BytesAt μ B) (hU : ActsAt μ U) (hL : LawN μ c L0) : Ex γ 30 1 6 M_X11_law [.ref 0] (rm μ) (Ay (lyE B) (fun m => ((LawN m (lyC B c) (lyX B L0) ∧ ActsAt m (lyU B U)) ∧ BytesAt m [] ∧ m.1 1 6 = lyF B) ∧ OfS SLy μ m ∧ m.1 0 7 = μ.1 0 7)) := by
  refine Ex.of (by decide +kernel) rfl (Nat.le_of_ble_eq_true rfl) ?_
  show T _ _ _ _ _ _ _ _ _ [some (.ref 0), none] [] (rm μ)
  refine T_aload_n (pc := 0) (i := 0) dX11_law_0 rfl rfl ?_
  refine R_getR (pc := 1) (i := 62) fl_X11_33 rfl kc_0 lc_0 rc_0_4 dX11_law_1 ?_
  refine T_aload_n (pc := 4) (i := 0) dX11_law_4 rfl rfl ?_
  refine R_getR (pc := 5) (i := 1) fl_X11_10 rfl kc_0 lc_0 rc_0_0 dX11_law_5 ?_
  refine R_callVm1 (pc := 8) (As := [.ref 1]) (rest := []) (Or.inl lk_X11_125) mk_X5_read (c_Law_read hB) (kt_law law62) ⟨by decide, rfl⟩ (lt_law law62) dX11_law_8 rfl rfl (Nat.le_of_ble_eq_true rfl) (by decide) rfl (by decide) (by decide) (fun m2 h2 => ?_)
  obtain ⟨w2, o2⟩ := h2
  have U2 := hU.ofs o2 (fun k h => by unfold SLw; omega)
  have O2 : OfS SLy μ m2 := o2.mono (fun k hk => by unfold SLw at hk; unfold SLy; omega)
  have z2 : m2.1 0 7 = μ.1 0 7 := o2.i (by unfold SLw; omega) 7
  have N2 : LawN m2 c L0 := ⟨hL.1.ofs o2 (by unfold SLw; omega) (by unfold SLw; omega), hL.2⟩
  have oo : OfS (fun k => k = 1) m2 (wI m2 1 1 (nI 0)) := OfS.sI (OfS.refl _ _) rfl
  have U3 := U2.ofs oo (fun k h => by omega)
  have N3 : LawN (wI m2 1 1 (nI 0)) c L0 := ⟨N2.1.ofs oo (by omega) (by omega), N2.2⟩
  have O3 : OfS SLy μ (wI m2 1 1 (nI 0)) := O2.trans (oo.mono (fun k hk => by unfold SLy; omega))
  have z3 : (wI m2 1 1 (nI 0)).1 0 7 = μ.1 0 7 := (n_wI (by omega)).trans z2
  have B3 : BytesAt (wI m2 1 1 (nI 0)) [] := ⟨⟨e_wI ⟨rfl, rfl⟩, Nat.zero_le _⟩, fun i hi => absurd hi (Nat.not_lt_zero _)⟩
  cases e : lawF B with
  | inl f =>
    rw [e] at w2
    have e1 : lyE B = .inl "java/lang/IllegalArgumentException" := by unfold lyE; rw [e]
    have e2 : lyX B L0 = L0 := by unfold lyX; rw [e]
    have e3 : lyU B U = U := by unfold lyU; rw [e]
    have e4 : lyF B = nI f := by unfold lyF; rw [e]
    have e5 : lyC B c = c := by unfold lyC; rw [e]
    rw [e1, e2, e3, e4, e5]
    refine T_istore_n (pc := 11) (i := 1) (ls' := [some (.ref 0), some (.int (bI ((Sum.inl f : Ls).isRight)))]) dX11_law_11 rfl (by decide) rfl ?_
    refine T_aload_n (pc := 12) (i := 0) dX11_law_12 rfl rfl ?_
    refine R_getR (pc := 13) (i := 1) fl_X11_10 rfl kc_0 lc_0 rc_0_0 dX11_law_13 ?_
    refine T_iconst (pc := 16) (v := nI 0) dX11_law_16 (by decide) ?_
    refine R_putI (pc := 17) fl_X11_97 ⟨rfl, rfl⟩ (Or.inl rfl) kc_1 lc_1 dX11_law_17 ?_
    refine T_iload_n (pc := 20) (i := 1) dX11_law_20 rfl rfl ?_
    refine R_ifb_ne (pc := 21) (tgt := 32) dX11_law_21 (by decide) (fun h3 => ?_) (fun h3 => ?_)
    · exact absurd h3 (fun z => by cases z)
    · skip
      exact T_throw (pc := 24) (ik := 113) (ic := 115) thr_X11_113 thw_X11_113 dX11_law_24 dX11_law_27 dX11_law_28 dX11_law_31 rfl (Nat.le_of_ble_eq_true rfl) (by decide) (by decide) rfl (⟨_, rfl, ⟨⟨⟨N3, U3⟩, B3, (n_wI (by omega)).trans w2.1⟩, O3, z3⟩, rfl⟩)
  | inr LL =>
    rw [e] at w2
    obtain ⟨b2, l2, f2⟩ := w2
    have e1 : lyE B = .inr (.int (nI LL.length)) := by unfold lyE; rw [e]
    have e2 : lyX B L0 = LL := by unfold lyX; rw [e]
    have e3 : lyU B U = [] := by unfold lyU; rw [e]
    have e4 : lyF B = -1 := by unfold lyF; rw [e]
    have e5 : lyC B c = nI LL.length := by unfold lyC; rw [e]
    have l3 := l2.1.ofs oo (by omega) (by omega)
    have f3 : (wI m2 1 1 (nI 0)).1 1 6 = -1 := (n_wI (by omega)).trans f2
    rw [e1, e2, e3, e4, e5]
    refine T_istore_n (pc := 11) (i := 1) (ls' := [some (.ref 0), some (.int (bI ((Sum.inr LL : Ls).isRight)))]) dX11_law_11 rfl (by decide) rfl ?_
    refine T_aload_n (pc := 12) (i := 0) dX11_law_12 rfl rfl ?_
    refine R_getR (pc := 13) (i := 1) fl_X11_10 rfl kc_0 lc_0 rc_0_0 dX11_law_13 ?_
    refine T_iconst (pc := 16) (v := nI 0) dX11_law_16 (by decide) ?_
    refine R_putI (pc := 17) fl_X11_97 ⟨rfl, rfl⟩ (Or.inl rfl) kc_1 lc_1 dX11_law_17 ?_
    refine T_iload_n (pc := 20) (i := 1) dX11_law_20 rfl rfl ?_
    refine T_mem (μ' := rm (wI m2 1 1 (nI 0))) (rfl) ?_
    generalize wI m2 1 1 (nI 0) = m3 at *
    refine R_ifb_ne (pc := 21) (tgt := 32) dX11_law_21 (by decide) (fun h3 => ?_) (fun h3 => ?_)
    · skip
      refine T_aload_n (pc := 32) (i := 0) dX11_law_32 rfl rfl ?_
      refine R_getR (pc := 33) (i := 59) fl_X11_29 rfl kc_0 lc_0 rc_0_3 dX11_law_33 ?_
      refine T_aload_n (pc := 36) (i := 0) dX11_law_36 rfl rfl ?_
      refine R_getR (pc := 37) (i := 62) fl_X11_33 rfl kc_0 lc_0 rc_0_4 dX11_law_37 ?_
      refine R_callVm0 (pc := 40) (As := [.ref 62]) (rest := []) (Or.inl lk_X11_126) mk_X5_copyFrom (c_Law_copyFrom law59 law62 (by omega) l3) (kt_law law59) ⟨by decide, rfl⟩ (lt_law law59) dX11_law_40 rfl rfl (Nat.le_of_ble_eq_true rfl) (by decide) rfl (by decide) (by decide) (fun m4 h5 => ?_)
      obtain ⟨L5, o5⟩ := h5
      have o5' : OfS (fun k => 59 ≤ k ∧ k < 62) m3 m4 := o5.ofs (fun k h1 h2 => by omega)
      have O4 : OfS SLy μ m4 := O3.trans (o5'.mono (fun k hk => by unfold SLy; omega))
      refine T_aload_n (pc := 43) (i := 0) dX11_law_43 rfl rfl ?_
      refine R_callV0 (pc := 44) (As := []) (rest := []) (Or.inl lk_X11_122) mk_X11_forgetActs c_forgetActs kc_0 ⟨by decide, rfl⟩ lc_0 dX11_law_44 rfl rfl (Nat.le_of_ble_eq_true rfl) (by decide) rfl (by decide) (by decide) ?_
      have of : OfS (fun k => k = 0) m4 (wI m4 0 9 (nI 0)) := OfS.sI (OfS.refl _ _) rfl
      have U4 : ActsAt (wI m4 0 9 (nI 0)) [] := by
        have U5 := U3.ofs o5' (fun k h => by omega)
        obtain ⟨nx, hn, e10, e9, hl, hu⟩ := U5
        exact ⟨nx, hn, (n_wI (by omega)).trans e10, e_wI ⟨rfl, rfl⟩, Nat.zero_le _, fun j hj => absurd hj (Nat.not_lt_zero _)⟩
      have L6 := L5.ofs of (by omega) (by omega)
      refine T_aload_n (pc := 47) (i := 0) dX11_law_47 rfl rfl ?_
      refine R_getR (pc := 48) (i := 59) fl_X11_29 rfl kc_0 lc_0 rc_0_3 dX11_law_48 ?_
      refine R_getI (pc := 51) (x := nI LL.length) fl_X11_129 rfl (kt_law law59) (lt_law law59) L6.1 dX11_law_51 ?_
      exact T_iret (pc := 54) (ty := .int) dX11_law_54 rfl rfl (by decide) (by decide) ⟨_, rfl, ⟨⟨⟨⟨L6, l2.2⟩, U4⟩, (B3.ofs o5' (by omega) (by omega)).ofs of (by omega) (by omega), (n_wI (by omega)).trans ((o5.i (by omega) 6).trans f3)⟩, O4.trans (of.mono (fun k hk => by unfold SLy; omega)), (n_wI (by omega)).trans ((o5.i (by omega) 7).trans z3)⟩, rfl⟩
    · exact absurd h3 (fun z => by cases z)
end LZ

