/-! reading things of a text -/
/-- BEASTS ahead: how far, which -/
def bsN (B : List Nat) (s k : Nat) : List Nat := ((B.drop s).take k).map (fun b => b - 97)
def bsO (B : List Nat) (s k : Nat) : Bool := ((B.drop s).take k).all (fun b => decide (b < 105))
def rdB (B : List Nat) (p least most : Nat) : Option (List Nat) := if least = 0 ∧ tK B p = nI 46 then some [] else if tK B p = -2 ∧ tE B p - tS B p ≤ most ∧ bsO B (tS B p) (tE B p - tS B p) = true then some (bsN B (tS B p) (tE B p - tS B p)) else none
def rdN (B : List Nat) (p : Nat) (most : Int32) : Option Int32 := if tK B p = -3 ∧ tV B p ≤ most ∧ tV B p ≠ -1 then some (tV B p) else none
def Wq (b : Bool) (A C : Prop) : Prop := (b = true → A) ∧ (b = false → C)
theorem Wq.t {b : Bool} {A C : Prop} (h : b = true) (a : A) : Wq b A C := ⟨fun _ => a, fun z => (by rw [h] at z; cases z)⟩
theorem Wq.f {b : Bool} {A C : Prop} (h : b = false) (a : C) : Wq b A C := ⟨fun z => (by rw [h] at z; cases z), fun _ => a⟩
theorem tok_word {B : List Nat} {p : Nat} (hB : ∀ i, i < B.length → B.getD i 0 < 256) (h : tK B p = -2) : tS B p < B.length ∧ isL (B.getD (tS B p) 0) = true ∧ tE B p = spn isL B (tS B p) := by
  by_cases h1 : tS B p < B.length
  · by_cases h2 : isL (B.getD (tS B p) 0) = true
    · exact ⟨h1, h2, by unfold tE; rw [if_pos h1, if_pos h2]⟩
    · unfold tK at h
      rw [if_pos h1, if_neg h2] at h
      by_cases h3 : isD (B.getD (tS B p) 0) = true
      · rw [if_pos h3] at h
        exact absurd h (by decide)
      · rw [if_neg h3] at h
        have h4 := hB _ h1
        have e2 : (-2 : Int32).toInt = -2 := rfl
        rw [fa_eq, nI_toInt (by omega)] at h
        omega
  · unfold tK at h
    rw [if_neg h1] at h
    exact absurd h (by decide)
theorem spF_all {P : Nat → Bool} {B : List Nat} : ∀ f p i, p ≤ i → i < spF P B f p → P (B.getD i 0) = true
  | 0, p, i, h1, h2 => absurd h2 (by show ¬ i < p; omega)
  | f + 1, p, i, h1, h2 => by
    unfold spF at h2
    split at h2
    · next g =>
      by_cases e : i = p
      · rw [e]
        exact g.2
      · exact spF_all f (p + 1) i (by omega) h2
    · omega
theorem bsN_s {B : List Nat} {s k : Nat} (h : s + k < B.length) : bsN B s (k + 1) = bsN B s k ++ [B.getD (s + k) 0 - 97] := by
  unfold bsN
  rw [take_s 0 (by rw [List.length_drop]; omega), List.map_append]
  have e : (B.drop s).getD k 0 = B.getD (s + k) 0 := by
    rw [List.getD_eq_getElem?_getD, List.getElem?_drop, ← List.getD_eq_getElem?_getD]
  rw [e]
  rfl
theorem bsO_s {B : List Nat} {s k : Nat} (h : s + k < B.length) : bsO B s (k + 1) = (bsO B s k && decide (B.getD (s + k) 0 < 105)) := by
  unfold bsO
  rw [take_s 0 (by rw [List.length_drop]; omega), List.all_append]
  have e : (B.drop s).getD k 0 = B.getD (s + k) 0 := by
    rw [List.getD_eq_getElem?_getD, List.getElem?_drop, ← List.getD_eq_getElem?_getD]
  rw [e]
  simp
theorem bsO_no {B : List Nat} {s k : Nat} (hk : s + k < B.length) (h : ¬ B.getD (s + k) 0 < 105) : ∀ {n}, k < n → s + n ≤ B.length → bsO B s n = false
  | 0, h1, _ => absurd h1 (Nat.not_lt_zero _)
  | n + 1, h1, h2 => by
    rw [bsO_s (by omega)]
    by_cases e : k = n
    · rw [← e, decide_eq_false h, Bool.and_false]
    · rw [bsO_no hk h (n := n) (by omega) (by omega), Bool.false_and]
theorem bsN_mw {B : List Nat} {s n : Nat} (h : bsO B s n = true) (hn : n ≤ 20) : Mw (bsN B s n) := by
  refine ⟨by unfold bsN; rw [List.length_map, List.length_take]; omega, fun d hd => ?_⟩
  obtain ⟨b, hb, rfl⟩ := List.mem_map.mp hd
  unfold bsO at h
  have := of_decide_eq_true (List.all_eq_true.mp h b hb)
  omega
theorem rdB_mw {B : List Nat} {p least most : Nat} {l : List Nat} (hm : most ≤ 20) (h : rdB B p least most = some l) : Mw l ∧ l.length ≤ most ∧ (least = 0 ∨ tE B p - tS B p = l.length ∨ True) := by
  unfold rdB at h
  split at h
  · cases h
    exact ⟨⟨Nat.zero_le _, okb_nil⟩, Nat.zero_le _, Or.inr (Or.inr trivial)⟩
  · split at h
    · next g =>
      cases h
      refine ⟨bsN_mw g.2.2 (by omega), ?_, Or.inr (Or.inr trivial)⟩
      unfold bsN
      rw [List.length_map, List.length_take]
      omega
    · cases h
section TX2
variable {γ : Ga} {μ : SM2}
theorem c_Text_begin {B : List Nat} (hB : BytesAt μ B) : Ex γ 2 0 0 M_X8_begin [.ref 1] (rm μ) (Rm none (fun m => TokAt m B 0 ∧ m.1 1 6 = -1 ∧ OfS S1 μ m)) := by
  refine Ex.of (by decide +kernel) rfl (Nat.le_of_ble_eq_true rfl) ?_
  show T _ _ _ _ _ _ _ _ _ [some (.ref 1)] [] (rm μ)
  refine T_aload_n (pc := 0) (i := 0) dX8_begin_0 rfl rfl ?_
  refine T_iconst (pc := 1) (v := nI 0) dX8_begin_1 (by decide) ?_
  refine R_putI (pc := 2) fl_X8_25 ⟨rfl, rfl⟩ (Or.inl rfl) kc_1 lc_1 dX8_begin_2 ?_
  refine T_aload_n (pc := 5) (i := 0) dX8_begin_5 rfl rfl ?_
  refine T_iconst (pc := 6) (v := (-1)) dX8_begin_6 (by decide) ?_
  refine R_putI (pc := 7) fl_X8_19 ⟨rfl, rfl⟩ (Or.inl rfl) kc_1 lc_1 dX8_begin_7 ?_
  refine T_aload_n (pc := 10) (i := 0) dX8_begin_10 rfl rfl ?_
  have o1 : OfS S1 μ (wI (wI μ 1 4 (nI 0)) 1 6 (-1)) := OfS.sI (OfS.sI (OfS.refl _ _) rfl) rfl
  refine R_callVm0 (pc := 11) (As := []) (rest := []) (Or.inl lk_X8_28) mk_X8_advance (c_advance (hB.keep ((n_wI (by omega)).trans (n_wI (by omega))) (fun j => (n_wI (by omega)).trans (n_wI (by omega)))) ((n_wI (by omega)).trans (e_wI ⟨rfl, rfl⟩)) (Nat.zero_le _)) kc_1 ⟨by decide, rfl⟩ lc_1 dX8_begin_11 rfl rfl (Nat.le_of_ble_eq_true rfl) (by decide) rfl (Nat.le_refl _) (Nat.le_refl _) (fun m h => ?_)
  exact T_vret dX8_begin_14 rfl (Nat.le_refl _) (Nat.le_refl _) ⟨_, rfl, rfl, h.1, h.2.1.trans (e_wI ⟨rfl, rfl⟩), o1.trans h.2.2⟩
theorem c_isWrong {B : List Nat} {p : Nat} (hT : TokAt μ B p) : Ex γ 1 0 0 M_X8_isWrong [.ref 1] (rm μ) (Rm (some (.int (bI false))) (fun m => m.1 1 6 = nI (tS B p) ∧ BytesAt m B ∧ OfS S1 μ m)) := by
  refine Ex.of (by decide +kernel) rfl (Nat.le_of_ble_eq_true rfl) ?_
  show T _ _ _ _ _ _ _ _ _ [some (.ref 1)] [] (rm μ)
  refine T_aload_n (pc := 0) (i := 0) dX8_isWrong_0 rfl rfl ?_
  refine T_aload_n (pc := 1) (i := 0) dX8_isWrong_1 rfl rfl ?_
  refine R_getI (pc := 2) (x := nI (tS B p)) fl_X8_31 rfl kc_1 lc_1 hT.2.1 dX8_isWrong_2 ?_
  refine R_putI (pc := 5) fl_X8_19 ⟨rfl, rfl⟩ (Or.inl rfl) kc_1 lc_1 dX8_isWrong_5 ?_
  refine T_iconst (pc := 8) (v := nI 0) dX8_isWrong_8 (by decide) ?_
  exact T_iret (pc := 9) (ty := .boolean) dX8_isWrong_9 rfl (by decide) (Nat.le_refl _) (Nat.le_refl _) ⟨_, rfl, rfl, e_wI ⟨rfl, rfl⟩, hT.1.1.keep (n_wI (by omega)) (fun j => n_wI (by omega)), OfS.sI (OfS.refl _ _) rfl⟩
theorem c_isWord {B : List Nat} {p i : Nat} {q : String × Nat × String × List Int32} (hT : TokAt μ B p) (hs : strs[i]? = some q) : Ex γ 5 0 0 M_X8_isWord [.ref 1, .ref (XB + (i + 1))] (rm μ) (Fn (some (.int (bI (wdB B p q.2.2.2)))) μ) := by
  have hq6 := str_at hs
  have hse := tE_le hT.1.2
  have h400 := hT.1.1.1.2
  obtain ⟨s, es⟩ : ∃ s, tS B p = s := ⟨_, rfl⟩
  obtain ⟨e, ee⟩ : ∃ e, tE B p = e := ⟨_, rfl⟩
  have h3 := hT.2.1
  have h4 := hT.2.2.1
  have h2 := hT.2.2.2.1
  have ew : wdB B p q.2.2.2 = (decide (tK B p = -2) && decide (((B.take e).drop s).map nI = q.2.2.2)) := by unfold wdB; rw [es, ee]
  rw [es] at h3 hse
  rw [ee] at h4 hse
  rw [ew]
  have hlen : (((B.take e).drop s).map nI).length = e - s := by
    rw [List.length_map, List.length_drop, List.length_take]
    omega
  have no : T γ 5 0 0 M_X8_isWord (Fn (some (.int (bI (decide (tK B p = -2) && decide (((B.take e).drop s).map nI = q.2.2.2))))) μ) 0 0 25 [some (.ref 1), some (.ref (XB + (i + 1))), none] [] (rm μ) ∨ True := Or.inr trivial
  refine Ex.of (by decide +kernel) rfl (Nat.le_of_ble_eq_true rfl) ?_
  show T _ _ _ _ _ _ _ _ _ [some (.ref 1), some (.ref (XB + (i + 1))), none] [] (rm μ)
  refine T_aload_n (pc := 0) (i := 0) dX8_isWord_0 rfl rfl ?_
  refine R_getI (pc := 1) (x := (tK B p)) fl_X8_15 rfl kc_1 lc_1 h2 dX8_isWord_1 ?_
  refine T_bipush (pc := 4) (v := (-2)) dX8_isWord_4 (by decide) ?_
  refine T_icmp_ne (pc := 6) (tgt := 25) dX8_isWord_6 (by decide) (fun h5 => ?_) (fun h5 => ?_)
  · skip
    refine T_iconst (pc := 25) (v := nI 0) dX8_isWord_25 (by decide) ?_
    rw [decide_eq_false h5]
    exact T_iret (pc := 26) (ty := .boolean) dX8_isWord_26 rfl (by decide) (Nat.le_refl _) (Nat.le_refl _) ⟨rfl, rfl⟩
  · skip
    rw [decide_eq_true h5, Bool.true_and]
    refine T_aload_n (pc := 9) (i := 0) dX8_isWord_9 rfl rfl ?_
    refine R_getI (pc := 10) (x := nI e) fl_X8_25 rfl kc_1 lc_1 h4 dX8_isWord_10 ?_
    refine T_aload_n (pc := 13) (i := 0) dX8_isWord_13 rfl rfl ?_
    refine R_getI (pc := 14) (x := nI s) fl_X8_31 rfl kc_1 lc_1 h3 dX8_isWord_14 ?_
    refine R_isub (pc := 17) (by omega) dX8_isWord_17 ?_
    refine T_aload_n (pc := 18) (i := 1) dX8_isWord_18 rfl rfl ?_
    refine T_callVs (pc := 19) (As := []) (rest := [.int (nI (e - s))]) hs lk_X8_37 mk_J0_length_8abf5 (c_strLen hs) rfl dX8_isWord_19 rfl rfl (Nat.le_of_ble_eq_true rfl) (by decide) rfl (Nat.le_refl _) (Nat.le_refl _) (fun E m' h => absurd h.1 (fun z => by cases z)) (fun v' m' h => ?_)
    obtain ⟨h6, rfl⟩ := h
    cases h6
    refine R_icmp_eq (pc := 22) (tgt := 27) (by omega) (by omega) dX8_isWord_22 (by decide) (fun h7 => ?_) (fun h7 => ?_)
    · skip
      refine T_iconst (pc := 27) (v := nI 0) dX8_isWord_27 (by decide) ?_
      refine T_istore_n (pc := 28) (i := 2) (ls' := [some (.ref 1), some (.ref (XB + (i + 1))), some (.int (nI 0))]) dX8_isWord_28 rfl (by decide) rfl ?_
      suffices loop : ∀ g j, j + g = q.2.2.2.length → (((B.take e).drop s).map nI).take j = q.2.2.2.take j → T γ 5 0 0 M_X8_isWord (Fn (some (.int (bI (decide (((B.take e).drop s).map nI = q.2.2.2))))) μ) 0 0 29 [some (.ref 1), some (.ref (XB + (i + 1))), some (.int (nI j))] [] (rm μ) by
        exact loop _ 0 (Nat.zero_add _) rfl
      intro g
      induction g with
      | zero =>
        intro j hj hc
        have he : ((B.take e).drop s).map nI = q.2.2.2 := by
          have e1 : (((B.take e).drop s).map nI).take j = ((B.take e).drop s).map nI := List.take_of_length_le (by omega)
          have e2 : q.2.2.2.take j = q.2.2.2 := List.take_of_length_le (by omega)
          rw [e1, e2] at hc
          exact hc
        rw [decide_eq_true he]
        refine T_iload_n (pc := 29) (i := 2) dX8_isWord_29 rfl rfl ?_
        refine T_aload_n (pc := 30) (i := 1) dX8_isWord_30 rfl rfl ?_
        refine T_callVs (pc := 31) (As := []) (rest := [.int (nI j)]) hs lk_X8_37 mk_J0_length_8abf5 (c_strLen hs) rfl dX8_isWord_31 rfl rfl (Nat.le_of_ble_eq_true rfl) (by decide) rfl (Nat.le_refl _) (Nat.le_refl _) (fun E m' h => absurd h.1 (fun z => by cases z)) (fun v' m' h => ?_)
        obtain ⟨h6, rfl⟩ := h
        cases h6
        refine R_icmp_ge (pc := 34) (tgt := 64) (by omega) (by omega) dX8_isWord_34 (by decide) (fun h8 => ?_) (fun h8 => ?_)
        · skip
          refine T_iconst (pc := 64) (v := nI 1) dX8_isWord_64 (by decide) ?_
          exact T_iret (pc := 65) (ty := .boolean) dX8_isWord_65 rfl (by decide) (Nat.le_refl _) (Nat.le_refl _) ⟨rfl, rfl⟩
        · exact absurd h8 (by omega)
      | succ g ih =>
        intro j hj hc
        have hsj : s + j < B.length := by omega
        have hb := hT.1.1.2 (s + j) hsj
        have hbl := hb.1
        have hgd : (((B.take e).drop s).map nI).getD j 0 = nI (B.getD (s + j) 0) := by
          rw [List.getD_eq_getElem?_getD, List.getElem?_map, List.getElem?_drop, List.getElem?_take, if_pos (by omega), List.getD_eq_getElem?_getD, List.getElem?_eq_getElem hsj]
          rfl
        refine T_iload_n (pc := 29) (i := 2) dX8_isWord_29 rfl rfl ?_
        refine T_aload_n (pc := 30) (i := 1) dX8_isWord_30 rfl rfl ?_
        refine T_callVs (pc := 31) (As := []) (rest := [.int (nI j)]) hs lk_X8_37 mk_J0_length_8abf5 (c_strLen hs) rfl dX8_isWord_31 rfl rfl (Nat.le_of_ble_eq_true rfl) (by decide) rfl (Nat.le_refl _) (Nat.le_refl _) (fun E m' h => absurd h.1 (fun z => by cases z)) (fun v' m' h => ?_)
        obtain ⟨h6, rfl⟩ := h
        cases h6
        refine R_icmp_ge (pc := 34) (tgt := 64) (by omega) (by omega) dX8_isWord_34 (by decide) (fun h8 => ?_) (fun h8 => ?_)
        · exact absurd h8 (by omega)
        · skip
          refine T_aload_n (pc := 37) (i := 0) dX8_isWord_37 rfl rfl ?_
          refine R_getR (pc := 38) (i := 2) fl_X8_9 rfl kc_1 lc_1 rc_1_0 dX8_isWord_38 ?_
          refine T_aload_n (pc := 41) (i := 0) dX8_isWord_41 rfl rfl ?_
          refine R_getI (pc := 42) (x := nI s) fl_X8_31 rfl kc_1 lc_1 h3 dX8_isWord_42 ?_
          refine T_iload_n (pc := 45) (i := 2) dX8_isWord_45 rfl rfl ?_
          refine R_iadd (pc := 46) dX8_isWord_46 ?_
          refine R_iald (pc := 47) (x := nI (B.getD (s + j) 0)) kc_2 lc_2 (by omega) (by first | decide | assumption) hb.2 dX8_isWord_47 ?_
          refine T_aload_n (pc := 48) (i := 1) dX8_isWord_48 rfl rfl ?_
          refine T_iload_n (pc := 49) (i := 2) dX8_isWord_49 rfl rfl ?_
          refine T_callVs (pc := 50) (As := [.int (nI j)]) (rest := [.int (nI (B.getD (s + j) 0))]) hs lk_X8_43 mk_J0_charAt_5068e (c_charAt hs (by omega)) rfl dX8_isWord_50 rfl rfl (Nat.le_of_ble_eq_true rfl) (by decide) rfl (Nat.le_refl _) (Nat.le_refl _) (fun E m' h => absurd h.1 (fun z => by cases z)) (fun v' m' h => ?_)
          obtain ⟨h6, rfl⟩ := h
          cases h6
          refine T_icmp_eq (pc := 53) (tgt := 58) dX8_isWord_53 (by decide) (fun h9 => ?_) (fun h9 => ?_)
          · skip
            refine R_iinc (pc := 58) (i := 2) (n := 1) (ls' := [some (.ref 1), some (.ref (XB + (i + 1))), some (.int (nI (j + 1)))]) dX8_isWord_58 rfl rfl ?_
            refine T_goto (pc := 61) (tgt := 29) dX8_isWord_61 (by decide) ?_
            exact ih (j + 1) (by omega) (by rw [take_s 0 (by omega), take_s 0 (by omega), hc, hgd, h9])
          · skip
            refine T_iconst (pc := 56) (v := nI 0) dX8_isWord_56 (by decide) ?_
            rw [decide_eq_false (fun z => h9 (by rw [← hgd, z]))]
            exact T_iret (pc := 57) (ty := .boolean) dX8_isWord_57 rfl (by decide) (Nat.le_refl _) (Nat.le_refl _) ⟨rfl, rfl⟩
    · skip
      refine T_iconst (pc := 25) (v := nI 0) dX8_isWord_25 (by decide) ?_
      rw [decide_eq_false (fun z => h7 (by rw [← z, hlen]))]
      exact T_iret (pc := 26) (ty := .boolean) dX8_isWord_26 rfl (by decide) (Nat.le_refl _) (Nat.le_refl _) ⟨rfl, rfl⟩
theorem c_skipWord {B : List Nat} {p i : Nat} {q : String × Nat × String × List Int32} (hT : TokAt μ B p) (hs : strs[i]? = some q) : Ex γ 6 0 0 M_X8_skipWord [.ref 1, .ref (XB + (i + 1))] (rm μ) (Rm (some (.int (bI (wdB B p q.2.2.2)))) (fun m => Wq (wdB B p q.2.2.2) (TokAt m B (tE B p) ∧ m.1 1 6 = μ.1 1 6) (m.1 1 6 = nI (tS B p) ∧ BytesAt m B) ∧ OfS S1 μ m)) := by
  have hse := tE_le hT.1.2
  refine Ex.of (by decide +kernel) rfl (Nat.le_of_ble_eq_true rfl) ?_
  show T _ _ _ _ _ _ _ _ _ [some (.ref 1), some (.ref (XB + (i + 1)))] [] (rm μ)
  refine T_aload_n (pc := 0) (i := 0) dX8_skipWord_0 rfl rfl ?_
  refine T_aload_n (pc := 1) (i := 1) dX8_skipWord_1 rfl rfl ?_
  refine R_callV1 (pc := 2) (As := [.ref (XB + (i + 1))]) (rest := []) (Or.inl lk_X8_47) mk_X8_isWord (c_isWord hT hs) kc_1 ⟨by decide, rfl⟩ lc_1 dX8_skipWord_2 rfl rfl (Nat.le_of_ble_eq_true rfl) (by decide) rfl (Nat.le_refl _) (Nat.le_refl _) ?_
  refine R_ifb_ne (pc := 5) (tgt := 13) dX8_skipWord_5 (by decide) (fun h1 => ?_) (fun h1 => ?_)
  · skip
    rw [h1]
    refine T_aload_n (pc := 13) (i := 0) dX8_skipWord_13 rfl rfl ?_
    refine R_callVm0 (pc := 14) (As := []) (rest := []) (Or.inl lk_X8_28) mk_X8_advance (c_advance hT.1.1 hT.2.2.1 hse.2) kc_1 ⟨by decide, rfl⟩ lc_1 dX8_skipWord_14 rfl rfl (Nat.le_of_ble_eq_true rfl) (by decide) rfl (Nat.le_refl _) (Nat.le_refl _) (fun m h => ?_)
    refine T_iconst (pc := 17) (v := nI 1) dX8_skipWord_17 (by decide) ?_
    exact T_iret (pc := 18) (ty := .boolean) dX8_skipWord_18 rfl (by decide) (Nat.le_refl _) (Nat.le_refl _) ⟨_, rfl, rfl, Wq.t rfl ⟨h.1, h.2.1⟩, h.2.2⟩
  · skip
    rw [h1]
    refine T_aload_n (pc := 8) (i := 0) dX8_skipWord_8 rfl rfl ?_
    refine R_callVm1 (pc := 9) (As := []) (rest := []) (Or.inl lk_X8_51) mk_X8_isWrong (c_isWrong hT) kc_1 ⟨by decide, rfl⟩ lc_1 dX8_skipWord_9 rfl rfl (Nat.le_of_ble_eq_true rfl) (by decide) rfl (Nat.le_refl _) (Nat.le_refl _) (fun m h => ?_)
    exact T_iret (pc := 12) (ty := .boolean) dX8_skipWord_12 rfl (nar_b _) (Nat.le_refl _) (Nat.le_refl _) ⟨_, rfl, rfl, Wq.f rfl ⟨h.1, h.2.1⟩, h.2.2⟩
theorem c_skip {B : List Nat} {p : Nat} {x : Int32} (hT : TokAt μ B p) : Ex γ 2 0 0 M_X8_skip [.ref 1, .int x] (rm μ) (Rm (some (.int (bI (decide (tK B p = x))))) (fun m => Wq (decide (tK B p = x)) (TokAt m B (tE B p) ∧ m.1 1 6 = μ.1 1 6) (m.1 1 6 = nI (tS B p) ∧ BytesAt m B) ∧ OfS S1 μ m)) := by
  have hse := tE_le hT.1.2
  refine Ex.of (by decide +kernel) rfl (Nat.le_of_ble_eq_true rfl) ?_
  show T _ _ _ _ _ _ _ _ _ [some (.ref 1), some (.int (x))] [] (rm μ)
  refine T_aload_n (pc := 0) (i := 0) dX8_skip_0 rfl rfl ?_
  refine R_getI (pc := 1) (x := (tK B p)) fl_X8_15 rfl kc_1 lc_1 hT.2.2.2.1 dX8_skip_1 ?_
  refine T_iload_n (pc := 4) (i := 1) dX8_skip_4 rfl rfl ?_
  refine T_icmp_eq (pc := 5) (tgt := 13) dX8_skip_5 (by decide) (fun h1 => ?_) (fun h1 => ?_)
  · skip
    rw [decide_eq_true h1]
    refine T_aload_n (pc := 13) (i := 0) dX8_skip_13 rfl rfl ?_
    refine R_callVm0 (pc := 14) (As := []) (rest := []) (Or.inl lk_X8_28) mk_X8_advance (c_advance hT.1.1 hT.2.2.1 hse.2) kc_1 ⟨by decide, rfl⟩ lc_1 dX8_skip_14 rfl rfl (Nat.le_of_ble_eq_true rfl) (by decide) rfl (Nat.le_refl _) (Nat.le_refl _) (fun m h => ?_)
    refine T_iconst (pc := 17) (v := nI 1) dX8_skip_17 (by decide) ?_
    exact T_iret (pc := 18) (ty := .boolean) dX8_skip_18 rfl (by decide) (Nat.le_refl _) (Nat.le_refl _) ⟨_, rfl, rfl, Wq.t rfl ⟨h.1, h.2.1⟩, h.2.2⟩
  · skip
    rw [decide_eq_false h1]
    refine T_aload_n (pc := 8) (i := 0) dX8_skip_8 rfl rfl ?_
    refine R_callVm1 (pc := 9) (As := []) (rest := []) (Or.inl lk_X8_51) mk_X8_isWrong (c_isWrong hT) kc_1 ⟨by decide, rfl⟩ lc_1 dX8_skip_9 rfl rfl (Nat.le_of_ble_eq_true rfl) (by decide) rfl (Nat.le_refl _) (Nat.le_refl _) (fun m h => ?_)
    exact T_iret (pc := 12) (ty := .boolean) dX8_skip_12 rfl (nar_b _) (Nat.le_refl _) (Nat.le_refl _) ⟨_, rfl, rfl, Wq.f rfl ⟨h.1, h.2.1⟩, h.2.2⟩
def oI : Option Int32 → Int32
  | none => -1
  | some x => x
theorem c_readNumber {B : List Nat} {p : Nat} {x : Int32} (hT : TokAt μ B p) : Ex γ 2 0 0 M_X8_readNumber [.ref 1, .int x] (rm μ) (Rm (some (.int (oI (rdN B p x)))) (fun m => Wq (rdN B p x).isSome (TokAt m B (tE B p) ∧ m.1 1 6 = μ.1 1 6) (m.1 1 6 = nI (tS B p) ∧ BytesAt m B) ∧ OfS S1 μ m)) := by
  have hse := tE_le hT.1.2
  have bad : rdN B p x = none → T γ 2 0 0 M_X8_readNumber (Rm (some (.int (oI (rdN B p x)))) (fun m => Wq (rdN B p x).isSome (TokAt m B (tE B p) ∧ m.1 1 6 = μ.1 1 6) (m.1 1 6 = nI (tS B p) ∧ BytesAt m B) ∧ OfS S1 μ m)) 0 0 17 [some (.ref 1), some (.int x), none] [] (rm μ) := fun e => by
    rw [e]
    refine T_aload_n (pc := 17) (i := 0) dX8_readNumber_17 rfl rfl ?_
    refine R_callVm1 (pc := 18) (As := []) (rest := []) (Or.inl lk_X8_51) mk_X8_isWrong (c_isWrong hT) kc_1 ⟨by decide, rfl⟩ lc_1 dX8_readNumber_18 rfl rfl (Nat.le_of_ble_eq_true rfl) (by decide) rfl (Nat.le_refl _) (Nat.le_refl _) (fun m h => ?_)
    refine T_pop (pc := 21) dX8_readNumber_21 rfl ?_
    refine T_iconst (pc := 22) (v := (-1)) dX8_readNumber_22 (by decide) ?_
    exact T_iret (pc := 23) (ty := .int) dX8_readNumber_23 rfl rfl (Nat.le_refl _) (Nat.le_refl _) ⟨_, rfl, rfl, Wq.f rfl ⟨h.1, h.2.1⟩, h.2.2⟩
  refine Ex.of (by decide +kernel) rfl (Nat.le_of_ble_eq_true rfl) ?_
  show T _ _ _ _ _ _ _ _ _ [some (.ref 1), some (.int (x)), none] [] (rm μ)
  refine T_aload_n (pc := 0) (i := 0) dX8_readNumber_0 rfl rfl ?_
  refine R_getI (pc := 1) (x := (tK B p)) fl_X8_15 rfl kc_1 lc_1 hT.2.2.2.1 dX8_readNumber_1 ?_
  refine T_bipush (pc := 4) (v := (-3)) dX8_readNumber_4 (by decide) ?_
  refine T_icmp_ne (pc := 6) (tgt := 17) dX8_readNumber_6 (by decide) (fun h1 => ?_) (fun h1 => ?_)
  · exact bad (by unfold rdN; rw [if_neg (fun z => h1 z.1)])
  · skip
    have hv := hT.2.2.2.2 h1
    refine T_aload_n (pc := 9) (i := 0) dX8_readNumber_9 rfl rfl ?_
    refine R_getI (pc := 10) (x := (tV B p)) fl_X8_34 rfl kc_1 lc_1 hv dX8_readNumber_10 ?_
    refine T_iload_n (pc := 13) (i := 1) dX8_readNumber_13 rfl rfl ?_
    refine T_icmp_le (pc := 14) (tgt := 24) dX8_readNumber_14 (by decide) (fun h2 => ?_) (fun h2 => ?_)
    · skip
      refine T_aload_n (pc := 24) (i := 0) dX8_readNumber_24 rfl rfl ?_
      refine R_getI (pc := 25) (x := (tV B p)) fl_X8_34 rfl kc_1 lc_1 hv dX8_readNumber_25 ?_
      refine T_istore_n (pc := 28) (i := 2) (ls' := [some (.ref 1), some (.int (x)), some (.int ((tV B p)))]) dX8_readNumber_28 rfl (by decide) rfl ?_
      refine T_iload_n (pc := 29) (i := 2) dX8_readNumber_29 rfl rfl ?_
      refine T_iconst (pc := 30) (v := (-1)) dX8_readNumber_30 (by decide) ?_
      refine T_icmp_ne (pc := 31) (tgt := 42) dX8_readNumber_31 (by decide) (fun h3 => ?_) (fun h3 => ?_)
      · skip
        have e : rdN B p x = some (tV B p) := by unfold rdN; rw [if_pos ⟨h1, h2, h3⟩]
        rw [e]
        refine T_aload_n (pc := 42) (i := 0) dX8_readNumber_42 rfl rfl ?_
        refine R_callVm0 (pc := 43) (As := []) (rest := []) (Or.inl lk_X8_28) mk_X8_advance (c_advance hT.1.1 hT.2.2.1 hse.2) kc_1 ⟨by decide, rfl⟩ lc_1 dX8_readNumber_43 rfl rfl (Nat.le_of_ble_eq_true rfl) (by decide) rfl (Nat.le_refl _) (Nat.le_refl _) (fun m h => ?_)
        refine T_iload_n (pc := 46) (i := 2) dX8_readNumber_46 rfl rfl ?_
        exact T_iret (pc := 47) (ty := .int) dX8_readNumber_47 rfl rfl (Nat.le_refl _) (Nat.le_refl _) ⟨_, rfl, rfl, Wq.t rfl ⟨h.1, h.2.1⟩, h.2.2⟩
      · skip
        have e : rdN B p x = none := by unfold rdN; rw [if_neg (fun z => z.2.2 h3)]
        rw [e]
        refine T_aload_n (pc := 34) (i := 0) dX8_readNumber_34 rfl rfl ?_
        refine R_callVm1 (pc := 35) (As := []) (rest := []) (Or.inl lk_X8_51) mk_X8_isWrong (c_isWrong hT) kc_1 ⟨by decide, rfl⟩ lc_1 dX8_readNumber_35 rfl rfl (Nat.le_of_ble_eq_true rfl) (by decide) rfl (Nat.le_refl _) (Nat.le_refl _) (fun m h => ?_)
        refine T_pop (pc := 38) dX8_readNumber_38 rfl ?_
        refine T_goto (pc := 39) (tgt := 46) dX8_readNumber_39 (by decide) ?_
        refine T_iload_n (pc := 46) (i := 2) dX8_readNumber_46 rfl rfl ?_
        rw [h3]
        exact T_iret (pc := 47) (ty := .int) dX8_readNumber_47 rfl rfl (Nat.le_refl _) (Nat.le_refl _) ⟨_, rfl, rfl, Wq.f rfl ⟨h.1, h.2.1⟩, h.2.2⟩
    · exact bad (by unfold rdN; rw [if_neg (fun z => h2 z.2.1)])
theorem c_beastsAhead {B : List Nat} {p : Nat} (hT : TokAt μ B p) (hk : tK B p = -2) (h20 : tE B p - tS B p ≤ 20) : Ex γ 2 0 0 M_X8_beastsAhead [.ref 1] (rm μ) (Fn (some (.long (vO (if bsO B (tS B p) (tE B p - tS B p) = true then some (bsN B (tS B p) (tE B p - tS B p)) else none)))) μ) := by
  have hse := tE_le hT.1.2
  have h400 := hT.1.1.1.2
  obtain ⟨w1, w2, w3⟩ := tok_word (fun i hi => (hT.1.1.2 i hi).1) hk
  have hlet : ∀ i, tS B p ≤ i → i < tE B p → 97 ≤ B.getD i 0 := fun i h1 h2 => by
    rw [w3] at h2
    have := spF_all _ _ i h1 h2
    unfold isL at this
    simp only [Bool.and_eq_true, decide_eq_true_eq] at this
    exact this.1
  have h3 := hT.2.1
  have h4 := hT.2.2.1
  have hby := hT.1.1.2
  generalize tS B p = s at *
  generalize tE B p = e at *
  suffices loop : ∀ g k, s + k + g = e → bsO B s k = true → T γ 2 0 0 M_X8_beastsAhead (Fn (some (.long (vO (if bsO B s (e - s) = true then some (bsN B s (e - s)) else none)))) μ) 0 0 7 [some (.ref 1), some (.long (lN (cd (bsN B s k)))), none, some (.int (nI (s + k))), none] [] (rm μ) by
    refine Ex.of (by decide +kernel) rfl (Nat.le_of_ble_eq_true rfl) ?_
    show T _ _ _ _ _ _ _ _ _ [some (.ref 1), none, none, none, none] [] (rm μ)
    refine T_lconst (pc := 0) (v := lN 1) dX8_beastsAhead_0 rfl ?_
    refine T_lstore_n (pc := 1) (i := 1) (ls' := [some (.ref 1), some (.long (lN 1)), none, none, none]) dX8_beastsAhead_1 rfl (by decide) rfl ?_
    refine T_aload_n (pc := 2) (i := 0) dX8_beastsAhead_2 rfl rfl ?_
    refine R_getI (pc := 3) (x := nI s) fl_X8_31 rfl kc_1 lc_1 h3 dX8_beastsAhead_3 ?_
    refine T_istore_n (pc := 6) (i := 3) (ls' := [some (.ref 1), some (.long (lN 1)), none, some (.int (nI s)), none]) dX8_beastsAhead_6 rfl (by decide) rfl ?_
    exact loop (e - s) 0 (by omega) rfl
  intro g
  induction g with
  | zero =>
    intro k hg ho
    obtain rfl : k = e - s := by omega
    rw [if_pos ho]
    refine T_iload_n (pc := 7) (i := 3) dX8_beastsAhead_7 rfl rfl ?_
    refine T_aload_n (pc := 8) (i := 0) dX8_beastsAhead_8 rfl rfl ?_
    refine R_getI (pc := 9) (x := nI e) fl_X8_25 rfl kc_1 lc_1 h4 dX8_beastsAhead_9 ?_
    refine R_icmp_ge (pc := 12) (tgt := 51) (by omega) (by omega) dX8_beastsAhead_12 (by decide) (fun h1 => ?_) (fun h1 => ?_)
    · skip
      refine T_lload_n (pc := 51) (i := 1) dX8_beastsAhead_51 rfl rfl ?_
      exact T_lret dX8_beastsAhead_52 rfl (Nat.le_refl _) (Nat.le_refl _) ⟨rfl, rfl⟩
    · exact absurd h1 (by omega)
  | succ g ih =>
    intro k hg ho
    have hb := hby (s + k) (by omega)
    have hl := hlet (s + k) (by omega) (by omega)
    have hs1 := bsN_s (B := B) (s := s) (k := k) (by omega)
    have hs2 := bsO_s (B := B) (s := s) (k := k) (by omega)
    have hno := bsO_no (B := B) (s := s) (k := k) (by omega)
    have h9 := ih (k + 1) (by omega)
    have hb1 := hb.1
    refine T_iload_n (pc := 7) (i := 3) dX8_beastsAhead_7 rfl rfl ?_
    refine T_aload_n (pc := 8) (i := 0) dX8_beastsAhead_8 rfl rfl ?_
    refine R_getI (pc := 9) (x := nI e) fl_X8_25 rfl kc_1 lc_1 h4 dX8_beastsAhead_9 ?_
    refine R_icmp_ge (pc := 12) (tgt := 51) (by omega) (by omega) dX8_beastsAhead_12 (by decide) (fun h1 => ?_) (fun h1 => ?_)
    · exact absurd h1 (by omega)
    · skip
      refine T_aload_n (pc := 15) (i := 0) dX8_beastsAhead_15 rfl rfl ?_
      refine R_getR (pc := 16) (i := 2) fl_X8_9 rfl kc_1 lc_1 rc_1_0 dX8_beastsAhead_16 ?_
      refine T_iload_n (pc := 19) (i := 3) dX8_beastsAhead_19 rfl rfl ?_
      refine R_iald (pc := 20) (x := nI (B.getD (s + k) 0)) kc_2 lc_2 (by omega) (by first | decide | assumption) hb.2 dX8_beastsAhead_20 ?_
      refine T_bipush (pc := 21) (v := nI 97) dX8_beastsAhead_21 (by decide) ?_
      refine R_isub (pc := 23) (by omega) dX8_beastsAhead_23 ?_
      refine T_istore (pc := 24) (i := 4) (ls' := [some (.ref 1), some (.long (lN (cd (bsN B s k)))), none, some (.int (nI (s + k))), some (.int (nI ((B.getD (s + k) 0) - 97)))]) dX8_beastsAhead_24 (by decide) rfl ?_
      refine T_iload (pc := 26) (i := 4) dX8_beastsAhead_26 rfl ?_
      refine T_bipush (pc := 28) (v := nI 8) dX8_beastsAhead_28 (by decide) ?_
      refine R_icmp_lt (pc := 30) (tgt := 37) (by omega) (by omega) dX8_beastsAhead_30 (by decide) (fun h2 => ?_) (fun h2 => ?_)
      · skip
        refine T_lload_n (pc := 37) (i := 1) dX8_beastsAhead_37 rfl rfl ?_
        refine T_iload (pc := 38) (i := 4) dX8_beastsAhead_38 rfl ?_
        refine T_iconst (pc := 40) (v := nI 1) dX8_beastsAhead_40 (by decide) ?_
        refine R_callS1 (pc := 41) (av := [.long (lN (cd (bsN B s k))), .int (nI ((B.getD (s + k) 0) - 97)), .int (nI 1)]) (rest := []) (Or.inr lk_X8_61) mk_X11_withBeasts (c_withBeasts h2 (by decide)) dX8_beastsAhead_41 rfl rfl (Nat.le_of_ble_eq_true rfl) (by decide) rfl (Nat.le_refl _) (Nat.le_refl _) ?_
        refine T_lstore_n (pc := 44) (i := 1) (ls' := [some (.ref 1), some (.long (lN (cd (bsN B s k ++ List.replicate 1 (B.getD (s + k) 0 - 97))))), none, some (.int (nI (s + k))), some (.int (nI ((B.getD (s + k) 0) - 97)))]) dX8_beastsAhead_44 rfl (by decide) rfl ?_
        refine R_iinc (pc := 45) (i := 3) (n := 1) (ls' := [some (.ref 1), some (.long (lN (cd (bsN B s k ++ List.replicate 1 (B.getD (s + k) 0 - 97))))), none, some (.int (nI (s + k + 1))), some (.int (nI ((B.getD (s + k) 0) - 97)))]) dX8_beastsAhead_45 rfl rfl ?_
        refine T_goto (pc := 48) (tgt := 7) dX8_beastsAhead_48 (by decide) ?_
        refine T_ls (ls' := [some (.ref 1), some (.long (lN (cd (bsN B s k ++ List.replicate 1 (B.getD (s + k) 0 - 97))))), none, some (.int (nI (s + k + 1))), none]) (And.intro rfl (And.intro rfl (And.intro rfl True.intro))) ?_
        rw [hs1, hs2, ho, decide_eq_true (by omega)] at h9
        exact h9 rfl
      · skip
        rw [if_neg (by rw [hno (by omega) (n := e - s) (by omega) (by omega)]; decide)]
        refine T_ldc2 (pc := 33) dX8_beastsAhead_33 cn_X8_59 ?_
        exact T_lret dX8_beastsAhead_36 rfl (Nat.le_refl _) (Nat.le_refl _) ⟨rfl, rfl⟩
theorem c_readBeasts {B : List Nat} {p least most : Nat} (hT : TokAt μ B p) (hm : most ≤ 20) (hl : least ≤ 1) : Ex γ 3 0 0 M_X8_readBeasts [.ref 1, .int (nI least), .int (nI most)] (rm μ) (Rm (some (.long (vO (rdB B p least most)))) (fun m => Wq (rdB B p least most).isSome (TokAt m B (tE B p) ∧ m.1 1 6 = μ.1 1 6) (m.1 1 6 = nI (tS B p) ∧ BytesAt m B) ∧ OfS S1 μ m)) := by
  have hse := tE_le hT.1.2
  have h400 := hT.1.1.1.2
  have tail : T γ 3 0 0 M_X8_readBeasts (Rm (some (.long (vO (rdB B p least most)))) (fun m => Wq (rdB B p least most).isSome (TokAt m B (tE B p) ∧ m.1 1 6 = μ.1 1 6) (m.1 1 6 = nI (tS B p) ∧ BytesAt m B) ∧ OfS S1 μ m)) 0 0 49 [some (.ref 1), some (.int (nI least)), some (.int (nI most)), none, none] [.long (vO (rdB B p least most))] (rm μ) := by
    cases e : rdB B p least most with
    | none =>
      refine T_lstore_n (pc := 49) (i := 3) (ls' := [some (.ref 1), some (.int (nI least)), some (.int (nI most)), some (.long ((-1))), none]) dX8_readBeasts_49 rfl (by decide) rfl ?_
      refine T_lload_n (pc := 50) (i := 3) dX8_readBeasts_50 rfl rfl ?_
      refine T_ldc2 (pc := 51) dX8_readBeasts_51 cn_X8_59 ?_
      refine T_lcmp (pc := 54) dX8_readBeasts_54 ?_
      refine R_lx_ne (pc := 55) (tgt := 66) dX8_readBeasts_55 (by decide) (fun h1 => ?_) (fun h1 => ?_)
      · exact absurd rfl h1
      · skip
        refine T_aload_n (pc := 58) (i := 0) dX8_readBeasts_58 rfl rfl ?_
        refine R_callVm1 (pc := 59) (As := []) (rest := []) (Or.inl lk_X8_51) mk_X8_isWrong (c_isWrong hT) kc_1 ⟨by decide, rfl⟩ lc_1 dX8_readBeasts_59 rfl rfl (Nat.le_of_ble_eq_true rfl) (by decide) rfl (Nat.le_refl _) (Nat.le_refl _) (fun m h => ?_)
        refine T_pop (pc := 62) dX8_readBeasts_62 rfl ?_
        refine T_goto (pc := 63) (tgt := 70) dX8_readBeasts_63 (by decide) ?_
        refine T_lload_n (pc := 70) (i := 3) dX8_readBeasts_70 rfl rfl ?_
        exact T_lret dX8_readBeasts_71 rfl (Nat.le_refl _) (Nat.le_refl _) ⟨_, rfl, rfl, Wq.f rfl ⟨h.1, h.2.1⟩, h.2.2⟩
    | some l =>
      have bl := cd_lt (rdB_mw hm e).1
      refine T_lstore_n (pc := 49) (i := 3) (ls' := [some (.ref 1), some (.int (nI least)), some (.int (nI most)), some (.long (lN (cd l))), none]) dX8_readBeasts_49 rfl (by decide) rfl ?_
      refine T_lload_n (pc := 50) (i := 3) dX8_readBeasts_50 rfl rfl ?_
      refine T_ldc2 (pc := 51) dX8_readBeasts_51 cn_X8_59 ?_
      refine T_lcmp (pc := 54) dX8_readBeasts_54 ?_
      refine R_lx_ne (pc := 55) (tgt := 66) dX8_readBeasts_55 (by decide) (fun h1 => ?_) (fun h1 => ?_)
      · skip
        refine T_aload_n (pc := 66) (i := 0) dX8_readBeasts_66 rfl rfl ?_
        refine R_callVm0 (pc := 67) (As := []) (rest := []) (Or.inl lk_X8_28) mk_X8_advance (c_advance hT.1.1 hT.2.2.1 hse.2) kc_1 ⟨by decide, rfl⟩ lc_1 dX8_readBeasts_67 rfl rfl (Nat.le_of_ble_eq_true rfl) (by decide) rfl (Nat.le_refl _) (Nat.le_refl _) (fun m h => ?_)
        refine T_lload_n (pc := 70) (i := 3) dX8_readBeasts_70 rfl rfl ?_
        exact T_lret dX8_readBeasts_71 rfl (Nat.le_refl _) (Nat.le_refl _) ⟨_, rfl, rfl, Wq.t rfl ⟨h.1, h.2.1⟩, h.2.2⟩
      · exact absurd h1 (lN_ne (by omega))
  have t17 : ¬ (least = 0 ∧ tK B p = nI 46) → T γ 3 0 0 M_X8_readBeasts (Rm (some (.long (vO (rdB B p least most)))) (fun m => Wq (rdB B p least most).isSome (TokAt m B (tE B p) ∧ m.1 1 6 = μ.1 1 6) (m.1 1 6 = nI (tS B p) ∧ BytesAt m B) ∧ OfS S1 μ m)) 0 0 17 [some (.ref 1), some (.int (nI least)), some (.int (nI most)), none, none] [] (rm μ) := fun hn => by
    have e0 : rdB B p least most = if tK B p = -2 ∧ tE B p - tS B p ≤ most ∧ bsO B (tS B p) (tE B p - tS B p) = true then some (bsN B (tS B p) (tE B p - tS B p)) else none := by unfold rdB; rw [if_neg hn]
    refine T_aload_n (pc := 17) (i := 0) dX8_readBeasts_17 rfl rfl ?_
    refine R_getI (pc := 18) (x := (tK B p)) fl_X8_15 rfl kc_1 lc_1 hT.2.2.2.1 dX8_readBeasts_18 ?_
    refine T_bipush (pc := 21) (v := (-2)) dX8_readBeasts_21 (by decide) ?_
    refine T_icmp_ne (pc := 23) (tgt := 46) dX8_readBeasts_23 (by decide) (fun h1 => ?_) (fun h1 => ?_)
    · skip
      rw [e0, if_neg (fun z => h1 z.1)] at tail
      rw [e0, if_neg (fun z => h1 z.1)]
      refine T_ldc2 (pc := 46) dX8_readBeasts_46 cn_X8_59 ?_
      exact tail
    · skip
      refine T_aload_n (pc := 26) (i := 0) dX8_readBeasts_26 rfl rfl ?_
      refine R_getI (pc := 27) (x := nI (tE B p)) fl_X8_25 rfl kc_1 lc_1 hT.2.2.1 dX8_readBeasts_27 ?_
      refine T_aload_n (pc := 30) (i := 0) dX8_readBeasts_30 rfl rfl ?_
      refine R_getI (pc := 31) (x := nI (tS B p)) fl_X8_31 rfl kc_1 lc_1 hT.2.1 dX8_readBeasts_31 ?_
      refine R_isub (pc := 34) (by omega) dX8_readBeasts_34 ?_
      refine T_iload_n (pc := 35) (i := 2) dX8_readBeasts_35 rfl rfl ?_
      refine R_icmp_gt (pc := 36) (tgt := 46) (by omega) (by omega) dX8_readBeasts_36 (by decide) (fun h2 => ?_) (fun h2 => ?_)
      · skip
        rw [e0, if_neg (fun z => by omega)] at tail
        rw [e0, if_neg (fun z => by omega)]
        refine T_ldc2 (pc := 46) dX8_readBeasts_46 cn_X8_59 ?_
        exact tail
      · skip
        refine T_aload_n (pc := 39) (i := 0) dX8_readBeasts_39 rfl rfl ?_
        refine R_callV1 (pc := 40) (As := []) (rest := []) (Or.inl lk_X8_55) mk_X8_beastsAhead (c_beastsAhead hT h1 (by omega)) kc_1 ⟨by decide, rfl⟩ lc_1 dX8_readBeasts_40 rfl rfl (Nat.le_of_ble_eq_true rfl) (by decide) rfl (Nat.le_refl _) (Nat.le_refl _) ?_
        refine T_goto (pc := 43) (tgt := 49) dX8_readBeasts_43 (by decide) ?_
        have e1 : rdB B p least most = if bsO B (tS B p) (tE B p - tS B p) = true then some (bsN B (tS B p) (tE B p - tS B p)) else none := by
          rw [e0]
          by_cases hb : bsO B (tS B p) (tE B p - tS B p) = true
          · rw [if_pos hb, if_pos ⟨h1, h2, hb⟩]
          · rw [if_neg hb, if_neg (fun z => hb z.2.2)]
        rw [e1] at tail
        rw [e1]
        exact tail
  refine Ex.of (by decide +kernel) rfl (Nat.le_of_ble_eq_true rfl) ?_
  show T _ _ _ _ _ _ _ _ _ [some (.ref 1), some (.int (nI least)), some (.int (nI most)), none, none] [] (rm μ)
  refine T_iload_n (pc := 0) (i := 1) dX8_readBeasts_0 rfl rfl ?_
  refine R_if_ne (pc := 1) (tgt := 17) (by omega) dX8_readBeasts_1 (by decide) (fun h1 => ?_) (fun h1 => ?_)
  · exact t17 (fun z => h1 z.1)
  · skip
    refine T_aload_n (pc := 4) (i := 0) dX8_readBeasts_4 rfl rfl ?_
    refine R_getI (pc := 5) (x := (tK B p)) fl_X8_15 rfl kc_1 lc_1 hT.2.2.2.1 dX8_readBeasts_5 ?_
    refine T_bipush (pc := 8) (v := nI 46) dX8_readBeasts_8 (by decide) ?_
    refine T_icmp_ne (pc := 10) (tgt := 17) dX8_readBeasts_10 (by decide) (fun h2 => ?_) (fun h2 => ?_)
    · exact t17 (fun z => h2 z.2)
    · skip
      have e1 : rdB B p least most = some [] := by unfold rdB; rw [if_pos ⟨h1, h2⟩]
      rw [e1] at tail
      rw [e1]
      refine T_lconst (pc := 13) (v := lN 1) dX8_readBeasts_13 rfl ?_
      refine T_goto (pc := 14) (tgt := 49) dX8_readBeasts_14 (by decide) ?_
      exact tail
def by4 (x : Int32) : List Nat := [byN x 24, byN x 16, byN x 8, byN x 0]
def by20 (a b c d e : Int32) : List Nat := by4 a ++ by4 b ++ by4 c ++ by4 d ++ by4 e
def S12 (k : Nat) : Prop := k = 1 ∨ k = 2
theorem c_feed {a b c d e : Int32} {B : List Nat} (hB : BytesAt μ B) : Ex γ 2 0 0 M_X11_feed [.ref 0, .int a, .int b, .int c, .int d, .int e] (rm μ) (Rm (some (.int (if B.length + 20 ≤ 400 then nI (B.length + 20) else -1))) (fun m => (BytesAt m (if B.length + 20 ≤ 400 then B ++ by20 a b c d e else B) ∧ m.1 1 6 = μ.1 1 6) ∧ OfS S12 μ m)) := by
  have h400 := hB.1.2
  refine Ex.of (by decide +kernel) rfl (Nat.le_of_ble_eq_true rfl) ?_
  show T _ _ _ _ _ _ _ _ _ [some (.ref 0), some (.int (a)), some (.int (b)), some (.int (c)), some (.int (d)), some (.int (e))] [] (rm μ)
  refine T_aload_n (pc := 0) (i := 0) dX11_feed_0 rfl rfl ?_
  refine R_getR (pc := 1) (i := 1) fl_X11_10 rfl kc_0 lc_0 rc_0_0 dX11_feed_1 ?_
  refine R_getI (pc := 4) (x := nI B.length) fl_X11_97 rfl kc_1 lc_1 hB.1.1 dX11_feed_4 ?_
  refine T_bipush (pc := 7) (v := nI 20) dX11_feed_7 (by decide) ?_
  refine R_iadd (pc := 9) dX11_feed_9 ?_
  refine T_sipush (pc := 10) (v := nI 400) dX11_feed_10 (by decide) ?_
  refine R_icmp_le (pc := 13) (tgt := 18) (by omega) (by omega) dX11_feed_13 (by decide) (fun h1 => ?_) (fun h1 => ?_)
  · skip
    rw [if_pos h1]
    refine T_aload_n (pc := 18) (i := 0) dX11_feed_18 rfl rfl ?_
    refine R_getR (pc := 19) (i := 1) fl_X11_10 rfl kc_0 lc_0 rc_0_0 dX11_feed_19 ?_
    refine T_iload_n (pc := 22) (i := 1) dX11_feed_22 rfl rfl ?_
    refine R_callVm0 (pc := 23) (As := [.int (a)]) (rest := []) (Or.inl lk_X11_101) mk_X8_append (c_Text_append hB (by omega)) kc_1 ⟨by decide, rfl⟩ lc_1 dX11_feed_23 rfl rfl (Nat.le_of_ble_eq_true rfl) (by decide) rfl (Nat.le_refl _) (Nat.le_refl _) (fun m1 g1 => ?_)
    obtain ⟨a1, b1, c1⟩ := g1
    refine T_aload_n (pc := 26) (i := 0) dX11_feed_26 rfl rfl ?_
    refine R_getR (pc := 27) (i := 1) fl_X11_10 rfl kc_0 lc_0 rc_0_0 dX11_feed_27 ?_
    refine T_iload_n (pc := 30) (i := 2) dX11_feed_30 rfl rfl ?_
    refine R_callVm0 (pc := 31) (As := [.int (b)]) (rest := []) (Or.inl lk_X11_101) mk_X8_append (c_Text_append a1 (by rw [List.length_append]; show B.length + 4 + 4 ≤ 400; omega)) kc_1 ⟨by decide, rfl⟩ lc_1 dX11_feed_31 rfl rfl (Nat.le_of_ble_eq_true rfl) (by decide) rfl (Nat.le_refl _) (Nat.le_refl _) (fun m2 g2 => ?_)
    obtain ⟨a2, b2, c2⟩ := g2
    refine T_aload_n (pc := 34) (i := 0) dX11_feed_34 rfl rfl ?_
    refine R_getR (pc := 35) (i := 1) fl_X11_10 rfl kc_0 lc_0 rc_0_0 dX11_feed_35 ?_
    refine T_iload_n (pc := 38) (i := 3) dX11_feed_38 rfl rfl ?_
    refine R_callVm0 (pc := 39) (As := [.int (c)]) (rest := []) (Or.inl lk_X11_101) mk_X8_append (c_Text_append a2 (by rw [List.length_append, List.length_append]; show B.length + 4 + 4 + 4 ≤ 400; omega)) kc_1 ⟨by decide, rfl⟩ lc_1 dX11_feed_39 rfl rfl (Nat.le_of_ble_eq_true rfl) (by decide) rfl (Nat.le_refl _) (Nat.le_refl _) (fun m3 g3 => ?_)
    obtain ⟨a3, b3, c3⟩ := g3
    refine T_aload_n (pc := 42) (i := 0) dX11_feed_42 rfl rfl ?_
    refine R_getR (pc := 43) (i := 1) fl_X11_10 rfl kc_0 lc_0 rc_0_0 dX11_feed_43 ?_
    refine T_iload (pc := 46) (i := 4) dX11_feed_46 rfl ?_
    refine R_callVm0 (pc := 48) (As := [.int (d)]) (rest := []) (Or.inl lk_X11_101) mk_X8_append (c_Text_append a3 (by rw [List.length_append, List.length_append, List.length_append]; show B.length + 4 + 4 + 4 + 4 ≤ 400; omega)) kc_1 ⟨by decide, rfl⟩ lc_1 dX11_feed_48 rfl rfl (Nat.le_of_ble_eq_true rfl) (by decide) rfl (Nat.le_refl _) (Nat.le_refl _) (fun m4 g4 => ?_)
    obtain ⟨a4, b4, c4⟩ := g4
    refine T_aload_n (pc := 51) (i := 0) dX11_feed_51 rfl rfl ?_
    refine R_getR (pc := 52) (i := 1) fl_X11_10 rfl kc_0 lc_0 rc_0_0 dX11_feed_52 ?_
    refine T_iload (pc := 55) (i := 5) dX11_feed_55 rfl ?_
    refine R_callVm0 (pc := 57) (As := [.int (e)]) (rest := []) (Or.inl lk_X11_101) mk_X8_append (c_Text_append a4 (by rw [List.length_append, List.length_append, List.length_append, List.length_append]; show B.length + 4 + 4 + 4 + 4 + 4 ≤ 400; omega)) kc_1 ⟨by decide, rfl⟩ lc_1 dX11_feed_57 rfl rfl (Nat.le_of_ble_eq_true rfl) (by decide) rfl (Nat.le_refl _) (Nat.le_refl _) (fun m5 g5 => ?_)
    obtain ⟨a5, b5, c5⟩ := g5
    have eB : B ++ by20 a b c d e = B ++ [byN a 24, byN a 16, byN a 8, byN a 0] ++ [byN b 24, byN b 16, byN b 8, byN b 0] ++ [byN c 24, byN c 16, byN c 8, byN c 0] ++ [byN d 24, byN d 16, byN d 8, byN d 0] ++ [byN e 24, byN e 16, byN e 8, byN e 0] := by
      unfold by20 by4
      simp only [List.append_assoc]
    rw [← eB] at a5
    have el : (B ++ by20 a b c d e).length = B.length + 20 := by rw [List.length_append]; rfl
    rw [if_pos h1]
    refine T_aload_n (pc := 60) (i := 0) dX11_feed_60 rfl rfl ?_
    refine R_getR (pc := 61) (i := 1) fl_X11_10 rfl kc_0 lc_0 rc_0_0 dX11_feed_61 ?_
    refine R_getI (pc := 64) (x := nI (B.length + 20)) fl_X11_97 rfl kc_1 lc_1 (by rw [a5.1.1, el]) dX11_feed_64 ?_
    exact T_iret (pc := 67) (ty := .int) dX11_feed_67 rfl rfl (Nat.le_refl _) (Nat.le_refl _) ⟨_, rfl, rfl, ⟨a5, (b5 6 (by decide)).trans ((b4 6 (by decide)).trans ((b3 6 (by decide)).trans ((b2 6 (by decide)).trans (b1 6 (by decide)))))⟩, c1.trans (c2.trans (c3.trans (c4.trans c5)))⟩
  · skip
    rw [if_neg (by omega), if_neg (by omega)]
    refine T_iconst (pc := 16) (v := (-1)) dX11_feed_16 (by decide) ?_
    exact T_iret (pc := 17) (ty := .int) dX11_feed_17 rfl rfl (Nat.le_refl _) (Nat.le_refl _) ⟨_, rfl, rfl, ⟨hB, rfl⟩, OfS.refl _ _⟩
theorem c_end {x : Int32} {B : List Nat} (hB : BytesAt μ B) : Ex γ 2 0 0 M_X11_end [.ref 0, .int x] (rm μ) (Rm (some (.int (bI (inB x (B.length + 1))))) (fun m => (BytesAt m (if inB x (B.length + 1) = true then B.take x.toNatClampNeg else B) ∧ m.1 1 6 = μ.1 1 6) ∧ OfS S12 μ m)) := by
  have h400 := hB.1.2
  by_cases hin : inB x (B.length + 1) = true
  · obtain ⟨k, hk, rfl⟩ := inB_of (by omega) hin
    rw [hin, if_pos rfl, nI_clamp (n := k) (by omega)]
    have hl : (B.take k).length = k := by rw [List.length_take]; omega
    refine Ex.of (by decide +kernel) rfl (Nat.le_of_ble_eq_true rfl) ?_
    show T _ _ _ _ _ _ _ _ _ [some (.ref 0), some (.int (nI k))] [] (rm μ)
    refine T_iload_n (pc := 0) (i := 1) dX11_end_0 rfl rfl ?_
    refine R_if_lt (pc := 1) (tgt := 15) (by omega) dX11_end_1 (by decide) (fun h1 => ?_) (fun h1 => ?_)
    · exact h1.elim
    · skip
      refine T_iload_n (pc := 4) (i := 1) dX11_end_4 rfl rfl ?_
      refine T_aload_n (pc := 5) (i := 0) dX11_end_5 rfl rfl ?_
      refine R_getR (pc := 6) (i := 1) fl_X11_10 rfl kc_0 lc_0 rc_0_0 dX11_end_6 ?_
      refine R_getI (pc := 9) (x := nI B.length) fl_X11_97 rfl kc_1 lc_1 hB.1.1 dX11_end_9 ?_
      refine R_icmp_le (pc := 12) (tgt := 17) (by omega) (by omega) dX11_end_12 (by decide) (fun h2 => ?_) (fun h2 => ?_)
      · skip
        refine T_aload_n (pc := 17) (i := 0) dX11_end_17 rfl rfl ?_
        refine R_getR (pc := 18) (i := 1) fl_X11_10 rfl kc_0 lc_0 rc_0_0 dX11_end_18 ?_
        refine T_iload_n (pc := 21) (i := 1) dX11_end_21 rfl rfl ?_
        refine R_putI (pc := 22) fl_X11_97 ⟨rfl, rfl⟩ (Or.inl rfl) kc_1 lc_1 dX11_end_22 ?_
        refine T_iconst (pc := 25) (v := nI 1) dX11_end_25 (by decide) ?_
        refine T_iret (pc := 26) (ty := .boolean) dX11_end_26 rfl (by decide) (Nat.le_refl _) (Nat.le_refl _) ⟨_, rfl, rfl, ⟨⟨⟨(e_wI ⟨rfl, rfl⟩).trans (by rw [hl]), by omega⟩, fun i hi => ?_⟩, n_wI (by omega)⟩, OfS.sI (OfS.refl _ _) (Or.inl rfl)⟩
        rw [hl] at hi
        have e := hB.2 i (by omega)
        have eg : (B.take k).getD i 0 = B.getD i 0 := by
          rw [List.getD_eq_getElem?_getD, List.getElem?_take, if_pos hi, ← List.getD_eq_getElem?_getD]
        rw [eg]
        exact ⟨e.1, (n_wI (by omega)).trans e.2⟩
      · exact absurd h2 (by omega)
  · have hin2 : inB x (B.length + 1) = false := by cases e : inB x (B.length + 1) with | true => exact absurd e hin | false => rfl
    rw [hin2, if_neg Bool.false_ne_true]
    refine Ex.of (by decide +kernel) rfl (Nat.le_of_ble_eq_true rfl) ?_
    show T _ _ _ _ _ _ _ _ _ [some (.ref 0), some (.int (x))] [] (rm μ)
    refine T_iload_n (pc := 0) (i := 1) dX11_end_0 rfl rfl ?_
    refine T_if_lt (pc := 1) (tgt := 15) dX11_end_1 (by decide) (fun h1 => ?_) (fun h1 => ?_)
    · skip
      refine T_iconst (pc := 15) (v := nI 0) dX11_end_15 (by decide) ?_
      exact T_iret (pc := 16) (ty := .boolean) dX11_end_16 rfl (by decide) (Nat.le_refl _) (Nat.le_refl _) ⟨_, rfl, rfl, ⟨hB, rfl⟩, OfS.refl _ _⟩
    · skip
      refine T_iload_n (pc := 4) (i := 1) dX11_end_4 rfl rfl ?_
      refine T_aload_n (pc := 5) (i := 0) dX11_end_5 rfl rfl ?_
      refine R_getR (pc := 6) (i := 1) fl_X11_10 rfl kc_0 lc_0 rc_0_0 dX11_end_6 ?_
      refine R_getI (pc := 9) (x := nI B.length) fl_X11_97 rfl kc_1 lc_1 hB.1.1 dX11_end_9 ?_
      refine T_icmp_le (pc := 12) (tgt := 17) dX11_end_12 (by decide) (fun h2 => ?_) (fun h2 => ?_)
      · exfalso
        apply hin
        unfold inB
        rw [decide_eq_false h1, decide_eq_true]
        · rfl
        · rw [fa_lt, nI_toInt (by omega)]
          rw [fa_le, nI_toInt (by omega)] at h2
          omega
      · skip
        refine T_iconst (pc := 15) (v := nI 0) dX11_end_15 (by decide) ?_
        exact T_iret (pc := 16) (ty := .boolean) dX11_end_16 rfl (by decide) (Nat.le_refl _) (Nat.le_refl _) ⟨_, rfl, rfl, ⟨hB, rfl⟩, OfS.refl _ _⟩
end TX2

