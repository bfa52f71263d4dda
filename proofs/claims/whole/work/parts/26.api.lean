/-! calls that look at what is told -/
theorem An_e {c : Prop} [Decidable c] {μ : SM2} {v : Value} {E : String} (h : ¬ c) : An (if c then .inr v else .inl E) μ (.inr E) (rm μ) := by
  rw [if_neg h]
  exact ⟨rfl, rfl⟩
theorem An_v {c : Prop} [Decidable c] {μ : SM2} {v : Value} {E : String} (h : c) : An (if c then .inr v else .inl E) μ (.inl (some v)) (rm μ) := by
  rw [if_pos h]
  exact ⟨rfl, rfl⟩
/-- the BEASTS of a CODE -/
def ml (x : Int64) : List Nat := (List.range (sz x.toInt.toNat)).map (fun i => x.toInt.toNat / 8 ^ (sz x.toInt.toNat - 1 - i) % 8)
theorem ml_cd {l : List Nat} (hl : Mw l) : ml (lN (cd l)) = l := by
  have h1 := cd_lt hl
  have h2 : (lN (cd l)).toInt.toNat = cd l := by rw [pf_lI (by omega)]; rfl
  unfold ml
  rw [h2, sz_cd hl]
  apply List.ext_getElem
  · rw [List.length_map, List.length_range]
  · intro i h3 h4
    rw [List.getElem_map, List.getElem_range, cd_digD hl.2 h4, List.getD_eq_getElem?_getD, List.getElem?_eq_getElem h4]
    rfl
theorem codeB_of {x : Int64} (h : codeB x = true) : Mw (ml x) ∧ x = lN (cd (ml x)) := by
  obtain ⟨l, hl, rfl⟩ := codeB_iff.mp h
  rw [ml_cd hl]
  exact ⟨hl, rfl⟩
section AP
variable {γ : Ga} {μ : SM2}
theorem c_rule {x : Int32} {b : Bool} {R : List Ru} (h : RulesAt μ 4 R) : Ex γ 4 1 6 M_X11_rule [.ref 0, .int x, .int (bI b)] (rm μ) (An (if inB x R.length = true then .inr (.long (lN (cd (if b = true then (rAt R x.toNatClampNeg).2 else (rAt R x.toNatClampNeg).1)))) else .inl "java/lang/IndexOutOfBoundsException") μ) := by
  have h12 := h.len
  refine Ex.of (by decide +kernel) rfl (Nat.le_of_ble_eq_true rfl) ?_
  show T _ _ _ _ _ _ _ _ _ [some (.ref 0), some (.int (x)), some (.int (bI b))] [] (rm μ)
  refine T_aload_n (pc := 0) (i := 0) dX11_rule_0 rfl rfl ?_
  refine T_iload_n (pc := 1) (i := 1) dX11_rule_1 rfl rfl ?_
  refine R_chkV (pc := 2) (As := [.int (x)]) (rest := []) (Or.inl lk_X11_135) mk_X11_checkRule (c_checkRule h) kc_0 ⟨by decide, rfl⟩ lc_0 dX11_rule_2 rfl rfl (Nat.le_of_ble_eq_true rfl) (by decide) rfl (by decide) (by decide) (fun z => An_e (by rw [z]; decide)) (fun hB => ?_)
  obtain ⟨k, hk, rfl⟩ := inB_of (by omega) hB
  rw [nI_clamp (n := k) (by omega)]
  refine T_iload_n (pc := 5) (i := 2) dX11_rule_5 rfl rfl ?_
  refine R_ifb_eq (pc := 6) (tgt := 24) dX11_rule_6 (by decide) (fun h1 => ?_) (fun h1 => ?_)
  · skip
    refine T_aload_n (pc := 24) (i := 0) dX11_rule_24 rfl rfl ?_
    refine R_getR (pc := 25) (i := 3) fl_X11_19 rfl kc_0 lc_0 rc_0_1 dX11_rule_25 ?_
    refine R_getR (pc := 28) (i := 4) fl_X11_48 rfl (kt_told told3) (lt_told told3) (rt_told_rules told3) dX11_rule_28 ?_
    refine R_getR (pc := 31) (i := 5) fl_X11_144 rfl (kt_rules rules4) (lt_rules rules4) (rt_rules_left rules4) dX11_rule_31 ?_
    refine T_iload_n (pc := 34) (i := 1) dX11_rule_34 rfl rfl ?_
    refine R_lald (pc := 35) (x := lN (cd (rAt R k).1)) (kt_rules_left rules4) (lt_rules_left rules4) (by omega) (by first | decide | assumption) ((h.row k hk).1) dX11_rule_35 ?_
    subst h1
    rw [if_neg (c := false = true) Bool.false_ne_true]
    exact T_lret dX11_rule_36 rfl (by decide) (by decide) (An_v hB)
  · skip
    refine T_aload_n (pc := 9) (i := 0) dX11_rule_9 rfl rfl ?_
    refine R_getR (pc := 10) (i := 3) fl_X11_19 rfl kc_0 lc_0 rc_0_1 dX11_rule_10 ?_
    refine R_getR (pc := 13) (i := 4) fl_X11_48 rfl (kt_told told3) (lt_told told3) (rt_told_rules told3) dX11_rule_13 ?_
    refine R_getR (pc := 16) (i := 6) fl_X11_138 rfl (kt_rules rules4) (lt_rules rules4) (rt_rules_right rules4) dX11_rule_16 ?_
    refine T_iload_n (pc := 19) (i := 1) dX11_rule_19 rfl rfl ?_
    refine R_lald (pc := 20) (x := lN (cd (rAt R k).2)) (kt_rules_right rules4) (lt_rules_right rules4) (by omega) (by first | decide | assumption) ((h.row k hk).2.1) dX11_rule_20 ?_
    refine T_goto (pc := 21) (tgt := 36) dX11_rule_21 (by decide) ?_
    subst h1
    rw [if_pos (c := true = true) rfl]
    exact T_lret dX11_rule_36 rfl (by decide) (by decide) (An_v hB)
theorem c_field {x : Int32} {F : List Fld} (h : FieldsAt μ 3 F) : Ex γ 4 1 6 M_X11_field [.ref 0, .int x] (rm μ) (An (if inB x F.length = true then .inr (.long (lN (cd (fAt F x.toNatClampNeg).1))) else .inl "java/lang/IndexOutOfBoundsException") μ) := by
  have h6 := h.2.1
  refine Ex.of (by decide +kernel) rfl (Nat.le_of_ble_eq_true rfl) ?_
  show T _ _ _ _ _ _ _ _ _ [some (.ref 0), some (.int (x))] [] (rm μ)
  refine T_aload_n (pc := 0) (i := 0) dX11_field_0 rfl rfl ?_
  refine T_iload_n (pc := 1) (i := 1) dX11_field_1 rfl rfl ?_
  refine R_chkV (pc := 2) (As := [.int (x)]) (rest := []) (Or.inl lk_X11_147) mk_X11_checkField (c_checkField h) kc_0 ⟨by decide, rfl⟩ lc_0 dX11_field_2 rfl rfl (Nat.le_of_ble_eq_true rfl) (by decide) rfl (by decide) (by decide) (fun z => An_e (by rw [z]; decide)) (fun hB => ?_)
  obtain ⟨k, hk, rfl⟩ := inB_of (by omega) hB
  rw [nI_clamp (n := k) (by omega)]
  refine T_aload_n (pc := 5) (i := 0) dX11_field_5 rfl rfl ?_
  refine R_getR (pc := 6) (i := 3) fl_X11_19 rfl kc_0 lc_0 rc_0_1 dX11_field_6 ?_
  refine R_getR (pc := 9) (i := 9) fl_X11_150 rfl (kt_told told3) (lt_told told3) (rt_told_fields told3) dX11_field_9 ?_
  refine T_iload_n (pc := 12) (i := 1) dX11_field_12 rfl rfl ?_
  refine R_aald (pc := 13) (t := 0) (j := (3 + 10 + 3 * k)) (kt_told_fields told3) (by decide) (lt_told_fields told3) (by omega) (by decide) (rt_told_el told3 (by omega)) dX11_field_13 ?_
  refine R_getL (pc := 14) (x := lN (cd (fAt F k).1)) fl_X11_154 rfl (kt_field (told_field told3 (by omega))) (lt_field (told_field told3 (by omega))) ((h.2.2 k hk).code) dX11_field_14 ?_
  exact T_lret dX11_field_17 rfl (by decide) (by decide) (An_v hB)
theorem c_steps {x : Int32} {F : List Fld} (h : FieldsAt μ 3 F) : Ex γ 4 1 6 M_X11_steps [.ref 0, .int x] (rm μ) (An (if inB x F.length = true then .inr (.int (fAt F x.toNatClampNeg).2.1) else .inl "java/lang/IndexOutOfBoundsException") μ) := by
  have h6 := h.2.1
  refine Ex.of (by decide +kernel) rfl (Nat.le_of_ble_eq_true rfl) ?_
  show T _ _ _ _ _ _ _ _ _ [some (.ref 0), some (.int (x))] [] (rm μ)
  refine T_aload_n (pc := 0) (i := 0) dX11_steps_0 rfl rfl ?_
  refine T_iload_n (pc := 1) (i := 1) dX11_steps_1 rfl rfl ?_
  refine R_chkV (pc := 2) (As := [.int (x)]) (rest := []) (Or.inl lk_X11_147) mk_X11_checkField (c_checkField h) kc_0 ⟨by decide, rfl⟩ lc_0 dX11_steps_2 rfl rfl (Nat.le_of_ble_eq_true rfl) (by decide) rfl (by decide) (by decide) (fun z => An_e (by rw [z]; decide)) (fun hB => ?_)
  obtain ⟨k, hk, rfl⟩ := inB_of (by omega) hB
  rw [nI_clamp (n := k) (by omega)]
  refine T_aload_n (pc := 5) (i := 0) dX11_steps_5 rfl rfl ?_
  refine R_getR (pc := 6) (i := 3) fl_X11_19 rfl kc_0 lc_0 rc_0_1 dX11_steps_6 ?_
  refine R_getR (pc := 9) (i := 9) fl_X11_150 rfl (kt_told told3) (lt_told told3) (rt_told_fields told3) dX11_steps_9 ?_
  refine T_iload_n (pc := 12) (i := 1) dX11_steps_12 rfl rfl ?_
  refine R_aald (pc := 13) (t := 0) (j := (3 + 10 + 3 * k)) (kt_told_fields told3) (by decide) (lt_told_fields told3) (by omega) (by decide) (rt_told_el told3 (by omega)) dX11_steps_13 ?_
  refine R_getI (pc := 14) (x := ((fAt F k).2.1)) fl_X11_181 rfl (kt_field (told_field told3 (by omega))) (lt_field (told_field told3 (by omega))) ((h.2.2 k hk).gone) dX11_steps_14 ?_
  exact T_iret (pc := 17) (ty := .int) dX11_steps_17 rfl rfl (by decide) (by decide) (An_v hB)
theorem c_seen {x : Int32} {b : Bool} {S : List (List Nat × List Nat)} (h : SeenAt μ 3 S) : Ex γ 4 1 6 M_X11_seen [.ref 0, .int x, .int (bI b)] (rm μ) (An (if inB x S.length = true then .inr (.long (lN (cd (if b = true then (sAt S x.toNatClampNeg).2 else (sAt S x.toNatClampNeg).1)))) else .inl "java/lang/IndexOutOfBoundsException") μ) := by
  have h10 := h.2.1
  refine Ex.of (by decide +kernel) rfl (Nat.le_of_ble_eq_true rfl) ?_
  show T _ _ _ _ _ _ _ _ _ [some (.ref 0), some (.int (x)), some (.int (bI b))] [] (rm μ)
  refine T_aload_n (pc := 0) (i := 0) dX11_seen_0 rfl rfl ?_
  refine T_iload_n (pc := 1) (i := 1) dX11_seen_1 rfl rfl ?_
  refine R_chkV (pc := 2) (As := [.int (x)]) (rest := []) (Or.inl lk_X11_160) mk_X11_checkSeen (c_checkSeen h) kc_0 ⟨by decide, rfl⟩ lc_0 dX11_seen_2 rfl rfl (Nat.le_of_ble_eq_true rfl) (by decide) rfl (by decide) (by decide) (fun z => An_e (by rw [z]; decide)) (fun hB => ?_)
  obtain ⟨k, hk, rfl⟩ := inB_of (by omega) hB
  rw [nI_clamp (n := k) (by omega)]
  refine T_iload_n (pc := 5) (i := 2) dX11_seen_5 rfl rfl ?_
  refine R_ifb_eq (pc := 6) (tgt := 21) dX11_seen_6 (by decide) (fun h1 => ?_) (fun h1 => ?_)
  · skip
    refine T_aload_n (pc := 21) (i := 0) dX11_seen_21 rfl rfl ?_
    refine R_getR (pc := 22) (i := 3) fl_X11_19 rfl kc_0 lc_0 rc_0_1 dX11_seen_22 ?_
    refine R_getR (pc := 25) (i := 10) fl_X11_166 rfl (kt_told told3) (lt_told told3) (rt_told_seenFirst told3) dX11_seen_25 ?_
    refine T_iload_n (pc := 28) (i := 1) dX11_seen_28 rfl rfl ?_
    refine R_lald (pc := 29) (x := lN (cd (sAt S k).1)) (kt_told_seenFirst told3) (lt_told_seenFirst told3) (by omega) (by first | decide | assumption) ((h.2.2 k hk).2.1) dX11_seen_29 ?_
    subst h1
    rw [if_neg (c := false = true) Bool.false_ne_true]
    exact T_lret dX11_seen_30 rfl (by decide) (by decide) (An_v hB)
  · skip
    refine T_aload_n (pc := 9) (i := 0) dX11_seen_9 rfl rfl ?_
    refine R_getR (pc := 10) (i := 3) fl_X11_19 rfl kc_0 lc_0 rc_0_1 dX11_seen_10 ?_
    refine R_getR (pc := 13) (i := 11) fl_X11_163 rfl (kt_told told3) (lt_told told3) (rt_told_seenThen told3) dX11_seen_13 ?_
    refine T_iload_n (pc := 16) (i := 1) dX11_seen_16 rfl rfl ?_
    refine R_lald (pc := 17) (x := lN (cd (sAt S k).2)) (kt_told_seenThen told3) (lt_told_seenThen told3) (by omega) (by first | decide | assumption) ((h.2.2 k hk).2.2) dX11_seen_17 ?_
    refine T_goto (pc := 18) (tgt := 30) dX11_seen_18 (by decide) ?_
    subst h1
    rw [if_pos (c := true = true) rfl]
    exact T_lret dX11_seen_30 rfl (by decide) (by decide) (An_v hB)
theorem c_explained {x : Int32} {R : List Ru} {S : List (List Nat × List Nat)} (hR : RulesAt μ 4 R) (h : SeenAt μ 3 S) : Ex γ 6 1 6 M_X11_explained [.ref 0, .int x] (rm μ) (An (if inB x S.length = true then .inr (.int (nI (exN R (sAt S x.toNatClampNeg).1 (sAt S x.toNatClampNeg).2 R.length))) else .inl "java/lang/IndexOutOfBoundsException") μ) := by
  have h10 := h.2.1
  refine Ex.of (by decide +kernel) rfl (Nat.le_of_ble_eq_true rfl) ?_
  show T _ _ _ _ _ _ _ _ _ [some (.ref 0), some (.int (x))] [] (rm μ)
  refine T_aload_n (pc := 0) (i := 0) dX11_explained_0 rfl rfl ?_
  refine T_iload_n (pc := 1) (i := 1) dX11_explained_1 rfl rfl ?_
  refine R_chkV (pc := 2) (As := [.int (x)]) (rest := []) (Or.inl lk_X11_160) mk_X11_checkSeen (c_checkSeen h) kc_0 ⟨by decide, rfl⟩ lc_0 dX11_explained_2 rfl rfl (Nat.le_of_ble_eq_true rfl) (by decide) rfl (by decide) (by decide) (fun z => An_e (by rw [z]; decide)) (fun hB => ?_)
  obtain ⟨k, hk, rfl⟩ := inB_of (by omega) hB
  rw [nI_clamp (n := k) (by omega)]
  refine T_aload_n (pc := 5) (i := 0) dX11_explained_5 rfl rfl ?_
  refine R_getR (pc := 6) (i := 3) fl_X11_19 rfl kc_0 lc_0 rc_0_1 dX11_explained_6 ?_
  refine T_iload_n (pc := 9) (i := 1) dX11_explained_9 rfl rfl ?_
  refine R_callV1 (pc := 10) (As := [.int (nI k)]) (rest := []) (Or.inl lk_X11_420) mk_X9_explaining (c_Told_explaining told3 hR h hk) (kt_told told3) ⟨by decide, rfl⟩ (lt_told told3) dX11_explained_10 rfl rfl (Nat.le_of_ble_eq_true rfl) (by decide) rfl (by decide) (by decide) ?_
  exact T_iret (pc := 13) (ty := .int) dX11_explained_13 rfl rfl (by decide) (by decide) (An_v hB)
theorem c_light {x : Int64} {W : List Nat} (h : WeightsAt μ 3 W) : Ex γ 5 1 6 M_X11_light [.ref 0, .long x] (rm μ) (An (if codeB x = true then .inr (.int (nI (wgN W (ml x) (ml x).length))) else .inl "java/lang/IllegalArgumentException") μ) := by
  refine Ex.of (by decide +kernel) rfl (Nat.le_of_ble_eq_true rfl) ?_
  show T _ _ _ _ _ _ _ _ _ [some (.ref 0), some (.long (x)), none] [] (rm μ)
  refine T_lload_n (pc := 0) (i := 1) dX11_light_0 rfl rfl ?_
  refine R_chkS (pc := 1) (av := [.long (x)]) (rest := []) (Or.inl lk_X11_169) mk_X11_checkCode c_checkCode dX11_light_1 rfl rfl (Nat.le_of_ble_eq_true rfl) (by decide) rfl (by decide) (by decide) (fun z => An_e (by rw [z]; decide)) (fun hB => ?_)
  obtain ⟨hm, e⟩ := codeB_of hB
  refine T_aload_n (pc := 4) (i := 0) dX11_light_4 rfl rfl ?_
  refine R_getR (pc := 5) (i := 3) fl_X11_19 rfl kc_0 lc_0 rc_0_1 dX11_light_5 ?_
  refine T_lload_n (pc := 8) (i := 1) dX11_light_8 rfl rfl ?_
  refine R_callV1 (pc := 9) (As := [.long (x)]) (rest := []) (Or.inl lk_X11_417) mk_X9_weigh (c_Told_weighX told3 h hm e) (kt_told told3) ⟨by decide, rfl⟩ (lt_told told3) dX11_light_9 rfl rfl (Nat.le_of_ble_eq_true rfl) (by decide) rfl (by decide) (by decide) ?_
  exact T_iret (pc := 12) (ty := .int) dX11_light_12 rfl rfl (by decide) (by decide) (An_v hB)
theorem c_beast {x : Int64} {k : Int32} : Ex γ 4 1 6 M_X11_beast [.ref 0, .long x, .int k] (rm μ) (An (if codeB x = true then .inr (.int (if inB k (ml x).length = true then nI ((ml x).getD k.toNatClampNeg 0) else -1)) else .inl "java/lang/IllegalArgumentException") μ) := by
  refine Ex.of (by decide +kernel) rfl (Nat.le_of_ble_eq_true rfl) ?_
  show T _ _ _ _ _ _ _ _ _ [some (.ref 0), some (.long (x)), none, some (.int (k)), none] [] (rm μ)
  refine T_lload_n (pc := 0) (i := 1) dX11_beast_0 rfl rfl ?_
  refine R_chkS (pc := 1) (av := [.long (x)]) (rest := []) (Or.inl lk_X11_169) mk_X11_checkCode c_checkCode dX11_beast_1 rfl rfl (Nat.le_of_ble_eq_true rfl) (by decide) rfl (by decide) (by decide) (fun z => An_e (by rw [z]; decide)) (fun hB => ?_)
  obtain ⟨l, hm, rfl⟩ := codeB_iff.mp hB
  rw [ml_cd hm]
  have hl := hm.1
  refine T_lload_n (pc := 4) (i := 1) dX11_beast_4 rfl rfl ?_
  refine R_callS1 (pc := 5) (av := [.long (lN (cd l))]) (rest := []) (Or.inl lk_X11_173) mk_X11_sizeOf (c_sizeOf_cd hm) dX11_beast_5 rfl rfl (Nat.le_of_ble_eq_true rfl) (by decide) rfl (by decide) (by decide) ?_
  refine T_istore (pc := 8) (i := 4) (ls' := [some (.ref 0), some (.long (lN (cd l))), none, some (.int (k)), some (.int (nI l.length))]) dX11_beast_8 (by decide) rfl ?_
  refine T_iload_n (pc := 10) (i := 3) dX11_beast_10 rfl rfl ?_
  refine T_if_lt (pc := 11) (tgt := 20) dX11_beast_11 (by decide) (fun h1 => ?_) (fun h1 => ?_)
  · skip
    refine T_iconst (pc := 20) (v := (-1)) dX11_beast_20 (by decide) ?_
    refine T_goto (pc := 21) (tgt := 31) dX11_beast_21 (by decide) ?_
    rw [if_neg (c := inB k l.length = true) (by unfold inB; rw [decide_eq_true (p := k < 0) h1]; exact Bool.false_ne_true)]
    exact T_iret (pc := 31) (ty := .int) dX11_beast_31 rfl rfl (by decide) (by decide) (An_v hB)
  · skip
    refine T_iload_n (pc := 14) (i := 3) dX11_beast_14 rfl rfl ?_
    refine T_iload (pc := 15) (i := 4) dX11_beast_15 rfl ?_
    refine T_icmp_lt (pc := 17) (tgt := 24) dX11_beast_17 (by decide) (fun h2 => ?_) (fun h2 => ?_)
    · skip
      have hi : inB k l.length = true := by unfold inB; rw [decide_eq_false (p := k < 0) h1, decide_eq_true (p := k < nI l.length) h2]; rfl
      rw [if_pos hi]
      obtain ⟨j, hj, rfl⟩ := inB_of (by omega) hi
      rw [nI_clamp (n := j) (by omega)]
      refine T_lload_n (pc := 24) (i := 1) dX11_beast_24 rfl rfl ?_
      refine T_iload (pc := 25) (i := 4) dX11_beast_25 rfl ?_
      refine T_iload_n (pc := 27) (i := 3) dX11_beast_27 rfl rfl ?_
      refine R_callS1 (pc := 28) (av := [.long (lN (cd l)), .int (nI l.length), .int (nI j)]) (rest := []) (Or.inl lk_X11_177) mk_X11_beastAt (c_beastAt hm hj) dX11_beast_28 rfl rfl (Nat.le_of_ble_eq_true rfl) (by decide) rfl (by decide) (by decide) ?_
      exact T_iret (pc := 31) (ty := .int) dX11_beast_31 rfl rfl (by decide) (by decide) (An_v hB)
    · skip
      refine T_iconst (pc := 20) (v := (-1)) dX11_beast_20 (by decide) ?_
      refine T_goto (pc := 21) (tgt := 31) dX11_beast_21 (by decide) ?_
      rw [if_neg (c := inB k l.length = true) (by unfold inB; rw [decide_eq_false (p := k < 0) h1, decide_eq_false (p := k < nI l.length) h2]; exact Bool.false_ne_true)]
      exact T_iret (pc := 31) (ty := .int) dX11_beast_31 rfl rfl (by decide) (by decide) (An_v hB)
end AP
