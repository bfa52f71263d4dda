/-! THE MODEL: feed; RULES, FIELDS and SEEN read -/
theorem sm22 : strs[22]? = some ("BeastRulesModel", 191, "rule", wRule) := rfl
theorem sm23 : strs[23]? = some ("BeastRulesModel", 177, "to", wTo) := rfl
theorem sm24 : strs[24]? = some ("BeastRulesModel", 207, "field", wField) := rfl
theorem sm25 : strs[25]? = some ("BeastRulesModel", 212, "seen", wSeen) := rfl
theorem sm26 : strs[26]? = some ("BeastRulesModel", 217, "first", wFirst) := rfl
theorem sm27 : strs[27]? = some ("BeastRulesModel", 189, "left", wLeft) := rfl
theorem sm28 : strs[28]? = some ("BeastRulesModel", 190, "right", wRight) := rfl
theorem sm29 : strs[29]? = some ("BeastRulesModel", 193, "all", wAll) := rfl
theorem sm30 : strs[30]? = some ("BeastRulesModel", 222, "weight", wWeight) := rfl
theorem sm31 : strs[31]? = some ("BeastRulesModel", 227, "fog", wFog) := rfl
theorem sm32 : strs[32]? = some ("BeastRulesModel", 229, "drop", wDrop) := rfl
def OfV (μ m : SM2) : Prop := OfM F9 S573 μ m ∧ ∀ j, (j = 4 ∨ 339 ≤ j) → m.1 573 j = μ.1 573 j
theorem OfV.refl (μ : SM2) : OfV μ μ := ⟨OfM.refl _ _ _, fun _ _ => rfl⟩
theorem OfV.trans {a b c : SM2} (h : OfV a b) (g : OfV b c) : OfV a c := ⟨h.1.trans g.1, fun j hj => (g.2 j hj).trans (h.2 j hj)⟩
theorem OfM.v {μ m : SM2} (h : OfM F9 S0 μ m) : OfV μ m := ⟨h.mono (fun _ z => z) (fun _ z => z.elim), fun j _ => h.i (by decide) (fun z => z) j⟩
theorem Wo.v {μ m : SM2} (h : Wo μ m) : OfV μ m := ⟨⟨h.1.mono (fun k hk => Or.inr hk), fun j _ => ⟨congrFun (h.1 572 (by unfold S573; omega)).1 j, congrFun (h.1 572 (by unfold S573; omega)).2 j⟩⟩, h.2⟩
theorem MtQ.wo {μ m : SM2} {B : List Nat} {p : Nat} (h : MtQ μ B p) (g : OfS S573 μ m) : MtQ m B p := by
  have e1 := (g 572 (by unfold S573; omega)).1
  have e2 := (g 577 (by unfold S573; omega)).1
  unfold MtQ MtB at h ⊢
  rw [e1, e2]
  exact h
theorem mdT.f9 {μ m : SM2} {X : Td} (h : mdT (μ.1 573) X) (g : OfM F9 S0 μ m) : mdT (m.1 573) X := by
  rw [(g.c (by decide) (fun z => z)).1]
  exact h
def VpP (B : List Nat) (m : SM2) : Pv → Prop
  | .inl f => m.1 572 11 = nI f
  | .inr q => MtQ m B q.1 ∧ mdT (m.1 573) q.2
def Vp (B : List Nat) (μ : SM2) (r : Pv) : Out → SMem → Prop := Rm (some (.int (bI r.isRight))) (fun m => VpP B m r ∧ OfV μ m)
theorem Vp.bad {B : List Nat} {μ m : SM2} {f : Nat} (h : m.1 572 11 = nI f) (g : OfV μ m) : Vp B μ (.inl f) (.inl (some (.int (bI false)))) (rm m) := ⟨m, rfl, rfl, h, g⟩
theorem Vp.ok {B : List Nat} {μ m : SM2} {p : Nat} {X : Td} (h : MtQ m B p) (hX : mdT (m.1 573) X) (g : OfV μ m) : Vp B μ (.inr (p, X)) (.inl (some (.int (bI true)))) (rm m) := ⟨m, rfl, rfl, ⟨h, hX⟩, g⟩
theorem MtP.w {m : SM2} {B : List Nat} {p : Nat} {w : List Int32} (h : MtP m B (tS B p) (lE B p)) (hw : wdB B p w = true) : MtQ m B (tE B p) := by
  have e := lE_w h.1.1.b (wd_k hw)
  rw [← e]
  exact h.1
theorem rdB_one {B : List Nat} {p most : Nat} {l : List Nat} (hb : ∀ i, i < B.length → B.getD i 0 < 256) (hp : p ≤ B.length) (e : rdB B p 1 most = some l) : 1 ≤ l.length := by
  unfold rdB at e
  rw [if_neg (fun z => absurd z.1 (by decide))] at e
  split at e
  · next g =>
    cases e
    obtain ⟨q1, q2, q3⟩ := tok_word hb g.1
    have q4 := tE_le hp
    have q5 : tS B p + 1 ≤ tE B p := by
      rw [q3, spn_y q1 q2]
      exact (spn_le (by omega)).1
    unfold bsN
    rw [List.length_map, List.length_take, List.length_drop]
    omega
  · cases e
/-- a FIELD more -/
theorem mdT.fieldA {g g' : Nat → Int32} {X : Td} {f : Fld} (h : mdT g X) (h6 : X.F.length < 6) (hf : mdM g' (41 + 43 * X.F.length) f) (h1 : g' 1 = nI (X.F.length + 1)) (e : ∀ j, j < 339 → j ≠ 1 → (j < 41 + 43 * X.F.length ∨ 41 + 43 * X.F.length + 43 ≤ j) → g' j = g j) : mdT g' (X.1, X.2.1 ++ [f], X.2.2) := by
  obtain ⟨hR, hF, hS, hW, hZ⟩ := h
  refine ⟨hR.some (fun k h1 h2 => e k (by omega) (by omega) (Or.inl (by omega))), ⟨⟨?_, ?_⟩, fun i hi => ?_⟩, hS.some (e 2 (by omega) (by omega) (Or.inl (by omega))) (fun k h1 h2 => e k (by omega) (by omega) (Or.inr (by omega))), hW.some (fun k h1 h2 => e k (by omega) (by omega) (Or.inl (by omega))), hZ.some (fun k h1 h2 => e k (by omega) (by omega) (Or.inl (by omega)))⟩
  · show g' 1 = nI (X.F ++ [f]).length
    rw [List.length_append, List.length_singleton]
    exact h1
  · show (X.F ++ [f]).length ≤ 6
    rw [List.length_append, List.length_singleton]
    omega
  · have hi2 : i < (X.F ++ [f]).length := hi
    rw [List.length_append, List.length_singleton] at hi2
    show mdM g' (41 + 43 * i) (fAt (X.F ++ [f]) i)
    by_cases ei : i = X.F.length
    · have e9 : fAt (X.F ++ [f]) i = f := by
        rw [ei]
        show (X.F ++ [f]).getD X.F.length _ = f
        rw [List.getD_eq_getElem?_getD, List.getElem?_append_right (Nat.le_refl _), Nat.sub_self]
        rfl
      rw [e9, ei]
      exact hf
    · have e9 : fAt (X.F ++ [f]) i = fAt X.F i := by
        show (X.F ++ [f]).getD i _ = X.F.getD i _
        rw [List.getD_eq_getElem?_getD, List.getElem?_append_left (by omega), ← List.getD_eq_getElem?_getD]
      rw [e9]
      have m := hF.2 i (by omega)
      exact ⟨m.1, ⟨(e _ (by omega) (by omega) (Or.inl (by omega))).trans m.2.1.1, (e _ (by omega) (by omega) (Or.inl (by omega))).trans m.2.1.2⟩, (e _ (by omega) (by omega) (Or.inl (by omega))).trans m.2.2.1, fun p hp => by
        have l20 := m.1.1.1
        have q := m.2.2.2 p hp
        exact ⟨(e _ (by omega) (by omega) (Or.inl (by omega))).trans q.1, (e _ (by omega) (by omega) (Or.inl (by omega))).trans q.2⟩⟩
/-- a SEEN more -/
theorem mdT.seenA {g g' : Nat → Int32} {X : Td} {y : List Nat × List Nat} (h : mdT g X) (h10 : X.S.length < 10) (hy : Mw y.1 ∧ Mw y.2) (c1 : mdC g' (299 + 4 * X.S.length) y.1) (c2 : mdC g' (299 + 4 * X.S.length + 2) y.2) (h2 : g' 2 = nI (X.S.length + 1)) (e : ∀ j, j < 339 → j ≠ 2 → (j < 299 + 4 * X.S.length) → g' j = g j) : mdT g' (tdSa X y) := by
  obtain ⟨hR, hF, hS, hW, hZ⟩ := h
  refine ⟨hR.some (fun k h1 h2 => e k (by omega) (by omega) (by omega)), hF.some (e 1 (by omega) (by omega) (by omega)) (fun k h1 h2 => e k (by omega) (by omega) (by omega)), ⟨⟨?_, ?_⟩, fun i hi => ?_⟩, hW.some (fun k h1 h2 => e k (by omega) (by omega) (by omega)), hZ.some (fun k h1 h2 => e k (by omega) (by omega) (by omega))⟩
  · show g' 2 = nI (X.S ++ [y]).length
    rw [List.length_append, List.length_singleton]
    exact h2
  · show (X.S ++ [y]).length ≤ 10
    rw [List.length_append, List.length_singleton]
    omega
  · have hi2 : i < (X.S ++ [y]).length := hi
    rw [List.length_append, List.length_singleton] at hi2
    show (Mw (sAt (X.S ++ [y]) i).1 ∧ Mw (sAt (X.S ++ [y]) i).2) ∧ mdC g' (299 + 4 * i) (sAt (X.S ++ [y]) i).1 ∧ mdC g' (299 + 4 * i + 2) (sAt (X.S ++ [y]) i).2
    by_cases ei : i = X.S.length
    · rw [ei, sAt_end]
      exact ⟨hy, c1, c2⟩
    · rw [sAt_lt (by omega)]
      have m := hS.2 i (by omega)
      exact ⟨m.1, ⟨(e _ (by omega) (by omega) (by omega)).trans m.2.1.1, (e _ (by omega) (by omega) (by omega)).trans m.2.1.2⟩, ⟨(e _ (by omega) (by omega) (by omega)).trans m.2.2.1, (e _ (by omega) (by omega) (by omega)).trans m.2.2.2⟩⟩
section MRD
variable {γ : Ga} {μ : SM2}
theorem m_feed {a b c d e : Int32} {B : List Nat} (hB : TapeAt μ B) : Ex γ 1 0 0 M_X12_feed [.ref 572, .int a, .int b, .int c, .int d, .int e] (rm μ) (Rm (some (.int (if B.length + 20 ≤ 400 then nI (B.length + 20) else -1))) (fun m => TapeAt m (if B.length + 20 ≤ 400 then B ++ by20 a b c d e else B) ∧ m.1 572 0 = nI 0 ∧ OfM F8 S578 μ m)) := by
  have h400 := hB.1.2
  by_cases hc : B.length + 20 ≤ 400
  · rw [if_pos hc, if_pos hc]
    obtain ⟨Q, hQ⟩ : ∃ Q, Q = Rm (some (.int (nI (B.length + 20)))) (fun m => TapeAt m (B ++ by20 a b c d e) ∧ m.1 572 0 = nI 0 ∧ OfM F8 S578 μ m) := ⟨_, rfl⟩
    rw [← hQ]
    have loop : ∀ (f k : Nat) (m : SM2), k + f = 20 → m.1 572 8 = nI B.length → m.1 572 0 = nI 0 → (m.1 578 0 = a ∧ m.1 578 1 = b ∧ m.1 578 2 = c ∧ m.1 578 3 = d ∧ m.1 578 4 = e) → (∀ i, i < B.length → m.1 577 i = sb (B.getD i 0)) → (∀ i, i < k → m.1 577 (B.length + i) = sb ((by20 a b c d e).getD i 0)) → OfM F8 S578 μ m → T γ 1 0 0 M_X12_feed Q 0 0 60 [some (.ref 572), some (.int a), some (.int b), some (.int c), some (.int d), some (.int e), some (.int (nI k))] [] (rm m) := by
      intro f
      induction f with
      | zero =>
        intro k m hk h8 h0 hv hb hn ho
        obtain rfl : k = 20 := by omega
        have a1 : TapeAt (wI m 572 8 (nI (B.length + 20))) (B ++ by20 a b c d e) := by
          refine ⟨⟨by rw [List.length_append, by20_len]; exact e_wI ⟨rfl, rfl⟩, by rw [List.length_append, by20_len]; omega⟩, fun i hi => ?_⟩
          rw [List.length_append, by20_len] at hi
          by_cases hi2 : i < B.length
          · have eg : (B ++ by20 a b c d e).getD i 0 = B.getD i 0 := by
              rw [List.getD_eq_getElem?_getD, List.getElem?_append_left hi2, ← List.getD_eq_getElem?_getD]
            rw [eg]
            exact ⟨(hB.2 i hi2).1, (n_wI (by omega)).trans (hb i hi2)⟩
          · obtain ⟨j, rfl⟩ : ∃ j, i = B.length + j := ⟨i - B.length, by omega⟩
            have eg : (B ++ by20 a b c d e).getD (B.length + j) 0 = (by20 a b c d e).getD j 0 := by
              rw [List.getD_eq_getElem?_getD, List.getElem?_append_right (by omega), Nat.add_sub_cancel_left, ← List.getD_eq_getElem?_getD]
            rw [eg]
            refine ⟨?_, (n_wI (by omega)).trans (hn j (by omega))⟩
            rw [by20_at (by omega)]
            exact Nat.mod_lt _ (by decide)
        rw [hQ]
        refine T_iload (pc := 60) (i := 6) dX12_feed_60 rfl ?_
        refine T_bipush (pc := 62) (v := nI 20) dX12_feed_62 (by decide) ?_
        refine R_icmp_ge (pc := 64) (tgt := 106) (by omega) (by omega) dX12_feed_64 (by decide) (fun g1 => ?_) (fun g1 => ?_)
        · skip
          refine T_aload_n (pc := 106) (i := 0) dX12_feed_106 rfl rfl ?_
          refine T_dup (pc := 107) dX12_feed_107 rfl ?_
          refine R_getI (pc := 108) (x := nI B.length) fl_X12_136 rfl kc_572 lc_572 h8 dX12_feed_108 ?_
          refine T_bipush (pc := 111) (v := nI 20) dX12_feed_111 (by decide) ?_
          refine R_iadd (pc := 113) dX12_feed_113 ?_
          refine R_putI (pc := 114) fl_X12_136 ⟨rfl, rfl⟩ (Or.inl rfl) kc_572 lc_572 dX12_feed_114 ?_
          refine T_aload_n (pc := 117) (i := 0) dX12_feed_117 rfl rfl ?_
          refine R_getI (pc := 118) (x := nI (B.length + 20)) fl_X12_136 rfl kc_572 lc_572 wI_eq dX12_feed_118 ?_
          exact T_iret (pc := 121) (ty := .int) dX12_feed_121 rfl rfl (Nat.le_refl _) (Nat.le_refl _) ⟨_, rfl, rfl, a1, (n_wI (by omega)).trans h0, OfM.sF ho (Or.inr rfl)⟩
        · exact absurd g1 (by omega)
      | succ f ih =>
        intro k m hk h8 h0 hv hb hn ho
        obtain ⟨v, hv1⟩ : ∃ v, v = (if k / 4 = 0 then a else if k / 4 = 1 then b else if k / 4 = 2 then c else if k / 4 = 3 then d else e) := ⟨_, rfl⟩
        have hv2 : m.1 578 (k / 4) = v := by
          have h5 : k / 4 = 0 ∨ k / 4 = 1 ∨ k / 4 = 2 ∨ k / 4 = 3 ∨ k / 4 = 4 := by omega
          rw [hv1]
          rcases h5 with h5 | h5 | h5 | h5 | h5 <;> rw [h5]
          · exact hv.1
          · exact hv.2.1
          · exact hv.2.2.1
          · exact hv.2.2.2.1
          · exact hv.2.2.2.2
        have hs : 24 - 8 * (k % 4) = 0 ∨ 24 - 8 * (k % 4) = 8 ∨ 24 - 8 * (k % 4) = 16 ∨ 24 - 8 * (k % 4) = 24 := by omega
        have hw : (ishr v (nI (24 - 8 * (k % 4)))).toInt8.toInt32.toInt8.toInt32 = sb ((by20 a b c d e).getD k 0) := by
          rw [by20_at (by omega), ← hv1, Int8.toInt8_toInt32, sh8 v hs]
          rfl
        have h9 := ih (k + 1) (wI m 577 (B.length + k) ((ishr v (nI (24 - 8 * (k % 4)))).toInt8.toInt32.toInt8.toInt32)) (by omega) ((n_wI (by omega)).trans h8) ((n_wI (by omega)).trans h0) ⟨(n_wI (by omega)).trans hv.1, (n_wI (by omega)).trans hv.2.1, (n_wI (by omega)).trans hv.2.2.1, (n_wI (by omega)).trans hv.2.2.2.1, (n_wI (by omega)).trans hv.2.2.2.2⟩ (fun i hi => (n_wI (by omega)).trans (hb i hi)) (fun i hi => by
          by_cases ei : i = k
          · rw [ei]
            exact (e_wI ⟨rfl, rfl⟩).trans hw
          · exact (n_wI (by omega)).trans (hn i (by omega))) (OfM.sI ho (Or.inl rfl) (by decide))
        refine T_iload (pc := 60) (i := 6) dX12_feed_60 rfl ?_
        refine T_bipush (pc := 62) (v := nI 20) dX12_feed_62 (by decide) ?_
        refine R_icmp_ge (pc := 64) (tgt := 106) (by omega) (by omega) dX12_feed_64 (by decide) (fun g1 => ?_) (fun g1 => ?_)
        · exact absurd g1 (by omega)
        · skip
          refine T_aload_n (pc := 67) (i := 0) dX12_feed_67 rfl rfl ?_
          refine R_getR (pc := 68) (i := 577) fl_X12_42 rfl kc_572 lc_572 rc_572_7 dX12_feed_68 ?_
          refine T_aload_n (pc := 71) (i := 0) dX12_feed_71 rfl rfl ?_
          refine R_getI (pc := 72) (x := nI B.length) fl_X12_136 rfl kc_572 lc_572 h8 dX12_feed_72 ?_
          refine T_iload (pc := 75) (i := 6) dX12_feed_75 rfl ?_
          refine R_iadd (pc := 77) dX12_feed_77 ?_
          refine T_aload_n (pc := 78) (i := 0) dX12_feed_78 rfl rfl ?_
          refine R_getR (pc := 79) (i := 578) fl_X12_49 rfl kc_572 lc_572 rc_572_14 dX12_feed_79 ?_
          refine T_iload (pc := 82) (i := 6) dX12_feed_82 rfl ?_
          refine T_iconst (pc := 84) (v := nI 4) dX12_feed_84 (by decide) ?_
          refine R_idiv (pc := 85) (by omega) dX12_feed_85 ?_
          refine R_iald (pc := 86) (x := v) kc_578 lc_578 (by omega) (by first | decide | assumption) hv2 dX12_feed_86 ?_
          refine T_bipush (pc := 87) (v := nI 24) dX12_feed_87 (by decide) ?_
          refine T_bipush (pc := 89) (v := nI 8) dX12_feed_89 (by decide) ?_
          refine T_iload (pc := 91) (i := 6) dX12_feed_91 rfl ?_
          refine T_iconst (pc := 93) (v := nI 4) dX12_feed_93 (by decide) ?_
          refine R_irem (pc := 94) (by omega) dX12_feed_94 ?_
          refine R_imul (pc := 95) dX12_feed_95 ?_
          refine R_isub (pc := 96) (by omega) dX12_feed_96 ?_
          refine T_ishr (pc := 97) dX12_feed_97 ?_
          refine T_i2b (pc := 98) dX12_feed_98 ?_
          refine R_bast (pc := 99) kc_577 lc_577 (by omega) (by first | decide | assumption) dX12_feed_99 ?_
          refine R_iinc (pc := 100) (i := 6) (n := 1) (ls' := [some (.ref 572), some (.int (a)), some (.int (b)), some (.int (c)), some (.int (d)), some (.int (e)), some (.int (nI (k + 1)))]) dX12_feed_100 rfl rfl ?_
          refine T_goto (pc := 103) (tgt := 60) dX12_feed_103 (by decide) ?_
          exact h9
    refine Ex.of (by decide +kernel) rfl (Nat.le_of_ble_eq_true rfl) ?_
    show T _ _ _ _ _ _ _ _ _ [some (.ref 572), some (.int (a)), some (.int (b)), some (.int (c)), some (.int (d)), some (.int (e)), none] [] (rm μ)
    refine T_aload_n (pc := 0) (i := 0) dX12_feed_0 rfl rfl ?_
    refine T_iconst (pc := 1) (v := nI 0) dX12_feed_1 (by decide) ?_
    refine R_putI (pc := 2) fl_X12_3 ⟨rfl, rfl⟩ (Or.inl rfl) kc_572 lc_572 dX12_feed_2 ?_
    refine T_aload_n (pc := 5) (i := 0) dX12_feed_5 rfl rfl ?_
    refine R_getI (pc := 6) (x := nI B.length) fl_X12_136 rfl kc_572 lc_572 ((wI_ne (by decide)).trans hB.1.1) dX12_feed_6 ?_
    refine T_bipush (pc := 9) (v := nI 20) dX12_feed_9 (by decide) ?_
    refine R_iadd (pc := 11) dX12_feed_11 ?_
    refine T_sipush (pc := 12) (v := nI 400) dX12_feed_12 (by decide) ?_
    refine R_icmp_le (pc := 15) (tgt := 20) (by omega) (by omega) dX12_feed_15 (by decide) (fun g1 => ?_) (fun g1 => ?_)
    · skip
      refine T_aload_n (pc := 20) (i := 0) dX12_feed_20 rfl rfl ?_
      refine R_getR (pc := 21) (i := 578) fl_X12_49 rfl kc_572 lc_572 rc_572_14 dX12_feed_21 ?_
      refine T_iconst (pc := 24) (v := nI 0) dX12_feed_24 (by decide) ?_
      refine T_iload_n (pc := 25) (i := 1) dX12_feed_25 rfl rfl ?_
      refine R_iast (pc := 26) kc_578 lc_578 (by omega) (by first | decide | assumption) dX12_feed_26 ?_
      refine T_aload_n (pc := 27) (i := 0) dX12_feed_27 rfl rfl ?_
      refine R_getR (pc := 28) (i := 578) fl_X12_49 rfl kc_572 lc_572 rc_572_14 dX12_feed_28 ?_
      refine T_iconst (pc := 31) (v := nI 1) dX12_feed_31 (by decide) ?_
      refine T_iload_n (pc := 32) (i := 2) dX12_feed_32 rfl rfl ?_
      refine R_iast (pc := 33) kc_578 lc_578 (by omega) (by first | decide | assumption) dX12_feed_33 ?_
      refine T_aload_n (pc := 34) (i := 0) dX12_feed_34 rfl rfl ?_
      refine R_getR (pc := 35) (i := 578) fl_X12_49 rfl kc_572 lc_572 rc_572_14 dX12_feed_35 ?_
      refine T_iconst (pc := 38) (v := nI 2) dX12_feed_38 (by decide) ?_
      refine T_iload_n (pc := 39) (i := 3) dX12_feed_39 rfl rfl ?_
      refine R_iast (pc := 40) kc_578 lc_578 (by omega) (by first | decide | assumption) dX12_feed_40 ?_
      refine T_aload_n (pc := 41) (i := 0) dX12_feed_41 rfl rfl ?_
      refine R_getR (pc := 42) (i := 578) fl_X12_49 rfl kc_572 lc_572 rc_572_14 dX12_feed_42 ?_
      refine T_iconst (pc := 45) (v := nI 3) dX12_feed_45 (by decide) ?_
      refine T_iload (pc := 46) (i := 4) dX12_feed_46 rfl ?_
      refine R_iast (pc := 48) kc_578 lc_578 (by omega) (by first | decide | assumption) dX12_feed_48 ?_
      refine T_aload_n (pc := 49) (i := 0) dX12_feed_49 rfl rfl ?_
      refine R_getR (pc := 50) (i := 578) fl_X12_49 rfl kc_572 lc_572 rc_572_14 dX12_feed_50 ?_
      refine T_iconst (pc := 53) (v := nI 4) dX12_feed_53 (by decide) ?_
      refine T_iload (pc := 54) (i := 5) dX12_feed_54 rfl ?_
      refine R_iast (pc := 56) kc_578 lc_578 (by omega) (by first | decide | assumption) dX12_feed_56 ?_
      refine T_iconst (pc := 57) (v := nI 0) dX12_feed_57 (by decide) ?_
      refine T_istore (pc := 58) (i := 6) (ls' := [some (.ref 572), some (.int (a)), some (.int (b)), some (.int (c)), some (.int (d)), some (.int (e)), some (.int (nI 0))]) dX12_feed_58 (by decide) rfl ?_
      refine loop 20 0 _ rfl ?_ ?_ ⟨?_, ?_, ?_, ?_, ?_⟩ (fun i hi => ?_) (fun i hi => absurd hi (Nat.not_lt_zero _)) (OfM.sI (OfM.sI (OfM.sI (OfM.sI (OfM.sI (OfM.sF (OfM.refl _ _ _) (Or.inl rfl)) (Or.inr rfl) (by decide)) (Or.inr rfl) (by decide)) (Or.inr rfl) (by decide)) (Or.inr rfl) (by decide)) (Or.inr rfl) (by decide))
      · simp (disch := omega) only [n_wI, e_wI]
        exact hB.1.1
      · simp (disch := omega) only [n_wI, e_wI]
      · simp (disch := omega) only [n_wI, e_wI]
      · simp (disch := omega) only [n_wI, e_wI]
      · simp (disch := omega) only [n_wI, e_wI]
      · simp (disch := omega) only [n_wI, e_wI]
      · simp (disch := omega) only [n_wI, e_wI]
      · simp (disch := omega) only [n_wI, e_wI]
        exact (hB.2 i hi).2
    · exact absurd g1 (by omega)
  · rw [if_neg hc, if_neg hc]
    have o1 : OfM F8 S578 μ (wI μ 572 0 (nI 0)) := OfM.sF (OfM.refl _ _ _) (Or.inl rfl)
    have a1 : TapeAt (wI μ 572 0 (nI 0)) B := hB.of (n_wI (by omega)) ((OfM.sF (F := F8) (OfM.refl _ S0 _) (Or.inl rfl)).c (by decide) (fun z => z)).1
    refine Ex.of (by decide +kernel) rfl (Nat.le_of_ble_eq_true rfl) ?_
    show T _ _ _ _ _ _ _ _ _ [some (.ref 572), some (.int (a)), some (.int (b)), some (.int (c)), some (.int (d)), some (.int (e)), none] [] (rm μ)
    refine T_aload_n (pc := 0) (i := 0) dX12_feed_0 rfl rfl ?_
    refine T_iconst (pc := 1) (v := nI 0) dX12_feed_1 (by decide) ?_
    refine R_putI (pc := 2) fl_X12_3 ⟨rfl, rfl⟩ (Or.inl rfl) kc_572 lc_572 dX12_feed_2 ?_
    refine T_aload_n (pc := 5) (i := 0) dX12_feed_5 rfl rfl ?_
    refine R_getI (pc := 6) (x := nI B.length) fl_X12_136 rfl kc_572 lc_572 ((wI_ne (by decide)).trans hB.1.1) dX12_feed_6 ?_
    refine T_bipush (pc := 9) (v := nI 20) dX12_feed_9 (by decide) ?_
    refine R_iadd (pc := 11) dX12_feed_11 ?_
    refine T_sipush (pc := 12) (v := nI 400) dX12_feed_12 (by decide) ?_
    refine R_icmp_le (pc := 15) (tgt := 20) (by omega) (by omega) dX12_feed_15 (by decide) (fun g1 => ?_) (fun g1 => ?_)
    · exact absurd g1 hc
    · skip
      refine T_iconst (pc := 18) (v := (-1)) dX12_feed_18 (by decide) ?_
      exact T_iret (pc := 19) (ty := .int) dX12_feed_19 rfl rfl (Nat.le_refl _) (Nat.le_refl _) ⟨_, rfl, rfl, a1, e_wI ⟨rfl, rfl⟩, o1⟩
theorem m_readRule {B : List Nat} {X : Td} {p : Nat} (hT : MtQ μ B (tE B p)) (h11 : μ.1 572 11 = nI (tS B p)) (hX : mdT (μ.1 573) X) : Ex γ 7 0 0 M_X12_readRule [.ref 572] (rm μ) (Vp B μ (if X.R.length < 12 then vRule B X (tE B p) else .inl (tS B p))) := by
  have h12 := hX.1.1.2
  have hb := hT.1.b
  refine Ex.of (by decide +kernel) rfl (Nat.le_of_ble_eq_true rfl) ?_
  show T _ _ _ _ _ _ _ _ _ [some (.ref 572), none, none, none, none] [] (rm μ)
  refine T_aload_n (pc := 0) (i := 0) dX12_readRule_0 rfl rfl ?_
  refine R_callV1 (pc := 1) (As := []) (rest := []) (Or.inl lk_X12_121) mk_X12_rules (m_rules hX.1) kc_572 ⟨by decide, rfl⟩ lc_572 dX12_readRule_1 rfl rfl (Nat.le_of_ble_eq_true rfl) (by decide) rfl (Nat.le_refl _) (Nat.le_refl _) ?_
  refine T_bipush (pc := 4) (v := nI 12) dX12_readRule_4 (by decide) ?_
  refine R_icmp_ne (pc := 6) (tgt := 11) (by omega) (by omega) dX12_readRule_6 (by decide) (fun g1 => ?_) (fun g1 => ?_)
  · skip
    rw [if_pos (by omega)]
    refine T_aload_n (pc := 11) (i := 0) dX12_readRule_11 rfl rfl ?_
    refine T_iconst (pc := 12) (v := nI 1) dX12_readRule_12 (by decide) ?_
    refine T_iconst (pc := 13) (v := nI 4) dX12_readRule_13 (by decide) ?_
    refine R_callVm1 (pc := 14) (As := [.int (nI 1), .int (nI 4)]) (rest := []) (Or.inl lk_X12_173) mk_X12_beastsTold (m_beastsTold hT (by decide) (by decide)) kc_572 ⟨by decide, rfl⟩ lc_572 dX12_readRule_14 rfl rfl (Nat.le_of_ble_eq_true rfl) (by decide) rfl (Nat.le_refl _) (Nat.le_refl _) (fun m1 h1 => ?_)
    obtain ⟨r1, o1⟩ := h1
    cases e1 : rdB B (tE B p) 1 4 with
    | none =>
      have ev : vRule B X (tE B p) = .inl (tS B (tE B p)) := by unfold vRule; rw [e1]
      rw [ev]
      refine T_lstore_n (pc := 17) (i := 1) (ls' := [some (.ref 572), some (.long ((-1))), none, none, none]) dX12_readRule_17 rfl (by decide) rfl ?_
      refine T_lload_n (pc := 18) (i := 1) dX12_readRule_18 rfl rfl ?_
      refine T_lconst (pc := 19) (v := lN 0) dX12_readRule_19 rfl ?_
      refine T_lcmp (pc := 20) dX12_readRule_20 ?_
      refine R_lx_lt (pc := 21) (tgt := 33) dX12_readRule_21 (by decide) (fun g2 => ?_) (fun g2 => ?_)
      · skip
        refine T_iconst (pc := 33) (v := nI 0) dX12_readRule_33 (by decide) ?_
        exact T_iret (pc := 34) (ty := .boolean) dX12_readRule_34 rfl (by decide) (Nat.le_refl _) (Nat.le_refl _) (Vp.bad r1.1 o1.v)
      · exact absurd (by decide) g2
    | some l =>
      rw [e1] at r1
      have ml := rdB_mw (by decide) e1
      have bl := cd_lt ml.1
      have l1 := rdB_one hb hT.2.1 e1
      have ev : vRule B X (tE B p) = if wdB B (tE B (tE B p)) wTo = true then (match rdB B (tE B (tE B (tE B p))) 0 5 with | none => .inl (tS B (tE B (tE B (tE B p)))) | some r => .inr (tE B (tE B (tE B (tE B p))), tdR X (l, r))) else .inl (tS B (tE B (tE B p))) := by unfold vRule; rw [e1]; rfl
      rw [ev]
      refine T_lstore_n (pc := 17) (i := 1) (ls' := [some (.ref 572), some (.long (lN (cd l))), none, none, none]) dX12_readRule_17 rfl (by decide) rfl ?_
      refine T_lload_n (pc := 18) (i := 1) dX12_readRule_18 rfl rfl ?_
      refine T_lconst (pc := 19) (v := lN 0) dX12_readRule_19 rfl ?_
      refine T_lcmp (pc := 20) dX12_readRule_20 ?_
      refine R_ln_lt (pc := 21) (tgt := 33) (by omega) (by omega) dX12_readRule_21 (by decide) (fun g2 => ?_) (fun g2 => ?_)
      · exact absurd g2 (Nat.not_lt_zero _)
      · skip
        refine T_aload_n (pc := 24) (i := 0) dX12_readRule_24 rfl rfl ?_
        refine T_ldcS (pc := 25) (i := 23) rfl dX12_readRule_25 ?_
        refine R_callVm1 (pc := 27) (As := [.ref (XB + (23 + 1))]) (rest := []) (Or.inl lk_X12_179) mk_X12_needs (m_needs (r1.2.2 rfl) sm23) kc_572 ⟨by decide, rfl⟩ lc_572 dX12_readRule_27 rfl rfl (Nat.le_of_ble_eq_true rfl) (by decide) rfl (Nat.le_refl _) (Nat.le_refl _) (fun m2 h2 => ?_)
        obtain ⟨r2, o2⟩ := h2
        cases e2 : wdB B (tE B (tE B p)) wTo with
        | false =>
          rw [if_neg Bool.false_ne_true]
          refine R_ifb_ne (pc := 30) (tgt := 35) dX12_readRule_30 (by decide) (fun g3 => ?_) (fun g3 => ?_)
          · exact absurd g3 (by decide)
          · skip
            refine T_iconst (pc := 33) (v := nI 0) dX12_readRule_33 (by decide) ?_
            exact T_iret (pc := 34) (ty := .boolean) dX12_readRule_34 rfl (by decide) (Nat.le_refl _) (Nat.le_refl _) (Vp.bad r2.2 (o1.trans o2).v)
        | true =>
          rw [if_pos rfl]
          refine R_ifb_ne (pc := 30) (tgt := 35) dX12_readRule_30 (by decide) (fun g3 => ?_) (fun g3 => ?_)
          · skip
            refine T_aload_n (pc := 35) (i := 0) dX12_readRule_35 rfl rfl ?_
            refine T_iconst (pc := 36) (v := nI 0) dX12_readRule_36 (by decide) ?_
            refine T_iconst (pc := 37) (v := nI 5) dX12_readRule_37 (by decide) ?_
            refine R_callVm1 (pc := 38) (As := [.int (nI 0), .int (nI 5)]) (rest := []) (Or.inl lk_X12_173) mk_X12_beastsTold (m_beastsTold (r2.w e2) (by decide) (by decide)) kc_572 ⟨by decide, rfl⟩ lc_572 dX12_readRule_38 rfl rfl (Nat.le_of_ble_eq_true rfl) (by decide) rfl (Nat.le_refl _) (Nat.le_refl _) (fun m3 h3 => ?_)
            obtain ⟨r3, o3⟩ := h3
            cases e3 : rdB B (tE B (tE B (tE B p))) 0 5 with
            | none =>
              refine T_lstore_n (pc := 41) (i := 3) (ls' := [some (.ref 572), some (.long (lN (cd l))), none, some (.long ((-1))), none]) dX12_readRule_41 rfl (by decide) rfl ?_
              refine T_lload_n (pc := 42) (i := 3) dX12_readRule_42 rfl rfl ?_
              refine T_lconst (pc := 43) (v := lN 0) dX12_readRule_43 rfl ?_
              refine T_lcmp (pc := 44) dX12_readRule_44 ?_
              refine R_lx_lt (pc := 45) (tgt := 54) dX12_readRule_45 (by decide) (fun g4 => ?_) (fun g4 => ?_)
              · skip
                refine T_lload_n (pc := 54) (i := 3) dX12_readRule_54 rfl rfl ?_
                refine T_lconst (pc := 55) (v := lN 0) dX12_readRule_55 rfl ?_
                refine T_lcmp (pc := 56) dX12_readRule_56 ?_
                refine R_lx_lt (pc := 57) (tgt := 64) dX12_readRule_57 (by decide) (fun g5 => ?_) (fun g5 => ?_)
                · skip
                  refine T_iconst (pc := 64) (v := nI 0) dX12_readRule_64 (by decide) ?_
                  exact T_iret (pc := 65) (ty := .boolean) dX12_readRule_65 rfl (by decide) (Nat.le_refl _) (Nat.le_refl _) (Vp.bad r3.1 ((o1.trans o2).trans o3).v)
                · exact absurd (by decide) g5
              · exact absurd (by decide) g4
            | some r =>
              rw [e3] at r3
              have mr := rdB_mw (by decide) e3
              have br := cd_lt mr.1
              have hX3 : mdT (m3.1 573) X := hX.f9 ((o1.trans o2).trans o3)
              refine T_lstore_n (pc := 41) (i := 3) (ls' := [some (.ref 572), some (.long (lN (cd l))), none, some (.long (lN (cd r))), none]) dX12_readRule_41 rfl (by decide) rfl ?_
              refine T_lload_n (pc := 42) (i := 3) dX12_readRule_42 rfl rfl ?_
              refine T_lconst (pc := 43) (v := lN 0) dX12_readRule_43 rfl ?_
              refine T_lcmp (pc := 44) dX12_readRule_44 ?_
              refine R_ln_lt (pc := 45) (tgt := 54) (by omega) (by omega) dX12_readRule_45 (by decide) (fun g4 => ?_) (fun g4 => ?_)
              · exact absurd g4 (Nat.not_lt_zero _)
              · skip
                refine T_aload_n (pc := 48) (i := 0) dX12_readRule_48 rfl rfl ?_
                refine T_lload_n (pc := 49) (i := 1) dX12_readRule_49 rfl rfl ?_
                refine T_lload_n (pc := 50) (i := 3) dX12_readRule_50 rfl rfl ?_
                refine R_callVm0 (pc := 51) (As := [.long (lN (cd l)), .long (lN (cd r))]) (rest := []) (Or.inl lk_X12_182) mk_X12_adds (m_adds (y := (l, r)) hX3 ⟨ml.1.2, l1, ml.2.1, mr.1.2, mr.2.1⟩ (by omega)) kc_572 ⟨by decide, rfl⟩ lc_572 dX12_readRule_51 rfl rfl (Nat.le_of_ble_eq_true rfl) (by decide) rfl (Nat.le_refl _) (Nat.le_refl _) (fun m4 h4 => ?_)
                obtain ⟨a1, a2⟩ := h4
                refine T_lload_n (pc := 54) (i := 3) dX12_readRule_54 rfl rfl ?_
                refine T_lconst (pc := 55) (v := lN 0) dX12_readRule_55 rfl ?_
                refine T_lcmp (pc := 56) dX12_readRule_56 ?_
                refine R_ln_lt (pc := 57) (tgt := 64) (by omega) (by omega) dX12_readRule_57 (by decide) (fun g5 => ?_) (fun g5 => ?_)
                · exact absurd g5 (Nat.not_lt_zero _)
                · skip
                  refine T_iconst (pc := 60) (v := nI 1) dX12_readRule_60 (by decide) ?_
                  refine T_goto (pc := 61) (tgt := 65) dX12_readRule_61 (by decide) ?_
                  exact T_iret (pc := 65) (ty := .boolean) dX12_readRule_65 rfl (by decide) (Nat.le_refl _) (Nat.le_refl _) (Vp.ok ((r3.2.2 rfl).wo a2.1) a1 (((o1.trans o2).trans o3).v.trans a2.v))
          · exact absurd g3 (by decide)
  · skip
    rw [if_neg (by omega)]
    refine T_iconst (pc := 9) (v := nI 0) dX12_readRule_9 (by decide) ?_
    exact T_iret (pc := 10) (ty := .boolean) dX12_readRule_10 rfl (by decide) (Nat.le_refl _) (Nat.le_refl _) (Vp.bad h11 (OfV.refl _))
theorem m_readField {B : List Nat} {X : Td} {p : Nat} (hT : MtQ μ B (tE B p)) (h11 : μ.1 572 11 = nI (tS B p)) (hX : mdT (μ.1 573) X) : Ex γ 7 0 0 M_X12_readField [.ref 572] (rm μ) (Vp B μ (if X.F.length < 6 then vField B X (tE B p) else .inl (tS B p))) := by
  have h6 := hX.2.1.1.2
  have hb := hT.1.b
  refine Ex.of (by decide +kernel) rfl (Nat.le_of_ble_eq_true rfl) ?_
  show T _ _ _ _ _ _ _ _ _ [some (.ref 572), none, none] [] (rm μ)
  refine T_aload_n (pc := 0) (i := 0) dX12_readField_0 rfl rfl ?_
  refine R_callV1 (pc := 1) (As := []) (rest := []) (Or.inl lk_X12_129) mk_X12_fields (m_fields hX.2.1) kc_572 ⟨by decide, rfl⟩ lc_572 dX12_readField_1 rfl rfl (Nat.le_of_ble_eq_true rfl) (by decide) rfl (Nat.le_refl _) (Nat.le_refl _) ?_
  refine T_bipush (pc := 4) (v := nI 6) dX12_readField_4 (by decide) ?_
  refine R_icmp_ne (pc := 6) (tgt := 11) (by omega) (by omega) dX12_readField_6 (by decide) (fun g1 => ?_) (fun g1 => ?_)
  · skip
    rw [if_pos (by omega)]
    refine T_aload_n (pc := 11) (i := 0) dX12_readField_11 rfl rfl ?_
    refine T_iconst (pc := 12) (v := nI 0) dX12_readField_12 (by decide) ?_
    refine T_bipush (pc := 13) (v := nI 20) dX12_readField_13 (by decide) ?_
    refine R_callVm1 (pc := 15) (As := [.int (nI 0), .int (nI 20)]) (rest := []) (Or.inl lk_X12_173) mk_X12_beastsTold (m_beastsTold hT (by decide) (by decide)) kc_572 ⟨by decide, rfl⟩ lc_572 dX12_readField_15 rfl rfl (Nat.le_of_ble_eq_true rfl) (by decide) rfl (Nat.le_refl _) (Nat.le_refl _) (fun m1 h1 => ?_)
    obtain ⟨r1, o1⟩ := h1
    cases e1 : rdB B (tE B p) 0 20 with
    | none =>
      have ev : vField B X (tE B p) = .inl (tS B (tE B p)) := by unfold vField; rw [e1]
      rw [ev]
      refine T_lstore_n (pc := 18) (i := 1) (ls' := [some (.ref 572), some (.long ((-1))), none]) dX12_readField_18 rfl (by decide) rfl ?_
      refine T_lload_n (pc := 19) (i := 1) dX12_readField_19 rfl rfl ?_
      refine T_lconst (pc := 20) (v := lN 0) dX12_readField_20 rfl ?_
      refine T_lcmp (pc := 21) dX12_readField_21 ?_
      refine R_lx_ge (pc := 22) (tgt := 27) dX12_readField_22 (by decide) (fun g2 => ?_) (fun g2 => ?_)
      · exact absurd g2 (by decide)
      · skip
        refine T_iconst (pc := 25) (v := nI 0) dX12_readField_25 (by decide) ?_
        exact T_iret (pc := 26) (ty := .boolean) dX12_readField_26 rfl (by decide) (Nat.le_refl _) (Nat.le_refl _) (Vp.bad r1.1 o1.v)
    | some l =>
      rw [e1] at r1
      have ml := rdB_mw (by decide) e1
      have bl := cd_lt ml.1
      have ev : vField B X (tE B p) = .inr (tE B (tE B p), tdFa X l) := by unfold vField; rw [e1]
      rw [ev]
      have hX1 : mdT (m1.1 573) X := hX.f9 o1
      refine T_lstore_n (pc := 18) (i := 1) (ls' := [some (.ref 572), some (.long (lN (cd l))), none]) dX12_readField_18 rfl (by decide) rfl ?_
      refine T_lload_n (pc := 19) (i := 1) dX12_readField_19 rfl rfl ?_
      refine T_lconst (pc := 20) (v := lN 0) dX12_readField_20 rfl ?_
      refine T_lcmp (pc := 21) dX12_readField_21 ?_
      refine R_ln_ge (pc := 22) (tgt := 27) (by omega) (by omega) dX12_readField_22 (by decide) (fun g2 => ?_) (fun g2 => ?_)
      · skip
        refine T_aload_n (pc := 27) (i := 0) dX12_readField_27 rfl rfl ?_
        refine T_aload_n (pc := 28) (i := 0) dX12_readField_28 rfl rfl ?_
        refine R_callV1 (pc := 29) (As := []) (rest := [.ref 572]) (Or.inl lk_X12_129) mk_X12_fields (m_fields hX1.2.1) kc_572 ⟨by decide, rfl⟩ lc_572 dX12_readField_29 rfl rfl (Nat.le_of_ble_eq_true rfl) (by decide) rfl (Nat.le_refl _) (Nat.le_refl _) ?_
        refine T_lload_n (pc := 32) (i := 1) dX12_readField_32 rfl rfl ?_
        refine R_callVm0 (pc := 33) (As := [.int (nI X.F.length), .long (lN (cd l))]) (rest := []) (Or.inl lk_X12_186) mk_X12_tells (m_tells ml.1 (k := X.F.length) (by omega)) kc_572 ⟨by decide, rfl⟩ lc_572 dX12_readField_33 rfl rfl (Nat.le_of_ble_eq_true rfl) (by decide) rfl (Nat.le_refl _) (Nat.le_refl _) (fun m2 h2 => ?_)
        obtain ⟨⟨a1, a2⟩, a3⟩ := h2
        have c1 : m2.1 573 1 = nI X.F.length := (a2 1 (Or.inl (by omega))).trans hX1.2.1.1.1
        have w1 : Wo m1 (wI m2 573 1 (nI (X.F.length + 1))) := ⟨a3.trans (OfS.sI (OfS.refl _ _) rfl), fun j hj => (n_wI (by omega)).trans (a2 j (by omega))⟩
        have hX2 : mdT ((wI m2 573 1 (nI (X.F.length + 1))).1 573) (tdFa X l) := by
          refine mdT.fieldA hX1 (by omega) ?_ (e_wI ⟨rfl, rfl⟩) (fun j h1 h2 h3 => (n_wI (by omega)).trans (a2 j h3))
          exact ⟨a1.1, ⟨(n_wI (by omega)).trans a1.2.1.1, (n_wI (by omega)).trans a1.2.1.2⟩, (n_wI (by omega)).trans a1.2.2.1, fun p hp => ⟨(n_wI (by omega)).trans (a1.2.2.2 p hp).1, (n_wI (by omega)).trans (a1.2.2.2 p hp).2⟩⟩
        refine T_aload_n (pc := 36) (i := 0) dX12_readField_36 rfl rfl ?_
        refine R_getR (pc := 37) (i := 573) fl_X12_29 rfl kc_572 lc_572 rc_572_1 dX12_readField_37 ?_
        refine T_iconst (pc := 40) (v := nI 1) dX12_readField_40 (by decide) ?_
        refine T_dup2 (pc := 41) dX12_readField_41 rfl rfl ?_
        refine R_iald (pc := 42) (x := nI X.F.length) kc_573 lc_573 (by omega) (by first | decide | assumption) c1 dX12_readField_42 ?_
        refine T_iconst (pc := 43) (v := nI 1) dX12_readField_43 (by decide) ?_
        refine R_iadd (pc := 44) dX12_readField_44 ?_
        refine R_iast (pc := 45) kc_573 lc_573 (by omega) (by first | decide | assumption) dX12_readField_45 ?_
        refine T_iconst (pc := 46) (v := nI 1) dX12_readField_46 (by decide) ?_
        exact T_iret (pc := 47) (ty := .boolean) dX12_readField_47 rfl (by decide) (Nat.le_refl _) (Nat.le_refl _) (Vp.ok ((r1.2.2 rfl).wo w1.1) hX2 (o1.v.trans w1.v))
      · exact absurd g2 (by omega)
  · skip
    rw [if_neg (by omega)]
    refine T_iconst (pc := 9) (v := nI 0) dX12_readField_9 (by decide) ?_
    exact T_iret (pc := 10) (ty := .boolean) dX12_readField_10 rfl (by decide) (Nat.le_refl _) (Nat.le_refl _) (Vp.bad h11 (OfV.refl _))
theorem m_readSeen {B : List Nat} {X : Td} {p : Nat} (hT : MtQ μ B (tE B p)) (h11 : μ.1 572 11 = nI (tS B p)) (hX : mdT (μ.1 573) X) : Ex γ 7 0 0 M_X12_readSeen [.ref 572] (rm μ) (Vp B μ (if X.S.length < 10 then vSeen B X (tE B p) else .inl (tS B p))) := by
  have h10 := hX.2.2.1.1.2
  have hb := hT.1.b
  refine Ex.of (by decide +kernel) rfl (Nat.le_of_ble_eq_true rfl) ?_
  show T _ _ _ _ _ _ _ _ _ [some (.ref 572), none, none, none, none, none] [] (rm μ)
  refine T_aload_n (pc := 0) (i := 0) dX12_readSeen_0 rfl rfl ?_
  refine R_getR (pc := 1) (i := 573) fl_X12_29 rfl kc_572 lc_572 rc_572_1 dX12_readSeen_1 ?_
  refine T_iconst (pc := 4) (v := nI 2) dX12_readSeen_4 (by decide) ?_
  refine R_iald (pc := 5) (x := nI X.S.length) kc_573 lc_573 (by omega) (by first | decide | assumption) hX.2.2.1.1.1 dX12_readSeen_5 ?_
  refine T_istore_n (pc := 6) (i := 1) (ls' := [some (.ref 572), some (.int (nI X.S.length)), none, none, none, none]) dX12_readSeen_6 rfl (by decide) rfl ?_
  refine T_iload_n (pc := 7) (i := 1) dX12_readSeen_7 rfl rfl ?_
  refine T_bipush (pc := 8) (v := nI 10) dX12_readSeen_8 (by decide) ?_
  refine R_icmp_ne (pc := 10) (tgt := 15) (by omega) (by omega) dX12_readSeen_10 (by decide) (fun g1 => ?_) (fun g1 => ?_)
  · skip
    rw [if_pos (by omega)]
    refine T_aload_n (pc := 15) (i := 0) dX12_readSeen_15 rfl rfl ?_
    refine T_iconst (pc := 16) (v := nI 0) dX12_readSeen_16 (by decide) ?_
    refine T_bipush (pc := 17) (v := nI 20) dX12_readSeen_17 (by decide) ?_
    refine R_callVm1 (pc := 19) (As := [.int (nI 0), .int (nI 20)]) (rest := []) (Or.inl lk_X12_173) mk_X12_beastsTold (m_beastsTold hT (by decide) (by decide)) kc_572 ⟨by decide, rfl⟩ lc_572 dX12_readSeen_19 rfl rfl (Nat.le_of_ble_eq_true rfl) (by decide) rfl (Nat.le_refl _) (Nat.le_refl _) (fun m1 h1 => ?_)
    obtain ⟨r1, o1⟩ := h1
    cases e1 : rdB B (tE B p) 0 20 with
    | none =>
      have ev : vSeen B X (tE B p) = .inl (tS B (tE B p)) := by unfold vSeen; rw [e1]
      rw [ev]
      refine T_lstore_n (pc := 22) (i := 2) (ls' := [some (.ref 572), some (.int (nI X.S.length)), some (.long ((-1))), none, none, none]) dX12_readSeen_22 rfl (by decide) rfl ?_
      refine T_lload_n (pc := 23) (i := 2) dX12_readSeen_23 rfl rfl ?_
      refine T_lconst (pc := 24) (v := lN 0) dX12_readSeen_24 rfl ?_
      refine T_lcmp (pc := 25) dX12_readSeen_25 ?_
      refine R_lx_lt (pc := 26) (tgt := 38) dX12_readSeen_26 (by decide) (fun g2 => ?_) (fun g2 => ?_)
      · skip
        refine T_iconst (pc := 38) (v := nI 0) dX12_readSeen_38 (by decide) ?_
        exact T_iret (pc := 39) (ty := .boolean) dX12_readSeen_39 rfl (by decide) (Nat.le_refl _) (Nat.le_refl _) (Vp.bad r1.1 o1.v)
      · exact absurd (by decide) g2
    | some l =>
      rw [e1] at r1
      have ml := rdB_mw (by decide) e1
      have bl := cd_lt ml.1
      have ev : vSeen B X (tE B p) = if wdB B (tE B (tE B p)) wTo = true then (match rdB B (tE B (tE B (tE B p))) 0 20 with | none => .inl (tS B (tE B (tE B (tE B p)))) | some r => .inr (tE B (tE B (tE B (tE B p))), tdSa X (l, r))) else .inl (tS B (tE B (tE B p))) := by unfold vSeen; rw [e1]; rfl
      rw [ev]
      refine T_lstore_n (pc := 22) (i := 2) (ls' := [some (.ref 572), some (.int (nI X.S.length)), some (.long (lN (cd l))), none, none, none]) dX12_readSeen_22 rfl (by decide) rfl ?_
      refine T_lload_n (pc := 23) (i := 2) dX12_readSeen_23 rfl rfl ?_
      refine T_lconst (pc := 24) (v := lN 0) dX12_readSeen_24 rfl ?_
      refine T_lcmp (pc := 25) dX12_readSeen_25 ?_
      refine R_ln_lt (pc := 26) (tgt := 38) (by omega) (by omega) dX12_readSeen_26 (by decide) (fun g2 => ?_) (fun g2 => ?_)
      · exact absurd g2 (Nat.not_lt_zero _)
      · skip
        refine T_aload_n (pc := 29) (i := 0) dX12_readSeen_29 rfl rfl ?_
        refine T_ldcS (pc := 30) (i := 23) rfl dX12_readSeen_30 ?_
        refine R_callVm1 (pc := 32) (As := [.ref (XB + (23 + 1))]) (rest := []) (Or.inl lk_X12_179) mk_X12_needs (m_needs (r1.2.2 rfl) sm23) kc_572 ⟨by decide, rfl⟩ lc_572 dX12_readSeen_32 rfl rfl (Nat.le_of_ble_eq_true rfl) (by decide) rfl (Nat.le_refl _) (Nat.le_refl _) (fun m2 h2 => ?_)
        obtain ⟨r2, o2⟩ := h2
        cases e2 : wdB B (tE B (tE B p)) wTo with
        | false =>
          rw [if_neg Bool.false_ne_true]
          refine R_ifb_ne (pc := 35) (tgt := 40) dX12_readSeen_35 (by decide) (fun g3 => ?_) (fun g3 => ?_)
          · exact absurd g3 (by decide)
          · skip
            refine T_iconst (pc := 38) (v := nI 0) dX12_readSeen_38 (by decide) ?_
            exact T_iret (pc := 39) (ty := .boolean) dX12_readSeen_39 rfl (by decide) (Nat.le_refl _) (Nat.le_refl _) (Vp.bad r2.2 (o1.trans o2).v)
        | true =>
          rw [if_pos rfl]
          refine R_ifb_ne (pc := 35) (tgt := 40) dX12_readSeen_35 (by decide) (fun g3 => ?_) (fun g3 => ?_)
          · skip
            refine T_aload_n (pc := 40) (i := 0) dX12_readSeen_40 rfl rfl ?_
            refine T_iconst (pc := 41) (v := nI 0) dX12_readSeen_41 (by decide) ?_
            refine T_bipush (pc := 42) (v := nI 20) dX12_readSeen_42 (by decide) ?_
            refine R_callVm1 (pc := 44) (As := [.int (nI 0), .int (nI 20)]) (rest := []) (Or.inl lk_X12_173) mk_X12_beastsTold (m_beastsTold (r2.w e2) (by decide) (by decide)) kc_572 ⟨by decide, rfl⟩ lc_572 dX12_readSeen_44 rfl rfl (Nat.le_of_ble_eq_true rfl) (by decide) rfl (Nat.le_refl _) (Nat.le_refl _) (fun m3 h3 => ?_)
            obtain ⟨r3, o3⟩ := h3
            cases e3 : rdB B (tE B (tE B (tE B p))) 0 20 with
            | none =>
              refine T_lstore (pc := 47) (i := 4) (ls' := [some (.ref 572), some (.int (nI X.S.length)), some (.long (lN (cd l))), none, some (.long ((-1))), none]) dX12_readSeen_47 (by decide) rfl ?_
              refine T_lload (pc := 49) (i := 4) dX12_readSeen_49 rfl ?_
              refine T_lconst (pc := 51) (v := lN 0) dX12_readSeen_51 rfl ?_
              refine T_lcmp (pc := 52) dX12_readSeen_52 ?_
              refine R_lx_ge (pc := 53) (tgt := 58) dX12_readSeen_53 (by decide) (fun g4 => ?_) (fun g4 => ?_)
              · exact absurd g4 (by decide)
              · skip
                refine T_iconst (pc := 56) (v := nI 0) dX12_readSeen_56 (by decide) ?_
                exact T_iret (pc := 57) (ty := .boolean) dX12_readSeen_57 rfl (by decide) (Nat.le_refl _) (Nat.le_refl _) (Vp.bad r3.1 ((o1.trans o2).trans o3).v)
            | some r =>
              rw [e3] at r3
              have mr := rdB_mw (by decide) e3
              have br := cd_lt mr.1
              have hX3 : mdT (m3.1 573) X := hX.f9 ((o1.trans o2).trans o3)
              refine T_lstore (pc := 47) (i := 4) (ls' := [some (.ref 572), some (.int (nI X.S.length)), some (.long (lN (cd l))), none, some (.long (lN (cd r))), none]) dX12_readSeen_47 (by decide) rfl ?_
              refine T_lload (pc := 49) (i := 4) dX12_readSeen_49 rfl ?_
              refine T_lconst (pc := 51) (v := lN 0) dX12_readSeen_51 rfl ?_
              refine T_lcmp (pc := 52) dX12_readSeen_52 ?_
              refine R_ln_ge (pc := 53) (tgt := 58) (by omega) (by omega) dX12_readSeen_53 (by decide) (fun g4 => ?_) (fun g4 => ?_)
              · skip
                refine T_aload_n (pc := 58) (i := 0) dX12_readSeen_58 rfl rfl ?_
                refine T_sipush (pc := 59) (v := nI 299) dX12_readSeen_59 (by decide) ?_
                refine T_iconst (pc := 62) (v := nI 4) dX12_readSeen_62 (by decide) ?_
                refine T_iload_n (pc := 63) (i := 1) dX12_readSeen_63 rfl rfl ?_
                refine R_imul (pc := 64) dX12_readSeen_64 ?_
                refine R_iadd (pc := 65) dX12_readSeen_65 ?_
                refine T_lload_n (pc := 66) (i := 2) dX12_readSeen_66 rfl rfl ?_
                refine R_callV0 (pc := 67) (As := [.int (nI (299 + (4 * X.S.length))), .long (lN (cd l))]) (rest := []) (Or.inl lk_X12_132) mk_X12_putsCode (m_putsCode ml.1 (by omega)) kc_572 ⟨by decide, rfl⟩ lc_572 dX12_readSeen_67 rfl rfl (Nat.le_of_ble_eq_true rfl) (by decide) rfl (Nat.le_refl _) (Nat.le_refl _) ?_
                refine T_aload_n (pc := 70) (i := 0) dX12_readSeen_70 rfl rfl ?_
                refine T_sipush (pc := 71) (v := nI 299) dX12_readSeen_71 (by decide) ?_
                refine T_iconst (pc := 74) (v := nI 4) dX12_readSeen_74 (by decide) ?_
                refine T_iload_n (pc := 75) (i := 1) dX12_readSeen_75 rfl rfl ?_
                refine R_imul (pc := 76) dX12_readSeen_76 ?_
                refine R_iadd (pc := 77) dX12_readSeen_77 ?_
                refine T_iconst (pc := 78) (v := nI 2) dX12_readSeen_78 (by decide) ?_
                refine R_iadd (pc := 79) dX12_readSeen_79 ?_
                refine T_lload (pc := 80) (i := 4) dX12_readSeen_80 rfl ?_
                refine R_callV0 (pc := 82) (As := [.int (nI ((299 + (4 * X.S.length)) + 2)), .long (lN (cd r))]) (rest := []) (Or.inl lk_X12_132) mk_X12_putsCode (m_putsCode mr.1 (by omega)) kc_572 ⟨by decide, rfl⟩ lc_572 dX12_readSeen_82 rfl rfl (Nat.le_of_ble_eq_true rfl) (by decide) rfl (Nat.le_refl _) (Nat.le_refl _) ?_
                obtain ⟨m4, h4⟩ : ∃ m4, m4 = (wI (wI (wI (wI m3 573 (299 + 4 * X.S.length) (nI (cd l / 2 ^ 32))) 573 (299 + 4 * X.S.length + 1) (nI (cd l))) 573 (299 + 4 * X.S.length + 2) (nI (cd r / 2 ^ 32))) 573 (299 + 4 * X.S.length + 2 + 1) (nI (cd r))) := ⟨_, rfl⟩
                have o4 : OfS S573 m3 m4 := by
                  rw [h4]
                  exact OfS.sI (OfS.sI (OfS.sI (OfS.sI (OfS.refl _ _) rfl) rfl) rfl) rfl
                have k1 : ∀ j, j < 299 + 4 * X.S.length ∨ 299 + 4 * X.S.length + 4 ≤ j → m4.1 573 j = m3.1 573 j := fun j hj => by
                  rw [h4]
                  simp (disch := omega) only [n_wI]
                have k2 : mdC (m4.1 573) (299 + 4 * X.S.length) l := by
                  rw [h4]
                  refine ⟨?_, ?_⟩ <;> simp (disch := omega) only [n_wI, e_wI]
                have k3 : mdC (m4.1 573) (299 + 4 * X.S.length + 2) r := by
                  rw [h4]
                  refine ⟨?_, ?_⟩ <;> simp (disch := omega) only [n_wI, e_wI]
                rw [← h4]
                have c1 : m4.1 573 2 = nI X.S.length := (k1 2 (Or.inl (by omega))).trans hX3.2.2.1.1.1
                have w1 : OfV m3 (wI m4 573 2 (nI (X.S.length + 1))) := ⟨⟨(o4.trans (OfS.sI (OfS.refl _ _) rfl)).mono (fun k hk => Or.inr hk), fun j _ => ⟨(n_wI (by omega)).trans (congrFun (o4 572 (by unfold S573; omega)).1 j), congrFun (o4 572 (by unfold S573; omega)).2 j⟩⟩, fun j hj => (n_wI (by omega)).trans (k1 j (by omega))⟩
                have hX4 : mdT ((wI m4 573 2 (nI (X.S.length + 1))).1 573) (tdSa X (l, r)) := mdT.seenA hX3 (by omega) ⟨ml.1, mr.1⟩ ⟨(n_wI (by omega)).trans k2.1, (n_wI (by omega)).trans k2.2⟩ ⟨(n_wI (by omega)).trans k3.1, (n_wI (by omega)).trans k3.2⟩ (e_wI ⟨rfl, rfl⟩) (fun j h1 h2 h3 => (n_wI (by omega)).trans (k1 j (Or.inl h3)))
                refine T_aload_n (pc := 85) (i := 0) dX12_readSeen_85 rfl rfl ?_
                refine R_getR (pc := 86) (i := 573) fl_X12_29 rfl kc_572 lc_572 rc_572_1 dX12_readSeen_86 ?_
                refine T_iconst (pc := 89) (v := nI 2) dX12_readSeen_89 (by decide) ?_
                refine T_dup2 (pc := 90) dX12_readSeen_90 rfl rfl ?_
                refine R_iald (pc := 91) (x := nI X.S.length) kc_573 lc_573 (by omega) (by first | decide | assumption) c1 dX12_readSeen_91 ?_
                refine T_iconst (pc := 92) (v := nI 1) dX12_readSeen_92 (by decide) ?_
                refine R_iadd (pc := 93) dX12_readSeen_93 ?_
                refine R_iast (pc := 94) kc_573 lc_573 (by omega) (by first | decide | assumption) dX12_readSeen_94 ?_
                refine T_iconst (pc := 95) (v := nI 1) dX12_readSeen_95 (by decide) ?_
                exact T_iret (pc := 96) (ty := .boolean) dX12_readSeen_96 rfl (by decide) (Nat.le_refl _) (Nat.le_refl _) (Vp.ok ((r3.2.2 rfl).wo (o4.trans (OfS.sI (OfS.refl _ _) rfl))) hX4 (((o1.trans o2).trans o3).v.trans w1))
              · exact absurd g4 (by omega)
          · exact absurd g3 (by decide)
  · skip
    rw [if_neg (by omega)]
    refine T_iconst (pc := 13) (v := nI 0) dX12_readSeen_13 (by decide) ?_
    exact T_iret (pc := 14) (ty := .boolean) dX12_readSeen_14 rfl (by decide) (Nat.le_refl _) (Nat.le_refl _) (Vp.bad h11 (OfV.refl _))
end MRD

