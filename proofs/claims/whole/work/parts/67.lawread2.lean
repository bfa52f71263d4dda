/-! THE LAW is read: conditions -/
def lvD (B : List Nat) (s : Int32) (c : Nat) (q : Nat × List Int32) : Lv := if tK B q.1 = nI c then (match lvSum B (tE B q.1) with
  | .inl e => .inl e
  | .inr r => .inr (r.1, q.2 ++ r.2 ++ [s])) else .inl (tS B q.1)
theorem lvC_no {B : List Nat} {p z : Nat} (h : lvSum B p = .inl z) : lvC B p = .inl z := by unfold lvC; rw [h]
theorem lvC_60 {B : List Nat} {p : Nat} {q : Nat × List Int32} (h : lvSum B p = .inr q) (g : tK B q.1 = nI 60) : lvC B p = lvD B (-11) 60 q := by
  unfold lvC lvD
  rw [h]
  show (if tK B q.1 = nI 60 ∨ tK B q.1 = nI 62 then (match lvSum B (tE B q.1) with | .inl e => .inl e | .inr r => .inr (r.1, q.2 ++ r.2 ++ [if tK B q.1 = nI 60 then -11 else -12])) else .inl (tS B q.1) : Lv) = _
  rw [if_pos (Or.inl g), if_pos g, if_pos g]
theorem lvC_62 {B : List Nat} {p : Nat} {q : Nat × List Int32} (h : lvSum B p = .inr q) (g : tK B q.1 ≠ nI 60) : lvC B p = lvD B (-12) 62 q := by
  unfold lvC lvD
  rw [h]
  show (if tK B q.1 = nI 60 ∨ tK B q.1 = nI 62 then (match lvSum B (tE B q.1) with | .inl e => .inl e | .inr r => .inr (r.1, q.2 ++ r.2 ++ [if tK B q.1 = nI 60 then -11 else -12])) else .inl (tS B q.1) : Lv) = _
  rw [if_neg g]
  by_cases g2 : tK B q.1 = nI 62
  · rw [if_pos (Or.inr g2), if_pos g2]
  · rw [if_neg (fun z => z.elim g g2), if_neg g2]
section LY
variable {γ : Ga} {μ : SM2}
theorem atomT {B : List Nat} {p deep d : Nat} {L : Lw} (hd : 8 ≤ d) (hT : TokAt μ B p) (hL : LawAt μ 62 L) (hn : L.2.length ≤ p) : T γ d 0 0 M_X5_readAtom (Lq B μ L (lvT B p)) 0 0 86 [some (.ref 62), some (.ref 1), some (.int (nI deep)), some (.int (bI (wdB B p wNot))), none] [] (rm μ) := by
  have hse := tE_le hT.1.2
  have h400 := hT.1.1.1.2
  have tail : ∀ (s : Int32) (c : Nat) (m : SM2) (q : Nat × List Int32), c < 256 → LqP B μ m L (.inr q) → L.2.length + q.2.length ≤ q.1 → OfS SLw μ m → T γ d 0 0 M_X5_readAtom (Lq B μ L (lvD B s c q)) 0 0 150 [some (.ref 62), some (.ref 1), some (.int (nI deep)), some (.int (bI (wdB B p wNot))), some (.int s)] [.int (nI c), .ref 1] (rm m) := fun s c m q hc hP hl hO => by
    obtain ⟨t, lw, f6⟩ := hP
    have hq := tE_le t.1.2
    have ev0 : lvD B s c q = if tK B q.1 = nI c then (match lvSum B (tE B q.1) with | .inl e => .inl e | .inr r => .inr (r.1, q.2 ++ r.2 ++ [s])) else .inl (tS B q.1) := rfl
    rw [ev0]
    refine R_callVm1 (pc := 150) (As := [.int (nI c)]) (rest := []) (Or.inl lk_X5_61) mk_X8_skip (c_skip t) kc_1 ⟨by decide, rfl⟩ lc_1 dX5_readAtom_150 rfl rfl (Nat.le_of_ble_eq_true rfl) (by omega) rfl (Nat.le_refl _) (Nat.le_refl _) (fun m1 h1 => ?_)
    obtain ⟨w1, o1⟩ := h1
    have hO1 := hO.trans (o1.mono (fun k => S1_SLw))
    refine R_ifb_eq (pc := 153) (tgt := 164) dX5_readAtom_153 (by decide) (fun h2 => ?_) (fun h2 => ?_)
    · skip
      have g : ¬ tK B q.1 = nI c := of_decide_eq_false h2
      have w2 := w1.2 h2
      rw [if_neg g]
      refine T_iconst (pc := 164) (v := nI 0) dX5_readAtom_164 (by decide) ?_
      exact T_iret (pc := 165) (ty := .boolean) dX5_readAtom_165 rfl (by decide) (Nat.le_refl _) (Nat.le_refl _) ⟨_, rfl, rfl, w2, hO1⟩
    · skip
      have g : tK B q.1 = nI c := of_decide_eq_true h2
      have w2 := w1.1 h2
      obtain ⟨t2, f2⟩ := w2
      rw [if_pos g]
      have hgt := tE_gt t.1.2 (by rw [g]; exact nI_ne (by omega))
      have hll : (L.2 ++ q.2).length = L.2.length + q.2.length := List.length_append
      refine T_aload_n (pc := 156) (i := 0) dX5_readAtom_156 rfl rfl ?_
      refine T_aload_n (pc := 157) (i := 1) dX5_readAtom_157 rfl rfl ?_
      refine R_callVm1 (pc := 158) (As := [.ref 1]) (rest := []) (Or.inl lk_X5_83) mk_X5_readSum (c_readSum t2 (lw.s1 o1) (by show (L.2 ++ q.2).length ≤ tE B q.1; omega)) (kt_law law62) ⟨by decide, rfl⟩ (lt_law law62) dX5_readAtom_158 rfl rfl (Nat.le_of_ble_eq_true rfl) (by omega) rfl (Nat.le_refl _) (Nat.le_refl _) (fun m3 h6 => ?_)
      obtain ⟨w3, o3⟩ := h6
      have hO3 := hO1.trans o3
      cases e2 : lvSum B (tE B q.1) with
      | inl z =>
        rw [e2] at w3
        show T _ _ _ _ _ (Lq B μ L (.inl z)) _ _ _ _ _ _
        refine R_ifb_ne (pc := 161) (tgt := 166) dX5_readAtom_161 (by decide) (fun h7 => ?_) (fun h7 => ?_)
        · exact absurd h7 (fun z => by cases z)
        · skip
          refine T_iconst (pc := 164) (v := nI 0) dX5_readAtom_164 (by decide) ?_
          exact T_iret (pc := 165) (ty := .boolean) dX5_readAtom_165 rfl (by decide) (Nat.le_refl _) (Nat.le_refl _) ⟨_, rfl, rfl, w3, hO3⟩
      | inr r =>
        rw [e2] at w3
        obtain ⟨t3, l3, f3⟩ := w3
        replace l3 : LawAt m3 62 (L.1, L.2 ++ q.2 ++ r.2) := l3
        have gr := gr_lvSum _ r hq.2 e2
        have hl3 : (L.2 ++ q.2 ++ r.2).length = L.2.length + q.2.length + r.2.length := by rw [List.length_append, List.length_append]
        show T _ _ _ _ _ (Lq B μ L (.inr (r.1, q.2 ++ r.2 ++ [s]))) _ _ _ _ _ _
        refine R_ifb_ne (pc := 161) (tgt := 166) dX5_readAtom_161 (by decide) (fun h7 => ?_) (fun h7 => ?_)
        · skip
          refine T_aload_n (pc := 166) (i := 0) dX5_readAtom_166 rfl rfl ?_
          refine T_iload (pc := 167) (i := 4) dX5_readAtom_167 rfl ?_
          refine R_callVm0 (pc := 169) (As := [.int (s)]) (rest := []) (Or.inl lk_X5_50) mk_X5_write (c_write l3 (by show (L.2 ++ q.2 ++ r.2).length < 400; omega)) (kt_law law62) ⟨by decide, rfl⟩ (lt_law law62) dX5_readAtom_169 rfl rfl (Nat.le_of_ble_eq_true rfl) (by omega) rfl (Nat.le_refl _) (Nat.le_refl _) (fun m4 h8 => ?_)
          obtain ⟨l4, o4⟩ := h8
          refine T_iconst (pc := 172) (v := nI 1) dX5_readAtom_172 (by decide) ?_
          exact T_iret (pc := 173) (ty := .boolean) dX5_readAtom_173 rfl (by decide) (Nat.le_refl _) (Nat.le_refl _) ⟨_, rfl, rfl, ⟨t3.lw o4, law_asc l4, (o4.i (by omega) 6).trans (f3.trans (f2.trans f6))⟩, hO3.trans (o4.mono (fun k hk => Or.inr hk))⟩
        · exact absurd h7 (fun z => by cases z)
  have ev0 : lvT B p = if wdB B p wEnd = true then .inr (tE B p, [-7]) else lvC B p := rfl
  rw [ev0]
  refine T_aload_n (pc := 86) (i := 1) dX5_readAtom_86 rfl rfl ?_
  refine T_ldcS (pc := 87) (i := 14) rfl dX5_readAtom_87 ?_
  refine R_callV1 (pc := 89) (As := [.ref (XB + (14 + 1))]) (rest := []) (Or.inl lk_X5_47) mk_X8_isWord (c_isWord hT st14) kc_1 ⟨by decide, rfl⟩ lc_1 dX5_readAtom_89 rfl rfl (Nat.le_of_ble_eq_true rfl) (by omega) rfl (Nat.le_refl _) (Nat.le_refl _) ?_
  refine R_ifb_eq (pc := 92) (tgt := 107) dX5_readAtom_92 (by decide) (fun h0 => ?_) (fun h0 => ?_)
  · skip
    rw [if_neg (fun z => Bool.noConfusion ((show wdB B p wEnd = false from h0).symm.trans z))]
    refine T_aload_n (pc := 107) (i := 0) dX5_readAtom_107 rfl rfl ?_
    refine T_aload_n (pc := 108) (i := 1) dX5_readAtom_108 rfl rfl ?_
    refine R_callVm1 (pc := 109) (As := [.ref 1]) (rest := []) (Or.inl lk_X5_83) mk_X5_readSum (c_readSum hT hL hn) (kt_law law62) ⟨by decide, rfl⟩ (lt_law law62) dX5_readAtom_109 rfl rfl (Nat.le_of_ble_eq_true rfl) (by omega) rfl (Nat.le_refl _) (Nat.le_refl _) (fun m1 h1 => ?_)
    obtain ⟨w1, o1⟩ := h1
    cases e : lvSum B p with
    | inl z =>
      rw [e] at w1
      rw [lvC_no e]
      refine R_ifb_ne (pc := 112) (tgt := 117) dX5_readAtom_112 (by decide) (fun h2 => ?_) (fun h2 => ?_)
      · exact absurd h2 (fun z => by cases z)
      · skip
        refine T_iconst (pc := 115) (v := nI 0) dX5_readAtom_115 (by decide) ?_
        exact T_iret (pc := 116) (ty := .boolean) dX5_readAtom_116 rfl (by decide) (Nat.le_refl _) (Nat.le_refl _) ⟨_, rfl, rfl, w1, o1⟩
    | inr q =>
      rw [e] at w1
      have gq := gr_lvSum p q hT.1.2 e
      refine R_ifb_ne (pc := 112) (tgt := 117) dX5_readAtom_112 (by decide) (fun h2 => ?_) (fun h2 => ?_)
      · skip
        refine T_aload_n (pc := 117) (i := 1) dX5_readAtom_117 rfl rfl ?_
        refine R_getI (pc := 118) (x := (tK B q.1)) fl_X5_36 rfl kc_1 lc_1 w1.1.2.2.2.1 dX5_readAtom_118 ?_
        refine T_bipush (pc := 121) (v := nI 60) dX5_readAtom_121 (by decide) ?_
        refine T_icmp_ne (pc := 123) (tgt := 131) dX5_readAtom_123 (by decide) (fun h3 => ?_) (fun h3 => ?_)
        · skip
          rw [lvC_62 e h3]
          refine T_bipush (pc := 131) (v := (-12)) dX5_readAtom_131 (by decide) ?_
          refine T_istore (pc := 133) (i := 4) (ls' := [some (.ref 62), some (.ref 1), some (.int (nI deep)), some (.int (bI (wdB B p wNot))), some (.int ((-12)))]) dX5_readAtom_133 (by decide) rfl ?_
          refine T_aload_n (pc := 135) (i := 1) dX5_readAtom_135 rfl rfl ?_
          refine T_iload (pc := 136) (i := 4) dX5_readAtom_136 rfl ?_
          refine T_bipush (pc := 138) (v := (-11)) dX5_readAtom_138 (by decide) ?_
          refine T_icmp_ne (pc := 140) (tgt := 148) dX5_readAtom_140 (by decide) (fun h4 => ?_) (fun h4 => ?_)
          · skip
            refine T_bipush (pc := 148) (v := nI 62) dX5_readAtom_148 (by decide) ?_
            exact tail _ _ _ _ (by decide) w1 (by omega) o1
          · exact absurd h4 (by decide)
        · skip
          rw [lvC_60 e (by simpa using h3)]
          refine T_bipush (pc := 126) (v := (-11)) dX5_readAtom_126 (by decide) ?_
          refine T_goto (pc := 128) (tgt := 133) dX5_readAtom_128 (by decide) ?_
          refine T_istore (pc := 133) (i := 4) (ls' := [some (.ref 62), some (.ref 1), some (.int (nI deep)), some (.int (bI (wdB B p wNot))), some (.int ((-11)))]) dX5_readAtom_133 (by decide) rfl ?_
          refine T_aload_n (pc := 135) (i := 1) dX5_readAtom_135 rfl rfl ?_
          refine T_iload (pc := 136) (i := 4) dX5_readAtom_136 rfl ?_
          refine T_bipush (pc := 138) (v := (-11)) dX5_readAtom_138 (by decide) ?_
          refine T_icmp_ne (pc := 140) (tgt := 148) dX5_readAtom_140 (by decide) (fun h4 => ?_) (fun h4 => ?_)
          · exact absurd rfl h4
          · skip
            refine T_bipush (pc := 143) (v := nI 60) dX5_readAtom_143 (by decide) ?_
            refine T_goto (pc := 145) (tgt := 150) dX5_readAtom_145 (by decide) ?_
            exact tail _ _ _ _ (by decide) w1 (by omega) o1
      · exact absurd h2 (fun z => by cases z)
  · skip
    rw [if_pos (show wdB B p wEnd = true from h0)]
    have hgt := wd_gt hT.1.2 (show wdB B p wEnd = true from h0)
    refine T_aload_n (pc := 95) (i := 1) dX5_readAtom_95 rfl rfl ?_
    refine R_callVm0 (pc := 96) (As := []) (rest := []) (Or.inl lk_X5_54) mk_X8_advance (c_advance hT.1.1 hT.2.2.1 hse.2) kc_1 ⟨by decide, rfl⟩ lc_1 dX5_readAtom_96 rfl rfl (Nat.le_of_ble_eq_true rfl) (by omega) rfl (Nat.le_refl _) (Nat.le_refl _) (fun m1 h2 => ?_)
    obtain ⟨t1, f1, o1⟩ := h2
    refine T_aload_n (pc := 99) (i := 0) dX5_readAtom_99 rfl rfl ?_
    refine T_bipush (pc := 100) (v := (-7)) dX5_readAtom_100 (by decide) ?_
    refine R_callVm0 (pc := 102) (As := [.int ((-7))]) (rest := []) (Or.inl lk_X5_50) mk_X5_write (c_write (hL.s1 o1) (by omega)) (kt_law law62) ⟨by decide, rfl⟩ (lt_law law62) dX5_readAtom_102 rfl rfl (Nat.le_of_ble_eq_true rfl) (by omega) rfl (Nat.le_refl _) (Nat.le_refl _) (fun m2 h3 => ?_)
    obtain ⟨l2, o2⟩ := h3
    refine T_iconst (pc := 105) (v := nI 1) dX5_readAtom_105 (by decide) ?_
    exact T_iret (pc := 106) (ty := .boolean) dX5_readAtom_106 rfl (by decide) (Nat.le_refl _) (Nat.le_refl _) ⟨_, rfl, rfl, ⟨t1.lw o2, l2, (o2.i (by omega) 6).trans f1⟩, (o1.mono (fun k => S1_SLw)).trans (o2.mono (fun k hk => Or.inr hk))⟩

/-- the deeper ones -/
def lvN (B : List Nat) : Nat → Nat → Lv
  | 0, p => .inl (tS B p)
  | d + 1, p => if wdB B p wNot = true then (match lvA B d (tE B p) with
      | .inl e => .inl e
      | .inr q => .inr (q.1, q.2 ++ [-8])) else (match lvOr B (lvA B d) (tE B p) with
      | .inl e => .inl e
      | .inr q => if tK B q.1 = nI 41 then .inr (tE B q.1, q.2) else .inl (tS B q.1))
theorem lvA_n {B : List Nat} {p : Nat} : ∀ r, (wdB B p wNot = true ∨ tK B p = nI 40) → lvA B r p = lvN B r p
  | 0, h => by unfold lvA lvN; rw [if_pos h]
  | d + 1, h => by
    unfold lvA
    by_cases g : wdB B p wNot = true
    · rw [if_pos g]
      exact (if_pos g).symm
    · rw [if_neg g, if_pos (h.resolve_left g)]
      exact (if_neg g).symm
theorem lvA_t {B : List Nat} {p : Nat} : ∀ r, ¬ wdB B p wNot = true → ¬ tK B p = nI 40 → lvA B r p = lvT B p
  | 0, h, g => by unfold lvA; rw [if_neg (fun z => z.elim h g)]
  | d + 1, h, g => by unfold lvA; rw [if_neg h, if_neg g]
theorem atomE {B : List Nat} {r deep d : Nat} (hd : 8 ≤ d) (hk : ∀ (μ : SM2) (p : Nat) (L : Lw), TokAt μ B p → LawAt μ 62 L → L.2.length ≤ p → (wdB B p wNot = true ∨ tK B p = nI 40) → T γ d 0 0 M_X5_readAtom (Lq B μ L (lvN B r p)) 0 0 20 [some (.ref 62), some (.ref 1), some (.int (nI deep)), some (.int (bI (wdB B p wNot))), none] [] (rm μ)) : LqC γ M_X5_readAtom B (lvA B r) deep d := by
  intro μ p L hT hL hn
  refine Ex.of (by decide +kernel) rfl (Nat.le_of_ble_eq_true rfl) ?_
  show T _ _ _ _ _ _ _ _ _ [some (.ref 62), some (.ref 1), some (.int (nI deep)), none, none] [] (rm μ)
  refine T_aload_n (pc := 0) (i := 1) dX5_readAtom_0 rfl rfl ?_
  refine T_ldcS (pc := 1) (i := 13) rfl dX5_readAtom_1 ?_
  refine R_callV1 (pc := 3) (As := [.ref (XB + (13 + 1))]) (rest := []) (Or.inl lk_X5_47) mk_X8_isWord (c_isWord hT st13) kc_1 ⟨by decide, rfl⟩ lc_1 dX5_readAtom_3 rfl rfl (Nat.le_of_ble_eq_true rfl) (by omega) rfl (Nat.le_refl _) (Nat.le_refl _) ?_
  refine T_istore_n (pc := 6) (i := 3) (ls' := [some (.ref 62), some (.ref 1), some (.int (nI deep)), some (.int (bI (wdB B p wNot))), none]) dX5_readAtom_6 rfl (by decide) rfl ?_
  refine T_iload_n (pc := 7) (i := 3) dX5_readAtom_7 rfl rfl ?_
  refine R_ifb_ne (pc := 8) (tgt := 20) dX5_readAtom_8 (by decide) (fun h1 => ?_) (fun h1 => ?_)
  · skip
    rw [lvA_n r (Or.inl (show wdB B p wNot = true from h1))]
    exact hk μ p L hT hL hn (Or.inl h1)
  · skip
    have n1 : ¬ wdB B p wNot = true := fun z => Bool.noConfusion ((show wdB B p wNot = false from h1).symm.trans z)
    refine T_aload_n (pc := 11) (i := 1) dX5_readAtom_11 rfl rfl ?_
    refine R_getI (pc := 12) (x := (tK B p)) fl_X5_36 rfl kc_1 lc_1 hT.2.2.2.1 dX5_readAtom_12 ?_
    refine T_bipush (pc := 15) (v := nI 40) dX5_readAtom_15 (by decide) ?_
    refine T_icmp_ne (pc := 17) (tgt := 86) dX5_readAtom_17 (by decide) (fun h2 => ?_) (fun h2 => ?_)
    · skip
      rw [lvA_t r n1 h2]
      exact atomT hd hT hL hn
    · skip
      have p2 : tK B p = nI 40 := by simpa using h2
      rw [lvA_n r (Or.inr p2)]
      exact hk μ p L hT hL hn (Or.inr p2)
theorem c_atom0 {B : List Nat} : LqC γ M_X5_readAtom B (lvA B 0) 6 8 := by
  refine atomE (Nat.le_refl _) (fun μ p L hT hL hn hw => ?_)
  refine T_iload_n (pc := 20) (i := 2) dX5_readAtom_20 rfl rfl ?_
  refine T_bipush (pc := 21) (v := nI 6) dX5_readAtom_21 (by decide) ?_
  refine R_icmp_lt (pc := 23) (tgt := 31) (by omega) (by omega) dX5_readAtom_23 (by decide) (fun h1 => ?_) (fun h1 => ?_)
  · exact absurd h1 (by decide)
  · skip
    show T _ _ _ _ _ (Lq B μ L (.inl (tS B p))) _ _ _ _ _ _
    refine T_aload_n (pc := 26) (i := 1) dX5_readAtom_26 rfl rfl ?_
    refine R_callVm1 (pc := 27) (As := []) (rest := []) (Or.inl lk_X5_65) mk_X8_isWrong (c_isWrong hT) kc_1 ⟨by decide, rfl⟩ lc_1 dX5_readAtom_27 rfl rfl (Nat.le_of_ble_eq_true rfl) (by omega) rfl (Nat.le_refl _) (Nat.le_refl _) (fun m2 h2 => ?_)
    exact T_iret (pc := 30) (ty := .boolean) dX5_readAtom_30 rfl (nar_b _) (Nat.le_refl _) (Nat.le_refl _) ⟨_, rfl, rfl, ⟨h2.1, h2.2.1⟩, h2.2.2.mono (fun k => S1_SLw)⟩
theorem c_atomS {B : List Nat} {r deep D : Nat} (hD : 8 ≤ D) (hdp : deep < 6) (hA : LqC γ M_X5_readAtom B (lvA B r) (deep + 1) D) (hO : LqC γ M_X5_readAny B (lvOr B (lvA B r)) (deep + 1) (D + 2)) : LqC γ M_X5_readAtom B (lvA B (r + 1)) deep (D + 3) := by
  refine atomE (by omega) (fun μ p L hT hL hn hw => ?_)
  have hse := tE_le hT.1.2
  have h400 := hT.1.1.1.2
  have ev0 : lvN B (r + 1) p = if wdB B p wNot = true then (match lvA B r (tE B p) with | .inl e => .inl e | .inr q => .inr (q.1, q.2 ++ [-8])) else (match lvOr B (lvA B r) (tE B p) with | .inl e => .inl e | .inr q => if tK B q.1 = nI 41 then .inr (tE B q.1, q.2) else .inl (tS B q.1)) := rfl
  have hgt : p < tE B p := tE_gt hT.1.2 (by rcases hw with hw | hw <;> first | (rw [wd_k hw]; decide) | (rw [hw]; decide))
  rw [ev0]
  refine T_iload_n (pc := 20) (i := 2) dX5_readAtom_20 rfl rfl ?_
  refine T_bipush (pc := 21) (v := nI 6) dX5_readAtom_21 (by decide) ?_
  refine R_icmp_lt (pc := 23) (tgt := 31) (by omega) (by omega) dX5_readAtom_23 (by decide) (fun h1 => ?_) (fun h1 => ?_)
  · skip
    refine T_aload_n (pc := 31) (i := 1) dX5_readAtom_31 rfl rfl ?_
    refine R_callVm0 (pc := 32) (As := []) (rest := []) (Or.inl lk_X5_54) mk_X8_advance (c_advance hT.1.1 hT.2.2.1 hse.2) kc_1 ⟨by decide, rfl⟩ lc_1 dX5_readAtom_32 rfl rfl (Nat.le_of_ble_eq_true rfl) (by omega) rfl (Nat.le_refl _) (Nat.le_refl _) (fun m1 h2 => ?_)
    obtain ⟨t1, f1, o1⟩ := h2
    have hO1 := o1.mono (fun k => S1_SLw)
    have l1 := hL.s1 o1
    refine T_iload_n (pc := 35) (i := 3) dX5_readAtom_35 rfl rfl ?_
    refine R_ifb_ne (pc := 36) (tgt := 65) dX5_readAtom_36 (by decide) (fun h3 => ?_) (fun h3 => ?_)
    · skip
      rw [if_pos (show wdB B p wNot = true from h3)]
      refine T_aload_n (pc := 65) (i := 0) dX5_readAtom_65 rfl rfl ?_
      refine T_aload_n (pc := 66) (i := 1) dX5_readAtom_66 rfl rfl ?_
      refine T_iload_n (pc := 67) (i := 2) dX5_readAtom_67 rfl rfl ?_
      refine T_iconst (pc := 68) (v := nI 1) dX5_readAtom_68 (by decide) ?_
      refine R_iadd (pc := 69) dX5_readAtom_69 ?_
      refine R_callVm1 (pc := 70) (As := [.ref 1, .int (nI (deep + 1))]) (rest := []) (Or.inl lk_X5_74) mk_X5_readAtom (hA _ _ _ t1 l1 (by omega)) (kt_law law62) ⟨by decide, rfl⟩ (lt_law law62) dX5_readAtom_70 rfl rfl (Nat.le_of_ble_eq_true rfl) (by omega) rfl (Nat.le_refl _) (Nat.le_refl _) (fun m2 h4 => ?_)
      obtain ⟨w2, o2⟩ := h4
      have hO2 := hO1.trans o2
      cases e : lvA B r (tE B p) with
      | inl z =>
        rw [e] at w2
        show T _ _ _ _ _ (Lq B μ L (.inl z)) _ _ _ _ _ _
        refine R_ifb_ne (pc := 73) (tgt := 78) dX5_readAtom_73 (by decide) (fun h7 => ?_) (fun h7 => ?_)
        · exact absurd h7 (fun z => by cases z)
        · skip
          refine T_iconst (pc := 76) (v := nI 0) dX5_readAtom_76 (by decide) ?_
          exact T_iret (pc := 77) (ty := .boolean) dX5_readAtom_77 rfl (by decide) (Nat.le_refl _) (Nat.le_refl _) ⟨_, rfl, rfl, w2, hO2⟩
      | inr q =>
        rw [e] at w2
        obtain ⟨t3, l3, f3⟩ := w2
        replace l3 : LawAt m2 62 (L.1, L.2 ++ q.2) := l3
        have gr := gr_lvA _ _ q hse.2 e
        have hl3 : (L.2 ++ q.2).length = L.2.length + q.2.length := List.length_append
        show T _ _ _ _ _ (Lq B μ L (.inr (q.1, q.2 ++ [-8]))) _ _ _ _ _ _
        refine R_ifb_ne (pc := 73) (tgt := 78) dX5_readAtom_73 (by decide) (fun h7 => ?_) (fun h7 => ?_)
        · skip
          refine T_aload_n (pc := 78) (i := 0) dX5_readAtom_78 rfl rfl ?_
          refine T_bipush (pc := 79) (v := (-8)) dX5_readAtom_79 (by decide) ?_
          refine R_callVm0 (pc := 81) (As := [.int ((-8))]) (rest := []) (Or.inl lk_X5_50) mk_X5_write (c_write l3 (by show (L.2 ++ q.2).length < 400; omega)) (kt_law law62) ⟨by decide, rfl⟩ (lt_law law62) dX5_readAtom_81 rfl rfl (Nat.le_of_ble_eq_true rfl) (by omega) rfl (Nat.le_refl _) (Nat.le_refl _) (fun m4 h8 => ?_)
          obtain ⟨l4, o4⟩ := h8
          replace l4 : LawAt m4 62 (L.1, L.2 ++ q.2 ++ [-8]) := l4
          rw [← asc3] at l4
          refine T_iconst (pc := 84) (v := nI 1) dX5_readAtom_84 (by decide) ?_
          exact T_iret (pc := 85) (ty := .boolean) dX5_readAtom_85 rfl (by decide) (Nat.le_refl _) (Nat.le_refl _) ⟨_, rfl, rfl, ⟨t3.lw o4, l4, (o4.i (by omega) 6).trans (f3.trans f1)⟩, hO2.trans (o4.mono (fun k hk => Or.inr hk))⟩
        · exact absurd h7 (fun z => by cases z)
    · skip
      rw [if_neg (fun z => Bool.noConfusion ((show wdB B p wNot = false from h3).symm.trans z))]
      refine T_aload_n (pc := 39) (i := 0) dX5_readAtom_39 rfl rfl ?_
      refine T_aload_n (pc := 40) (i := 1) dX5_readAtom_40 rfl rfl ?_
      refine T_iload_n (pc := 41) (i := 2) dX5_readAtom_41 rfl rfl ?_
      refine T_iconst (pc := 42) (v := nI 1) dX5_readAtom_42 (by decide) ?_
      refine R_iadd (pc := 43) dX5_readAtom_43 ?_
      refine R_callVm1 (pc := 44) (As := [.ref 1, .int (nI (deep + 1))]) (rest := []) (Or.inl lk_X5_57) mk_X5_readAny (hO _ _ _ t1 l1 (by omega)) (kt_law law62) ⟨by decide, rfl⟩ (lt_law law62) dX5_readAtom_44 rfl rfl (Nat.le_of_ble_eq_true rfl) (by omega) rfl (Nat.le_refl _) (Nat.le_refl _) (fun m2 h4 => ?_)
      obtain ⟨w2, o2⟩ := h4
      have hO2 := hO1.trans o2
      cases e : lvOr B (lvA B r) (tE B p) with
      | inl z =>
        rw [e] at w2
        show T _ _ _ _ _ (Lq B μ L (.inl z)) _ _ _ _ _ _
        refine R_ifb_eq (pc := 47) (tgt := 63) dX5_readAtom_47 (by decide) (fun h7 => ?_) (fun h7 => ?_)
        · skip
          refine T_iconst (pc := 63) (v := nI 0) dX5_readAtom_63 (by decide) ?_
          exact T_iret (pc := 64) (ty := .boolean) dX5_readAtom_64 rfl (by decide) (Nat.le_refl _) (Nat.le_refl _) ⟨_, rfl, rfl, w2, hO2⟩
        · exact absurd h7 (fun z => by cases z)
      | inr q =>
        rw [e] at w2
        obtain ⟨t3, l3, f3⟩ := w2
        have hq := tE_le t3.1.2
        show T _ _ _ _ _ (Lq B μ L (if tK B q.1 = nI 41 then .inr (tE B q.1, q.2) else .inl (tS B q.1))) _ _ _ _ _ _
        refine R_ifb_eq (pc := 47) (tgt := 63) dX5_readAtom_47 (by decide) (fun h7 => ?_) (fun h7 => ?_)
        · exact absurd h7 (fun z => by cases z)
        · skip
          refine T_aload_n (pc := 50) (i := 1) dX5_readAtom_50 rfl rfl ?_
          refine T_bipush (pc := 51) (v := nI 41) dX5_readAtom_51 (by decide) ?_
          refine R_callVm1 (pc := 53) (As := [.int (nI 41)]) (rest := []) (Or.inl lk_X5_61) mk_X8_skip (c_skip t3) kc_1 ⟨by decide, rfl⟩ lc_1 dX5_readAtom_53 rfl rfl (Nat.le_of_ble_eq_true rfl) (by omega) rfl (Nat.le_refl _) (Nat.le_refl _) (fun m3 h8 => ?_)
          obtain ⟨w3, o3⟩ := h8
          have hO3 := hO2.trans (o3.mono (fun k => S1_SLw))
          refine R_ifb_eq (pc := 56) (tgt := 63) dX5_readAtom_56 (by decide) (fun h9 => ?_) (fun h9 => ?_)
          · skip
            have g : ¬ tK B q.1 = nI 41 := of_decide_eq_false h9
            have w4 := w3.2 h9
            rw [if_neg g]
            refine T_iconst (pc := 63) (v := nI 0) dX5_readAtom_63 (by decide) ?_
            exact T_iret (pc := 64) (ty := .boolean) dX5_readAtom_64 rfl (by decide) (Nat.le_refl _) (Nat.le_refl _) ⟨_, rfl, rfl, w4, hO3⟩
          · skip
            have g : tK B q.1 = nI 41 := of_decide_eq_true h9
            have w4 := w3.1 h9
            rw [if_pos g]
            refine T_iconst (pc := 59) (v := nI 1) dX5_readAtom_59 (by decide) ?_
            refine T_goto (pc := 60) (tgt := 64) dX5_readAtom_60 (by decide) ?_
            exact T_iret (pc := 64) (ty := .boolean) dX5_readAtom_64 rfl (by decide) (Nat.le_refl _) (Nat.le_refl _) ⟨_, rfl, rfl, ⟨w4.1, l3.s1 o3, w4.2.trans (f3.trans f1)⟩, hO3⟩
  · exact absurd h1 (by omega)
theorem c_readAtom {B : List Nat} : ∀ r deep, r + deep = 6 → LqC γ M_X5_readAtom B (lvA B r) deep (8 + 3 * r)
  | 0, deep, h => by
    have e : deep = 6 := by omega
    rw [e]
    exact c_atom0
  | r + 1, deep, h => by
    have hA := c_readAtom (B := B) r (deep + 1) (by omega)
    exact c_atomS (D := 8 + 3 * r) (by omega) (by omega) hA (c_readAny (by omega) (by omega) (gr_lvS (gr_lvA r) (fun p hp h => wd_gt hp h)) (c_readEach (by omega) (by omega) (gr_lvA r) hA))
theorem c_readAny0 {B : List Nat} : LqC γ M_X5_readAny B (lvOr B (lvA B 6)) 0 28 := c_readAny (D := 27) (by omega) (by omega) (gr_lvS (gr_lvA 6) (fun p hp h => wd_gt hp h)) (c_readEach (D := 26) (by omega) (by omega) (gr_lvA 6) (c_readAtom 6 0 rfl))
end LY


