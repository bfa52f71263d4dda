/-! a text of THE VALLEY -/
abbrev wRule : List Int32 := [114, 117, 108, 101]
abbrev wTo : List Int32 := [116, 111]
abbrev wField : List Int32 := [102, 105, 101, 108, 100]
abbrev wSeen : List Int32 := [115, 101, 101, 110]
abbrev wFirst : List Int32 := [102, 105, 114, 115, 116]
abbrev wLeft : List Int32 := [108, 101, 102, 116]
abbrev wRight : List Int32 := [114, 105, 103, 104, 116]
abbrev wAll : List Int32 := [97, 108, 108]
abbrev wFog : List Int32 := [102, 111, 103]
abbrev wWeight : List Int32 := [119, 101, 105, 103, 104, 116]
abbrev wDrop : List Int32 := [100, 114, 111, 112]
theorem st0 : strs[0]? = some ("BeastRules$Told", 126, "rule", wRule) := rfl
theorem st1 : strs[1]? = some ("BeastRules$Told", 173, "to", wTo) := rfl
theorem st2 : strs[2]? = some ("BeastRules$Told", 135, "field", wField) := rfl
theorem st3 : strs[3]? = some ("BeastRules$Told", 140, "seen", wSeen) := rfl
theorem st4 : strs[4]? = some ("BeastRules$Told", 145, "first", wFirst) := rfl
theorem st5 : strs[5]? = some ("BeastRules$Told", 186, "left", wLeft) := rfl
theorem st6 : strs[6]? = some ("BeastRules$Told", 187, "right", wRight) := rfl
theorem st7 : strs[7]? = some ("BeastRules$Told", 188, "all", wAll) := rfl
theorem st8 : strs[8]? = some ("BeastRules$Told", 150, "fog", wFog) := rfl
theorem st9 : strs[9]? = some ("BeastRules$Told", 154, "weight", wWeight) := rfl
theorem st10 : strs[10]? = some ("BeastRules$Told", 159, "drop", wDrop) := rfl
/-- the first wrong byte; or where one stands, and what was told -/
abbrev Pv : Type := Nat ⊕ (Nat × Td)
def tdR (X : Td) (y : Ru) : Td := (X.1 ++ [y], X.2)
def tdFa (X : Td) (l : List Nat) : Td := (X.1, X.2.1 ++ [(l, 0, List.replicate l.length (-1, -1))], X.2.2)
def tdSa (X : Td) (y : List Nat × List Nat) : Td := (X.1, X.2.1, X.2.2.1 ++ [y], X.2.2.2)
def tdW (X : Td) (d v : Nat) : Td := (X.1, X.2.1, X.2.2.1, X.2.2.2.1.set d v, X.2.2.2.2)
def tdQ (X : Td) (q : Nat × Nat × Nat) : Td := (X.1, X.2.1, X.2.2.1, X.2.2.2.1, q, X.2.2.2.2.2)
def tdD (X : Td) (k : Nat) : Td := (X.1.eraseIdx k, X.2)
def vRule (B : List Nat) (X : Td) (p : Nat) : Pv := match rdB B p 1 4 with
  | none => .inl (tS B p)
  | some l => if wdB B (tE B p) wTo = true then (match rdB B (tE B (tE B p)) 0 5 with
      | none => .inl (tS B (tE B (tE B p)))
      | some r => .inr (tE B (tE B (tE B p)), tdR X (l, r))) else .inl (tS B (tE B p))
def vField (B : List Nat) (X : Td) (p : Nat) : Pv := match rdB B p 0 20 with
  | none => .inl (tS B p)
  | some l => .inr (tE B p, tdFa X l)
def vSeen (B : List Nat) (X : Td) (p : Nat) : Pv := match rdB B p 0 20 with
  | none => .inl (tS B p)
  | some l => if wdB B (tE B p) wTo = true then (match rdB B (tE B (tE B p)) 0 20 with
      | none => .inl (tS B (tE B (tE B p)))
      | some r => .inr (tE B (tE B (tE B p)), tdSa X (l, r))) else .inl (tS B (tE B p))
def vWay (B : List Nat) (p : Nat) : Option Nat := if wdB B p wLeft = true then some 0 else if wdB B p wRight = true then some 1 else if wdB B p wRule = true then some 2 else if wdB B p wAll = true then some 3 else none
def vFirst (B : List Nat) (X : Td) (p : Nat) : Pv := match vWay B p with
  | none => .inl (tS B p)
  | some w => .inr (tE B p, tdQ X (X.texts, w, X.fog))
def vFog (B : List Nat) (X : Td) (p : Nat) : Pv := match rdN B p (nI 100) with
  | none => .inl (tS B p)
  | some v => .inr (tE B p, tdQ X (X.texts, X.way, v.toNatClampNeg))
def vWeight (B : List Nat) (X : Td) (p : Nat) : Pv := match rdB B p 1 1 with
  | none => .inl (tS B p)
  | some l => match rdN B (tE B p) (nI 99) with
    | none => .inl (tS B (tE B p))
    | some v => .inr (tE B (tE B p), tdW X (l.getD 0 0) v.toNatClampNeg)
def vDrop (B : List Nat) (X : Td) (p : Nat) : Pv := match rdN B p (nI X.R.length - nI 1) with
  | none => .inl (tS B p)
  | some v => .inr (tE B p, tdD X v.toNatClampNeg)
def vLine (B : List Nat) (X : Td) (p : Nat) : Pv := if wdB B p wRule = true then (if X.R.length < 12 then vRule B X (tE B p) else .inl (tS B p)) else if wdB B p wField = true then (if X.F.length < 6 then vField B X (tE B p) else .inl (tS B p)) else if wdB B p wSeen = true then (if X.S.length < 10 then vSeen B X (tE B p) else .inl (tS B p)) else if wdB B p wFirst = true then vFirst B X (tE B p) else if wdB B p wFog = true then vFog B X (tE B p) else if wdB B p wWeight = true then vWeight B X (tE B p) else if wdB B p wDrop = true then vDrop B X (tE B p) else .inl (tS B p)
def vLines (B : List Nat) : Nat → Td → Nat → Pv
  | 0, _, p => .inl (tS B p)
  | n + 1, X, p => match vLine B X p with
    | .inl f => .inl f
    | .inr q => if tK B q.1 = -1 then .inr q else if tK B q.1 = nI 59 then vLines B n q.2 (tE B q.1) else .inl (tS B q.1)
def vText (B : List Nat) (X : Td) : Pv := if tK B 0 = -1 then .inr (0, X) else vLines B 14 X 0
def SV (k : Nat) : Prop := k = 1 ∨ (31 ≤ k ∧ k < 59)
theorem S1_SV {k : Nat} (h : S1 k) : SV k := Or.inl h
def VqP (B : List Nat) (μ m : SM2) : Pv → Prop
  | .inl f => m.1 1 6 = nI f ∧ BytesAt m B
  | .inr q => TokAt m B q.1 ∧ ToldAt m 31 q.2 ∧ m.1 1 6 = μ.1 1 6
def Vq (B : List Nat) (μ : SM2) (r : Pv) : Out → SMem → Prop := Rm (some (.int (bI r.isRight))) (fun m => VqP B μ m r ∧ OfS SV μ m)
theorem Vq.bad {B : List Nat} {μ m : SM2} {f : Nat} (h : m.1 1 6 = nI f) (hb : BytesAt m B) (g : OfS SV μ m) : Vq B μ (.inl f) (.inl (some (.int (bI false)))) (rm m) := ⟨m, rfl, rfl, ⟨h, hb⟩, g⟩
theorem Vq.ok {B : List Nat} {μ m : SM2} {p : Nat} {X : Td} (h : TokAt m B p) (hX : ToldAt m 31 X) (h6 : m.1 1 6 = μ.1 1 6) (g : OfS SV μ m) : Vq B μ (.inr (p, X)) (.inl (some (.int (bI true)))) (rm m) := ⟨m, rfl, rfl, ⟨h, hX, h6⟩, g⟩
theorem ToldAt.s1 {μ m : SM2} {X : Td} (h : ToldAt μ 31 X) (g : OfS S1 μ m) : ToldAt m 31 X := h.ofs g (fun k h1 h2 => by unfold S1; omega)
theorem ToldAt.rest {μ m : SM2} {b : Nat} {X : Td} {q : Nat × Nat × Nat} (h : ToldAt μ b X) (hb : ∀ k, k ≠ b → m.1 k = μ.1 k) (h2 : m.2 = μ.2) (hj : ∀ j, j < 7 ∨ 9 < j → m.1 b j = μ.1 b j) (hq : q.1 ≤ 10 ∧ q.2.1 < 4 ∧ q.2.2 ≤ 100) (e7 : m.1 b 7 = nI q.1) (e8 : m.1 b 8 = nI q.2.1) (e9 : m.1 b 9 = nI q.2.2) : ToldAt m b (tdQ X q) := by
  obtain ⟨hR, hF, hS, hW, hZ⟩ := h
  have g : ∀ k, k ≠ b → ∀ j, m.1 k j = μ.1 k j := fun k hk j => congrFun (hb k hk) j
  refine ⟨hR.same (g _ (by omega) 0) (fun j => by rw [h2]) (fun j => by rw [h2]) (g _ (by omega)) (g _ (by omega)), ⟨(hj 2 (by decide)).trans hF.1, hF.2.1, fun i hi => (hF.2.2 i hi).same (by rw [h2]) (g _ (by omega) 1) (g _ (by omega)) (g _ (by omega))⟩, ⟨(hj 5 (by decide)).trans hS.1, hS.2.1, fun i hi => by rw [h2]; exact hS.2.2 i hi⟩, ⟨hW.1, fun i hi => ⟨(hW.2 i hi).1, (g _ (by omega) i).trans (hW.2 i hi).2⟩⟩, hq, e7, e8, e9, (hj 10 (by decide)).trans hZ.2.2.2.2.1, (hj 11 (by decide)).trans hZ.2.2.2.2.2⟩
theorem nvN_lt {B : List Nat} {s : Nat} : ∀ k, (∀ i, i < k → B.getD (s + i) 0 ≤ 57) → nvN B s k < 10 ^ k
  | 0, _ => by show 0 < 1; decide
  | k + 1, h => by
    have h1 := nvN_lt k (fun i hi => h i (by omega))
    have h2 := h k (Nat.lt_succ_self _)
    show 10 * nvN B s k + B.getD (s + k) 0 - 48 < 10 ^ (k + 1)
    rw [Nat.pow_succ]
    omega
theorem tok_num {B : List Nat} {p : Nat} (hB : ∀ i, i < B.length → B.getD i 0 < 256) (h : tK B p = -3) : tS B p < B.length ∧ tE B p = spn isD B (tS B p) := by
  by_cases h1 : tS B p < B.length
  · by_cases h2 : isL (B.getD (tS B p) 0) = true
    · unfold tK at h
      rw [if_pos h1, if_pos h2] at h
      exact absurd h (by decide)
    · by_cases h3 : isD (B.getD (tS B p) 0) = true
      · exact ⟨h1, by unfold tE; rw [if_pos h1, if_neg h2, if_pos h3]⟩
      · unfold tK at h
        rw [if_pos h1, if_neg h2, if_neg h3] at h
        have h4 := hB _ h1
        have e2 : (-3 : Int32).toInt = -3 := rfl
        rw [fa_eq, nI_toInt (by omega)] at h
        omega
  · unfold tK at h
    rw [if_neg h1] at h
    exact absurd h (by decide)
theorem rdN_get {B : List Nat} {p : Nat} {x v : Int32} (hB : ∀ i, i < B.length → B.getD i 0 < 256) (h : rdN B p x = some v) : ∃ n, n < 1000 ∧ v = nI n ∧ nI n ≤ x := by
  unfold rdN at h
  split at h
  · next g =>
    cases h
    obtain ⟨g1, g2, g3⟩ := g
    obtain ⟨w1, w2⟩ := tok_num hB g1
    unfold tV at g2 g3 ⊢
    by_cases h3 : 3 < tE B p - tS B p
    · rw [if_pos h3] at g3
      exact absurd rfl g3
    · rw [if_neg h3] at g2 ⊢
      refine ⟨_, ?_, rfl, g2⟩
      have h4 := nvN_lt (B := B) (s := tS B p) (tE B p - tS B p) (fun i hi => by
        have := spF_all (P := isD) (B := B) (B.length - tS B p) (tS B p) (tS B p + i) (by omega) (by
          have e : spF isD B (B.length - tS B p) (tS B p) = tE B p := by rw [w2]; rfl
          rw [e]
          omega)
        unfold isD at this
        simp only [Bool.and_eq_true, decide_eq_true_eq] at this
        exact this.2)
      have h5 : 10 ^ (tE B p - tS B p) ≤ 10 ^ 3 := Nat.pow_le_pow_right (by decide) (by omega)
      omega
  · cases h
section VA
variable {γ : Ga} {μ : SM2}
theorem c_readFog {B : List Nat} {X : Td} {p : Nat} (hT : TokAt μ B p) (hX : ToldAt μ 31 X) : Ex γ 7 0 0 M_X9_readFog [.ref 31, .ref 1] (rm μ) (Vq B μ (vFog B X (tE B p))) := by
  have hse := tE_le hT.1.2
  refine Ex.of (by decide +kernel) rfl (Nat.le_of_ble_eq_true rfl) ?_
  show T _ _ _ _ _ _ _ _ _ [some (.ref 31), some (.ref 1), none] [] (rm μ)
  refine T_aload_n (pc := 0) (i := 1) dX9_readFog_0 rfl rfl ?_
  refine R_callVm0 (pc := 1) (As := []) (rest := []) (Or.inl lk_X9_164) mk_X8_advance (c_advance hT.1.1 hT.2.2.1 hse.2) kc_1 ⟨by decide, rfl⟩ lc_1 dX9_readFog_1 rfl rfl (Nat.le_of_ble_eq_true rfl) (by decide) rfl (Nat.le_refl _) (Nat.le_refl _) (fun m1 h1 => ?_)
  obtain ⟨t1, f1, o1⟩ := h1
  refine T_aload_n (pc := 4) (i := 1) dX9_readFog_4 rfl rfl ?_
  refine T_bipush (pc := 5) (v := nI 100) dX9_readFog_5 (by decide) ?_
  refine R_callVm1 (pc := 7) (As := [.int (nI 100)]) (rest := []) (Or.inl lk_X9_190) mk_X8_readNumber (c_readNumber t1) kc_1 ⟨by decide, rfl⟩ lc_1 dX9_readFog_7 rfl rfl (Nat.le_of_ble_eq_true rfl) (by decide) rfl (Nat.le_refl _) (Nat.le_refl _) (fun m2 h2 => ?_)
  obtain ⟨w2, o2⟩ := h2
  cases e : rdN B (tE B p) (nI 100) with
  | none =>
    rw [e] at w2
    have w3 := w2.2 rfl
    have ev : vFog B X (tE B p) = .inl (tS B (tE B p)) := by unfold vFog; rw [e]
    rw [ev]
    refine T_istore_n (pc := 10) (i := 2) (ls' := [some (.ref 31), some (.ref 1), some (.int ((-1)))]) dX9_readFog_10 rfl (by decide) rfl ?_
    refine T_iload_n (pc := 11) (i := 2) dX9_readFog_11 rfl rfl ?_
    refine T_iconst (pc := 12) (v := (-1)) dX9_readFog_12 (by decide) ?_
    refine T_icmp_ne (pc := 13) (tgt := 18) dX9_readFog_13 (by decide) (fun h3 => ?_) (fun h3 => ?_)
    · exact absurd rfl h3
    · skip
      refine T_iconst (pc := 16) (v := nI 0) dX9_readFog_16 (by decide) ?_
      exact T_iret (pc := 17) (ty := .boolean) dX9_readFog_17 rfl (by decide) (Nat.le_refl _) (Nat.le_refl _) (Vq.bad w3.1 w3.2 ((o1.trans o2).mono (fun k => S1_SV)))
  | some v =>
    rw [e] at w2
    have w3 := w2.1 rfl
    obtain ⟨n, n1, rfl, n2⟩ := rdN_get (fun i hi => (hT.1.1.2 i hi).1) e
    have n3 : n ≤ 100 := by rw [fa_le, nI_toInt (by omega), nI_toInt (by decide)] at n2; omega
    have ev : vFog B X (tE B p) = .inr (tE B (tE B p), tdQ X (X.texts, X.way, n)) := by unfold vFog; rw [e]; dsimp only; rw [nI_clamp (n := n) (by omega)]
    rw [ev]
    have hX2 := hX.s1 (o1.trans o2)
    have rq := hX2.2.2.2.2
    refine T_istore_n (pc := 10) (i := 2) (ls' := [some (.ref 31), some (.ref 1), some (.int (nI n))]) dX9_readFog_10 rfl (by decide) rfl ?_
    refine T_iload_n (pc := 11) (i := 2) dX9_readFog_11 rfl rfl ?_
    refine T_iconst (pc := 12) (v := (-1)) dX9_readFog_12 (by decide) ?_
    refine T_icmp_ne (pc := 13) (tgt := 18) dX9_readFog_13 (by decide) (fun h3 => ?_) (fun h3 => ?_)
    · skip
      refine T_aload_n (pc := 18) (i := 0) dX9_readFog_18 rfl rfl ?_
      refine T_iload_n (pc := 19) (i := 2) dX9_readFog_19 rfl rfl ?_
      refine R_putI (pc := 20) fl_X9_71 ⟨rfl, rfl⟩ (Or.inl rfl) (kt_told told31) (lt_told told31) dX9_readFog_20 ?_
      refine T_iconst (pc := 23) (v := nI 1) dX9_readFog_23 (by decide) ?_
      have oo : OfS (fun k => k = 31) m2 (wI m2 31 9 (nI n)) := OfS.sI (OfS.refl _ _) rfl
      exact T_iret (pc := 24) (ty := .boolean) dX9_readFog_24 rfl (by decide) (Nat.le_refl _) (Nat.le_refl _) (Vq.ok (w3.1.ofs oo (by omega) (by omega)) (hX2.rest (fun k hk => up2_ne hk) rfl (fun j hj => n_wI (by omega)) ⟨rq.1.1, rq.1.2.1, n3⟩ ((n_wI (by omega)).trans rq.2.1) ((n_wI (by omega)).trans rq.2.2.1) (e_wI ⟨rfl, rfl⟩)) ((n_wI (by omega)).trans (w3.2.trans f1)) (((o1.trans o2).mono (fun k => S1_SV)).trans (oo.mono (fun k hk => by unfold SV; omega))))
    · exact absurd h3 (nI_ne (by omega))
theorem c_readDrop {B : List Nat} {X : Td} {p : Nat} (hT : TokAt μ B p) (hX : ToldAt μ 31 X) : Ex γ 7 0 0 M_X9_readDrop [.ref 31, .ref 1] (rm μ) (Vq B μ (vDrop B X (tE B p))) := by
  have hse := tE_le hT.1.2
  have h12 := hX.1.len
  refine Ex.of (by decide +kernel) rfl (Nat.le_of_ble_eq_true rfl) ?_
  show T _ _ _ _ _ _ _ _ _ [some (.ref 31), some (.ref 1), none] [] (rm μ)
  refine T_aload_n (pc := 0) (i := 1) dX9_readDrop_0 rfl rfl ?_
  refine R_callVm0 (pc := 1) (As := []) (rest := []) (Or.inl lk_X9_164) mk_X8_advance (c_advance hT.1.1 hT.2.2.1 hse.2) kc_1 ⟨by decide, rfl⟩ lc_1 dX9_readDrop_1 rfl rfl (Nat.le_of_ble_eq_true rfl) (by decide) rfl (Nat.le_refl _) (Nat.le_refl _) (fun m1 h1 => ?_)
  obtain ⟨t1, f1, o1⟩ := h1
  have hX1 := hX.s1 o1
  refine T_aload_n (pc := 4) (i := 1) dX9_readDrop_4 rfl rfl ?_
  refine T_aload_n (pc := 5) (i := 0) dX9_readDrop_5 rfl rfl ?_
  refine R_getR (pc := 6) (i := 32) fl_X9_12 rfl (kt_told told31) (lt_told told31) (rt_told_rules told31) dX9_readDrop_6 ?_
  refine R_getI (pc := 9) (x := nI X.R.length) fl_X9_86 rfl (kt_rules (told_rules told31)) (lt_rules (told_rules told31)) hX1.1.size dX9_readDrop_9 ?_
  refine T_iconst (pc := 12) (v := nI 1) dX9_readDrop_12 (by decide) ?_
  refine T_isub (pc := 13) dX9_readDrop_13 ?_
  refine R_callVm1 (pc := 14) (As := [.int (((nI X.R.length) - (nI 1)))]) (rest := []) (Or.inl lk_X9_190) mk_X8_readNumber (c_readNumber t1) kc_1 ⟨by decide, rfl⟩ lc_1 dX9_readDrop_14 rfl rfl (Nat.le_of_ble_eq_true rfl) (by decide) rfl (Nat.le_refl _) (Nat.le_refl _) (fun m2 h2 => ?_)
  obtain ⟨w2, o2⟩ := h2
  cases e : rdN B (tE B p) (nI X.R.length - nI 1) with
  | none =>
    rw [e] at w2
    have w3 := w2.2 rfl
    have ev : vDrop B X (tE B p) = .inl (tS B (tE B p)) := by unfold vDrop; rw [e]
    rw [ev]
    refine T_istore_n (pc := 17) (i := 2) (ls' := [some (.ref 31), some (.ref 1), some (.int ((-1)))]) dX9_readDrop_17 rfl (by decide) rfl ?_
    refine T_iload_n (pc := 18) (i := 2) dX9_readDrop_18 rfl rfl ?_
    refine T_iconst (pc := 19) (v := (-1)) dX9_readDrop_19 (by decide) ?_
    refine T_icmp_ne (pc := 20) (tgt := 25) dX9_readDrop_20 (by decide) (fun h3 => ?_) (fun h3 => ?_)
    · exact absurd rfl h3
    · skip
      refine T_iconst (pc := 23) (v := nI 0) dX9_readDrop_23 (by decide) ?_
      exact T_iret (pc := 24) (ty := .boolean) dX9_readDrop_24 rfl (by decide) (Nat.le_refl _) (Nat.le_refl _) (Vq.bad w3.1 w3.2 ((o1.trans o2).mono (fun k => S1_SV)))
  | some v =>
    rw [e] at w2
    have w3 := w2.1 rfl
    obtain ⟨n, n1, rfl, n2⟩ := rdN_get (fun i hi => (hT.1.1.2 i hi).1) e
    have n3 : n < X.R.length := by
      have i1 := nI_toInt (n := X.R.length) (by omega)
      have i2 := nI_toInt (n := 1) (by omega)
      rw [fa_le, nI_toInt (by omega), fb_subI (by omega) (by omega)] at n2
      omega
    have ev : vDrop B X (tE B p) = .inr (tE B (tE B p), tdD X n) := by unfold vDrop; rw [e]; dsimp only; rw [nI_clamp (n := n) (by omega)]
    rw [ev]
    have hX2 := hX.s1 (o1.trans o2)
    refine T_istore_n (pc := 17) (i := 2) (ls' := [some (.ref 31), some (.ref 1), some (.int (nI n))]) dX9_readDrop_17 rfl (by decide) rfl ?_
    refine T_iload_n (pc := 18) (i := 2) dX9_readDrop_18 rfl rfl ?_
    refine T_iconst (pc := 19) (v := (-1)) dX9_readDrop_19 (by decide) ?_
    refine T_icmp_ne (pc := 20) (tgt := 25) dX9_readDrop_20 (by decide) (fun h3 => ?_) (fun h3 => ?_)
    · skip
      refine T_aload_n (pc := 25) (i := 0) dX9_readDrop_25 rfl rfl ?_
      refine R_getR (pc := 26) (i := 32) fl_X9_12 rfl (kt_told told31) (lt_told told31) (rt_told_rules told31) dX9_readDrop_26 ?_
      refine T_iload_n (pc := 29) (i := 2) dX9_readDrop_29 rfl rfl ?_
      refine R_callVm0 (pc := 30) (As := [.int (nI n)]) (rest := []) (Or.inl lk_X9_194) mk_X6_remove (c_Rules_remove (told_rules told31) hX2.1 n3) (kt_rules (told_rules told31)) ⟨by decide, rfl⟩ (lt_rules (told_rules told31)) dX9_readDrop_30 rfl rfl (Nat.le_of_ble_eq_true rfl) (by decide) rfl (Nat.le_refl _) (Nat.le_refl _) (fun m3 h4 => ?_)
      obtain ⟨a1, a2⟩ := h4
      have o3 : OfS SV m2 m3 := a2.ofs (fun k h1 h2 => by unfold SV; omega)
      refine T_iconst (pc := 33) (v := nI 1) dX9_readDrop_33 (by decide) ?_
      exact T_iret (pc := 34) (ty := .boolean) dX9_readDrop_34 rfl (by decide) (Nat.le_refl _) (Nat.le_refl _) (Vq.ok (w3.1.ofs (S := fun k => 32 ≤ k ∧ k < 37) (a2.ofs (fun k h1 h2 => by omega)) (by omega) (by omega)) (hX2.rules a2 a1) ((a2.i (by omega) 6).trans (w3.2.trans f1)) (((o1.trans o2).mono (fun k => S1_SV)).trans o3))
    · exact absurd h3 (nI_ne (by omega))
theorem c_readRule {B : List Nat} {X : Td} {p : Nat} (hT : TokAt μ B p) (hX : ToldAt μ 31 X) (h12 : X.R.length < 12) : Ex γ 7 0 0 M_X9_readRule [.ref 31, .ref 1] (rm μ) (Vq B μ (vRule B X (tE B p))) := by
  have hse := tE_le hT.1.2
  refine Ex.of (by decide +kernel) rfl (Nat.le_of_ble_eq_true rfl) ?_
  show T _ _ _ _ _ _ _ _ _ [some (.ref 31), some (.ref 1), none, none, none, none] [] (rm μ)
  refine T_aload_n (pc := 0) (i := 1) dX9_readRule_0 rfl rfl ?_
  refine R_callVm0 (pc := 1) (As := []) (rest := []) (Or.inl lk_X9_164) mk_X8_advance (c_advance hT.1.1 hT.2.2.1 hse.2) kc_1 ⟨by decide, rfl⟩ lc_1 dX9_readRule_1 rfl rfl (Nat.le_of_ble_eq_true rfl) (by decide) rfl (Nat.le_refl _) (Nat.le_refl _) (fun m1 h1 => ?_)
  obtain ⟨t1, f1, o1⟩ := h1
  refine T_aload_n (pc := 4) (i := 1) dX9_readRule_4 rfl rfl ?_
  refine T_iconst (pc := 5) (v := nI 1) dX9_readRule_5 (by decide) ?_
  refine T_iconst (pc := 6) (v := nI 4) dX9_readRule_6 (by decide) ?_
  refine R_callVm1 (pc := 7) (As := [.int (nI 1), .int (nI 4)]) (rest := []) (Or.inl lk_X9_167) mk_X8_readBeasts (c_readBeasts t1 (by decide) (by decide)) kc_1 ⟨by decide, rfl⟩ lc_1 dX9_readRule_7 rfl rfl (Nat.le_of_ble_eq_true rfl) (by decide) rfl (Nat.le_refl _) (Nat.le_refl _) (fun m2 h2 => ?_)
  obtain ⟨w2, o2⟩ := h2
  have O2 : OfS SV μ m2 := (o1.trans o2).mono (fun k => S1_SV)
  cases e : rdB B (tE B p) 1 4 with
  | none =>
    rw [e] at w2
    have w3 := w2.2 rfl
    have ev : vRule B X (tE B p) = .inl (tS B (tE B p)) := by unfold vRule; rw [e]
    rw [ev]
    refine T_lstore_n (pc := 10) (i := 2) (ls' := [some (.ref 31), some (.ref 1), some (.long ((-1))), none, none, none]) dX9_readRule_10 rfl (by decide) rfl ?_
    refine T_lload_n (pc := 11) (i := 2) dX9_readRule_11 rfl rfl ?_
    refine T_ldc2 (pc := 12) dX9_readRule_12 cn_X9_171 ?_
    refine T_lcmp (pc := 15) dX9_readRule_15 ?_
    refine R_lx_eq (pc := 16) (tgt := 28) dX9_readRule_16 (by decide) (fun h3 => ?_) (fun h3 => ?_)
    · skip
      refine T_iconst (pc := 28) (v := nI 0) dX9_readRule_28 (by decide) ?_
      exact T_iret (pc := 29) (ty := .boolean) dX9_readRule_29 rfl (by decide) (Nat.le_refl _) (Nat.le_refl _) (Vq.bad w3.1 w3.2 O2)
    · exact absurd rfl h3
  | some l =>
    rw [e] at w2
    have w3 := w2.1 rfl
    have ml := rdB_mw (by decide) e
    have bl := cd_lt ml.1
    have ev : vRule B X (tE B p) = if wdB B (tE B (tE B p)) wTo = true then (match rdB B (tE B (tE B (tE B p))) 0 5 with | none => .inl (tS B (tE B (tE B (tE B p)))) | some r => .inr (tE B (tE B (tE B (tE B p))), tdR X (l, r))) else .inl (tS B (tE B (tE B p))) := by unfold vRule; rw [e]
    rw [ev]
    refine T_lstore_n (pc := 10) (i := 2) (ls' := [some (.ref 31), some (.ref 1), some (.long (lN (cd l))), none, none, none]) dX9_readRule_10 rfl (by decide) rfl ?_
    refine T_lload_n (pc := 11) (i := 2) dX9_readRule_11 rfl rfl ?_
    refine T_ldc2 (pc := 12) dX9_readRule_12 cn_X9_171 ?_
    refine T_lcmp (pc := 15) dX9_readRule_15 ?_
    refine R_lx_eq (pc := 16) (tgt := 28) dX9_readRule_16 (by decide) (fun h3 => ?_) (fun h3 => ?_)
    · exact absurd h3 (lN_ne (by omega))
    · skip
      refine T_aload_n (pc := 19) (i := 1) dX9_readRule_19 rfl rfl ?_
      refine T_ldcS (pc := 20) (i := 1) rfl dX9_readRule_20 ?_
      refine R_callVm1 (pc := 22) (As := [.ref (XB + (1 + 1))]) (rest := []) (Or.inl lk_X9_175) mk_X8_skipWord (c_skipWord w3.1 st1) kc_1 ⟨by decide, rfl⟩ lc_1 dX9_readRule_22 rfl rfl (Nat.le_of_ble_eq_true rfl) (by decide) rfl (Nat.le_refl _) (Nat.le_refl _) (fun m3 h4 => ?_)
      obtain ⟨w4, o3⟩ := h4
      have O3 : OfS SV μ m3 := O2.trans (o3.mono (fun k => S1_SV))
      refine R_ifb_ne (pc := 25) (tgt := 30) dX9_readRule_25 (by decide) (fun h5 => ?_) (fun h5 => ?_)
      · skip
        have w5 := w4.1 h5
        have h5' : wdB B (tE B (tE B p)) wTo = true := h5
        rw [if_pos h5']
        refine T_aload_n (pc := 30) (i := 1) dX9_readRule_30 rfl rfl ?_
        refine T_iconst (pc := 31) (v := nI 0) dX9_readRule_31 (by decide) ?_
        refine T_iconst (pc := 32) (v := nI 5) dX9_readRule_32 (by decide) ?_
        refine R_callVm1 (pc := 33) (As := [.int (nI 0), .int (nI 5)]) (rest := []) (Or.inl lk_X9_167) mk_X8_readBeasts (c_readBeasts w5.1 (by decide) (by decide)) kc_1 ⟨by decide, rfl⟩ lc_1 dX9_readRule_33 rfl rfl (Nat.le_of_ble_eq_true rfl) (by decide) rfl (Nat.le_refl _) (Nat.le_refl _) (fun m4 h6 => ?_)
        obtain ⟨w6, o4⟩ := h6
        have O4 : OfS SV μ m4 := O3.trans (o4.mono (fun k => S1_SV))
        cases e2 : rdB B (tE B (tE B (tE B p))) 0 5 with
        | none =>
          rw [e2] at w6
          have w7 := w6.2 rfl
          refine T_lstore (pc := 36) (i := 4) (ls' := [some (.ref 31), some (.ref 1), some (.long (lN (cd l))), none, some (.long ((-1))), none]) dX9_readRule_36 (by decide) rfl ?_
          refine T_lload (pc := 38) (i := 4) dX9_readRule_38 rfl ?_
          refine T_ldc2 (pc := 40) dX9_readRule_40 cn_X9_171 ?_
          refine T_lcmp (pc := 43) dX9_readRule_43 ?_
          refine R_lx_ne (pc := 44) (tgt := 49) dX9_readRule_44 (by decide) (fun h7 => ?_) (fun h7 => ?_)
          · exact absurd rfl h7
          · skip
            refine T_iconst (pc := 47) (v := nI 0) dX9_readRule_47 (by decide) ?_
            exact T_iret (pc := 48) (ty := .boolean) dX9_readRule_48 rfl (by decide) (Nat.le_refl _) (Nat.le_refl _) (Vq.bad w7.1 w7.2 O4)
        | some r =>
          rw [e2] at w6
          have w7 := w6.1 rfl
          have mr := rdB_mw (by decide) e2
          have br := cd_lt mr.1
          have hl1 : 1 ≤ l.length := by
            unfold rdB at e
            rw [if_neg (fun z => absurd z.1 (by decide))] at e
            split at e
            · next g =>
              cases e
              obtain ⟨q1, q2, q3⟩ := tok_word (fun i hi => (hT.1.1.2 i hi).1) g.1
              have q4 := tE_le hse.2
              have q5 : tS B (tE B p) + 1 ≤ tE B (tE B p) := by
                rw [q3, spn_y q1 q2]
                exact (spn_le (by omega)).1
              unfold bsN
              rw [List.length_map, List.length_take, List.length_drop]
              omega
            · cases e
          have hX4 := hX.s1 (o1.trans (o2.trans (o3.trans o4)))
          refine T_lstore (pc := 36) (i := 4) (ls' := [some (.ref 31), some (.ref 1), some (.long (lN (cd l))), none, some (.long (lN (cd r))), none]) dX9_readRule_36 (by decide) rfl ?_
          refine T_lload (pc := 38) (i := 4) dX9_readRule_38 rfl ?_
          refine T_ldc2 (pc := 40) dX9_readRule_40 cn_X9_171 ?_
          refine T_lcmp (pc := 43) dX9_readRule_43 ?_
          refine R_lx_ne (pc := 44) (tgt := 49) dX9_readRule_44 (by decide) (fun h7 => ?_) (fun h7 => ?_)
          · skip
            refine T_aload_n (pc := 49) (i := 0) dX9_readRule_49 rfl rfl ?_
            refine R_getR (pc := 50) (i := 32) fl_X9_12 rfl (kt_told told31) (lt_told told31) (rt_told_rules told31) dX9_readRule_50 ?_
            refine T_lload_n (pc := 53) (i := 2) dX9_readRule_53 rfl rfl ?_
            refine T_lload (pc := 54) (i := 4) dX9_readRule_54 rfl ?_
            refine R_callVm0 (pc := 56) (As := [.long (lN (cd l)), .long (lN (cd r))]) (rest := []) (Or.inl lk_X9_178) mk_X6_append (c_Rules_append (told_rules told31) (x := (l, r)) hX4.1 h12 ⟨ml.1.2, hl1, ml.2.1, mr.1.2, mr.2.1⟩) (kt_rules (told_rules told31)) ⟨by decide, rfl⟩ (lt_rules (told_rules told31)) dX9_readRule_56 rfl rfl (Nat.le_of_ble_eq_true rfl) (by decide) rfl (Nat.le_refl _) (Nat.le_refl _) (fun m5 h8 => ?_)
            obtain ⟨a1, a2⟩ := h8
            have o5 : OfS SV m4 m5 := a2.ofs (fun k h1 h2 => by unfold SV; omega)
            refine T_iconst (pc := 59) (v := nI 1) dX9_readRule_59 (by decide) ?_
            exact T_iret (pc := 60) (ty := .boolean) dX9_readRule_60 rfl (by decide) (Nat.le_refl _) (Nat.le_refl _) (Vq.ok (w7.1.ofs (S := fun k => 32 ≤ k ∧ k < 37) (a2.ofs (fun k h1 h2 => by omega)) (by omega) (by omega)) (hX4.rules a2 a1) ((a2.i (by omega) 6).trans (w7.2.trans (w5.2.trans (w3.2.trans f1)))) (O4.trans o5))
          · exact absurd h7 (lN_ne (by omega))
      · skip
        have w5 := w4.2 h5
        have h5' : wdB B (tE B (tE B p)) wTo = false := h5
        rw [if_neg (by rw [h5']; decide)]
        refine T_iconst (pc := 28) (v := nI 0) dX9_readRule_28 (by decide) ?_
        exact T_iret (pc := 29) (ty := .boolean) dX9_readRule_29 rfl (by decide) (Nat.le_refl _) (Nat.le_refl _) (Vq.bad w5.1 w5.2 O3)
end VA

