/-! never, falls -/
def w0 : List Nat := List.replicate 8 0
theorem w0_g (b : Nat) : w0.getD b 0 = 0 := by
  unfold w0
  rw [List.getD_eq_getElem?_getD, List.getElem?_replicate]
  split <;> rfl
theorem sumZ_w0 {x : Ru} : ∀ n, sumZ x w0 n = 0
  | 0 => rfl
  | n + 1 => by
    show sumZ x w0 n + zc x n * (w0.getD n 0 : Int) = 0
    rw [sumZ_w0 n, w0_g]
    simp
def nvQ (R : List Ru) (x : Ru) (lst : List Nat) : Nat → Nat → Option (Nat × List Nat)
  | 0, _ => none
  | f + 1, md => match srch (okC md R.length (R ++ [x])) 0 md lst w0 with
    | some w => some (md, w)
    | none => nvQ R x lst f (md + 1)
def nvR (z : Int32) : Option (Nat × List Nat) → Int32
  | none => -1
  | some q => if z = -1 then nI q.1 else nI (q.2.getD z.toNatClampNeg 0)
def kK (R : List Ru) (a d : List Nat) : Nat := kLN R R.length ||| kRN R R.length ||| kd a ||| kd d
def nvV (R : List Ru) (x : Ru) (z : Int32) : Int32 := if pcn (kK R x.1 x.2) 12 ≤ 6 then nvR z (nvQ R x (lsB (kK R x.1 x.2) 8) 4 2) else -3
def kJ (R : List Ru) : Nat := kLN R R.length ||| kRN R R.length
def flR (z : Int32) (o : Option (List Nat)) : Int32 := if z = -1 then bI o.isSome else match o with
  | none => -1
  | some w => nI (w.getD z.toNatClampNeg 0)
def flV (R : List Ru) (n : Nat) (z : Int32) : Int32 := if pcn (kJ R) 12 ≤ 6 then flR z (srch (okC 0 R.length R) 1 n (lsB (kJ R) 8) w0) else -3
def chkB (z : Int32) : Bool := !decide (z < -1) && decide (z < 8)
theorem chkB_of {z : Int32} (h : chkB z = true) : z = -1 ∨ ∃ b, b < 8 ∧ z = nI b := by
  unfold chkB at h
  rw [Bool.and_eq_true] at h
  have h1 := h.1
  have h2 := of_decide_eq_true h.2
  have h3 : ¬ z < -1 := fun q => by rw [decide_eq_true q] at h1; cases h1
  rw [fa_lt] at h2 h3
  have e1 : (-1 : Int32).toInt = -1 := rfl
  have e8 : (8 : Int32).toInt = 8 := rfl
  by_cases e : z.toInt = -1
  · exact Or.inl (by rw [fa_eq]; exact e)
  · exact Or.inr ⟨z.toInt.toNat, by omega, by rw [fa_eq, nI_toInt (by omega)]; omega⟩
theorem kd_fold {b : Nat} : ∀ (l : List Nat) (a : Nat), (l.foldl (fun a d => a ||| 2 ^ d) a).testBit b = (a.testBit b || decide (b ∈ l))
  | [], a => by
    show a.testBit b = _
    rw [decide_eq_false List.not_mem_nil, Bool.or_false]
  | d :: l, a => by
    show (l.foldl (fun a d => a ||| 2 ^ d) (a ||| 2 ^ d)).testBit b = _
    rw [kd_fold l, Nat.testBit_or, Nat.testBit_two_pow]
    by_cases e : b = d
    · rw [decide_eq_true e.symm, decide_eq_true (p := b ∈ d :: l) (by rw [e]; exact List.mem_cons_self)]
      simp
    · rw [decide_eq_false (fun z => e z.symm), Bool.or_false]
      by_cases g : b ∈ l
      · rw [decide_eq_true g, decide_eq_true (p := b ∈ d :: l) (List.mem_cons_of_mem _ g)]
      · rw [decide_eq_false g, decide_eq_false (p := b ∈ d :: l) (fun z => (List.mem_cons.mp z).elim e g)]
theorem kd_bit {l : List Nat} {b : Nat} (h : b ∈ l) : (kd l).testBit b = true := by
  unfold kd
  rw [kd_fold, decide_eq_true h, Bool.or_true]
theorem kLN_bit {R : List Ru} {b j : Nat} (h : b ∈ (rAt R j).1) : ∀ {i}, j < i → (kLN R i).testBit b = true
  | 0, g => absurd g (Nat.not_lt_zero _)
  | i + 1, g => by
    show (kLN R i ||| kd (rAt R i).1).testBit b = true
    rw [Nat.testBit_or]
    by_cases e : j = i
    · rw [← e, kd_bit h, Bool.or_true]
    · rw [kLN_bit h (i := i) (by omega), Bool.true_or]
theorem kRN_bit {R : List Ru} {b j : Nat} (h : b ∈ (rAt R j).2) : ∀ {i}, j < i → (kRN R i).testBit b = true
  | 0, g => absurd g (Nat.not_lt_zero _)
  | i + 1, g => by
    show (kRN R i ||| kd (rAt R i).2).testBit b = true
    rw [Nat.testBit_or]
    by_cases e : j = i
    · rw [← e, kd_bit h, Bool.or_true]
    · rw [kRN_bit h (i := i) (by omega), Bool.true_or]
theorem zc_mem {x : Ru} {b : Nat} (h : zc x b ≠ 0) : b ∈ x.1 ∨ b ∈ x.2 := by
  by_cases h1 : b ∈ x.1
  · exact Or.inl h1
  · by_cases h2 : b ∈ x.2
    · exact Or.inr h2
    · refine absurd ?_ h
      unfold zc
      rw [List.count_eq_zero.mpr h1, List.count_eq_zero.mpr h2]
      rfl
theorem lsB_in {K b : Nat} (hb : b < 8) (h : K.testBit b = true) : b ∈ lsB K 8 := (lsB_mem 8).mpr ⟨hb, by
  rw [Nat.testBit_eq_decide_div_mod_eq] at h
  exact of_decide_eq_true h⟩
theorem ndL_snoc {l : List Nat} {i : Nat} (h : ndL l) (hl : ∀ b ∈ l, b < i) : ndL (l ++ [i]) := fun a c hac hc => by
  have hlen : (l ++ [i]).length = l.length + 1 := List.length_append
  rw [hlen] at hc
  rw [getD_snoc (by omega), getD_snoc hc, if_pos (by omega)]
  by_cases g : c < l.length
  · rw [if_pos g]
    exact h a c hac g
  · rw [if_neg g]
    have := hl (l.getD a 0) (by rw [List.getD_eq_getElem?_getD, List.getElem?_eq_getElem (show a < l.length by omega)]; exact List.getElem_mem _)
    omega
theorem ndL_lsB (K : Nat) : ∀ i, ndL (lsB K i)
  | 0 => fun a c _ hc => absurd hc (Nat.not_lt_zero _)
  | i + 1 => by
    show ndL (if K / 2 ^ i % 2 = 1 then lsB K i ++ [i] else lsB K i)
    split
    · exact ndL_snoc (ndL_lsB K i) (fun b hb => ((lsB_mem i).mp hb).1)
    · exact ndL_lsB K i
theorem rAt_mem {P : List Ru} {i : Nat} (h : i < P.length) : rAt P i ∈ P := by
  show P.getD i ([], []) ∈ P
  rw [List.getD_eq_getElem?_getD, List.getElem?_eq_getElem h]
  exact List.getElem_mem h
theorem mem_rAt {P : List Ru} {x : Ru} (h : x ∈ P) : ∃ i, i < P.length ∧ rAt P i = x := by
  obtain ⟨j, hj, e⟩ := List.getElem_of_mem h
  exact ⟨j, hj, by show P.getD j ([], []) = x; rw [List.getD_eq_getElem?_getD, List.getElem?_eq_getElem hj]; exact e⟩
theorem rules_mw {μ : SM2} {R : List Ru} (h : RulesAt μ 4 R) : ∀ x ∈ R, Mw x.1 ∧ Mw x.2 := fun x hx => by
  obtain ⟨i, hi, rfl⟩ := mem_rAt hx
  exact ⟨(h.ok i hi).l, (h.ok i hi).r⟩
theorem never_ok {μ : SM2} {R : List Ru} {a d : List Nat} (h : RulesAt μ 4 R) (ha : Mw a) (hd : Mw d) (hl : 0 < (lsB (kK R a d) 8).length) : RwOk (lsB (kK R a d) 8) (R ++ [(a, d)]) := by
  have hm : ∀ x ∈ R ++ [(a, d)], Mw x.1 ∧ Mw x.2 := fun x hx => (List.mem_append.mp hx).elim (rules_mw h x) (fun z => by rw [List.mem_singleton.mp z]; exact ⟨ha, hd⟩)
  refine ⟨⟨hm, ndL_lsB _ _⟩, fun i hi b hb => ?_, Or.inr hl⟩
  have hmw := hm _ (rAt_mem hi)
  have hb8 : b < 8 := (zc_mem hb).elim (fun z => hmw.1.2 b z) (fun z => hmw.2.2 b z)
  refine lsB_in hb8 ?_
  have hlen : (R ++ [(a, d)]).length = R.length + 1 := List.length_append
  have er : rAt (R ++ [(a, d)]) i = if i < R.length then rAt R i else (a, d) := getD_snoc (by omega)
  unfold kK
  rw [Nat.testBit_or, Nat.testBit_or, Nat.testBit_or]
  by_cases g : i < R.length
  · rw [er, if_pos g] at hb
    rcases zc_mem hb with z | z
    · rw [kLN_bit z g]
      simp
    · rw [kRN_bit z g]
      simp
  · rw [er, if_neg g] at hb
    rcases zc_mem hb with z | z
    · rw [kd_bit z]
      simp
    · rw [kd_bit z]
      simp
theorem falls_ok {μ : SM2} {R : List Ru} (h : RulesAt μ 4 R) : RwOk (lsB (kJ R) 8) R := by
  refine ⟨⟨rules_mw h, ndL_lsB _ _⟩, fun i hi b hb => ?_, ?_⟩
  · have hmw := rules_mw h _ (rAt_mem hi)
    have hb8 : b < 8 := (zc_mem hb).elim (fun z => hmw.1.2 b z) (fun z => hmw.2.2 b z)
    refine lsB_in hb8 ?_
    unfold kJ
    rw [Nat.testBit_or]
    rcases zc_mem hb with z | z
    · rw [kLN_bit z hi]
      simp
    · rw [kRN_bit z hi]
      simp
  · by_cases g : R.length = 0
    · exact Or.inl g
    · have hk := h.ok 0 (by omega)
      have hm : (rAt R 0).1.getD 0 0 ∈ (rAt R 0).1 := by
        rw [List.getD_eq_getElem?_getD, List.getElem?_eq_getElem hk.2.1]
        exact List.getElem_mem _
      have := lsB_in (K := kJ R) (hk.1 _ hm) (by unfold kJ; rw [Nat.testBit_or, kLN_bit hm (i := R.length) (by omega), Bool.true_or])
      exact Or.inr (List.length_pos_of_mem this)
theorem wF_of {μ : SM2} {x : Int32} : OfS (fun k => k = 117) μ (wF μ 117 8 x) := fun k hk => ⟨funext (fun j => n_wF (Or.inl hk)), rfl⟩
def Sq (μ : SM2) (lst : List Nat) (P : List Ru) (rc : Nat) (o : Option (List Nat)) : Out → SMem → Prop := Rm (some (.int (bI o.isSome))) (fun m => ((∀ z, o = some z → WgAt m z) ∧ ListAt m lst ∧ RwAt m lst P ∧ m.1 116 6 = nI rc) ∧ OfS SSc μ m)
theorem cf_w {μ : SM2} {lst : List Nat} {P : List Ru} {lo hi md rc : Nat} (hL : ListAt μ lst) (hP : RwAt μ lst P) (hrc : μ.1 116 6 = nI rc) : FE (wF (wI (wI (wI μ 116 9 (nI md)) 116 7 (nI lo)) 116 8 (nI hi)) 117 8 (nI 0)) lst P lo hi md rc ∧ WgAt (wF (wI (wI (wI μ 116 9 (nI md)) 116 7 (nI lo)) 116 8 (nI hi)) 117 8 (nI 0)) w0 ∧ OfS SSc μ (wF (wI (wI (wI μ 116 9 (nI md)) 116 7 (nI lo)) 116 8 (nI hi)) 117 8 (nI 0)) := by
  have o1 : OfS SSc μ (wI (wI (wI μ 116 9 (nI md)) 116 7 (nI lo)) 116 8 (nI hi)) := OfS.sI (OfS.sI (OfS.sI (OfS.refl _ _) (by unfold SSc; omega)) (by unfold SSc; omega)) (by unfold SSc; omega)
  have g : ∀ k j, k ≠ 116 ∨ j < 7 → k ≠ 117 → (wF (wI (wI (wI μ 116 9 (nI md)) 116 7 (nI lo)) 116 8 (nI hi)) 117 8 (nI 0)).1 k j = μ.1 k j := fun k j h1 h2 => by
    rw [n_wF (Or.inl h2), n_wI (by omega), n_wI (by omega), n_wI (by omega)]
  refine ⟨⟨⟨(g 116 2 (by omega) (by omega)).trans hL.1, hL.2.1, fun i hi => ⟨(hL.2.2 i hi).1, (g 118 i (by omega) (by omega)).trans (hL.2.2 i hi).2⟩⟩, hP.keep (g 116 5 (by omega) (by omega)) (fun j => g 119 j (by omega) (by omega)) (fun j => g 120 j (by omega) (by omega)), ⟨(n_wF (by omega)).trans ((n_wI (by omega)).trans (e_wI ⟨rfl, rfl⟩)), (n_wF (by omega)).trans (e_wI ⟨rfl, rfl⟩)⟩, (n_wF (by omega)).trans ((n_wI (by omega)).trans ((n_wI (by omega)).trans (e_wI ⟨rfl, rfl⟩))), (g 116 6 (by omega) (by omega)).trans hrc⟩, ⟨⟨rfl, fun b => by rw [w0_g]; decide⟩, fun b hb => by rw [w0_g]; exact e_wF ⟨rfl, hb⟩⟩, o1.trans (wF_of.mono (fun k hk => by unfold SSc; omega))⟩
section SF
variable {γ : Ga} {μ : SM2}
theorem c_findModulo {lst : List Nat} {P : List Ru} {md rc : Nat} (hL : ListAt μ lst) (hP : RwAt μ lst P) (hrc : μ.1 116 6 = nI rc) (hm : 2 ≤ md ∧ md < 6) (hr : rc ≤ 13) (hok : 0 < lst.length → RwOk lst P) (h0 : okC md rc P w0 = false) : Ex γ 10 0 0 M_X7_findModulo [.ref 116, .int (nI md)] (rm μ) (Sq μ lst P rc (srch (okC md rc P) 0 md lst w0)) := by
  obtain ⟨hF, hw, hO⟩ := cf_w (lo := 0) (hi := md - 1) (md := md) hL hP hrc
  have h6 := hL.2.1
  refine Ex.of (by decide +kernel) rfl (Nat.le_of_ble_eq_true rfl) ?_
  show T _ _ _ _ _ _ _ _ _ [some (.ref 116), some (.int (nI md))] [] (rm μ)
  refine T_aload_n (pc := 0) (i := 0) dX7_findModulo_0 rfl rfl ?_
  refine T_iload_n (pc := 1) (i := 1) dX7_findModulo_1 rfl rfl ?_
  refine R_putI (pc := 2) fl_X7_74 ⟨rfl, rfl⟩ (Or.inl rfl) kc_116 lc_116 dX7_findModulo_2 ?_
  refine T_aload_n (pc := 5) (i := 0) dX7_findModulo_5 rfl rfl ?_
  refine T_iconst (pc := 6) (v := nI 0) dX7_findModulo_6 (by decide) ?_
  refine R_putI (pc := 7) fl_X7_77 ⟨rfl, rfl⟩ (Or.inl rfl) kc_116 lc_116 dX7_findModulo_7 ?_
  refine T_aload_n (pc := 10) (i := 0) dX7_findModulo_10 rfl rfl ?_
  refine T_iload_n (pc := 11) (i := 1) dX7_findModulo_11 rfl rfl ?_
  refine T_iconst (pc := 12) (v := nI 1) dX7_findModulo_12 (by decide) ?_
  refine R_isub (pc := 13) (by omega) dX7_findModulo_13 ?_
  refine R_putI (pc := 14) fl_X7_80 ⟨rfl, rfl⟩ (Or.inl rfl) kc_116 lc_116 dX7_findModulo_14 ?_
  refine T_aload_n (pc := 17) (i := 0) dX7_findModulo_17 rfl rfl ?_
  refine R_getR (pc := 18) (i := 117) fl_X7_9 rfl kc_116 lc_116 rc_116_0 dX7_findModulo_18 ?_
  refine T_iconst (pc := 21) (v := nI 0) dX7_findModulo_21 (by decide) ?_
  refine R_callS0 (pc := 22) (av := [.ref 117, .int (nI 0)]) (rest := []) (Or.inl lk_X7_37) mk_J7_fill_53178 (c_fill kc_117 lc_117 (by decide)) dX7_findModulo_22 rfl rfl (Nat.le_of_ble_eq_true rfl) (by omega) rfl (Nat.le_refl _) (Nat.le_refl _) ?_
  generalize wF (wI (wI (wI μ 116 9 (nI md)) 116 7 (nI 0)) 116 8 (nI (md - 1))) 117 8 (nI 0) = m at *
  refine T_aload_n (pc := 25) (i := 0) dX7_findModulo_25 rfl rfl ?_
  refine R_getI (pc := 26) (x := nI lst.length) fl_X7_24 rfl kc_116 lc_116 hF.1.1 dX7_findModulo_26 ?_
  refine R_if_le (pc := 29) (tgt := 44) (by omega) dX7_findModulo_29 (by decide) (fun h1 => ?_) (fun h1 => ?_)
  · skip
    have e : lst = [] := List.length_eq_zero_iff.mp (by omega)
    have ev : srch (okC md rc P) 0 md lst w0 = none := by
      rw [e]
      show (if okC md rc P w0 = true then some w0 else none) = none
      rw [h0]
      rfl
    rw [ev]
    refine T_iconst (pc := 44) (v := nI 0) dX7_findModulo_44 (by decide) ?_
    exact T_iret (pc := 45) (ty := .boolean) dX7_findModulo_45 rfl (by decide) (Nat.le_refl _) (Nat.le_refl _) ⟨_, rfl, rfl, ⟨(fun z hz => by cases hz), hF.1, hF.2.1, hF.2.2.2.2⟩, hO⟩
  · skip
    have hf := c_find (γ := γ) (lo := 0) (hi := md - 1) (md := md) (rc := rc) (hok (by omega)) (Or.inr hm) hr (by omega) lst.length 0 m w0 (by omega) hF hw (fun i hi z => absurd z (Nat.not_lt_zero _))
    rw [show md - 1 + 1 - 0 = md by omega, List.drop_zero] at hf
    refine T_aload_n (pc := 32) (i := 0) dX7_findModulo_32 rfl rfl ?_
    refine T_iconst (pc := 33) (v := nI 0) dX7_findModulo_33 (by decide) ?_
    refine R_callVm1 (pc := 34) (As := [.int (nI 0)]) (rest := []) (Or.inl lk_X7_83) mk_X7_find hf kc_116 ⟨by decide, rfl⟩ lc_116 dX7_findModulo_34 rfl rfl (Nat.le_of_ble_eq_true rfl) (by omega) rfl (Nat.le_refl _) (Nat.le_refl _) (fun m2 h2 => ?_)
    obtain ⟨⟨w', hw', q⟩, o2⟩ := h2
    have hF2 := hF.w o2
    have hO2 := hO.trans (o2.mono (fun k hk => by unfold SSc; omega))
    cases e : srch (okC md rc P) 0 md lst w0 with
    | none =>
      refine R_ifb_eq (pc := 37) (tgt := 44) dX7_findModulo_37 (by decide) (fun h3 => ?_) (fun h3 => ?_)
      · skip
        refine T_iconst (pc := 44) (v := nI 0) dX7_findModulo_44 (by decide) ?_
        exact T_iret (pc := 45) (ty := .boolean) dX7_findModulo_45 rfl (by decide) (Nat.le_refl _) (Nat.le_refl _) ⟨_, rfl, rfl, ⟨(fun z hz => by cases hz), hF2.1, hF2.2.1, hF2.2.2.2.2⟩, hO2⟩
      · exact absurd h3 (fun z => by cases z)
    | some z =>
      rw [e] at q
      have q' : w' = z := q
      refine R_ifb_eq (pc := 37) (tgt := 44) dX7_findModulo_37 (by decide) (fun h3 => ?_) (fun h3 => ?_)
      · exact absurd h3 (fun z => by cases z)
      · skip
        refine T_iconst (pc := 40) (v := nI 1) dX7_findModulo_40 (by decide) ?_
        refine T_goto (pc := 41) (tgt := 45) dX7_findModulo_41 (by decide) ?_
        exact T_iret (pc := 45) (ty := .boolean) dX7_findModulo_45 rfl (by decide) (Nat.le_refl _) (Nat.le_refl _) ⟨_, rfl, rfl, ⟨(fun y hy => by cases hy; rw [← q']; exact hw'), hF2.1, hF2.2.1, hF2.2.2.2.2⟩, hO2⟩
theorem c_findFalling {lst : List Nat} {P : List Ru} {n rc : Nat} (hL : ListAt μ lst) (hP : RwAt μ lst P) (hrc : μ.1 116 6 = nI rc) (hn : 1 ≤ n ∧ n ≤ 5) (hr : rc ≤ 13) (hok : RwOk lst P) : Ex γ 10 0 0 M_X7_findFalling [.ref 116, .int (nI n)] (rm μ) (Sq μ lst P rc (srch (okC 0 rc P) 1 n lst w0)) := by
  obtain ⟨hF, hw, hO⟩ := cf_w (lo := 1) (hi := n) (md := 0) hL hP hrc
  have h6 := hL.2.1
  refine Ex.of (by decide +kernel) rfl (Nat.le_of_ble_eq_true rfl) ?_
  show T _ _ _ _ _ _ _ _ _ [some (.ref 116), some (.int (nI n))] [] (rm μ)
  refine T_aload_n (pc := 0) (i := 0) dX7_findFalling_0 rfl rfl ?_
  refine T_iconst (pc := 1) (v := nI 0) dX7_findFalling_1 (by decide) ?_
  refine R_putI (pc := 2) fl_X7_74 ⟨rfl, rfl⟩ (Or.inl rfl) kc_116 lc_116 dX7_findFalling_2 ?_
  refine T_aload_n (pc := 5) (i := 0) dX7_findFalling_5 rfl rfl ?_
  refine T_iconst (pc := 6) (v := nI 1) dX7_findFalling_6 (by decide) ?_
  refine R_putI (pc := 7) fl_X7_77 ⟨rfl, rfl⟩ (Or.inl rfl) kc_116 lc_116 dX7_findFalling_7 ?_
  refine T_aload_n (pc := 10) (i := 0) dX7_findFalling_10 rfl rfl ?_
  refine T_iload_n (pc := 11) (i := 1) dX7_findFalling_11 rfl rfl ?_
  refine R_putI (pc := 12) fl_X7_80 ⟨rfl, rfl⟩ (Or.inl rfl) kc_116 lc_116 dX7_findFalling_12 ?_
  refine T_aload_n (pc := 15) (i := 0) dX7_findFalling_15 rfl rfl ?_
  refine R_getR (pc := 16) (i := 117) fl_X7_9 rfl kc_116 lc_116 rc_116_0 dX7_findFalling_16 ?_
  refine T_iconst (pc := 19) (v := nI 0) dX7_findFalling_19 (by decide) ?_
  refine R_callS0 (pc := 20) (av := [.ref 117, .int (nI 0)]) (rest := []) (Or.inl lk_X7_37) mk_J7_fill_53178 (c_fill kc_117 lc_117 (by decide)) dX7_findFalling_20 rfl rfl (Nat.le_of_ble_eq_true rfl) (by omega) rfl (Nat.le_refl _) (Nat.le_refl _) ?_
  generalize wF (wI (wI (wI μ 116 9 (nI 0)) 116 7 (nI 1)) 116 8 (nI n)) 117 8 (nI 0) = m at *
  have hf := c_find (γ := γ) (lo := 1) (hi := n) (md := 0) (rc := rc) hok (Or.inl rfl) hr (by omega) lst.length 0 m w0 (by omega) hF hw (fun i hi z => absurd z (Nat.not_lt_zero _))
  rw [show n + 1 - 1 = n by omega, List.drop_zero] at hf
  refine T_aload_n (pc := 23) (i := 0) dX7_findFalling_23 rfl rfl ?_
  refine T_iconst (pc := 24) (v := nI 0) dX7_findFalling_24 (by decide) ?_
  refine R_callVm1 (pc := 25) (As := [.int (nI 0)]) (rest := []) (Or.inl lk_X7_83) mk_X7_find hf kc_116 ⟨by decide, rfl⟩ lc_116 dX7_findFalling_25 rfl rfl (Nat.le_of_ble_eq_true rfl) (by omega) rfl (Nat.le_refl _) (Nat.le_refl _) (fun m2 h2 => ?_)
  obtain ⟨⟨w', hw', q⟩, o2⟩ := h2
  have hF2 := hF.w o2
  have hO2 := hO.trans (o2.mono (fun k hk => by unfold SSc; omega))
  exact T_iret (pc := 28) (ty := .boolean) dX7_findFalling_28 rfl (nar_b _) (Nat.le_refl _) (Nat.le_refl _) ⟨_, rfl, rfl, ⟨(fun z hz => by rw [hz] at q; rw [← show w' = z from q]; exact hw'), hF2.1, hF2.2.1, hF2.2.2.2.2⟩, hO2⟩
end SF

