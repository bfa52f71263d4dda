/-! parts of memory that stay; RULES; FIELDS -/
set_option maxRecDepth 10000 in
theorem cp_X6_29 : CpOk RX6 29 := ⟨in_tb (in_t3 (List.mem_of_getElem? (i := 141) rfl)) rfl, in_tb (in_t3 (List.mem_of_getElem? (i := 143) rfl)) rfl, in_tb (in_t3 (List.mem_of_getElem? (i := 142) rfl)) rfl, in_tb (in_t1 (List.mem_of_getElem? (i := 15) rfl)) rfl⟩
set_option maxRecDepth 10000 in
theorem cp_X1_30 : CpOk RX1 30 := ⟨in_tb (in_t3 (List.mem_of_getElem? (i := 152) rfl)) rfl, in_tb (in_t3 (List.mem_of_getElem? (i := 143) rfl)) rfl, in_tb (in_t3 (List.mem_of_getElem? (i := 142) rfl)) rfl, in_tb (in_t1 (List.mem_of_getElem? (i := 15) rfl)) rfl⟩
set_option maxRecDepth 10000 in
theorem cp_X9_59 : CpOk RX9 59 := ⟨in_tb (in_t3 (List.mem_of_getElem? (i := 153) rfl)) rfl, in_tb (in_t3 (List.mem_of_getElem? (i := 143) rfl)) rfl, in_tb (in_t3 (List.mem_of_getElem? (i := 142) rfl)) rfl, in_tb (in_t1 (List.mem_of_getElem? (i := 15) rfl)) rfl⟩
set_option maxRecDepth 10000 in
theorem cp_X5_25 : CpOk RX5 25 := ⟨in_tb (in_t3 (List.mem_of_getElem? (i := 162) rfl)) rfl, in_tb (in_t3 (List.mem_of_getElem? (i := 143) rfl)) rfl, in_tb (in_t3 (List.mem_of_getElem? (i := 142) rfl)) rfl, in_tb (in_t1 (List.mem_of_getElem? (i := 15) rfl)) rfl⟩
set_option maxRecDepth 10000 in
theorem cp_X2_44 : CpOk RX2 44 := ⟨in_tb (in_t7 (List.mem_of_getElem? (i := 45) rfl)) rfl, in_tb (in_t3 (List.mem_of_getElem? (i := 143) rfl)) rfl, in_tb (in_t3 (List.mem_of_getElem? (i := 142) rfl)) rfl, in_tb (in_t1 (List.mem_of_getElem? (i := 15) rfl)) rfl⟩
/-- all cells but those from a on, n of them, are alike -/
def Off (a n : Nat) (μ μ' : SM2) : Prop := ∀ k, k < a ∨ a + n ≤ k → μ'.1 k = μ.1 k ∧ μ'.2 k = μ.2 k
theorem Off.refl (a n : Nat) (μ : SM2) : Off a n μ μ := fun _ _ => ⟨rfl, rfl⟩
theorem Off.trans {a n : Nat} {μ m m' : SM2} (h : Off a n μ m) (g : Off a n m m') : Off a n μ m' := fun k hk => ⟨(g k hk).1.trans (h k hk).1, (g k hk).2.trans (h k hk).2⟩
theorem Off.mono {a n a' n' : Nat} {μ m : SM2} (h : Off a n μ m) (g : a' ≤ a ∧ a + n ≤ a' + n') : Off a' n' μ m := fun k hk => h k (by omega)
theorem Off.sI {a n k j : Nat} {x : Int32} {μ m : SM2} (h : Off a n μ m) (g : a ≤ k ∧ k < a + n) : Off a n μ (wI m k j x) := fun b hb => ⟨(up2_ne (by omega)).trans (h b hb).1, (h b hb).2⟩
theorem Off.sL {a n k j : Nat} {x : Int64} {μ m : SM2} (h : Off a n μ m) (g : a ≤ k ∧ k < a + n) : Off a n μ (wL m k j x) := fun b hb => ⟨(h b hb).1, (up2_ne (by omega)).trans (h b hb).2⟩
theorem Off.sCI {a n k k' sp dp c : Nat} {μ m : SM2} (h : Off a n μ m) (g : a ≤ k ∧ k < a + n) : Off a n μ (wCI m k' k sp dp c) := fun b hb => ⟨(show (fun x => if b = k then _ else _) = _ from by funext x; rw [if_neg (by omega), (h b hb).1]), (h b hb).2⟩
theorem Off.sCL {a n k k' sp dp c : Nat} {μ m : SM2} (h : Off a n μ m) (g : a ≤ k ∧ k < a + n) : Off a n μ (wCL m k' k sp dp c) := fun b hb => ⟨(h b hb).1, (show (fun x => if b = k then _ else _) = _ from by funext x; rw [if_neg (by omega), (h b hb).2])⟩
theorem Off.i {a n k : Nat} {μ m : SM2} (h : Off a n μ m) (g : k < a ∨ a + n ≤ k) (j : Nat) : m.1 k j = μ.1 k j := congrFun (h k g).1 j
theorem Off.l {a n k : Nat} {μ m : SM2} (h : Off a n μ m) (g : k < a ∨ a + n ≤ k) (j : Nat) : m.2 k j = μ.2 k j := congrFun (h k g).2 j
theorem m_wI {μ : SM2} {k j a b : Nat} {x : Int32} : (wI μ k j x).1 a b = if a = k ∧ b = j then x else μ.1 a b := rfl
theorem m_wL {μ : SM2} {k j a b : Nat} {x : Int64} : (wL μ k j x).2 a b = if a = k ∧ b = j then x else μ.2 a b := rfl
theorem m_wI2 {μ : SM2} {k j : Nat} {x : Int32} : (wI μ k j x).2 = μ.2 := rfl
theorem m_wL1 {μ : SM2} {k j : Nat} {x : Int64} : (wL μ k j x).1 = μ.1 := rfl
theorem m_wCI2 {μ : SM2} {k0 k1 sp dp n : Nat} : (wCI μ k0 k1 sp dp n).2 = μ.2 := rfl
theorem m_wCL1 {μ : SM2} {k0 k1 sp dp n : Nat} : (wCL μ k0 k1 sp dp n).1 = μ.1 := rfl
theorem m_wCI {μ : SM2} {k0 k1 n a b : Nat} : (wCI μ k0 k1 0 0 n).1 a b = if a = k1 then (if b < n then μ.1 k0 b else μ.1 k1 b) else μ.1 a b := by
  show (if a = k1 then va_cpy (μ.1 k0) (μ.1 k1) 0 0 n b else μ.1 a b) = _
  unfold va_cpy
  simp only [Nat.zero_le, true_and, Nat.zero_add, Nat.sub_zero]
theorem m_wCL {μ : SM2} {k0 k1 n a b : Nat} : (wCL μ k0 k1 0 0 n).2 a b = if a = k1 then (if b < n then μ.2 k0 b else μ.2 k1 b) else μ.2 a b := by
  show (if a = k1 then va_cpy (μ.2 k0) (μ.2 k1) 0 0 n b else μ.2 a b) = _
  unfold va_cpy
  simp only [Nat.zero_le, true_and, Nat.zero_add, Nat.sub_zero]
theorem n_wI {μ : SM2} {k j a b : Nat} {x : Int32} (h : a ≠ k ∨ b ≠ j) : (wI μ k j x).1 a b = μ.1 a b := wI_ne h
theorem e_wI {μ : SM2} {k j a b : Nat} {x : Int32} (h : a = k ∧ b = j) : (wI μ k j x).1 a b = x := by rw [m_wI, if_pos h]
theorem n_wL {μ : SM2} {k j a b : Nat} {x : Int64} (h : a ≠ k ∨ b ≠ j) : (wL μ k j x).2 a b = μ.2 a b := wL_ne h
theorem e_wL {μ : SM2} {k j a b : Nat} {x : Int64} (h : a = k ∧ b = j) : (wL μ k j x).2 a b = x := by rw [m_wL, if_pos h]
theorem n_wCI {μ : SM2} {k0 k1 n a b : Nat} (h : a ≠ k1) : (wCI μ k0 k1 0 0 n).1 a b = μ.1 a b := by rw [m_wCI, if_neg h]
theorem e_wCI {μ : SM2} {k0 k1 n a b : Nat} (h : a = k1 ∧ b < n) : (wCI μ k0 k1 0 0 n).1 a b = μ.1 k0 b := by rw [m_wCI, if_pos h.1, if_pos h.2]
theorem n_wCL {μ : SM2} {k0 k1 n a b : Nat} (h : a ≠ k1) : (wCL μ k0 k1 0 0 n).2 a b = μ.2 a b := by rw [m_wCL, if_neg h]
theorem e_wCL {μ : SM2} {k0 k1 n a b : Nat} (h : a = k1 ∧ b < n) : (wCL μ k0 k1 0 0 n).2 a b = μ.2 k0 b := by rw [m_wCL, if_pos h.1, if_pos h.2]
/-- the first n of an array are x -/
def wF (μ : SM2) (a n : Nat) (x : Int32) : SM2 := (fun k j => if k = a ∧ j < n then x else μ.1 k j, μ.2)
theorem m_wF {μ : SM2} {k n a b : Nat} {x : Int32} : (wF μ k n x).1 a b = if a = k ∧ b < n then x else μ.1 a b := rfl
theorem m_wF2 {μ : SM2} {k n : Nat} {x : Int32} : (wF μ k n x).2 = μ.2 := rfl
theorem n_wF {μ : SM2} {k n a b : Nat} {x : Int32} (h : a ≠ k ∨ n ≤ b) : (wF μ k n x).1 a b = μ.1 a b := by rw [m_wF, if_neg (by omega)]
theorem e_wF {μ : SM2} {k n a b : Nat} {x : Int32} (h : a = k ∧ b < n) : (wF μ k n x).1 a b = x := by rw [m_wF, if_pos h]
/-- it answers v, and of the memory it leaves P holds -/
def Rm (v : Option Value) (P : SM2 → Prop) : Out → SMem → Prop := fun o m => ∃ μ', o = .inl v ∧ m = rm μ' ∧ P μ'
section RM
variable {γ : Ga} {d mc ms : Nat} {M : MI} {Q : Out → SMem → Prop} {kc ks : Nat} {pc : Nat} {ls : List (Option Value)} {μ : SM2}
variable {d' n idx : Nat} {M' : MI} {av As rest st : List Value} {v : Value} {P : SM2 → Prop}
theorem R_callSm1 (hl9 : LkS M.1.cls idx M' ∨ LkSN M.1.cls idx M') (hm : MOk M' n) (hE : Ex γ d' 0 0 M' av (rm μ) (Rm (some v) P)) (hd : decode (Mb M) pc = .ok (.invokestatic idx, 3)) (hst : st = av.reverse ++ rest) (hn : av.length = n) (hw : (rest.map fun v => v.category).sum ≤ 8) (hdd : d' < d) (hno : Mh M = []) (h1 : kc ≤ mc) (h2 : ks ≤ ms) (kk : ∀ μ1, P μ1 → T γ d mc ms M Q kc ks (pc + 3) ls (v :: rest) (rm μ1)) : T γ d mc ms M Q kc ks pc ls st (rm μ) :=
  T_callS hl9 hm hE hd hst hn hw hdd hno h1 h2 (fun E m' h => by obtain ⟨_, h3, _⟩ := h; cases h3) (fun v' m' h => by obtain ⟨_, h3, rfl, h4⟩ := h; cases h3; exact kk _ h4)
theorem R_callSm0 (hl9 : LkS M.1.cls idx M' ∨ LkSN M.1.cls idx M') (hm : MOk M' n) (hE : Ex γ d' 0 0 M' av (rm μ) (Rm none P)) (hd : decode (Mb M) pc = .ok (.invokestatic idx, 3)) (hst : st = av.reverse ++ rest) (hn : av.length = n) (hw : (rest.map fun v => v.category).sum ≤ 8) (hdd : d' < d) (hno : Mh M = []) (h1 : kc ≤ mc) (h2 : ks ≤ ms) (kk : ∀ μ1, P μ1 → T γ d mc ms M Q kc ks (pc + 3) ls rest (rm μ1)) : T γ d mc ms M Q kc ks pc ls st (rm μ) :=
  T_callS hl9 hm hE hd hst hn hw hdd hno h1 h2 (fun E m' h => by obtain ⟨_, h3, _⟩ := h; cases h3) (fun v' m' h => by obtain ⟨_, h3, rfl, h4⟩ := h; cases h3; exact kk _ h4)
theorem R_callVm1 {b c : Nat} (hl9 : LkV M.1.cls idx M' ∨ LkVN M.1.cls idx M') (hm : MOk M' n) (hE : Ex γ d' 0 0 M' (.ref b :: As) (rm μ) (Rm (some v) P)) (hk : KT b = (0, c)) (hc : c < 13 ∧ (cl3 c).1 = M'.1.cls) (hb : b < N0) (hd : decode (Mb M) pc = .ok (.invokevirtual idx, 3)) (hst : st = As.reverse ++ .ref b :: rest) (hn : As.length = n) (hw : (rest.map fun v => v.category).sum ≤ 8) (hdd : d' < d) (hno : Mh M = []) (h1 : kc ≤ mc) (h2 : ks ≤ ms) (kk : ∀ μ1, P μ1 → T γ d mc ms M Q kc ks (pc + 3) ls (v :: rest) (rm μ1)) : T γ d mc ms M Q kc ks pc ls st (rm μ) :=
  T_callV hl9 hm hE hk hc hb hd hst hn hw hdd hno h1 h2 (fun E m' h => by obtain ⟨_, h3, _⟩ := h; cases h3) (fun v' m' h => by obtain ⟨_, h3, rfl, h4⟩ := h; cases h3; exact kk _ h4)
theorem R_callVm0 {b c : Nat} (hl9 : LkV M.1.cls idx M' ∨ LkVN M.1.cls idx M') (hm : MOk M' n) (hE : Ex γ d' 0 0 M' (.ref b :: As) (rm μ) (Rm none P)) (hk : KT b = (0, c)) (hc : c < 13 ∧ (cl3 c).1 = M'.1.cls) (hb : b < N0) (hd : decode (Mb M) pc = .ok (.invokevirtual idx, 3)) (hst : st = As.reverse ++ .ref b :: rest) (hn : As.length = n) (hw : (rest.map fun v => v.category).sum ≤ 8) (hdd : d' < d) (hno : Mh M = []) (h1 : kc ≤ mc) (h2 : ks ≤ ms) (kk : ∀ μ1, P μ1 → T γ d mc ms M Q kc ks (pc + 3) ls rest (rm μ1)) : T γ d mc ms M Q kc ks pc ls st (rm μ) :=
  T_callV hl9 hm hE hk hc hb hd hst hn hw hdd hno h1 h2 (fun E m' h => by obtain ⟨_, h3, _⟩ := h; cases h3) (fun v' m' h => by obtain ⟨_, h3, rfl, h4⟩ := h; cases h3; exact kk _ h4)
end RM
/-- a RULE: LEFT and RIGHT -/
abbrev Ru : Type := List Nat × List Nat
abbrev rAt (R : List Ru) (i : Nat) : Ru := R.getD i ([], [])
def okR (x : Ru) : Prop := okb x.1 ∧ 1 ≤ x.1.length ∧ x.1.length ≤ 4 ∧ okb x.2 ∧ x.2.length ≤ 5
def RowAt (μ : SM2) (r j : Nat) (x : Ru) : Prop := μ.2 (r + 1) j = lN (cd x.1) ∧ μ.2 (r + 2) j = lN (cd x.2) ∧ μ.1 (r + 3) j = nI x.1.length ∧ μ.1 (r + 4) j = nI x.2.length
theorem RowAt.left {μ : SM2} {r j : Nat} {x : Ru} (h : RowAt μ r j x) : μ.2 (r + 1) j = lN (cd x.1) := h.1
theorem RowAt.right {μ : SM2} {r j : Nat} {x : Ru} (h : RowAt μ r j x) : μ.2 (r + 2) j = lN (cd x.2) := h.2.1
theorem RowAt.leftSize {μ : SM2} {r j : Nat} {x : Ru} (h : RowAt μ r j x) : μ.1 (r + 3) j = nI x.1.length := h.2.2.1
theorem RowAt.rightSize {μ : SM2} {r j : Nat} {x : Ru} (h : RowAt μ r j x) : μ.1 (r + 4) j = nI x.2.length := h.2.2.2
def RulesAt (μ : SM2) (r : Nat) (R : List Ru) : Prop := μ.1 r 0 = nI R.length ∧ R.length ≤ 12 ∧ (∀ i, i < R.length → okR (rAt R i)) ∧ ∀ i, i < R.length → RowAt μ r i (rAt R i)
theorem RulesAt.size {μ : SM2} {r : Nat} {R : List Ru} (h : RulesAt μ r R) : μ.1 r 0 = nI R.length := h.1
theorem RulesAt.len {μ : SM2} {r : Nat} {R : List Ru} (h : RulesAt μ r R) : R.length ≤ 12 := h.2.1
theorem RulesAt.ok {μ : SM2} {r : Nat} {R : List Ru} (h : RulesAt μ r R) : ∀ i, i < R.length → okR (rAt R i) := h.2.2.1
theorem RulesAt.row {μ : SM2} {r : Nat} {R : List Ru} (h : RulesAt μ r R) : ∀ i, i < R.length → RowAt μ r i (rAt R i) := h.2.2.2
theorem RowAt.off {a n r j : Nat} {x : Ru} {μ m : SM2} (h : RowAt μ r j x) (g : Off a n μ m) (hr : r + 5 ≤ a ∨ a + n ≤ r) : RowAt m r j x :=
  ⟨(g.l (by omega) j).trans h.left, (g.l (by omega) j).trans h.right, (g.i (by omega) j).trans h.leftSize, (g.i (by omega) j).trans h.rightSize⟩
theorem RulesAt.off {a n r : Nat} {R : List Ru} {μ m : SM2} (h : RulesAt μ r R) (g : Off a n μ m) (hr : r + 5 ≤ a ∨ a + n ≤ r) : RulesAt m r R :=
  ⟨(g.i (by omega) 0).trans h.size, h.len, h.ok, fun i hi => (h.row i hi).off g hr⟩
theorem okR.l {x : Ru} (h : okR x) : Mw x.1 := ⟨by have := h.2.2.1; omega, h.1⟩
theorem okR.r {x : Ru} (h : okR x) : Mw x.2 := ⟨by have := h.2.2.2.2; omega, h.2.2.2.1⟩
/-- the BEASTS of the first i LEFTS, of the first i RIGHTS, as bits -/
def kLN (R : List Ru) : Nat → Nat
  | 0 => 0
  | i + 1 => kLN R i ||| kd (rAt R i).1
def kRN (R : List Ru) : Nat → Nat
  | 0 => 0
  | i + 1 => kRN R i ||| kd (rAt R i).2
def shN (R : List Ru) : Nat → Nat
  | 0 => 0
  | i + 1 => shN R i ||| (if (rAt R i).2.length < (rAt R i).1.length then 2 ^ i else 0)
def gwN (R : List Ru) : Nat → Nat
  | 0 => 0
  | i + 1 => gwN R i ||| (if (rAt R i).1.length < (rAt R i).2.length then 2 ^ i else 0)
section RU
variable {γ : Ga} {μ : SM2}
theorem c_Rules_copyFrom {r o : Nat} {R : List Ru} (hr : isRules r) (ho : isRules o) (hro : r + 5 ≤ o ∨ o + 5 ≤ r) (h : RulesAt μ o R) : Ex γ 1 0 0 M_X6_copyFrom [.ref r, .ref o] (rm μ) (Rm none (fun m => RulesAt m r R ∧ Off r 5 μ m)) := by
  have h12 := h.len
  refine Ex.of (by decide +kernel) rfl (Nat.le_of_ble_eq_true rfl) ?_
  show T _ _ _ _ _ _ _ _ _ [some (.ref r), some (.ref o)] [] (rm μ)
  refine T_aload_n (pc := 0) (i := 0) dX6_copyFrom_0 rfl rfl ?_
  refine T_aload_n (pc := 1) (i := 1) dX6_copyFrom_1 rfl rfl ?_
  refine R_getI (pc := 2) (x := nI R.length) fl_X6_25 rfl (kt_rules ho) (lt_rules ho) h.size dX6_copyFrom_2 ?_
  refine R_putI (pc := 5) fl_X6_25 ⟨rfl, rfl⟩ (Or.inl rfl) (kt_rules hr) (lt_rules hr) dX6_copyFrom_5 ?_
  refine T_aload_n (pc := 8) (i := 1) dX6_copyFrom_8 rfl rfl ?_
  refine R_getR (pc := 9) (i := (o + 1)) fl_X6_9 rfl (kt_rules ho) (lt_rules ho) (rt_rules_left ho) dX6_copyFrom_9 ?_
  refine T_iconst (pc := 12) (v := nI 0) dX6_copyFrom_12 (by decide) ?_
  refine T_aload_n (pc := 13) (i := 0) dX6_copyFrom_13 rfl rfl ?_
  refine R_getR (pc := 14) (i := (r + 1)) fl_X6_9 rfl (kt_rules hr) (lt_rules hr) (rt_rules_left hr) dX6_copyFrom_14 ?_
  refine T_iconst (pc := 17) (v := nI 0) dX6_copyFrom_17 (by decide) ?_
  refine T_bipush (pc := 18) (v := nI 12) dX6_copyFrom_18 (by decide) ?_
  refine R_copyL (pc := 20) cp_X6_29 (kt_rules_left ho) (kt_rules_left hr) (lt_rules_left ho) (lt_rules_left hr) (by omega) (by omega) (by decide) (by decide) dX6_copyFrom_20 ?_
  refine T_aload_n (pc := 23) (i := 1) dX6_copyFrom_23 rfl rfl ?_
  refine R_getR (pc := 24) (i := (o + 2)) fl_X6_15 rfl (kt_rules ho) (lt_rules ho) (rt_rules_right ho) dX6_copyFrom_24 ?_
  refine T_iconst (pc := 27) (v := nI 0) dX6_copyFrom_27 (by decide) ?_
  refine T_aload_n (pc := 28) (i := 0) dX6_copyFrom_28 rfl rfl ?_
  refine R_getR (pc := 29) (i := (r + 2)) fl_X6_15 rfl (kt_rules hr) (lt_rules hr) (rt_rules_right hr) dX6_copyFrom_29 ?_
  refine T_iconst (pc := 32) (v := nI 0) dX6_copyFrom_32 (by decide) ?_
  refine T_bipush (pc := 33) (v := nI 12) dX6_copyFrom_33 (by decide) ?_
  refine R_copyL (pc := 35) cp_X6_29 (kt_rules_right ho) (kt_rules_right hr) (lt_rules_right ho) (lt_rules_right hr) (by omega) (by omega) (by decide) (by decide) dX6_copyFrom_35 ?_
  refine T_aload_n (pc := 38) (i := 1) dX6_copyFrom_38 rfl rfl ?_
  refine R_getR (pc := 39) (i := (o + 3)) fl_X6_18 rfl (kt_rules ho) (lt_rules ho) (rt_rules_leftSize ho) dX6_copyFrom_39 ?_
  refine T_iconst (pc := 42) (v := nI 0) dX6_copyFrom_42 (by decide) ?_
  refine T_aload_n (pc := 43) (i := 0) dX6_copyFrom_43 rfl rfl ?_
  refine R_getR (pc := 44) (i := (r + 3)) fl_X6_18 rfl (kt_rules hr) (lt_rules hr) (rt_rules_leftSize hr) dX6_copyFrom_44 ?_
  refine T_iconst (pc := 47) (v := nI 0) dX6_copyFrom_47 (by decide) ?_
  refine T_bipush (pc := 48) (v := nI 12) dX6_copyFrom_48 (by decide) ?_
  refine R_copyI (pc := 50) cp_X6_29 (kt_rules_leftSize ho) (kt_rules_leftSize hr) (lt_rules_leftSize ho) (lt_rules_leftSize hr) (by omega) (by omega) (by decide) (by decide) dX6_copyFrom_50 ?_
  refine T_aload_n (pc := 53) (i := 1) dX6_copyFrom_53 rfl rfl ?_
  refine R_getR (pc := 54) (i := (o + 4)) fl_X6_22 rfl (kt_rules ho) (lt_rules ho) (rt_rules_rightSize ho) dX6_copyFrom_54 ?_
  refine T_iconst (pc := 57) (v := nI 0) dX6_copyFrom_57 (by decide) ?_
  refine T_aload_n (pc := 58) (i := 0) dX6_copyFrom_58 rfl rfl ?_
  refine R_getR (pc := 59) (i := (r + 4)) fl_X6_22 rfl (kt_rules hr) (lt_rules hr) (rt_rules_rightSize hr) dX6_copyFrom_59 ?_
  refine T_iconst (pc := 62) (v := nI 0) dX6_copyFrom_62 (by decide) ?_
  refine T_bipush (pc := 63) (v := nI 12) dX6_copyFrom_63 (by decide) ?_
  refine R_copyI (pc := 65) cp_X6_29 (kt_rules_rightSize ho) (kt_rules_rightSize hr) (lt_rules_rightSize ho) (lt_rules_rightSize hr) (by omega) (by omega) (by decide) (by decide) dX6_copyFrom_65 ?_
  have hof : Off r 5 μ (wCI (wCI (wCL (wCL (wI μ r 0 (nI R.length)) (o + 1) (r + 1) 0 0 12) (o + 2) (r + 2) 0 0 12) (o + 3) (r + 3) 0 0 12) (o + 4) (r + 4) 0 0 12) := (Off.sCI (Off.sCI (Off.sCL (Off.sCL (Off.sI (Off.refl _ _ _) (by omega)) (by omega)) (by omega)) (by omega)) (by omega))
  refine T_vret dX6_copyFrom_68 rfl (Nat.le_refl _) (Nat.le_refl _) ⟨_, rfl, rfl, ⟨?_, h.len, h.ok, fun i hi => ⟨?_, ?_, ?_, ?_⟩⟩, hof⟩
  · skip
    simp (disch := omega) only [n_wI, e_wI, n_wL, e_wL, m_wI2, m_wL1, n_wCI, e_wCI, n_wCL, e_wCL, m_wCI2, m_wCL1, n_wF, e_wF, m_wF2]
  · have e := (h.row i hi).left
    simp (disch := omega) only [n_wI, e_wI, n_wL, e_wL, m_wI2, m_wL1, n_wCI, e_wCI, n_wCL, e_wCL, m_wCI2, m_wCL1, n_wF, e_wF, m_wF2]
    exact e
  · have e := (h.row i hi).right
    simp (disch := omega) only [n_wI, e_wI, n_wL, e_wL, m_wI2, m_wL1, n_wCI, e_wCI, n_wCL, e_wCL, m_wCI2, m_wCL1, n_wF, e_wF, m_wF2]
    exact e
  · have e := (h.row i hi).leftSize
    simp (disch := omega) only [n_wI, e_wI, n_wL, e_wL, m_wI2, m_wL1, n_wCI, e_wCI, n_wCL, e_wCL, m_wCI2, m_wCL1, n_wF, e_wF, m_wF2]
    exact e
  · have e := (h.row i hi).rightSize
    simp (disch := omega) only [n_wI, e_wI, n_wL, e_wL, m_wI2, m_wL1, n_wCI, e_wCI, n_wCL, e_wCL, m_wCI2, m_wCL1, n_wF, e_wF, m_wF2]
    exact e
end RU

