/-! lesser and greater of two, where they are called -/
section MM
variable {γ : Ga} {d mc ms : Nat} {M : MI} {Q : Out → SMem → Prop} {kc ks : Nat} {pc : Nat} {ls : List (Option Value)} {st : List Value} {μ : SMem}
def MmOk (own : String) (idx : Nat) (y : MethodName) (cc : ByteArray) (n : Nat) (t : Jvm.ClassFile.FieldType) : Prop := Cond.methodLink own idx y ∈ tbw ∧ Cond.static y ∈ tbw ∧ Cond.initialized "java/lang/Math" ∈ tbw ∧ Cond.code y cc n (some t) ∈ tbw
theorem T_mmin {idx : Nat} {x y : Int32} (hc : MmOk M.1.cls idx Lib.Math.min.name Lib.Math.min.code 2 .int) (hst : (st.map fun v => v.category).sum ≤ 8) (h1 : kc ≤ mc) (h2 : ks ≤ ms) (hd : decode (Mb M) pc = .ok (.invokestatic idx, 3)) (kk : T γ d mc ms M Q kc ks (pc + 3) ls (.int (if y < x then y else x) :: st) μ) : T γ d mc ms M Q kc ks pc ls (.int y :: .int x :: st) μ := by
  intro p e s m args below meth c H locs L hF hH hS hl
  have hts := hF.2.2.2.2.1
  exact va_mmin hF.1 hF.2.1 (hF.2.2.1.trans hl.1.symm) hF.2.2.2.1 (hts _ hc.1) (hts _ hc.2.1) (hts _ hc.2.2.1) (hts _ hc.2.2.2) (show 1 ≤ d + 10 by omega) (show _ ≤ 64 * d + 300 by rw [cat_rv]; omega) h1 h2 hd (kk p e s m args below meth c H locs L hF hH hS hl)
theorem T_mmax {idx : Nat} {x y : Int32} (hc : MmOk M.1.cls idx Lib.Math.max.name Lib.Math.max.code 2 .int) (hst : (st.map fun v => v.category).sum ≤ 8) (h1 : kc ≤ mc) (h2 : ks ≤ ms) (hd : decode (Mb M) pc = .ok (.invokestatic idx, 3)) (kk : T γ d mc ms M Q kc ks (pc + 3) ls (.int (if x < y then y else x) :: st) μ) : T γ d mc ms M Q kc ks pc ls (.int y :: .int x :: st) μ := by
  intro p e s m args below meth c H locs L hF hH hS hl
  have hts := hF.2.2.2.2.1
  exact va_mmax hF.1 hF.2.1 (hF.2.2.1.trans hl.1.symm) hF.2.2.2.1 (hts _ hc.1) (hts _ hc.2.1) (hts _ hc.2.2.1) (hts _ hc.2.2.2) (show 1 ≤ d + 10 by omega) (show _ ≤ 64 * d + 300 by rw [cat_rv]; omega) h1 h2 hd (kk p e s m args below meth c H locs L hF hH hS hl)
theorem mm_min : Cond.code Lib.Math.min.name Lib.Math.min.code 2 (some .int) ∈ tbw := mk_J9_min_7cf53.1
theorem mm_max : Cond.code Lib.Math.max.name Lib.Math.max.code 2 (some .int) ∈ tbw := mk_J9_max_7cf53.1
theorem R_mmin {idx a b : Nat} {μ : SM2} (hl9 : LkS M.1.cls idx M_J9_min_7cf53) (ha : a < 2 ^ 31) (hb : b < 2 ^ 31) (hst : (st.map fun v => v.category).sum ≤ 8) (h1 : kc ≤ mc) (h2 : ks ≤ ms) (hd : decode (Mb M) pc = .ok (.invokestatic idx, 3)) (kk : T γ d mc ms M Q kc ks (pc + 3) ls (.int (nI (min a b)) :: st) (rm μ)) : T γ d mc ms M Q kc ks pc ls (.int (nI b) :: .int (nI a) :: st) (rm μ) := by
  refine T_mmin ⟨hl9.1, hl9.2, ini_J9, mm_min⟩ hst h1 h2 hd ?_
  have e : (if nI b < nI a then nI b else nI a) = nI (min a b) := by
    by_cases h : b < a
    · rw [if_pos (by rw [fa_lt, nI_toInt hb, nI_toInt ha]; omega), Nat.min_eq_right (by omega)]
    · rw [if_neg (by rw [fa_lt, nI_toInt hb, nI_toInt ha]; omega), Nat.min_eq_left (by omega)]
  rw [e]
  exact kk
theorem R_mmax {idx a b : Nat} {μ : SM2} (hl9 : LkS M.1.cls idx M_J9_max_7cf53) (ha : a < 2 ^ 31) (hb : b < 2 ^ 31) (hst : (st.map fun v => v.category).sum ≤ 8) (h1 : kc ≤ mc) (h2 : ks ≤ ms) (hd : decode (Mb M) pc = .ok (.invokestatic idx, 3)) (kk : T γ d mc ms M Q kc ks (pc + 3) ls (.int (nI (max a b)) :: st) (rm μ)) : T γ d mc ms M Q kc ks pc ls (.int (nI b) :: .int (nI a) :: st) (rm μ) := by
  refine T_mmax ⟨hl9.1, hl9.2, ini_J9, mm_max⟩ hst h1 h2 hd ?_
  have e : (if nI a < nI b then nI b else nI a) = nI (max a b) := by
    by_cases h : a < b
    · rw [if_pos (by rw [fa_lt, nI_toInt hb, nI_toInt ha]; omega), Nat.max_eq_right (by omega)]
    · rw [if_neg (by rw [fa_lt, nI_toInt hb, nI_toInt ha]; omega), Nat.max_eq_left (by omega)]
  rw [e]
  exact kk
end MM
