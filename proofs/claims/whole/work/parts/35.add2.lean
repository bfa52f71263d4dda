/-! add -/
theorem ckn {n a b : Nat} (hn : n < 2 ^ 31) (ha : a < 2 ^ 31) (hb : b < 2 ^ 31) : (!decide (nI n < nI a) && !decide (nI b < nI n)) = (decide (a ≤ n) && decide (n ≤ b)) := by
  have e1 : nI n < nI a ↔ n < a := by rw [fa_lt, nI_toInt hn, nI_toInt ha]; omega
  have e2 : nI b < nI n ↔ b < n := by rw [fa_lt, nI_toInt hn, nI_toInt hb]; omega
  by_cases h1 : n < a <;> by_cases h2 : b < n
  all_goals simp only [e1, e2, h1, h2, decide_true, decide_false]
  all_goals simp
  all_goals omega
section AD2
variable {γ : Ga} {μ : SM2}
def addOk (a b : Int64) : Prop := codeB a = true ∧ codeB b = true ∧ (1 ≤ (ml a).length ∧ (ml a).length ≤ 4) ∧ (ml b).length ≤ 5
def addB (a b : Int64) : Bool := codeB a && (codeB b && ((decide (1 ≤ (ml a).length) && decide ((ml a).length ≤ 4)) && decide ((ml b).length ≤ 5)))
theorem addB_iff {a b : Int64} : addB a b = true ↔ addOk a b := by
  unfold addB addOk
  simp only [Bool.and_eq_true, decide_eq_true_eq]
theorem c_add {a b : Int64} {X : Td} {U : List Td} (hX : ToldAt μ 3 X) (hU : ActsAt μ U) : Ex γ 6 5 30 M_X11_add [.ref 0, .long a, .long b] (rm μ) (Ax (if addB a b = true then (if X.R.length < 12 then none else some "java/lang/UnsupportedOperationException") else some "java/lang/IllegalArgumentException") (.int (nI X.R.length)) μ (fun m => (ToldAt m 3 (X.R ++ [(ml a, ml b)], X.2) ∧ ActsAt m ((X :: U).take 16)) ∧ OffP μ m)) := by
  have hx : ¬ addOk a b → Ax (if addB a b = true then (if X.R.length < 12 then none else some "java/lang/UnsupportedOperationException") else some "java/lang/IllegalArgumentException") (.int (nI X.R.length)) μ (fun m => (ToldAt m 3 (X.R ++ [(ml a, ml b)], X.2) ∧ ActsAt m ((X :: U).take 16)) ∧ OffP μ m) (.inr "java/lang/IllegalArgumentException") (rm μ) := fun h => by
    rw [if_neg (fun z => h (addB_iff.mp z))]
    exact ⟨rfl, rfl⟩
  refine Ex.of (by decide +kernel) rfl (Nat.le_of_ble_eq_true rfl) ?_
  show T _ _ _ _ _ _ _ _ _ [some (.ref 0), some (.long (a)), none, some (.long (b)), none] [] (rm μ)
  refine T_lload_n (pc := 0) (i := 1) dX11_add_0 rfl rfl ?_
  refine R_chkS (pc := 1) (av := [.long (a)]) (rest := []) (Or.inl lk_X11_169) mk_X11_checkCode c_checkCode dX11_add_1 rfl rfl (Nat.le_of_ble_eq_true rfl) (by decide) rfl (by decide) (by decide) (fun z => hx (fun w => by rw [w.1] at z; cases z)) (fun hA => ?_)
  refine T_lload_n (pc := 4) (i := 3) dX11_add_4 rfl rfl ?_
  refine R_chkS (pc := 5) (av := [.long (b)]) (rest := []) (Or.inl lk_X11_169) mk_X11_checkCode c_checkCode dX11_add_5 rfl rfl (Nat.le_of_ble_eq_true rfl) (by decide) rfl (by decide) (by decide) (fun z => hx (fun w => by rw [w.2.1] at z; cases z)) (fun hB => ?_)
  obtain ⟨l, hl, rfl⟩ := codeB_iff.mp hA
  obtain ⟨q, hq, rfl⟩ := codeB_iff.mp hB
  have el := ml_cd hl
  have eq := ml_cd hq
  have l20 := hl.1
  have q20 := hq.1
  refine T_lload_n (pc := 8) (i := 1) dX11_add_8 rfl rfl ?_
  refine R_callS1 (pc := 9) (av := [.long (lN (cd l))]) (rest := []) (Or.inl lk_X11_173) mk_X11_sizeOf (c_sizeOf_cd hl) dX11_add_9 rfl rfl (Nat.le_of_ble_eq_true rfl) (by decide) rfl (by decide) (by decide) ?_
  refine T_iconst (pc := 12) (v := nI 1) dX11_add_12 (by decide) ?_
  refine T_iconst (pc := 13) (v := nI 4) dX11_add_13 (by decide) ?_
  refine R_chkS (pc := 14) (av := [.int (nI l.length), .int (nI 1), .int (nI 4)]) (rest := []) (Or.inl lk_X11_215) mk_X11_checkNumber c_checkNumber dX11_add_14 rfl rfl (Nat.le_of_ble_eq_true rfl) (by decide) rfl (by decide) (by decide) (fun z => hx (fun w => by have w3 := w.2.2.1; rw [el] at w3; rw [ckn (by omega) (by omega) (by omega), decide_eq_true w3.1, decide_eq_true w3.2] at z; cases z)) (fun h3 => ?_)
  rw [ckn (by omega) (by omega) (by omega)] at h3
  simp only [Bool.and_eq_true, decide_eq_true_eq] at h3
  refine T_lload_n (pc := 17) (i := 3) dX11_add_17 rfl rfl ?_
  refine R_callS1 (pc := 18) (av := [.long (lN (cd q))]) (rest := []) (Or.inl lk_X11_173) mk_X11_sizeOf (c_sizeOf_cd hq) dX11_add_18 rfl rfl (Nat.le_of_ble_eq_true rfl) (by decide) rfl (by decide) (by decide) ?_
  refine T_iconst (pc := 21) (v := nI 0) dX11_add_21 (by decide) ?_
  refine T_iconst (pc := 22) (v := nI 5) dX11_add_22 (by decide) ?_
  refine R_chkS (pc := 23) (av := [.int (nI q.length), .int (nI 0), .int (nI 5)]) (rest := []) (Or.inl lk_X11_215) mk_X11_checkNumber c_checkNumber dX11_add_23 rfl rfl (Nat.le_of_ble_eq_true rfl) (by decide) rfl (by decide) (by decide) (fun z => hx (fun w => by have w3 := w.2.2.2; rw [eq] at w3; rw [ckn (by omega) (by omega) (by omega), decide_eq_true (Nat.zero_le _), decide_eq_true w3] at z; cases z)) (fun h4 => ?_)
  rw [ckn (by omega) (by omega) (by omega)] at h4
  simp only [Bool.and_eq_true, decide_eq_true_eq] at h4
  refine T_aload_n (pc := 26) (i := 0) dX11_add_26 rfl rfl ?_
  refine T_lload_n (pc := 27) (i := 1) dX11_add_27 rfl rfl ?_
  refine T_lload_n (pc := 28) (i := 3) dX11_add_28 rfl rfl ?_
  have hok : addOk (lN (cd l)) (lN (cd q)) := ⟨hA, hB, by rw [el]; exact h3, by rw [eq]; exact h4.2⟩
  rw [if_pos (addB_iff.mpr hok), el, eq]
  refine R_callVX (pc := 29) (As := [.long (lN (cd l)), .long (lN (cd q))]) (rest := []) (Or.inl lk_X11_226) mk_X11_addRule (c_addRule hX hU (y := (l, q)) ⟨hl.2, h3.1, h3.2, hq.2, h4.2⟩) kc_0 ⟨by decide, rfl⟩ lc_0 dX11_add_29 rfl rfl (Nat.le_of_ble_eq_true rfl) (by decide) rfl (by decide) (by decide) (fun E h => ?_) (fun h m hP => ?_)
  · rw [h]
    exact ⟨rfl, rfl⟩
  · rw [h]
    exact T_iret (pc := 32) (ty := .int) dX11_add_32 rfl rfl (by decide) (by decide) ⟨m, rfl, rfl, hP⟩
end AD2

