/-! how many bits are set -/
def bq1 (v : Int32) : Int32 := v - (iushr v (nI 1) &&& nI 1431655765)
def bq2 (v : Int32) : Int32 := (v &&& nI 858993459) + (iushr v (nI 2) &&& nI 858993459)
def bq3 (v : Int32) : Int32 := (v + iushr v (nI 4)) &&& nI 252645135
def bq4 (v : Int32) : Int32 := v + iushr v (nI 8)
def bq5 (v : Int32) : Int32 := v + iushr v (nI 16)
def bqI (v : Int32) : Int32 := bq5 (bq4 (bq3 (bq2 (bq1 v)))) &&& nI 63
/-- how many of the lowest f bits are set -/
def pcn (n : Nat) : Nat → Nat
  | 0 => 0
  | f + 1 => pcn n f + n / 2 ^ f % 2
theorem bq_64 : ∀ a, a < 64 → ∀ b, b < 64 → bqI (nI (64 * a + b)) = nI (pcn (64 * a + b) 12) := by decide +kernel
theorem bq_all (n : Nat) (h : n < 4096) : bqI (nI n) = nI (pcn n 12) := by
  have h1 := bq_64 (n / 64) (by omega) (n % 64) (by omega)
  rw [Nat.div_add_mod] at h1
  exact h1
section BQ
variable {γ : Ga} {μ : SM2}
theorem c_bitCount {n : Nat} (h : n < 4096) : Ex γ 1 0 0 M_J6_bitCount_0f7a4 [.int (nI n)] (rm μ) (Fn (some (.int (nI (pcn n 12)))) μ) := by
  rw [← bq_all n h]
  refine Ex.of (by decide +kernel) rfl (Nat.le_of_ble_eq_true rfl) ?_
  show T _ _ _ _ _ _ _ _ _ [some (.int ((nI n)))] [] (rm μ)
  refine T_iload_n (pc := 0) (i := 0) dJ6_bitCount_0f7a4_0 rfl rfl ?_
  refine T_iload_n (pc := 1) (i := 0) dJ6_bitCount_0f7a4_1 rfl rfl ?_
  refine T_iconst (pc := 2) (v := nI 1) dJ6_bitCount_0f7a4_2 (by decide) ?_
  refine T_iushr (pc := 3) dJ6_bitCount_0f7a4_3 ?_
  refine T_ldcw (pc := 4) dJ6_bitCount_0f7a4_4 cn_J6_265 ?_
  refine T_topi (v := nI 1431655765) (fa_lit _) ?_
  refine T_iand (pc := 7) dJ6_bitCount_0f7a4_7 ?_
  refine T_isub (pc := 8) dJ6_bitCount_0f7a4_8 ?_
  refine T_istore_n (pc := 9) (i := 0) (ls' := [some (.int ((((nI n)) - ((((iushr ((nI n)) (nI 1))) &&& (nI 1431655765))))))]) dJ6_bitCount_0f7a4_9 rfl (by decide) rfl ?_
  refine T_iload_n (pc := 10) (i := 0) dJ6_bitCount_0f7a4_10 rfl rfl ?_
  refine T_ldcw (pc := 11) dJ6_bitCount_0f7a4_11 cn_J6_266 ?_
  refine T_topi (v := nI 858993459) (fa_lit _) ?_
  refine T_iand (pc := 14) dJ6_bitCount_0f7a4_14 ?_
  refine T_iload_n (pc := 15) (i := 0) dJ6_bitCount_0f7a4_15 rfl rfl ?_
  refine T_iconst (pc := 16) (v := nI 2) dJ6_bitCount_0f7a4_16 (by decide) ?_
  refine T_iushr (pc := 17) dJ6_bitCount_0f7a4_17 ?_
  refine T_ldcw (pc := 18) dJ6_bitCount_0f7a4_18 cn_J6_266 ?_
  refine T_topi (v := nI 858993459) (fa_lit _) ?_
  refine T_iand (pc := 21) dJ6_bitCount_0f7a4_21 ?_
  refine T_iadd (pc := 22) dJ6_bitCount_0f7a4_22 ?_
  refine T_istore_n (pc := 23) (i := 0) (ls' := [some (.int ((((((bq1 (nI n))) &&& (nI 858993459))) + ((((iushr ((bq1 (nI n))) (nI 2))) &&& (nI 858993459))))))]) dJ6_bitCount_0f7a4_23 rfl (by decide) rfl ?_
  refine T_iload_n (pc := 24) (i := 0) dJ6_bitCount_0f7a4_24 rfl rfl ?_
  refine T_iload_n (pc := 25) (i := 0) dJ6_bitCount_0f7a4_25 rfl rfl ?_
  refine T_iconst (pc := 26) (v := nI 4) dJ6_bitCount_0f7a4_26 (by decide) ?_
  refine T_iushr (pc := 27) dJ6_bitCount_0f7a4_27 ?_
  refine T_iadd (pc := 28) dJ6_bitCount_0f7a4_28 ?_
  refine T_ldcw (pc := 29) dJ6_bitCount_0f7a4_29 cn_J6_267 ?_
  refine T_topi (v := nI 252645135) (fa_lit _) ?_
  refine T_iand (pc := 32) dJ6_bitCount_0f7a4_32 ?_
  refine T_istore_n (pc := 33) (i := 0) (ls' := [some (.int ((((((bq2 (bq1 (nI n)))) + ((iushr ((bq2 (bq1 (nI n)))) (nI 4))))) &&& (nI 252645135))))]) dJ6_bitCount_0f7a4_33 rfl (by decide) rfl ?_
  refine T_iload_n (pc := 34) (i := 0) dJ6_bitCount_0f7a4_34 rfl rfl ?_
  refine T_iload_n (pc := 35) (i := 0) dJ6_bitCount_0f7a4_35 rfl rfl ?_
  refine T_bipush (pc := 36) (v := nI 8) dJ6_bitCount_0f7a4_36 (by decide) ?_
  refine T_iushr (pc := 38) dJ6_bitCount_0f7a4_38 ?_
  refine T_iadd (pc := 39) dJ6_bitCount_0f7a4_39 ?_
  refine T_istore_n (pc := 40) (i := 0) (ls' := [some (.int ((((bq3 (bq2 (bq1 (nI n))))) + ((iushr ((bq3 (bq2 (bq1 (nI n))))) (nI 8))))))]) dJ6_bitCount_0f7a4_40 rfl (by decide) rfl ?_
  refine T_iload_n (pc := 41) (i := 0) dJ6_bitCount_0f7a4_41 rfl rfl ?_
  refine T_iload_n (pc := 42) (i := 0) dJ6_bitCount_0f7a4_42 rfl rfl ?_
  refine T_bipush (pc := 43) (v := nI 16) dJ6_bitCount_0f7a4_43 (by decide) ?_
  refine T_iushr (pc := 45) dJ6_bitCount_0f7a4_45 ?_
  refine T_iadd (pc := 46) dJ6_bitCount_0f7a4_46 ?_
  refine T_istore_n (pc := 47) (i := 0) (ls' := [some (.int ((((bq4 (bq3 (bq2 (bq1 (nI n)))))) + ((iushr ((bq4 (bq3 (bq2 (bq1 (nI n)))))) (nI 16))))))]) dJ6_bitCount_0f7a4_47 rfl (by decide) rfl ?_
  refine T_iload_n (pc := 48) (i := 0) dJ6_bitCount_0f7a4_48 rfl rfl ?_
  refine T_bipush (pc := 49) (v := nI 63) dJ6_bitCount_0f7a4_49 (by decide) ?_
  refine T_iand (pc := 51) dJ6_bitCount_0f7a4_51 ?_
  exact T_iret (pc := 52) (ty := .int) dJ6_bitCount_0f7a4_52 rfl rfl (Nat.le_refl _) (Nat.le_refl _) ⟨rfl, rfl⟩
end BQ

