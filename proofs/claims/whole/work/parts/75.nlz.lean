/-! how many zeros lead -/
theorem iush_n {k s : Nat} (hk : k < 2 ^ 32) (hs : s < 32) : iushr (nI k) (nI s) = nI (k / 2 ^ s) := by
  have hs2 : k >>> s ≤ k := by
    rw [Nat.shiftRight_eq_div_pow]
    exact Nat.div_le_self _ _
  have e3 : UInt32.ofNat k >>> (UInt32.ofNat s &&& Int32.toUInt32 31) = UInt32.ofNat (k >>> s) := by
    apply UInt32.toNat_inj.1
    have h1 : (UInt32.ofNat k).toNat = k := Nat.mod_eq_of_lt (by omega)
    have h2 : (UInt32.ofNat (k >>> s)).toNat = k >>> s := Nat.mod_eq_of_lt (by omega)
    rw [UInt32.toNat_shiftRight, nx_cnt ⟨s, hs⟩, h1, h2]
  show (UInt32.ofNat k >>> (UInt32.ofNat s &&& Int32.toUInt32 31)).toInt32 = _
  rw [e3, Nat.shiftRight_eq_div_pow]
  rfl
theorem nI_m {a k : Nat} (h : k ≤ a) : nI a + -(nI k) = nI (a - k) := by
  rw [← ofI_n, ← ofI_n, ← ofI_n, ← Int32.ofInt_neg, ← Int32.ofInt_add]
  congr 1
  omega
theorem pw_lt {k e i : Nat} (h1 : 2 ^ k ≤ i) (h2 : i < 2 ^ e) : k < e := (Nat.pow_lt_pow_iff_right (by decide)).mp (Nat.lt_of_le_of_lt h1 h2)
theorem pw_div {k e i : Nat} (h : 2 ^ k ≤ i ∧ i < 2 ^ (k + 1)) (he : e ≤ k) : 2 ^ (k - e) ≤ i / 2 ^ e ∧ i / 2 ^ e < 2 ^ (k - e + 1) := by
  have hp : 0 < 2 ^ e := Nat.two_pow_pos e
  refine ⟨(Nat.le_div_iff_mul_le hp).mpr ?_, (Nat.div_lt_iff_lt_mul hp).mpr ?_⟩
  · rw [← Nat.pow_add, show k - e + e = k by omega]
    exact h.1
  · rw [← Nat.pow_add, show k - e + 1 + e = k + 1 by omega]
    exact h.2
section NZ
variable {γ : Ga} {μ : SM2}
theorem c_nlz32 {n k : Nat} (h : 2 ^ k ≤ n ∧ n < 2 ^ (k + 1)) (hk : k < 32) : Ex γ 1 0 0 M_J6_numberOfLeadingZeros_0f7a4 [.int (nI n)] (rm μ) (Fn (some (.int (nI (31 - k)))) μ) := by
  have hn32 : n < 2 ^ 32 := Nat.lt_of_lt_of_le h.2 (Nat.pow_le_pow_right (by decide) hk)
  have g1 : ∀ a i k' : Nat, 2 ^ k' ≤ i ∧ i < 2 ^ (k' + 1) → k' < 2 → k' ≤ a → a < 32 → T γ 1 0 0 M_J6_numberOfLeadingZeros_0f7a4 (Fn (some (.int (nI (a - k')))) μ) 0 0 73 [some (.int (nI i)), some (.int (nI a))] [] (rm μ) := fun a i k' hi hk' ha ha2 => by
    have hv : i / 2 ^ 1 = k' := by
      have hc : k' = 0 ∨ k' = 1 := by omega
      rcases hc with rfl | rfl
      · have h1 := hi.1
        have h2 := hi.2
        omega
      · have h1 := hi.1
        have h2 := hi.2
        omega
    have hi4 : i < 4 := Nat.lt_of_lt_of_le hi.2 (Nat.pow_le_pow_right (n := 2) (by decide) (show k' + 1 ≤ 2 by omega))
    refine T_iload_n (pc := 73) (i := 1) dJ6_numberOfLeadingZeros_0f7a4_73 rfl rfl ?_
    refine T_iload_n (pc := 74) (i := 0) dJ6_numberOfLeadingZeros_0f7a4_74 rfl rfl ?_
    refine T_iconst (pc := 75) (v := nI 1) dJ6_numberOfLeadingZeros_0f7a4_75 (by decide) ?_
    refine T_iushr (pc := 76) dJ6_numberOfLeadingZeros_0f7a4_76 ?_
    refine T_topi (v := nI (i / 2 ^ 1)) (iush_n (by omega) (by decide)) ?_
    rw [hv]
    refine R_isub (pc := 77) (by omega) dJ6_numberOfLeadingZeros_0f7a4_77 ?_
    exact T_iret (pc := 78) (ty := .int) dJ6_numberOfLeadingZeros_0f7a4_78 rfl rfl (Nat.le_refl _) (Nat.le_refl _) ⟨rfl, rfl⟩
  have g2 : ∀ a i k' : Nat, 2 ^ k' ≤ i ∧ i < 2 ^ (k' + 1) → k' < 4 → k' ≤ a → a < 32 → T γ 1 0 0 M_J6_numberOfLeadingZeros_0f7a4 (Fn (some (.int (nI (a - k')))) μ) 0 0 61 [some (.int (nI i)), some (.int (nI a))] [] (rm μ) := fun a i k' hi hk' ha ha2 => by
    have hi31 : i < 2 ^ 31 := by
      have := Nat.pow_le_pow_right (n := 2) (by decide) (show k' + 1 ≤ 4 by omega)
      have := hi.2
      omega
    refine T_iload_n (pc := 61) (i := 0) dJ6_numberOfLeadingZeros_0f7a4_61 rfl rfl ?_
    refine T_iconst (pc := 62) (v := nI 4) dJ6_numberOfLeadingZeros_0f7a4_62 (by decide) ?_
    refine R_icmp_lt (pc := 63) (tgt := 73) (by omega) (by omega) dJ6_numberOfLeadingZeros_0f7a4_63 (by decide) (fun h1 => ?_) (fun h1 => ?_)
    · skip
      exact g1 a i k' hi (pw_lt hi.1 h1) ha ha2
    · skip
      have hge : 2 ≤ k' := Nat.le_of_lt_succ (pw_lt (k := 2) (Nat.le_trans (by omega) (Nat.le_refl i)) hi.2)
      have hd := pw_div hi hge
      refine T_iinc (pc := 66) (i := 1) (v := (nI a + (-2))) (ls' := [some (.int (nI i)), some (.int ((nI a + (-2))))]) dJ6_numberOfLeadingZeros_0f7a4_66 rfl rfl rfl ?_
      refine T_iload_n (pc := 69) (i := 0) dJ6_numberOfLeadingZeros_0f7a4_69 rfl rfl ?_
      refine T_iconst (pc := 70) (v := nI 2) dJ6_numberOfLeadingZeros_0f7a4_70 (by decide) ?_
      refine T_iushr (pc := 71) dJ6_numberOfLeadingZeros_0f7a4_71 ?_
      refine T_topi (v := nI (i / 2 ^ 2)) (iush_n (by omega) (by decide)) ?_
      refine T_istore_n (pc := 72) (i := 0) (ls' := [some (.int (nI (i / 2 ^ 2))), some (.int ((nI a + (-2))))]) dJ6_numberOfLeadingZeros_0f7a4_72 rfl (by decide) rfl ?_
      have e : nI a + (-2) = nI (a - 2) := nI_m (k := 2) (by omega)
      rw [e]
      have r := g1 (a - 2) (i / 2 ^ 2) (k' - 2) hd (by omega) (by omega) (by omega)
      rw [show a - 2 - (k' - 2) = a - k' by omega] at r
      exact r
  have g3 : ∀ a i k' : Nat, 2 ^ k' ≤ i ∧ i < 2 ^ (k' + 1) → k' < 8 → k' ≤ a → a < 32 → T γ 1 0 0 M_J6_numberOfLeadingZeros_0f7a4 (Fn (some (.int (nI (a - k')))) μ) 0 0 48 [some (.int (nI i)), some (.int (nI a))] [] (rm μ) := fun a i k' hi hk' ha ha2 => by
    have hi31 : i < 2 ^ 31 := by
      have := Nat.pow_le_pow_right (n := 2) (by decide) (show k' + 1 ≤ 8 by omega)
      have := hi.2
      omega
    refine T_iload_n (pc := 48) (i := 0) dJ6_numberOfLeadingZeros_0f7a4_48 rfl rfl ?_
    refine T_bipush (pc := 49) (v := nI 16) dJ6_numberOfLeadingZeros_0f7a4_49 (by decide) ?_
    refine R_icmp_lt (pc := 51) (tgt := 61) (by omega) (by omega) dJ6_numberOfLeadingZeros_0f7a4_51 (by decide) (fun h1 => ?_) (fun h1 => ?_)
    · skip
      exact g2 a i k' hi (pw_lt hi.1 h1) ha ha2
    · skip
      have hge : 4 ≤ k' := Nat.le_of_lt_succ (pw_lt (k := 4) (Nat.le_trans (by omega) (Nat.le_refl i)) hi.2)
      have hd := pw_div hi hge
      refine T_iinc (pc := 54) (i := 1) (v := (nI a + (-4))) (ls' := [some (.int (nI i)), some (.int ((nI a + (-4))))]) dJ6_numberOfLeadingZeros_0f7a4_54 rfl rfl rfl ?_
      refine T_iload_n (pc := 57) (i := 0) dJ6_numberOfLeadingZeros_0f7a4_57 rfl rfl ?_
      refine T_iconst (pc := 58) (v := nI 4) dJ6_numberOfLeadingZeros_0f7a4_58 (by decide) ?_
      refine T_iushr (pc := 59) dJ6_numberOfLeadingZeros_0f7a4_59 ?_
      refine T_topi (v := nI (i / 2 ^ 4)) (iush_n (by omega) (by decide)) ?_
      refine T_istore_n (pc := 60) (i := 0) (ls' := [some (.int (nI (i / 2 ^ 4))), some (.int ((nI a + (-4))))]) dJ6_numberOfLeadingZeros_0f7a4_60 rfl (by decide) rfl ?_
      have e : nI a + (-4) = nI (a - 4) := nI_m (k := 4) (by omega)
      rw [e]
      have r := g2 (a - 4) (i / 2 ^ 4) (k' - 4) hd (by omega) (by omega) (by omega)
      rw [show a - 4 - (k' - 4) = a - k' by omega] at r
      exact r
  have g4 : ∀ a i k' : Nat, 2 ^ k' ≤ i ∧ i < 2 ^ (k' + 1) → k' < 16 → k' ≤ a → a < 32 → T γ 1 0 0 M_J6_numberOfLeadingZeros_0f7a4 (Fn (some (.int (nI (a - k')))) μ) 0 0 33 [some (.int (nI i)), some (.int (nI a))] [] (rm μ) := fun a i k' hi hk' ha ha2 => by
    have hi31 : i < 2 ^ 31 := by
      have := Nat.pow_le_pow_right (n := 2) (by decide) (show k' + 1 ≤ 16 by omega)
      have := hi.2
      omega
    refine T_iload_n (pc := 33) (i := 0) dJ6_numberOfLeadingZeros_0f7a4_33 rfl rfl ?_
    refine T_sipush (pc := 34) (v := nI 256) dJ6_numberOfLeadingZeros_0f7a4_34 (by decide) ?_
    refine R_icmp_lt (pc := 37) (tgt := 48) (by omega) (by omega) dJ6_numberOfLeadingZeros_0f7a4_37 (by decide) (fun h1 => ?_) (fun h1 => ?_)
    · skip
      exact g3 a i k' hi (pw_lt hi.1 h1) ha ha2
    · skip
      have hge : 8 ≤ k' := Nat.le_of_lt_succ (pw_lt (k := 8) (Nat.le_trans (by omega) (Nat.le_refl i)) hi.2)
      have hd := pw_div hi hge
      refine T_iinc (pc := 40) (i := 1) (v := (nI a + (-8))) (ls' := [some (.int (nI i)), some (.int ((nI a + (-8))))]) dJ6_numberOfLeadingZeros_0f7a4_40 rfl rfl rfl ?_
      refine T_iload_n (pc := 43) (i := 0) dJ6_numberOfLeadingZeros_0f7a4_43 rfl rfl ?_
      refine T_bipush (pc := 44) (v := nI 8) dJ6_numberOfLeadingZeros_0f7a4_44 (by decide) ?_
      refine T_iushr (pc := 46) dJ6_numberOfLeadingZeros_0f7a4_46 ?_
      refine T_topi (v := nI (i / 2 ^ 8)) (iush_n (by omega) (by decide)) ?_
      refine T_istore_n (pc := 47) (i := 0) (ls' := [some (.int (nI (i / 2 ^ 8))), some (.int ((nI a + (-8))))]) dJ6_numberOfLeadingZeros_0f7a4_47 rfl (by decide) rfl ?_
      have e : nI a + (-8) = nI (a - 8) := nI_m (k := 8) (by omega)
      rw [e]
      have r := g3 (a - 8) (i / 2 ^ 8) (k' - 8) hd (by omega) (by omega) (by omega)
      rw [show a - 8 - (k' - 8) = a - k' by omega] at r
      exact r
  have g5 : ∀ a i k' : Nat, 2 ^ k' ≤ i ∧ i < 2 ^ (k' + 1) → k' < 31 → k' ≤ a → a < 32 → T γ 1 0 0 M_J6_numberOfLeadingZeros_0f7a4 (Fn (some (.int (nI (a - k')))) μ) 0 0 18 [some (.int (nI i)), some (.int (nI a))] [] (rm μ) := fun a i k' hi hk' ha ha2 => by
    have hi31 : i < 2 ^ 31 := by
      have := Nat.pow_le_pow_right (n := 2) (by decide) (show k' + 1 ≤ 31 by omega)
      have := hi.2
      omega
    refine T_iload_n (pc := 18) (i := 0) dJ6_numberOfLeadingZeros_0f7a4_18 rfl rfl ?_
    refine T_ldcw (pc := 19) dJ6_numberOfLeadingZeros_0f7a4_19 cn_J6_264 ?_
    refine T_topi (v := nI 65536) (fa_lit _) ?_
    refine T_topi (v := nI 65536) (rfl) ?_
    refine R_icmp_lt (pc := 22) (tgt := 33) (by omega) (by omega) dJ6_numberOfLeadingZeros_0f7a4_22 (by decide) (fun h1 => ?_) (fun h1 => ?_)
    · skip
      exact g4 a i k' hi (pw_lt hi.1 h1) ha ha2
    · skip
      have hge : 16 ≤ k' := Nat.le_of_lt_succ (pw_lt (k := 16) (Nat.le_trans (by omega) (Nat.le_refl i)) hi.2)
      have hd := pw_div hi hge
      refine T_iinc (pc := 25) (i := 1) (v := (nI a + (-16))) (ls' := [some (.int (nI i)), some (.int ((nI a + (-16))))]) dJ6_numberOfLeadingZeros_0f7a4_25 rfl rfl rfl ?_
      refine T_iload_n (pc := 28) (i := 0) dJ6_numberOfLeadingZeros_0f7a4_28 rfl rfl ?_
      refine T_bipush (pc := 29) (v := nI 16) dJ6_numberOfLeadingZeros_0f7a4_29 (by decide) ?_
      refine T_iushr (pc := 31) dJ6_numberOfLeadingZeros_0f7a4_31 ?_
      refine T_topi (v := nI (i / 2 ^ 16)) (iush_n (by omega) (by decide)) ?_
      refine T_istore_n (pc := 32) (i := 0) (ls' := [some (.int (nI (i / 2 ^ 16))), some (.int ((nI a + (-16))))]) dJ6_numberOfLeadingZeros_0f7a4_32 rfl (by decide) rfl ?_
      have e : nI a + (-16) = nI (a - 16) := nI_m (k := 16) (by omega)
      rw [e]
      have r := g4 (a - 16) (i / 2 ^ 16) (k' - 16) hd (by omega) (by omega) (by omega)
      rw [show a - 16 - (k' - 16) = a - k' by omega] at r
      exact r
  by_cases hk31 : k < 31
  · have hn31 : n < 2 ^ 31 := by
      have := Nat.pow_le_pow_right (n := 2) (by decide) (show k + 1 ≤ 31 by omega)
      have := h.2
      omega
    have hn0 : 0 < n := Nat.lt_of_lt_of_le (Nat.two_pow_pos k) h.1
    refine Ex.of (by decide +kernel) rfl (Nat.le_of_ble_eq_true rfl) ?_
    show T _ _ _ _ _ _ _ _ _ [some (.int (nI n)), none] [] (rm μ)
    refine T_iload_n (pc := 0) (i := 0) dJ6_numberOfLeadingZeros_0f7a4_0 rfl rfl ?_
    refine R_if_gt (pc := 1) (tgt := 15) (by omega) dJ6_numberOfLeadingZeros_0f7a4_1 (by decide) (fun h1 => ?_) (fun h1 => ?_)
    · skip
      refine T_bipush (pc := 15) (v := nI 31) dJ6_numberOfLeadingZeros_0f7a4_15 (by decide) ?_
      refine T_istore_n (pc := 17) (i := 1) (ls' := [some (.int (nI n)), some (.int (nI 31))]) dJ6_numberOfLeadingZeros_0f7a4_17 rfl (by decide) rfl ?_
      exact g5 31 n k h hk31 (by omega) (by decide)
    · exact absurd h1 (by omega)
  · have e : k = 31 := by omega
    subst e
    have hi := h.1
    have hneg : (nI n).toInt < 0 := by
      have e1 : (nI n).toInt = (n : Int) - 4294967296 := by
        show (Int32.ofNat n).toInt = _
        rw [Int32.toInt_ofNat']
        show Int.bmod (n : Int) 4294967296 = _
        rw [Int.bmod_def]
        omega
      omega
    refine Ex.of (by decide +kernel) rfl (Nat.le_of_ble_eq_true rfl) ?_
    show T _ _ _ _ _ _ _ _ _ [some (.int ((nI n))), none] [] (rm μ)
    refine T_iload_n (pc := 0) (i := 0) dJ6_numberOfLeadingZeros_0f7a4_0 rfl rfl ?_
    refine T_if_gt (pc := 1) (tgt := 15) dJ6_numberOfLeadingZeros_0f7a4_1 (by decide) (fun h1 => ?_) (fun h1 => ?_)
    · rw [fa_lt] at h1
      have e0 : (0 : Int32).toInt = 0 := rfl
      omega
    · skip
      refine T_iload_n (pc := 4) (i := 0) dJ6_numberOfLeadingZeros_0f7a4_4 rfl rfl ?_
      refine T_if_ne (pc := 5) (tgt := 13) dJ6_numberOfLeadingZeros_0f7a4_5 (by decide) (fun h2 => ?_) (fun h2 => ?_)
      · skip
        refine T_iconst (pc := 13) (v := nI 0) dJ6_numberOfLeadingZeros_0f7a4_13 (by decide) ?_
        exact T_iret (pc := 14) (ty := .int) dJ6_numberOfLeadingZeros_0f7a4_14 rfl rfl (Nat.le_refl _) (Nat.le_refl _) ⟨rfl, rfl⟩
      · have h2' : nI n = 0 := by simpa using h2
        rw [h2'] at hneg
        exact absurd hneg (by decide)
theorem c_nlz64 {c k : Nat} (h : 2 ^ k ≤ c ∧ c < 2 ^ (k + 1)) (hk : k < 63) : Ex γ 2 0 0 M_J13_numberOfLeadingZeros_95d88 [.long (lN c)] (rm μ) (Fn (some (.int (nI (63 - k)))) μ) := by
  have hc63 : c < 2 ^ 63 := Nat.lt_of_lt_of_le h.2 (Nat.pow_le_pow_right (by decide) (by omega))
  refine Ex.of (by decide +kernel) rfl (Nat.le_of_ble_eq_true rfl) ?_
  show T _ _ _ _ _ _ _ _ _ [some (.long (lN c)), none, none] [] (rm μ)
  refine T_lload_n (pc := 0) (i := 0) dJ13_numberOfLeadingZeros_95d88_0 rfl rfl ?_
  refine T_bipush (pc := 1) (v := nI 32) dJ13_numberOfLeadingZeros_95d88_1 (by decide) ?_
  refine R_lushr (pc := 3) (by omega) dJ13_numberOfLeadingZeros_95d88_3 ?_
  refine R_l2i (pc := 4) dJ13_numberOfLeadingZeros_95d88_4 ?_
  refine T_istore_n (pc := 5) (i := 2) (ls' := [some (.long (lN c)), none, some (.int (nI (c / 2 ^ 32)))]) dJ13_numberOfLeadingZeros_95d88_5 rfl (by decide) rfl ?_
  refine T_iload_n (pc := 6) (i := 2) dJ13_numberOfLeadingZeros_95d88_6 rfl rfl ?_
  refine R_if_ne (pc := 7) (tgt := 21) (by omega) dJ13_numberOfLeadingZeros_95d88_7 (by decide) (fun h1 => ?_) (fun h1 => ?_)
  · skip
    have hge : 32 ≤ k := Nat.le_of_lt_succ (pw_lt (k := 32) (show 2 ^ 32 ≤ c by omega) h.2)
    have hd := pw_div h hge
    refine T_iload_n (pc := 21) (i := 2) dJ13_numberOfLeadingZeros_95d88_21 rfl rfl ?_
    refine R_callS1 (pc := 22) (av := [.int (nI (c / 2 ^ 32))]) (rest := []) (Or.inl lk_J13_308) mk_J6_numberOfLeadingZeros_0f7a4 (c_nlz32 hd (by omega)) dJ13_numberOfLeadingZeros_95d88_22 rfl rfl (Nat.le_of_ble_eq_true rfl) (by decide) rfl (Nat.le_refl _) (Nat.le_refl _) ?_
    rw [show 63 - k = 31 - (k - 32) by omega]
    exact T_iret (pc := 25) (ty := .int) dJ13_numberOfLeadingZeros_95d88_25 rfl rfl (Nat.le_refl _) (Nat.le_refl _) ⟨rfl, rfl⟩
  · skip
    have hlt : k < 32 := pw_lt h.1 (show c < 2 ^ 32 by omega)
    refine T_bipush (pc := 10) (v := nI 32) dJ13_numberOfLeadingZeros_95d88_10 (by decide) ?_
    refine T_lload_n (pc := 12) (i := 0) dJ13_numberOfLeadingZeros_95d88_12 rfl rfl ?_
    refine R_l2i (pc := 13) dJ13_numberOfLeadingZeros_95d88_13 ?_
    refine R_callS1 (pc := 14) (av := [.int (nI c)]) (rest := [.int (nI 32)]) (Or.inl lk_J13_308) mk_J6_numberOfLeadingZeros_0f7a4 (c_nlz32 h hlt) dJ13_numberOfLeadingZeros_95d88_14 rfl rfl (Nat.le_of_ble_eq_true rfl) (by decide) rfl (Nat.le_refl _) (Nat.le_refl _) ?_
    refine R_iadd (pc := 17) dJ13_numberOfLeadingZeros_95d88_17 ?_
    refine T_goto (pc := 18) (tgt := 25) dJ13_numberOfLeadingZeros_95d88_18 (by decide) ?_
    rw [show 63 - k = 32 + (31 - k) by omega]
    exact T_iret (pc := 25) (ty := .int) dJ13_numberOfLeadingZeros_95d88_25 rfl rfl (Nat.le_refl _) (Nat.le_refl _) ⟨rfl, rfl⟩
end NZ

