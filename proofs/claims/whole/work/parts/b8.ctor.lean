/-! the constructors -/
theorem new_iz {μ : SMem} {n : Nat} (h : μ.1 = n) : (mNew μ).2.2.1 n = zi := by
  rw [← h]
  exact zr_eq
theorem new_rz {μ : SMem} {n : Nat} (h : μ.1 = n) : (mNew μ).2.1 n = z0 := by
  rw [← h]
  exact zr_eq
theorem Bd.fil {k a n c : Nat} {row arow : Nat → Nat} {irow : Nat → Int32} {S μ : SMem} {I9 : Nat → Nat → Int32} (b : Bd k a n row arow irow S μ) (f : ∀ i, i ≠ c → I9 i = μ.2.2.1 i) (hc : k < c) : Bd k a n row arow irow S (μ.1, μ.2.1, I9, μ.2.2.2) := by
  obtain ⟨⟨h1, h2⟩, h3, ⟨h4, h5⟩, h6, h7, h8⟩ := b
  exact ⟨⟨h1, h2⟩, fun i hi => ⟨(h3 i hi).1, (f i (by omega)).trans (h3 i hi).2⟩, ⟨h4, (f k (by omega)).trans h5⟩, h6, h7, h8⟩
set_option maxRecDepth 10000 in
theorem oi_X6_3 : (Cond.methodLink RX6 3 Lib.objectInit ∈ tbw ∧ Cond.instanceMethod Lib.objectInit ∈ tbw) ∧ Cond.code Lib.objectInit ⟨#[0xb1]⟩ 1 none ∈ tbw := ⟨⟨in_tb (in_t1 (List.mem_of_getElem? (i := 85) rfl)) rfl, in_tb (in_t1 (List.mem_of_getElem? (i := 38) rfl)) rfl⟩, in_tb (in_t1 (List.mem_of_getElem? (i := 39) rfl)) rfl⟩
set_option maxRecDepth 10000 in
theorem ac_long : Cond.arrayClass .long ∈ tbw := in_tb (in_t1 (List.mem_of_getElem? (i := 120) rfl)) rfl
set_option maxRecDepth 10000 in
theorem ac_int : Cond.arrayClass .int ∈ tbw := in_tb (in_t1 (List.mem_of_getElem? (i := 73) rfl)) rfl
set_option maxRecDepth 10000 in
theorem oi_X1_3 : (Cond.methodLink RX1 3 Lib.objectInit ∈ tbw ∧ Cond.instanceMethod Lib.objectInit ∈ tbw) ∧ Cond.code Lib.objectInit ⟨#[0xb1]⟩ 1 none ∈ tbw := ⟨⟨in_tb (in_t1 (List.mem_of_getElem? (i := 127) rfl)) rfl, in_tb (in_t1 (List.mem_of_getElem? (i := 38) rfl)) rfl⟩, in_tb (in_t1 (List.mem_of_getElem? (i := 39) rfl)) rfl⟩
set_option maxRecDepth 10000 in
theorem oi_X5_5 : (Cond.methodLink RX5 5 Lib.objectInit ∈ tbw ∧ Cond.instanceMethod Lib.objectInit ∈ tbw) ∧ Cond.code Lib.objectInit ⟨#[0xb1]⟩ 1 none ∈ tbw := ⟨⟨in_tb (in_t1 (List.mem_of_getElem? (i := 213) rfl)) rfl, in_tb (in_t1 (List.mem_of_getElem? (i := 38) rfl)) rfl⟩, in_tb (in_t1 (List.mem_of_getElem? (i := 39) rfl)) rfl⟩
set_option maxRecDepth 10000 in
theorem oi_X4_5 : (Cond.methodLink RX4 5 Lib.objectInit ∈ tbw ∧ Cond.instanceMethod Lib.objectInit ∈ tbw) ∧ Cond.code Lib.objectInit ⟨#[0xb1]⟩ 1 none ∈ tbw := ⟨⟨in_tb (in_t2 (List.mem_of_getElem? (i := 49) rfl)) rfl, in_tb (in_t1 (List.mem_of_getElem? (i := 38) rfl)) rfl⟩, in_tb (in_t1 (List.mem_of_getElem? (i := 39) rfl)) rfl⟩
set_option maxRecDepth 10000 in
theorem oi_X8_3 : (Cond.methodLink RX8 3 Lib.objectInit ∈ tbw ∧ Cond.instanceMethod Lib.objectInit ∈ tbw) ∧ Cond.code Lib.objectInit ⟨#[0xb1]⟩ 1 none ∈ tbw := ⟨⟨in_tb (in_t1 (List.mem_of_getElem? (i := 45) rfl)) rfl, in_tb (in_t1 (List.mem_of_getElem? (i := 38) rfl)) rfl⟩, in_tb (in_t1 (List.mem_of_getElem? (i := 39) rfl)) rfl⟩
set_option maxRecDepth 10000 in
theorem oi_X2_3 : (Cond.methodLink RX2 3 Lib.objectInit ∈ tbw ∧ Cond.instanceMethod Lib.objectInit ∈ tbw) ∧ Cond.code Lib.objectInit ⟨#[0xb1]⟩ 1 none ∈ tbw := ⟨⟨in_tb (in_t2 (List.mem_of_getElem? (i := 80) rfl)) rfl, in_tb (in_t1 (List.mem_of_getElem? (i := 38) rfl)) rfl⟩, in_tb (in_t1 (List.mem_of_getElem? (i := 39) rfl)) rfl⟩
set_option maxRecDepth 10000 in
theorem oi_X7_3 : (Cond.methodLink RX7 3 Lib.objectInit ∈ tbw ∧ Cond.instanceMethod Lib.objectInit ∈ tbw) ∧ Cond.code Lib.objectInit ⟨#[0xb1]⟩ 1 none ∈ tbw := ⟨⟨in_tb (in_t2 (List.mem_of_getElem? (i := 101) rfl)) rfl, in_tb (in_t1 (List.mem_of_getElem? (i := 38) rfl)) rfl⟩, in_tb (in_t1 (List.mem_of_getElem? (i := 39) rfl)) rfl⟩
set_option maxRecDepth 10000 in
theorem oi_X0_3 : (Cond.methodLink RX0 3 Lib.objectInit ∈ tbw ∧ Cond.instanceMethod Lib.objectInit ∈ tbw) ∧ Cond.code Lib.objectInit ⟨#[0xb1]⟩ 1 none ∈ tbw := ⟨⟨in_tb (in_t2 (List.mem_of_getElem? (i := 139) rfl)) rfl, in_tb (in_t1 (List.mem_of_getElem? (i := 38) rfl)) rfl⟩, in_tb (in_t1 (List.mem_of_getElem? (i := 39) rfl)) rfl⟩
set_option maxRecDepth 10000 in
theorem oi_X3_3 : (Cond.methodLink RX3 3 Lib.objectInit ∈ tbw ∧ Cond.instanceMethod Lib.objectInit ∈ tbw) ∧ Cond.code Lib.objectInit ⟨#[0xb1]⟩ 1 none ∈ tbw := ⟨⟨in_tb (in_t2 (List.mem_of_getElem? (i := 169) rfl)) rfl, in_tb (in_t1 (List.mem_of_getElem? (i := 38) rfl)) rfl⟩, in_tb (in_t1 (List.mem_of_getElem? (i := 39) rfl)) rfl⟩
set_option maxRecDepth 10000 in
theorem oi_X10_3 : (Cond.methodLink RX10 3 Lib.objectInit ∈ tbw ∧ Cond.instanceMethod Lib.objectInit ∈ tbw) ∧ Cond.code Lib.objectInit ⟨#[0xb1]⟩ 1 none ∈ tbw := ⟨⟨in_tb (in_t1 (List.mem_of_getElem? (i := 234) rfl)) rfl, in_tb (in_t1 (List.mem_of_getElem? (i := 38) rfl)) rfl⟩, in_tb (in_t1 (List.mem_of_getElem? (i := 39) rfl)) rfl⟩
set_option maxRecDepth 10000 in
theorem oi_X9_3 : (Cond.methodLink RX9 3 Lib.objectInit ∈ tbw ∧ Cond.instanceMethod Lib.objectInit ∈ tbw) ∧ Cond.code Lib.objectInit ⟨#[0xb1]⟩ 1 none ∈ tbw := ⟨⟨in_tb (in_t1 (List.mem_of_getElem? (i := 79) rfl)) rfl, in_tb (in_t1 (List.mem_of_getElem? (i := 38) rfl)) rfl⟩, in_tb (in_t1 (List.mem_of_getElem? (i := 39) rfl)) rfl⟩
set_option maxRecDepth 10000 in
theorem nw_X9_9 : (Cond.classLink RX9 9 (cl3 6).1 ∈ tbw ∧ Cond.instantiable (cl3 6).1 (cl3 6).2.2 ∈ tbw) ∧ Cond.initialized (cl3 6).1 ∈ tbw := ⟨⟨in_tb (in_t1 (List.mem_of_getElem? (i := 80) rfl)) rfl, in_tb (in_t1 (List.mem_of_getElem? (i := 81) rfl)) rfl⟩, in_tb (in_t1 (List.mem_of_getElem? (i := 4) rfl)) rfl⟩
set_option maxRecDepth 10000 in
theorem cl_X9_18 : Cond.classLink RX9 18 (cl3 1).1 ∈ tbw := in_tb (in_t1 (List.mem_of_getElem? (i := 121) rfl)) rfl
set_option maxRecDepth 10000 in
theorem nw_X9_18 : (Cond.classLink RX9 18 (cl3 1).1 ∈ tbw ∧ Cond.instantiable (cl3 1).1 (cl3 1).2.2 ∈ tbw) ∧ Cond.initialized (cl3 1).1 ∈ tbw := ⟨⟨in_tb (in_t1 (List.mem_of_getElem? (i := 121) rfl)) rfl, in_tb (in_t1 (List.mem_of_getElem? (i := 123) rfl)) rfl⟩, in_tb (in_t1 (List.mem_of_getElem? (i := 5) rfl)) rfl⟩
set_option maxRecDepth 10000 in
theorem oi_X11_1 : (Cond.methodLink RX11 1 Lib.objectInit ∈ tbw ∧ Cond.instanceMethod Lib.objectInit ∈ tbw) ∧ Cond.code Lib.objectInit ⟨#[0xb1]⟩ 1 none ∈ tbw := ⟨⟨in_tb (in_t1 (List.mem_of_getElem? (i := 37) rfl)) rfl, in_tb (in_t1 (List.mem_of_getElem? (i := 38) rfl)) rfl⟩, in_tb (in_t1 (List.mem_of_getElem? (i := 39) rfl)) rfl⟩
set_option maxRecDepth 10000 in
theorem nw_X11_7 : (Cond.classLink RX11 7 (cl3 8).1 ∈ tbw ∧ Cond.instantiable (cl3 8).1 (cl3 8).2.2 ∈ tbw) ∧ Cond.initialized (cl3 8).1 ∈ tbw := ⟨⟨in_tb (in_t1 (List.mem_of_getElem? (i := 40) rfl)) rfl, in_tb (in_t1 (List.mem_of_getElem? (i := 41) rfl)) rfl⟩, in_tb (in_t1 (List.mem_of_getElem? (i := 2) rfl)) rfl⟩
set_option maxRecDepth 10000 in
theorem nw_X11_16 : (Cond.classLink RX11 16 (cl3 9).1 ∈ tbw ∧ Cond.instantiable (cl3 9).1 (cl3 9).2.2 ∈ tbw) ∧ Cond.initialized (cl3 9).1 ∈ tbw := ⟨⟨in_tb (in_t1 (List.mem_of_getElem? (i := 74) rfl)) rfl, in_tb (in_t1 (List.mem_of_getElem? (i := 75) rfl)) rfl⟩, in_tb (in_t1 (List.mem_of_getElem? (i := 3) rfl)) rfl⟩
set_option maxRecDepth 10000 in
theorem nw_X11_26 : (Cond.classLink RX11 26 (cl3 5).1 ∈ tbw ∧ Cond.instantiable (cl3 5).1 (cl3 5).2.2 ∈ tbw) ∧ Cond.initialized (cl3 5).1 ∈ tbw := ⟨⟨in_tb (in_t1 (List.mem_of_getElem? (i := 208) rfl)) rfl, in_tb (in_t1 (List.mem_of_getElem? (i := 209) rfl)) rfl⟩, in_tb (in_t1 (List.mem_of_getElem? (i := 7) rfl)) rfl⟩
set_option maxRecDepth 10000 in
theorem cl_X11_16 : Cond.classLink RX11 16 (cl3 9).1 ∈ tbw := in_tb (in_t1 (List.mem_of_getElem? (i := 74) rfl)) rfl
set_option maxRecDepth 10000 in
theorem nw_X11_46 : (Cond.classLink RX11 46 (cl3 10).1 ∈ tbw ∧ Cond.instantiable (cl3 10).1 (cl3 10).2.2 ∈ tbw) ∧ Cond.initialized (cl3 10).1 ∈ tbw := ⟨⟨in_tb (in_t1 (List.mem_of_getElem? (i := 229) rfl)) rfl, in_tb (in_t1 (List.mem_of_getElem? (i := 230) rfl)) rfl⟩, in_tb (in_t1 (List.mem_of_getElem? (i := 8) rfl)) rfl⟩
set_option maxRecDepth 10000 in
theorem nw_X11_59 : (Cond.classLink RX11 59 (cl3 4).1 ∈ tbw ∧ Cond.instantiable (cl3 4).1 (cl3 4).2.2 ∈ tbw) ∧ Cond.initialized (cl3 4).1 ∈ tbw := ⟨⟨in_tb (in_t2 (List.mem_of_getElem? (i := 44) rfl)) rfl, in_tb (in_t2 (List.mem_of_getElem? (i := 45) rfl)) rfl⟩, in_tb (in_t1 (List.mem_of_getElem? (i := 9) rfl)) rfl⟩
set_option maxRecDepth 10000 in
theorem nw_X11_69 : (Cond.classLink RX11 69 (cl3 2).1 ∈ tbw ∧ Cond.instantiable (cl3 2).1 (cl3 2).2.2 ∈ tbw) ∧ Cond.initialized (cl3 2).1 ∈ tbw := ⟨⟨in_tb (in_t2 (List.mem_of_getElem? (i := 75) rfl)) rfl, in_tb (in_t2 (List.mem_of_getElem? (i := 76) rfl)) rfl⟩, in_tb (in_t1 (List.mem_of_getElem? (i := 10) rfl)) rfl⟩
set_option maxRecDepth 10000 in
theorem nw_X11_76 : (Cond.classLink RX11 76 (cl3 7).1 ∈ tbw ∧ Cond.instantiable (cl3 7).1 (cl3 7).2.2 ∈ tbw) ∧ Cond.initialized (cl3 7).1 ∈ tbw := ⟨⟨in_tb (in_t2 (List.mem_of_getElem? (i := 96) rfl)) rfl, in_tb (in_t2 (List.mem_of_getElem? (i := 97) rfl)) rfl⟩, in_tb (in_t1 (List.mem_of_getElem? (i := 11) rfl)) rfl⟩
set_option maxRecDepth 10000 in
theorem nw_X11_83 : (Cond.classLink RX11 83 (cl3 0).1 ∈ tbw ∧ Cond.instantiable (cl3 0).1 (cl3 0).2.2 ∈ tbw) ∧ Cond.initialized (cl3 0).1 ∈ tbw := ⟨⟨in_tb (in_t2 (List.mem_of_getElem? (i := 134) rfl)) rfl, in_tb (in_t2 (List.mem_of_getElem? (i := 135) rfl)) rfl⟩, in_tb (in_t1 (List.mem_of_getElem? (i := 12) rfl)) rfl⟩
set_option maxRecDepth 10000 in
theorem nw_X11_90 : (Cond.classLink RX11 90 (cl3 3).1 ∈ tbw ∧ Cond.instantiable (cl3 3).1 (cl3 3).2.2 ∈ tbw) ∧ Cond.initialized (cl3 3).1 ∈ tbw := ⟨⟨in_tb (in_t2 (List.mem_of_getElem? (i := 164) rfl)) rfl, in_tb (in_t2 (List.mem_of_getElem? (i := 165) rfl)) rfl⟩, in_tb (in_t1 (List.mem_of_getElem? (i := 13) rfl)) rfl⟩
set_option maxRecDepth 10000 in
theorem oi_X12_23 : (Cond.methodLink RX12 23 Lib.objectInit ∈ tbw ∧ Cond.instanceMethod Lib.objectInit ∈ tbw) ∧ Cond.code Lib.objectInit ⟨#[0xb1]⟩ 1 none ∈ tbw := ⟨⟨in_tb (in_t7 (List.mem_of_getElem? (i := 78) rfl)) rfl, in_tb (in_t1 (List.mem_of_getElem? (i := 38) rfl)) rfl⟩, in_tb (in_t1 (List.mem_of_getElem? (i := 39) rfl)) rfl⟩
set_option maxRecDepth 10000 in
theorem ac_byte : Cond.arrayClass .byte ∈ tbw := in_tb (in_t4 (List.mem_of_getElem? (i := 172) rfl)) rfl
section CT9
variable {γ : Ga}
theorem i_fill {a N : Nat} {v : Int32} {μ : SMem} (hk : KT a = (1, N)) (ha : a < μ.1) (hN : N < 2 ^ 31 := by decide) : Ex γ 1 0 0 M_J7_fill_53178 [.ref a, .int v] μ (fun o m => o = .inl none ∧ ∃ I', m = (μ.1, μ.2.1, I', μ.2.2.2) ∧ (∀ i, i ≠ a → I' i = μ.2.2.1 i) ∧ ∀ j, j < N → I' a j = v) := by
  refine Ex.of (by decide +kernel) rfl (Nat.le_of_ble_eq_true rfl) ?_
  show T _ _ _ _ _ _ _ _ 0 [some (.ref a), some (.int v), none, none] [] μ
  have loop : ∀ (f j : Nat) (I' : Nat → Nat → Int32), j + f = N → (∀ i, i ≠ a → I' i = μ.2.2.1 i) → (∀ q, q < j → I' a q = v) → T γ 1 0 0 M_J7_fill_53178 (fun o m => o = .inl none ∧ ∃ I', m = (μ.1, μ.2.1, I', μ.2.2.2) ∧ (∀ i, i ≠ a → I' i = μ.2.2.1 i) ∧ ∀ j, j < N → I' a j = v) 0 0 5 [some (.ref a), some (.int v), some (.int (nI j)), some (.int (nI N))] [] (μ.1, μ.2.1, I', μ.2.2.2) := by
    intro f
    induction f with
    | zero =>
      intro j I' hj h1 h2
      obtain rfl : j = N := by omega
      refine T_iload_n (pc := 5) (i := 2) dJ7_fill_53178_5 rfl rfl ?_
      refine T_iload_n (pc := 6) (i := 3) dJ7_fill_53178_6 rfl rfl ?_
      refine T_icmp_ge (pc := 7) (tgt := 20) dJ7_fill_53178_7 (by decide) (fun _ => ?_) (fun h => absurd (by rw [fa_le]; omega) h)
      exact T_vret (pc := 20) dJ7_fill_53178_20 rfl (Nat.le_refl _) (Nat.le_refl _) ⟨rfl, I', rfl, h1, h2⟩
    | succ f ih =>
      intro j I' hj h1 h2
      have hlt : ¬ nI N ≤ nI j := by
        rw [fa_le, nI_toInt (by omega), nI_toInt (by omega)]
        omega
      refine T_iload_n (pc := 5) (i := 2) dJ7_fill_53178_5 rfl rfl ?_
      refine T_iload_n (pc := 6) (i := 3) dJ7_fill_53178_6 rfl rfl ?_
      refine T_icmp_ge (pc := 7) (tgt := 20) dJ7_fill_53178_7 (by decide) (fun h => absurd h hlt) (fun _ => ?_)
      refine T_aload_n (pc := 10) (i := 0) dJ7_fill_53178_10 rfl rfl ?_
      refine T_iload_n (pc := 11) (i := 2) dJ7_fill_53178_11 rfl rfl ?_
      refine T_iload_n (pc := 12) (i := 1) dJ7_fill_53178_12 rfl rfl ?_
      refine T_iast (pc := 13) (n := N) hk ha (vp_in_nI (by omega) hN) dJ7_fill_53178_13 ?_
      rw [nI_clamp (n := j) (by omega)]
      refine T_iinc (pc := 14) (i := 2) (v := nI (j + 1)) (ls' := [some (.ref a), some (.int v), some (.int (nI (j + 1))), some (.int (nI N))]) dJ7_fill_53178_14 rfl (by rw [← nI_add]; rfl) rfl ?_
      refine T_goto (pc := 17) (tgt := 5) dJ7_fill_53178_17 (by decide) ?_
      refine ih (j + 1) (up2 I' a j v) (by omega) (fun i hi => (up2_ne hi).trans (h1 i hi)) (fun q hq => ?_)
      rw [up2_row]
      show (if q = j then v else I' a q) = v
      by_cases e : q = j
      · rw [if_pos e]
      · rw [if_neg e]
        exact h2 q (by omega)
  refine T_iconst (pc := 0) (v := nI 0) dJ7_fill_53178_0 (by decide) ?_
  refine T_istore_n (pc := 1) (i := 2) (ls' := [some (.ref a), some (.int v), some (.int (nI 0)), none]) dJ7_fill_53178_1 rfl (by decide) rfl ?_
  refine T_aload_n (pc := 2) (i := 0) dJ7_fill_53178_2 rfl rfl ?_
  refine T_alen (pc := 3) hk (by decide) ha dJ7_fill_53178_3 ?_
  refine T_istore_n (pc := 4) (i := 3) (ls' := [some (.ref a), some (.int v), some (.int (nI 0)), some (.int (nI N))]) dJ7_fill_53178_4 rfl (by decide) rfl ?_
  exact loop N 0 μ.2.2.1 (Nat.zero_add _) (fun i _ => rfl) (fun q hq => absurd hq (Nat.not_lt_zero _))
theorem i_X6 {k : Nat} {μ : SMem} (hk : isRules k) (hN : k + 5 ≤ 595) (h1 : μ.1 = k + 1) (h2 : μ.2.1 k = z0) (h3 : μ.2.2.1 k = zi) : Ex γ 1 4 48 M_X6_init [.ref k] μ (Ci k (k + 5) μ (fun I => I k = zi)) := by
  refine Ex.of (by decide +kernel) rfl (Nat.le_of_ble_eq_true rfl) ?_
  show T _ _ _ _ _ _ _ _ 0 [some (.ref k)] [] μ
  have b0 : Bd k k (k + 1) z0 z0 zi μ μ := Bd.start h1 h2 h3
  refine T_aload_n (pc := 0) (i := 0) dX6_init_0 rfl rfl ?_
  refine T_objInit (pc := 1) oi_X6_3 (Nat.le_of_ble_eq_true rfl) dX6_init_1 ?_
  refine T_aload_n (pc := 4) (i := 0) dX6_init_4 rfl rfl ?_
  refine T_bipush (pc := 5) (v := nI 12) dX6_init_5 (by decide) ?_
  refine T_newa (pc := 7) (at9 := .long) (t := 2) (N := 12) ac_long (Or.inr (Or.inl ⟨rfl, rfl⟩)) (nI_pos (by omega)) (nI_clamp (by omega)) (by decide) (by rw [b0.n]; exact (kt_rules_left hk)) (by rw [b0.n]; show _ < 595; omega) (Nat.le_of_ble_eq_true rfl) (Nat.le_of_ble_eq_true rfl) dX6_init_7 ?_
  rw [b0.n]
  have b1 : Bd k k (k + 2) z0 z0 zi μ (mNew μ) := b0.newp (R0_arr (t := 2) (N := 12) (kt_rules_left hk) (by decide))
  generalize mNew μ = μ1 at b1 ⊢
  refine T_putR (pc := 9) (c := 6) (j := 1) fl_X6_9 ⟨rfl, rfl⟩ ⟨rfl, rfl⟩ (fun q => ⟨rfl, rfl⟩) (kt_rules hk) (by rw [b1.n]; omega) dX6_init_9 ?_
  have b2 : Bd k k (k + 2) (upr z0 1 (k + 1 + 1)) z0 zi μ (mR μ1 k 1 (k + 1 + 1)) := b1.putR
  generalize mR μ1 k 1 (k + 1 + 1) = μ2 at b2 ⊢
  refine T_aload_n (pc := 12) (i := 0) dX6_init_12 rfl rfl ?_
  refine T_bipush (pc := 13) (v := nI 12) dX6_init_13 (by decide) ?_
  refine T_newa (pc := 15) (at9 := .long) (t := 2) (N := 12) ac_long (Or.inr (Or.inl ⟨rfl, rfl⟩)) (nI_pos (by omega)) (nI_clamp (by omega)) (by decide) (by rw [b2.n]; exact (kt_rules_right hk)) (by rw [b2.n]; show _ < 595; omega) (Nat.le_of_ble_eq_true rfl) (Nat.le_of_ble_eq_true rfl) dX6_init_15 ?_
  rw [b2.n]
  have b3 : Bd k k (k + 3) (upr z0 1 (k + 1 + 1)) z0 zi μ (mNew μ2) := b2.newp (R0_arr (t := 2) (N := 12) (kt_rules_right hk) (by decide))
  generalize mNew μ2 = μ3 at b3 ⊢
  refine T_putR (pc := 17) (c := 6) (j := 2) fl_X6_15 ⟨rfl, rfl⟩ ⟨rfl, rfl⟩ (fun q => ⟨rfl, rfl⟩) (kt_rules hk) (by rw [b3.n]; omega) dX6_init_17 ?_
  have b4 : Bd k k (k + 3) (upr (upr z0 1 (k + 1 + 1)) 2 (k + 2 + 1)) z0 zi μ (mR μ3 k 2 (k + 2 + 1)) := b3.putR
  generalize mR μ3 k 2 (k + 2 + 1) = μ4 at b4 ⊢
  refine T_aload_n (pc := 20) (i := 0) dX6_init_20 rfl rfl ?_
  refine T_bipush (pc := 21) (v := nI 12) dX6_init_21 (by decide) ?_
  refine T_newa (pc := 23) (at9 := .int) (t := 1) (N := 12) ac_int (Or.inl ⟨rfl, rfl⟩) (nI_pos (by omega)) (nI_clamp (by omega)) (by decide) (by rw [b4.n]; exact (kt_rules_leftSize hk)) (by rw [b4.n]; show _ < 595; omega) (Nat.le_of_ble_eq_true rfl) (Nat.le_of_ble_eq_true rfl) dX6_init_23 ?_
  rw [b4.n]
  have b5 : Bd k k (k + 4) (upr (upr z0 1 (k + 1 + 1)) 2 (k + 2 + 1)) z0 zi μ (mNew μ4) := b4.newp (R0_arr (t := 1) (N := 12) (kt_rules_leftSize hk) (by decide))
  generalize mNew μ4 = μ5 at b5 ⊢
  refine T_putR (pc := 25) (c := 6) (j := 3) fl_X6_18 ⟨rfl, rfl⟩ ⟨rfl, rfl⟩ (fun q => ⟨rfl, rfl⟩) (kt_rules hk) (by rw [b5.n]; omega) dX6_init_25 ?_
  have b6 : Bd k k (k + 4) (upr (upr (upr z0 1 (k + 1 + 1)) 2 (k + 2 + 1)) 3 (k + 3 + 1)) z0 zi μ (mR μ5 k 3 (k + 3 + 1)) := b5.putR
  generalize mR μ5 k 3 (k + 3 + 1) = μ6 at b6 ⊢
  refine T_aload_n (pc := 28) (i := 0) dX6_init_28 rfl rfl ?_
  refine T_bipush (pc := 29) (v := nI 12) dX6_init_29 (by decide) ?_
  refine T_newa (pc := 31) (at9 := .int) (t := 1) (N := 12) ac_int (Or.inl ⟨rfl, rfl⟩) (nI_pos (by omega)) (nI_clamp (by omega)) (by decide) (by rw [b6.n]; exact (kt_rules_rightSize hk)) (by rw [b6.n]; show _ < 595; omega) (Nat.le_of_ble_eq_true rfl) (Nat.le_of_ble_eq_true rfl) dX6_init_31 ?_
  rw [b6.n]
  have b7 : Bd k k (k + 5) (upr (upr (upr z0 1 (k + 1 + 1)) 2 (k + 2 + 1)) 3 (k + 3 + 1)) z0 zi μ (mNew μ6) := b6.newp (R0_arr (t := 1) (N := 12) (kt_rules_rightSize hk) (by decide))
  generalize mNew μ6 = μ7 at b7 ⊢
  refine T_putR (pc := 33) (c := 6) (j := 4) fl_X6_22 ⟨rfl, rfl⟩ ⟨rfl, rfl⟩ (fun q => ⟨rfl, rfl⟩) (kt_rules hk) (by rw [b7.n]; omega) dX6_init_33 ?_
  have b8 : Bd k k (k + 5) (upr (upr (upr (upr z0 1 (k + 1 + 1)) 2 (k + 2 + 1)) 3 (k + 3 + 1)) 4 (k + 4 + 1)) z0 zi μ (mR μ7 k 4 (k + 4 + 1)) := b7.putR
  generalize mR μ7 k 4 (k + 4 + 1) = μ8 at b8 ⊢
  have hr : R0 k = (upr (upr (upr (upr z0 1 (k + 1 + 1)) 2 (k + 2 + 1)) 3 (k + 3 + 1)) 4 (k + 4 + 1)) := by
    funext j
    show rt (KT k) k j = _
    rw [show KT k = (0, 6) from (kt_rules hk)]
    match j with
    | 0 => rfl
    | 1 => rfl
    | 2 => rfl
    | 3 => rfl
    | 4 => rfl
    | q + 5 => (simp only [upr]; rw [if_neg (by omega), if_neg (by omega), if_neg (by omega), if_neg (by omega)] <;> rfl)
  exact T_vret (pc := 36) dX6_init_36 rfl (Nat.le_of_ble_eq_true rfl) (Nat.le_of_ble_eq_true rfl) ⟨rfl, b8.done hr (fun h => absurd h (Nat.lt_irrefl _)) b8.i⟩
theorem i_X1 {k : Nat} {μ : SMem} (hk : isField k) (hN : k + 3 ≤ 595) (h1 : μ.1 = k + 1) (h2 : μ.2.1 k = z0) (h3 : μ.2.2.1 k = zi) : Ex γ 1 2 40 M_X1_init [.ref k] μ (Ci k (k + 3) μ (fun I => I k = zi)) := by
  refine Ex.of (by decide +kernel) rfl (Nat.le_of_ble_eq_true rfl) ?_
  show T _ _ _ _ _ _ _ _ 0 [some (.ref k)] [] μ
  have b0 : Bd k k (k + 1) z0 z0 zi μ μ := Bd.start h1 h2 h3
  refine T_aload_n (pc := 0) (i := 0) dX1_init_0 rfl rfl ?_
  refine T_objInit (pc := 1) oi_X1_3 (Nat.le_of_ble_eq_true rfl) dX1_init_1 ?_
  refine T_aload_n (pc := 4) (i := 0) dX1_init_4 rfl rfl ?_
  refine T_lconst (pc := 5) (v := lN 1) dX1_init_5 rfl ?_
  refine T_putL (pc := 6) (c := 1) (j := 0) fl_X1_9 ⟨rfl, rfl⟩ (kt_field hk) (by rw [b0.n]; omega) dX1_init_6 ?_
  have b1 : Bd k k (k + 1) z0 z0 zi μ (mL μ k 0 (lN 1)) := b0.putL
  generalize mL μ k 0 (lN 1) = μ1 at b1 ⊢
  refine T_aload_n (pc := 9) (i := 0) dX1_init_9 rfl rfl ?_
  refine T_bipush (pc := 10) (v := nI 20) dX1_init_10 (by decide) ?_
  refine T_newa (pc := 12) (at9 := .int) (t := 1) (N := 20) ac_int (Or.inl ⟨rfl, rfl⟩) (nI_pos (by omega)) (nI_clamp (by omega)) (by decide) (by rw [b1.n]; exact (kt_field_makers hk)) (by rw [b1.n]; show _ < 595; omega) (Nat.le_of_ble_eq_true rfl) (Nat.le_of_ble_eq_true rfl) dX1_init_12 ?_
  rw [b1.n]
  have b2 : Bd k k (k + 2) z0 z0 zi μ (mNew μ1) := b1.newp (R0_arr (t := 1) (N := 20) (kt_field_makers hk) (by decide))
  generalize mNew μ1 = μ2 at b2 ⊢
  refine T_putR (pc := 14) (c := 1) (j := 2) fl_X1_15 ⟨rfl, rfl⟩ ⟨rfl, rfl⟩ (fun q => ⟨rfl, rfl⟩) (kt_field hk) (by rw [b2.n]; omega) dX1_init_14 ?_
  have b3 : Bd k k (k + 2) (upr z0 2 (k + 1 + 1)) z0 zi μ (mR μ2 k 2 (k + 1 + 1)) := b2.putR
  generalize mR μ2 k 2 (k + 1 + 1) = μ3 at b3 ⊢
  refine T_aload_n (pc := 17) (i := 0) dX1_init_17 rfl rfl ?_
  refine T_bipush (pc := 18) (v := nI 20) dX1_init_18 (by decide) ?_
  refine T_newa (pc := 20) (at9 := .int) (t := 1) (N := 20) ac_int (Or.inl ⟨rfl, rfl⟩) (nI_pos (by omega)) (nI_clamp (by omega)) (by decide) (by rw [b3.n]; exact (kt_field_makings hk)) (by rw [b3.n]; show _ < 595; omega) (Nat.le_of_ble_eq_true rfl) (Nat.le_of_ble_eq_true rfl) dX1_init_20 ?_
  rw [b3.n]
  have b4 : Bd k k (k + 3) (upr z0 2 (k + 1 + 1)) z0 zi μ (mNew μ3) := b3.newp (R0_arr (t := 1) (N := 20) (kt_field_makings hk) (by decide))
  generalize mNew μ3 = μ4 at b4 ⊢
  refine T_putR (pc := 22) (c := 1) (j := 3) fl_X1_19 ⟨rfl, rfl⟩ ⟨rfl, rfl⟩ (fun q => ⟨rfl, rfl⟩) (kt_field hk) (by rw [b4.n]; omega) dX1_init_22 ?_
  have b5 : Bd k k (k + 3) (upr (upr z0 2 (k + 1 + 1)) 3 (k + 2 + 1)) z0 zi μ (mR μ4 k 3 (k + 2 + 1)) := b4.putR
  generalize mR μ4 k 3 (k + 2 + 1) = μ5 at b5 ⊢
  have hr : R0 k = (upr (upr z0 2 (k + 1 + 1)) 3 (k + 2 + 1)) := by
    funext j
    show rt (KT k) k j = _
    rw [show KT k = (0, 1) from (kt_field hk)]
    match j with
    | 0 => rfl
    | 1 => rfl
    | 2 => rfl
    | 3 => rfl
    | q + 4 => (simp only [upr]; rw [if_neg (by omega), if_neg (by omega)] <;> rfl)
  exact T_vret (pc := 25) dX1_init_25 rfl (Nat.le_of_ble_eq_true rfl) (Nat.le_of_ble_eq_true rfl) ⟨rfl, b5.done hr (fun h => absurd h (Nat.lt_irrefl _)) b5.i⟩
theorem i_X5 {k : Nat} {μ : SMem} (hk : isLaw k) (hN : k + 3 ≤ 595) (h1 : μ.1 = k + 1) (h2 : μ.2.1 k = z0) (h3 : μ.2.2.1 k = zi) : Ex γ 1 2 417 M_X5_init [.ref k] μ (Ci k (k + 3) μ (fun I => I k = upr zi 0 (-1))) := by
  refine Ex.of (by decide +kernel) rfl (Nat.le_of_ble_eq_true rfl) ?_
  show T _ _ _ _ _ _ _ _ 0 [some (.ref k)] [] μ
  have b0 : Bd k k (k + 1) z0 z0 zi μ μ := Bd.start h1 h2 h3
  refine T_aload_n (pc := 0) (i := 0) dX5_init_0 rfl rfl ?_
  refine T_objInit (pc := 1) oi_X5_5 (Nat.le_of_ble_eq_true rfl) dX5_init_1 ?_
  refine T_aload_n (pc := 4) (i := 0) dX5_init_4 rfl rfl ?_
  refine T_iconst (pc := 5) (v := (-1)) dX5_init_5 (by decide) ?_
  refine T_putI (pc := 6) (c := 5) (j := 0) fl_X5_11 ⟨rfl, rfl⟩ (Or.inl rfl) (kt_law hk) (by rw [b0.n]; omega) dX5_init_6 ?_
  have b1 : Bd k k (k + 1) z0 z0 (upr zi 0 (-1)) μ (mI μ k 0 (-1)) := b0.putI
  generalize mI μ k 0 (-1) = μ1 at b1 ⊢
  refine T_aload_n (pc := 9) (i := 0) dX5_init_9 rfl rfl ?_
  refine T_sipush (pc := 10) (v := nI 400) dX5_init_10 (by decide) ?_
  refine T_newa (pc := 13) (at9 := .int) (t := 1) (N := 400) ac_int (Or.inl ⟨rfl, rfl⟩) (nI_pos (by omega)) (nI_clamp (by omega)) (by decide) (by rw [b1.n]; exact (kt_law_signs hk)) (by rw [b1.n]; show _ < 595; omega) (Nat.le_of_ble_eq_true rfl) (Nat.le_of_ble_eq_true rfl) dX5_init_13 ?_
  rw [b1.n]
  have b2 : Bd k k (k + 2) z0 z0 (upr zi 0 (-1)) μ (mNew μ1) := b1.newp (R0_arr (t := 1) (N := 400) (kt_law_signs hk) (by decide))
  generalize mNew μ1 = μ2 at b2 ⊢
  refine T_putR (pc := 15) (c := 5) (j := 2) fl_X5_15 ⟨rfl, rfl⟩ ⟨rfl, rfl⟩ (fun q => ⟨rfl, rfl⟩) (kt_law hk) (by rw [b2.n]; omega) dX5_init_15 ?_
  have b3 : Bd k k (k + 2) (upr z0 2 (k + 1 + 1)) z0 (upr zi 0 (-1)) μ (mR μ2 k 2 (k + 1 + 1)) := b2.putR
  generalize mR μ2 k 2 (k + 1 + 1) = μ3 at b3 ⊢
  refine T_aload_n (pc := 18) (i := 0) dX5_init_18 rfl rfl ?_
  refine T_bipush (pc := 19) (v := nI 17) dX5_init_19 (by decide) ?_
  refine T_newa (pc := 21) (at9 := .int) (t := 1) (N := 17) ac_int (Or.inl ⟨rfl, rfl⟩) (nI_pos (by omega)) (nI_clamp (by omega)) (by decide) (by rw [b3.n]; exact (kt_law_waiting hk)) (by rw [b3.n]; show _ < 595; omega) (Nat.le_of_ble_eq_true rfl) (Nat.le_of_ble_eq_true rfl) dX5_init_21 ?_
  rw [b3.n]
  have b4 : Bd k k (k + 3) (upr z0 2 (k + 1 + 1)) z0 (upr zi 0 (-1)) μ (mNew μ3) := b3.newp (R0_arr (t := 1) (N := 17) (kt_law_waiting hk) (by decide))
  generalize mNew μ3 = μ4 at b4 ⊢
  refine T_putR (pc := 23) (c := 5) (j := 3) fl_X5_19 ⟨rfl, rfl⟩ ⟨rfl, rfl⟩ (fun q => ⟨rfl, rfl⟩) (kt_law hk) (by rw [b4.n]; omega) dX5_init_23 ?_
  have b5 : Bd k k (k + 3) (upr (upr z0 2 (k + 1 + 1)) 3 (k + 2 + 1)) z0 (upr zi 0 (-1)) μ (mR μ4 k 3 (k + 2 + 1)) := b4.putR
  generalize mR μ4 k 3 (k + 2 + 1) = μ5 at b5 ⊢
  have hr : R0 k = (upr (upr z0 2 (k + 1 + 1)) 3 (k + 2 + 1)) := by
    funext j
    show rt (KT k) k j = _
    rw [show KT k = (0, 5) from (kt_law hk)]
    match j with
    | 0 => rfl
    | 1 => rfl
    | 2 => rfl
    | 3 => rfl
    | q + 4 => (simp only [upr]; rw [if_neg (by omega), if_neg (by omega)] <;> rfl)
  exact T_vret (pc := 26) dX5_init_26 rfl (Nat.le_of_ble_eq_true rfl) (Nat.le_of_ble_eq_true rfl) ⟨rfl, b5.done hr (fun h => absurd h (Nat.lt_irrefl _)) b5.i⟩
theorem i_X4 {k : Nat} {μ : SMem} (hk : isHerd k) (hN : k + 4 ≤ 595) (h1 : μ.1 = k + 1) (h2 : μ.2.1 k = z0) (h3 : μ.2.2.1 k = zi) : Ex γ 1 3 7096 M_X4_init [.ref k] μ (Ci k (k + 4) μ (fun I => I k = zi)) := by
  refine Ex.of (by decide +kernel) rfl (Nat.le_of_ble_eq_true rfl) ?_
  show T _ _ _ _ _ _ _ _ 0 [some (.ref k)] [] μ
  have b0 : Bd k k (k + 1) z0 z0 zi μ μ := Bd.start h1 h2 h3
  refine T_aload_n (pc := 0) (i := 0) dX4_init_0 rfl rfl ?_
  refine T_objInit (pc := 1) oi_X4_5 (Nat.le_of_ble_eq_true rfl) dX4_init_1 ?_
  refine T_aload_n (pc := 4) (i := 0) dX4_init_4 rfl rfl ?_
  refine T_sipush (pc := 5) (v := nI 1500) dX4_init_5 (by decide) ?_
  refine T_newa (pc := 8) (at9 := .long) (t := 2) (N := 1500) ac_long (Or.inr (Or.inl ⟨rfl, rfl⟩)) (nI_pos (by omega)) (nI_clamp (by omega)) (by decide) (by rw [b0.n]; exact (kt_herd_codes hk)) (by rw [b0.n]; show _ < 595; omega) (Nat.le_of_ble_eq_true rfl) (Nat.le_of_ble_eq_true rfl) dX4_init_8 ?_
  rw [b0.n]
  have b1 : Bd k k (k + 2) z0 z0 zi μ (mNew μ) := b0.newp (R0_arr (t := 2) (N := 1500) (kt_herd_codes hk) (by decide))
  generalize mNew μ = μ1 at b1 ⊢
  refine T_putR (pc := 10) (c := 4) (j := 1) fl_X4_11 ⟨rfl, rfl⟩ ⟨rfl, rfl⟩ (fun q => ⟨rfl, rfl⟩) (kt_herd hk) (by rw [b1.n]; omega) dX4_init_10 ?_
  have b2 : Bd k k (k + 2) (upr z0 1 (k + 1 + 1)) z0 zi μ (mR μ1 k 1 (k + 1 + 1)) := b1.putR
  generalize mR μ1 k 1 (k + 1 + 1) = μ2 at b2 ⊢
  refine T_aload_n (pc := 13) (i := 0) dX4_init_13 rfl rfl ?_
  refine T_sipush (pc := 14) (v := nI 1500) dX4_init_14 (by decide) ?_
  refine T_newa (pc := 17) (at9 := .int) (t := 1) (N := 1500) ac_int (Or.inl ⟨rfl, rfl⟩) (nI_pos (by omega)) (nI_clamp (by omega)) (by decide) (by rw [b2.n]; exact (kt_herd_far hk)) (by rw [b2.n]; show _ < 595; omega) (Nat.le_of_ble_eq_true rfl) (Nat.le_of_ble_eq_true rfl) dX4_init_17 ?_
  rw [b2.n]
  have b3 : Bd k k (k + 3) (upr z0 1 (k + 1 + 1)) z0 zi μ (mNew μ2) := b2.newp (R0_arr (t := 1) (N := 1500) (kt_herd_far hk) (by decide))
  generalize mNew μ2 = μ3 at b3 ⊢
  refine T_putR (pc := 19) (c := 4) (j := 2) fl_X4_15 ⟨rfl, rfl⟩ ⟨rfl, rfl⟩ (fun q => ⟨rfl, rfl⟩) (kt_herd hk) (by rw [b3.n]; omega) dX4_init_19 ?_
  have b4 : Bd k k (k + 3) (upr (upr z0 1 (k + 1 + 1)) 2 (k + 2 + 1)) z0 zi μ (mR μ3 k 2 (k + 2 + 1)) := b3.putR
  generalize mR μ3 k 2 (k + 2 + 1) = μ4 at b4 ⊢
  refine T_aload_n (pc := 22) (i := 0) dX4_init_22 rfl rfl ?_
  refine T_sipush (pc := 23) (v := nI 4096) dX4_init_23 (by decide) ?_
  refine T_newa (pc := 26) (at9 := .int) (t := 1) (N := 4096) ac_int (Or.inl ⟨rfl, rfl⟩) (nI_pos (by omega)) (nI_clamp (by omega)) (by decide) (by rw [b4.n]; exact (kt_herd_slots hk)) (by rw [b4.n]; show _ < 595; omega) (Nat.le_of_ble_eq_true rfl) (Nat.le_of_ble_eq_true rfl) dX4_init_26 ?_
  rw [b4.n]
  have b5 : Bd k k (k + 4) (upr (upr z0 1 (k + 1 + 1)) 2 (k + 2 + 1)) z0 zi μ (mNew μ4) := b4.newp (R0_arr (t := 1) (N := 4096) (kt_herd_slots hk) (by decide))
  generalize mNew μ4 = μ5 at b5 ⊢
  refine T_putR (pc := 28) (c := 4) (j := 3) fl_X4_19 ⟨rfl, rfl⟩ ⟨rfl, rfl⟩ (fun q => ⟨rfl, rfl⟩) (kt_herd hk) (by rw [b5.n]; omega) dX4_init_28 ?_
  have b6 : Bd k k (k + 4) (upr (upr (upr z0 1 (k + 1 + 1)) 2 (k + 2 + 1)) 3 (k + 3 + 1)) z0 zi μ (mR μ5 k 3 (k + 3 + 1)) := b5.putR
  generalize mR μ5 k 3 (k + 3 + 1) = μ6 at b6 ⊢
  have hr : R0 k = (upr (upr (upr z0 1 (k + 1 + 1)) 2 (k + 2 + 1)) 3 (k + 3 + 1)) := by
    funext j
    show rt (KT k) k j = _
    rw [show KT k = (0, 4) from (kt_herd hk)]
    match j with
    | 0 => rfl
    | 1 => rfl
    | 2 => rfl
    | 3 => rfl
    | 4 => rfl
    | 5 => rfl
    | q + 6 => (simp only [upr]; rw [if_neg (by omega), if_neg (by omega), if_neg (by omega)] <;> rfl)
  exact T_vret (pc := 31) dX4_init_31 rfl (Nat.le_of_ble_eq_true rfl) (Nat.le_of_ble_eq_true rfl) ⟨rfl, b6.done hr (fun h => absurd h (Nat.lt_irrefl _)) b6.i⟩
theorem i_X8 {μ : SMem} (h1 : μ.1 = 2) (h2 : μ.2.1 1 = z0) (h3 : μ.2.2.1 1 = zi) : Ex γ 1 1 400 M_X8_init [.ref 1] μ (Ci 1 3 μ (fun I => I 1 = upr (upr zi 2 (-1)) 6 (-1))) := by
  refine Ex.of (by decide +kernel) rfl (Nat.le_of_ble_eq_true rfl) ?_
  show T _ _ _ _ _ _ _ _ 0 [some (.ref 1)] [] μ
  have b0 : Bd 1 1 2 z0 z0 zi μ μ := Bd.start h1 h2 h3
  refine T_aload_n (pc := 0) (i := 0) dX8_init_0 rfl rfl ?_
  refine T_objInit (pc := 1) oi_X8_3 (Nat.le_of_ble_eq_true rfl) dX8_init_1 ?_
  refine T_aload_n (pc := 4) (i := 0) dX8_init_4 rfl rfl ?_
  refine T_sipush (pc := 5) (v := nI 400) dX8_init_5 (by decide) ?_
  refine T_newa (pc := 8) (at9 := .int) (t := 1) (N := 400) ac_int (Or.inl ⟨rfl, rfl⟩) (nI_pos (by omega)) (nI_clamp (by omega)) (by decide) (by rw [b0.n]; exact (show KT 2 = (1, 400) by decide)) (by rw [b0.n]; show _ < 595; omega) (Nat.le_of_ble_eq_true rfl) (Nat.le_of_ble_eq_true rfl) dX8_init_8 ?_
  rw [b0.n]
  have b1 : Bd 1 1 3 z0 z0 zi μ (mNew μ) := b0.newp (R0_arr (t := 1) (N := 400) (show KT 2 = (1, 400) by decide) (by decide))
  generalize mNew μ = μ1 at b1 ⊢
  refine T_putR (pc := 10) (c := 8) (j := 0) fl_X8_9 ⟨rfl, rfl⟩ ⟨rfl, rfl⟩ (fun q => ⟨rfl, rfl⟩) (show KT 1 = (0, 8) by decide) (by rw [b1.n]; omega) dX8_init_10 ?_
  have b2 : Bd 1 1 3 (upr z0 0 (2 + 1)) z0 zi μ (mR μ1 1 0 (2 + 1)) := b1.putR
  generalize mR μ1 1 0 (2 + 1) = μ2 at b2 ⊢
  refine T_aload_n (pc := 13) (i := 0) dX8_init_13 rfl rfl ?_
  refine T_iconst (pc := 14) (v := (-1)) dX8_init_14 (by decide) ?_
  refine T_putI (pc := 15) (c := 8) (j := 2) fl_X8_15 ⟨rfl, rfl⟩ (Or.inl rfl) (show KT 1 = (0, 8) by decide) (by rw [b2.n]; omega) dX8_init_15 ?_
  have b3 : Bd 1 1 3 (upr z0 0 (2 + 1)) z0 (upr zi 2 (-1)) μ (mI μ2 1 2 (-1)) := b2.putI
  generalize mI μ2 1 2 (-1) = μ3 at b3 ⊢
  refine T_aload_n (pc := 18) (i := 0) dX8_init_18 rfl rfl ?_
  refine T_iconst (pc := 19) (v := (-1)) dX8_init_19 (by decide) ?_
  refine T_putI (pc := 20) (c := 8) (j := 6) fl_X8_19 ⟨rfl, rfl⟩ (Or.inl rfl) (show KT 1 = (0, 8) by decide) (by rw [b3.n]; omega) dX8_init_20 ?_
  have b4 : Bd 1 1 3 (upr z0 0 (2 + 1)) z0 (upr (upr zi 2 (-1)) 6 (-1)) μ (mI μ3 1 6 (-1)) := b3.putI
  generalize mI μ3 1 6 (-1) = μ4 at b4 ⊢
  have hr : R0 1 = (upr z0 0 (2 + 1)) := by
    funext j
    show rt (KT 1) 1 j = _
    rw [show KT 1 = (0, 8) from (show KT 1 = (0, 8) by decide)]
    match j with
    | 0 => rfl
    | 1 => rfl
    | 2 => rfl
    | 3 => rfl
    | 4 => rfl
    | 5 => rfl
    | 6 => rfl
    | q + 7 => (simp only [upr]; rw [if_neg (by omega)] <;> rfl)
  exact T_vret (pc := 23) dX8_init_23 rfl (Nat.le_of_ble_eq_true rfl) (Nat.le_of_ble_eq_true rfl) ⟨rfl, b4.done hr (fun h => absurd h (Nat.lt_irrefl _)) b4.i⟩
theorem i_X2 {μ : SMem} (h1 : μ.1 = 114) (h2 : μ.2.1 113 = z0) (h3 : μ.2.2.1 113 = zi) : Ex γ 1 2 3000 M_X2_init [.ref 113] μ (Ci 113 116 μ (fun I => I 113 = zi)) := by
  refine Ex.of (by decide +kernel) rfl (Nat.le_of_ble_eq_true rfl) ?_
  show T _ _ _ _ _ _ _ _ 0 [some (.ref 113)] [] μ
  have b0 : Bd 113 113 114 z0 z0 zi μ μ := Bd.start h1 h2 h3
  refine T_aload_n (pc := 0) (i := 0) dX2_init_0 rfl rfl ?_
  refine T_objInit (pc := 1) oi_X2_3 (Nat.le_of_ble_eq_true rfl) dX2_init_1 ?_
  refine T_aload_n (pc := 4) (i := 0) dX2_init_4 rfl rfl ?_
  refine T_sipush (pc := 5) (v := nI 1500) dX2_init_5 (by decide) ?_
  refine T_newa (pc := 8) (at9 := .int) (t := 1) (N := 1500) ac_int (Or.inl ⟨rfl, rfl⟩) (nI_pos (by omega)) (nI_clamp (by omega)) (by decide) (by rw [b0.n]; exact (show KT 114 = (1, 1500) by decide)) (by rw [b0.n]; show _ < 595; omega) (Nat.le_of_ble_eq_true rfl) (Nat.le_of_ble_eq_true rfl) dX2_init_8 ?_
  rw [b0.n]
  have b1 : Bd 113 113 115 z0 z0 zi μ (mNew μ) := b0.newp (R0_arr (t := 1) (N := 1500) (show KT 114 = (1, 1500) by decide) (by decide))
  generalize mNew μ = μ1 at b1 ⊢
  refine T_putR (pc := 10) (c := 2) (j := 2) fl_X2_9 ⟨rfl, rfl⟩ ⟨rfl, rfl⟩ (fun q => ⟨rfl, rfl⟩) (show KT 113 = (0, 2) by decide) (by rw [b1.n]; omega) dX2_init_10 ?_
  have b2 : Bd 113 113 115 (upr z0 2 (114 + 1)) z0 zi μ (mR μ1 113 2 (114 + 1)) := b1.putR
  generalize mR μ1 113 2 (114 + 1) = μ2 at b2 ⊢
  refine T_aload_n (pc := 13) (i := 0) dX2_init_13 rfl rfl ?_
  refine T_sipush (pc := 14) (v := nI 1500) dX2_init_14 (by decide) ?_
  refine T_newa (pc := 17) (at9 := .int) (t := 1) (N := 1500) ac_int (Or.inl ⟨rfl, rfl⟩) (nI_pos (by omega)) (nI_clamp (by omega)) (by decide) (by rw [b2.n]; exact (show KT 115 = (1, 1500) by decide)) (by rw [b2.n]; show _ < 595; omega) (Nat.le_of_ble_eq_true rfl) (Nat.le_of_ble_eq_true rfl) dX2_init_17 ?_
  rw [b2.n]
  have b3 : Bd 113 113 116 (upr z0 2 (114 + 1)) z0 zi μ (mNew μ2) := b2.newp (R0_arr (t := 1) (N := 1500) (show KT 115 = (1, 1500) by decide) (by decide))
  generalize mNew μ2 = μ3 at b3 ⊢
  refine T_putR (pc := 19) (c := 2) (j := 3) fl_X2_15 ⟨rfl, rfl⟩ ⟨rfl, rfl⟩ (fun q => ⟨rfl, rfl⟩) (show KT 113 = (0, 2) by decide) (by rw [b3.n]; omega) dX2_init_19 ?_
  have b4 : Bd 113 113 116 (upr (upr z0 2 (114 + 1)) 3 (115 + 1)) z0 zi μ (mR μ3 113 3 (115 + 1)) := b3.putR
  generalize mR μ3 113 3 (115 + 1) = μ4 at b4 ⊢
  have hr : R0 113 = (upr (upr z0 2 (114 + 1)) 3 (115 + 1)) := by
    funext j
    show rt (KT 113) 113 j = _
    rw [show KT 113 = (0, 2) from (show KT 113 = (0, 2) by decide)]
    match j with
    | 0 => rfl
    | 1 => rfl
    | 2 => rfl
    | 3 => rfl
    | q + 4 => (simp only [upr]; rw [if_neg (by omega), if_neg (by omega)] <;> rfl)
  exact T_vret (pc := 22) dX2_init_22 rfl (Nat.le_of_ble_eq_true rfl) (Nat.le_of_ble_eq_true rfl) ⟨rfl, b4.done hr (fun h => absurd h (Nat.lt_irrefl _)) b4.i⟩
theorem i_X7 {μ : SMem} (h1 : μ.1 = 117) (h2 : μ.2.1 116 = z0) (h3 : μ.2.2.1 116 = zi) : Ex γ 1 4 131 M_X7_init [.ref 116] μ (Ci 116 121 μ (fun I => I 116 = zi)) := by
  refine Ex.of (by decide +kernel) rfl (Nat.le_of_ble_eq_true rfl) ?_
  show T _ _ _ _ _ _ _ _ 0 [some (.ref 116)] [] μ
  have b0 : Bd 116 116 117 z0 z0 zi μ μ := Bd.start h1 h2 h3
  refine T_aload_n (pc := 0) (i := 0) dX7_init_0 rfl rfl ?_
  refine T_objInit (pc := 1) oi_X7_3 (Nat.le_of_ble_eq_true rfl) dX7_init_1 ?_
  refine T_aload_n (pc := 4) (i := 0) dX7_init_4 rfl rfl ?_
  refine T_bipush (pc := 5) (v := nI 8) dX7_init_5 (by decide) ?_
  refine T_newa (pc := 7) (at9 := .int) (t := 1) (N := 8) ac_int (Or.inl ⟨rfl, rfl⟩) (nI_pos (by omega)) (nI_clamp (by omega)) (by decide) (by rw [b0.n]; exact (show KT 117 = (1, 8) by decide)) (by rw [b0.n]; show _ < 595; omega) (Nat.le_of_ble_eq_true rfl) (Nat.le_of_ble_eq_true rfl) dX7_init_7 ?_
  rw [b0.n]
  have b1 : Bd 116 116 118 z0 z0 zi μ (mNew μ) := b0.newp (R0_arr (t := 1) (N := 8) (show KT 117 = (1, 8) by decide) (by decide))
  generalize mNew μ = μ1 at b1 ⊢
  refine T_putR (pc := 9) (c := 7) (j := 0) fl_X7_9 ⟨rfl, rfl⟩ ⟨rfl, rfl⟩ (fun q => ⟨rfl, rfl⟩) (show KT 116 = (0, 7) by decide) (by rw [b1.n]; omega) dX7_init_9 ?_
  have b2 : Bd 116 116 118 (upr z0 0 (117 + 1)) z0 zi μ (mR μ1 116 0 (117 + 1)) := b1.putR
  generalize mR μ1 116 0 (117 + 1) = μ2 at b2 ⊢
  refine T_aload_n (pc := 12) (i := 0) dX7_init_12 rfl rfl ?_
  refine T_bipush (pc := 13) (v := nI 6) dX7_init_13 (by decide) ?_
  refine T_newa (pc := 15) (at9 := .int) (t := 1) (N := 6) ac_int (Or.inl ⟨rfl, rfl⟩) (nI_pos (by omega)) (nI_clamp (by omega)) (by decide) (by rw [b2.n]; exact (show KT 118 = (1, 6) by decide)) (by rw [b2.n]; show _ < 595; omega) (Nat.le_of_ble_eq_true rfl) (Nat.le_of_ble_eq_true rfl) dX7_init_15 ?_
  rw [b2.n]
  have b3 : Bd 116 116 119 (upr z0 0 (117 + 1)) z0 zi μ (mNew μ2) := b2.newp (R0_arr (t := 1) (N := 6) (show KT 118 = (1, 6) by decide) (by decide))
  generalize mNew μ2 = μ3 at b3 ⊢
  refine T_putR (pc := 17) (c := 7) (j := 1) fl_X7_15 ⟨rfl, rfl⟩ ⟨rfl, rfl⟩ (fun q => ⟨rfl, rfl⟩) (show KT 116 = (0, 7) by decide) (by rw [b3.n]; omega) dX7_init_17 ?_
  have b4 : Bd 116 116 119 (upr (upr z0 0 (117 + 1)) 1 (118 + 1)) z0 zi μ (mR μ3 116 1 (118 + 1)) := b3.putR
  generalize mR μ3 116 1 (118 + 1) = μ4 at b4 ⊢
  refine T_aload_n (pc := 20) (i := 0) dX7_init_20 rfl rfl ?_
  refine T_bipush (pc := 21) (v := nI 104) dX7_init_21 (by decide) ?_
  refine T_newa (pc := 23) (at9 := .int) (t := 1) (N := 104) ac_int (Or.inl ⟨rfl, rfl⟩) (nI_pos (by omega)) (nI_clamp (by omega)) (by decide) (by rw [b4.n]; exact (show KT 119 = (1, 104) by decide)) (by rw [b4.n]; show _ < 595; omega) (Nat.le_of_ble_eq_true rfl) (Nat.le_of_ble_eq_true rfl) dX7_init_23 ?_
  rw [b4.n]
  have b5 : Bd 116 116 120 (upr (upr z0 0 (117 + 1)) 1 (118 + 1)) z0 zi μ (mNew μ4) := b4.newp (R0_arr (t := 1) (N := 104) (show KT 119 = (1, 104) by decide) (by decide))
  generalize mNew μ4 = μ5 at b5 ⊢
  refine T_putR (pc := 25) (c := 7) (j := 3) fl_X7_18 ⟨rfl, rfl⟩ ⟨rfl, rfl⟩ (fun q => ⟨rfl, rfl⟩) (show KT 116 = (0, 7) by decide) (by rw [b5.n]; omega) dX7_init_25 ?_
  have b6 : Bd 116 116 120 (upr (upr (upr z0 0 (117 + 1)) 1 (118 + 1)) 3 (119 + 1)) z0 zi μ (mR μ5 116 3 (119 + 1)) := b5.putR
  generalize mR μ5 116 3 (119 + 1) = μ6 at b6 ⊢
  refine T_aload_n (pc := 28) (i := 0) dX7_init_28 rfl rfl ?_
  refine T_bipush (pc := 29) (v := nI 13) dX7_init_29 (by decide) ?_
  refine T_newa (pc := 31) (at9 := .int) (t := 1) (N := 13) ac_int (Or.inl ⟨rfl, rfl⟩) (nI_pos (by omega)) (nI_clamp (by omega)) (by decide) (by rw [b6.n]; exact (show KT 120 = (1, 13) by decide)) (by rw [b6.n]; show _ < 595; omega) (Nat.le_of_ble_eq_true rfl) (Nat.le_of_ble_eq_true rfl) dX7_init_31 ?_
  rw [b6.n]
  have b7 : Bd 116 116 121 (upr (upr (upr z0 0 (117 + 1)) 1 (118 + 1)) 3 (119 + 1)) z0 zi μ (mNew μ6) := b6.newp (R0_arr (t := 1) (N := 13) (show KT 120 = (1, 13) by decide) (by decide))
  generalize mNew μ6 = μ7 at b7 ⊢
  refine T_putR (pc := 33) (c := 7) (j := 4) fl_X7_21 ⟨rfl, rfl⟩ ⟨rfl, rfl⟩ (fun q => ⟨rfl, rfl⟩) (show KT 116 = (0, 7) by decide) (by rw [b7.n]; omega) dX7_init_33 ?_
  have b8 : Bd 116 116 121 (upr (upr (upr (upr z0 0 (117 + 1)) 1 (118 + 1)) 3 (119 + 1)) 4 (120 + 1)) z0 zi μ (mR μ7 116 4 (120 + 1)) := b7.putR
  generalize mR μ7 116 4 (120 + 1) = μ8 at b8 ⊢
  have hr : R0 116 = (upr (upr (upr (upr z0 0 (117 + 1)) 1 (118 + 1)) 3 (119 + 1)) 4 (120 + 1)) := by
    funext j
    show rt (KT 116) 116 j = _
    rw [show KT 116 = (0, 7) from (show KT 116 = (0, 7) by decide)]
    match j with
    | 0 => rfl
    | 1 => rfl
    | 2 => rfl
    | 3 => rfl
    | 4 => rfl
    | 5 => rfl
    | 6 => rfl
    | 7 => rfl
    | 8 => rfl
    | 9 => rfl
    | q + 10 => (simp only [upr]; rw [if_neg (by omega), if_neg (by omega), if_neg (by omega), if_neg (by omega)] <;> rfl)
  exact T_vret (pc := 36) dX7_init_36 rfl (Nat.le_of_ble_eq_true rfl) (Nat.le_of_ble_eq_true rfl) ⟨rfl, b8.done hr (fun h => absurd h (Nat.lt_irrefl _)) b8.i⟩
theorem i_X0 {μ : SMem} (h1 : μ.1 = 122) (h2 : μ.2.1 121 = z0) (h3 : μ.2.2.1 121 = zi) : Ex γ 1 0 0 M_X0_init [.ref 121] μ (Ci 121 122 μ (fun I => I 121 = zi)) := by
  refine Ex.of (by decide +kernel) rfl (Nat.le_of_ble_eq_true rfl) ?_
  show T _ _ _ _ _ _ _ _ 0 [some (.ref 121)] [] μ
  have b0 : Bd 121 121 122 z0 z0 zi μ μ := Bd.start h1 h2 h3
  refine T_aload_n (pc := 0) (i := 0) dX0_init_0 rfl rfl ?_
  refine T_objInit (pc := 1) oi_X0_3 (Nat.le_of_ble_eq_true rfl) dX0_init_1 ?_
  have hr : R0 121 = z0 := by
    funext j
    show rt (KT 121) 121 j = _
    rw [show KT 121 = (0, 0) from (show KT 121 = (0, 0) by decide)]
    match j with
    | 0 => rfl
    | 1 => rfl
    | 2 => rfl
    | 3 => rfl
    | 4 => rfl
    | 5 => rfl
    | q + 6 => rfl
  exact T_vret (pc := 4) dX0_init_4 rfl (Nat.le_of_ble_eq_true rfl) (Nat.le_of_ble_eq_true rfl) ⟨rfl, b0.done hr (fun h => absurd h (Nat.lt_irrefl _)) b0.i⟩
theorem i_X3 {μ : SMem} (h1 : μ.1 = 123) (h2 : μ.2.1 122 = z0) (h3 : μ.2.2.1 122 = zi) : Ex γ 1 1 10 M_X3_init [.ref 122] μ (Ci 122 124 μ (fun I => I 122 = zi)) := by
  refine Ex.of (by decide +kernel) rfl (Nat.le_of_ble_eq_true rfl) ?_
  show T _ _ _ _ _ _ _ _ 0 [some (.ref 122)] [] μ
  have b0 : Bd 122 122 123 z0 z0 zi μ μ := Bd.start h1 h2 h3
  refine T_aload_n (pc := 0) (i := 0) dX3_init_0 rfl rfl ?_
  refine T_objInit (pc := 1) oi_X3_3 (Nat.le_of_ble_eq_true rfl) dX3_init_1 ?_
  refine T_aload_n (pc := 4) (i := 0) dX3_init_4 rfl rfl ?_
  refine T_bipush (pc := 5) (v := nI 10) dX3_init_5 (by decide) ?_
  refine T_newa (pc := 7) (at9 := .int) (t := 1) (N := 10) ac_int (Or.inl ⟨rfl, rfl⟩) (nI_pos (by omega)) (nI_clamp (by omega)) (by decide) (by rw [b0.n]; exact (show KT 123 = (1, 10) by decide)) (by rw [b0.n]; show _ < 595; omega) (Nat.le_of_ble_eq_true rfl) (Nat.le_of_ble_eq_true rfl) dX3_init_7 ?_
  rw [b0.n]
  have b1 : Bd 122 122 124 z0 z0 zi μ (mNew μ) := b0.newp (R0_arr (t := 1) (N := 10) (show KT 123 = (1, 10) by decide) (by decide))
  generalize mNew μ = μ1 at b1 ⊢
  refine T_putR (pc := 9) (c := 3) (j := 3) fl_X3_9 ⟨rfl, rfl⟩ ⟨rfl, rfl⟩ (fun q => ⟨rfl, rfl⟩) (show KT 122 = (0, 3) by decide) (by rw [b1.n]; omega) dX3_init_9 ?_
  have b2 : Bd 122 122 124 (upr z0 3 (123 + 1)) z0 zi μ (mR μ1 122 3 (123 + 1)) := b1.putR
  generalize mR μ1 122 3 (123 + 1) = μ2 at b2 ⊢
  have hr : R0 122 = (upr z0 3 (123 + 1)) := by
    funext j
    show rt (KT 122) 122 j = _
    rw [show KT 122 = (0, 3) from (show KT 122 = (0, 3) by decide)]
    match j with
    | 0 => rfl
    | 1 => rfl
    | 2 => rfl
    | 3 => rfl
    | q + 4 => (simp only [upr]; rw [if_neg (by omega)] <;> rfl)
  exact T_vret (pc := 12) dX3_init_12 rfl (Nat.le_of_ble_eq_true rfl) (Nat.le_of_ble_eq_true rfl) ⟨rfl, b2.done hr (fun h => absurd h (Nat.lt_irrefl _)) b2.i⟩
theorem i_X10 {μ : SMem} (h1 : μ.1 = 98) (h2 : μ.2.1 97 = z0) (h3 : μ.2.2.1 97 = zi) : Ex γ 1 7 824 M_X10_init [.ref 97, .ref 4, .ref 59] μ (Ci 97 105 μ (fun I => I 97 = zi)) := by
  refine Ex.of (by decide +kernel) rfl (Nat.le_of_ble_eq_true rfl) ?_
  show T _ _ _ _ _ _ _ _ 0 [some (.ref 97), some (.ref 4), some (.ref 59)] [] μ
  have b0 : Bd 97 97 98 z0 z0 zi μ μ := Bd.start h1 h2 h3
  refine T_aload_n (pc := 0) (i := 0) dX10_init_0 rfl rfl ?_
  refine T_objInit (pc := 1) oi_X10_3 (Nat.le_of_ble_eq_true rfl) dX10_init_1 ?_
  refine T_aload_n (pc := 4) (i := 0) dX10_init_4 rfl rfl ?_
  refine T_sipush (pc := 5) (v := nI 240) dX10_init_5 (by decide) ?_
  refine T_newa (pc := 8) (at9 := .int) (t := 1) (N := 240) ac_int (Or.inl ⟨rfl, rfl⟩) (nI_pos (by omega)) (nI_clamp (by omega)) (by decide) (by rw [b0.n]; exact (show KT 98 = (1, 240) by decide)) (by rw [b0.n]; show _ < 595; omega) (Nat.le_of_ble_eq_true rfl) (Nat.le_of_ble_eq_true rfl) dX10_init_8 ?_
  rw [b0.n]
  have b1 : Bd 97 97 99 z0 z0 zi μ (mNew μ) := b0.newp (R0_arr (t := 1) (N := 240) (show KT 98 = (1, 240) by decide) (by decide))
  generalize mNew μ = μ1 at b1 ⊢
  refine T_putR (pc := 10) (c := 10) (j := 7) fl_X10_9 ⟨rfl, rfl⟩ ⟨rfl, rfl⟩ (fun q => ⟨rfl, rfl⟩) (show KT 97 = (0, 10) by decide) (by rw [b1.n]; omega) dX10_init_10 ?_
  have b2 : Bd 97 97 99 (upr z0 7 (98 + 1)) z0 zi μ (mR μ1 97 7 (98 + 1)) := b1.putR
  generalize mR μ1 97 7 (98 + 1) = μ2 at b2 ⊢
  refine T_aload_n (pc := 13) (i := 0) dX10_init_13 rfl rfl ?_
  refine T_bipush (pc := 14) (v := nI 20) dX10_init_14 (by decide) ?_
  refine T_newa (pc := 16) (at9 := .int) (t := 1) (N := 20) ac_int (Or.inl ⟨rfl, rfl⟩) (nI_pos (by omega)) (nI_clamp (by omega)) (by decide) (by rw [b2.n]; exact (show KT 99 = (1, 20) by decide)) (by rw [b2.n]; show _ < 595; omega) (Nat.le_of_ble_eq_true rfl) (Nat.le_of_ble_eq_true rfl) dX10_init_16 ?_
  rw [b2.n]
  have b3 : Bd 97 97 100 (upr z0 7 (98 + 1)) z0 zi μ (mNew μ2) := b2.newp (R0_arr (t := 1) (N := 20) (show KT 99 = (1, 20) by decide) (by decide))
  generalize mNew μ2 = μ3 at b3 ⊢
  refine T_putR (pc := 18) (c := 10) (j := 8) fl_X10_15 ⟨rfl, rfl⟩ ⟨rfl, rfl⟩ (fun q => ⟨rfl, rfl⟩) (show KT 97 = (0, 10) by decide) (by rw [b3.n]; omega) dX10_init_18 ?_
  have b4 : Bd 97 97 100 (upr (upr z0 7 (98 + 1)) 8 (99 + 1)) z0 zi μ (mR μ3 97 8 (99 + 1)) := b3.putR
  generalize mR μ3 97 8 (99 + 1) = μ4 at b4 ⊢
  refine T_aload_n (pc := 21) (i := 0) dX10_init_21 rfl rfl ?_
  refine T_bipush (pc := 22) (v := nI 20) dX10_init_22 (by decide) ?_
  refine T_newa (pc := 24) (at9 := .int) (t := 1) (N := 20) ac_int (Or.inl ⟨rfl, rfl⟩) (nI_pos (by omega)) (nI_clamp (by omega)) (by decide) (by rw [b4.n]; exact (show KT 100 = (1, 20) by decide)) (by rw [b4.n]; show _ < 595; omega) (Nat.le_of_ble_eq_true rfl) (Nat.le_of_ble_eq_true rfl) dX10_init_24 ?_
  rw [b4.n]
  have b5 : Bd 97 97 101 (upr (upr z0 7 (98 + 1)) 8 (99 + 1)) z0 zi μ (mNew μ4) := b4.newp (R0_arr (t := 1) (N := 20) (show KT 100 = (1, 20) by decide) (by decide))
  generalize mNew μ4 = μ5 at b5 ⊢
  refine T_putR (pc := 26) (c := 10) (j := 9) fl_X10_18 ⟨rfl, rfl⟩ ⟨rfl, rfl⟩ (fun q => ⟨rfl, rfl⟩) (show KT 97 = (0, 10) by decide) (by rw [b5.n]; omega) dX10_init_26 ?_
  have b6 : Bd 97 97 101 (upr (upr (upr z0 7 (98 + 1)) 8 (99 + 1)) 9 (100 + 1)) z0 zi μ (mR μ5 97 9 (100 + 1)) := b5.putR
  generalize mR μ5 97 9 (100 + 1) = μ6 at b6 ⊢
  refine T_aload_n (pc := 29) (i := 0) dX10_init_29 rfl rfl ?_
  refine T_sipush (pc := 30) (v := nI 252) dX10_init_30 (by decide) ?_
  refine T_newa (pc := 33) (at9 := .int) (t := 1) (N := 252) ac_int (Or.inl ⟨rfl, rfl⟩) (nI_pos (by omega)) (nI_clamp (by omega)) (by decide) (by rw [b6.n]; exact (show KT 101 = (1, 252) by decide)) (by rw [b6.n]; show _ < 595; omega) (Nat.le_of_ble_eq_true rfl) (Nat.le_of_ble_eq_true rfl) dX10_init_33 ?_
  rw [b6.n]
  have b7 : Bd 97 97 102 (upr (upr (upr z0 7 (98 + 1)) 8 (99 + 1)) 9 (100 + 1)) z0 zi μ (mNew μ6) := b6.newp (R0_arr (t := 1) (N := 252) (show KT 101 = (1, 252) by decide) (by decide))
  generalize mNew μ6 = μ7 at b7 ⊢
  refine T_putR (pc := 35) (c := 10) (j := 10) fl_X10_21 ⟨rfl, rfl⟩ ⟨rfl, rfl⟩ (fun q => ⟨rfl, rfl⟩) (show KT 97 = (0, 10) by decide) (by rw [b7.n]; omega) dX10_init_35 ?_
  have b8 : Bd 97 97 102 (upr (upr (upr (upr z0 7 (98 + 1)) 8 (99 + 1)) 9 (100 + 1)) 10 (101 + 1)) z0 zi μ (mR μ7 97 10 (101 + 1)) := b7.putR
  generalize mR μ7 97 10 (101 + 1) = μ8 at b8 ⊢
  refine T_aload_n (pc := 38) (i := 0) dX10_init_38 rfl rfl ?_
  refine T_sipush (pc := 39) (v := nI 252) dX10_init_39 (by decide) ?_
  refine T_newa (pc := 42) (at9 := .int) (t := 1) (N := 252) ac_int (Or.inl ⟨rfl, rfl⟩) (nI_pos (by omega)) (nI_clamp (by omega)) (by decide) (by rw [b8.n]; exact (show KT 102 = (1, 252) by decide)) (by rw [b8.n]; show _ < 595; omega) (Nat.le_of_ble_eq_true rfl) (Nat.le_of_ble_eq_true rfl) dX10_init_42 ?_
  rw [b8.n]
  have b9 : Bd 97 97 103 (upr (upr (upr (upr z0 7 (98 + 1)) 8 (99 + 1)) 9 (100 + 1)) 10 (101 + 1)) z0 zi μ (mNew μ8) := b8.newp (R0_arr (t := 1) (N := 252) (show KT 102 = (1, 252) by decide) (by decide))
  generalize mNew μ8 = μ9 at b9 ⊢
  refine T_putR (pc := 44) (c := 10) (j := 11) fl_X10_24 ⟨rfl, rfl⟩ ⟨rfl, rfl⟩ (fun q => ⟨rfl, rfl⟩) (show KT 97 = (0, 10) by decide) (by rw [b9.n]; omega) dX10_init_44 ?_
  have b10 : Bd 97 97 103 (upr (upr (upr (upr (upr z0 7 (98 + 1)) 8 (99 + 1)) 9 (100 + 1)) 10 (101 + 1)) 11 (102 + 1)) z0 zi μ (mR μ9 97 11 (102 + 1)) := b9.putR
  generalize mR μ9 97 11 (102 + 1) = μ10 at b10 ⊢
  refine T_aload_n (pc := 47) (i := 0) dX10_init_47 rfl rfl ?_
  refine T_bipush (pc := 48) (v := nI 20) dX10_init_48 (by decide) ?_
  refine T_newa (pc := 50) (at9 := .int) (t := 1) (N := 20) ac_int (Or.inl ⟨rfl, rfl⟩) (nI_pos (by omega)) (nI_clamp (by omega)) (by decide) (by rw [b10.n]; exact (show KT 103 = (1, 20) by decide)) (by rw [b10.n]; show _ < 595; omega) (Nat.le_of_ble_eq_true rfl) (Nat.le_of_ble_eq_true rfl) dX10_init_50 ?_
  rw [b10.n]
  have b11 : Bd 97 97 104 (upr (upr (upr (upr (upr z0 7 (98 + 1)) 8 (99 + 1)) 9 (100 + 1)) 10 (101 + 1)) 11 (102 + 1)) z0 zi μ (mNew μ10) := b10.newp (R0_arr (t := 1) (N := 20) (show KT 103 = (1, 20) by decide) (by decide))
  generalize mNew μ10 = μ11 at b11 ⊢
  refine T_putR (pc := 52) (c := 10) (j := 12) fl_X10_27 ⟨rfl, rfl⟩ ⟨rfl, rfl⟩ (fun q => ⟨rfl, rfl⟩) (show KT 97 = (0, 10) by decide) (by rw [b11.n]; omega) dX10_init_52 ?_
  have b12 : Bd 97 97 104 (upr (upr (upr (upr (upr (upr z0 7 (98 + 1)) 8 (99 + 1)) 9 (100 + 1)) 10 (101 + 1)) 11 (102 + 1)) 12 (103 + 1)) z0 zi μ (mR μ11 97 12 (103 + 1)) := b11.putR
  generalize mR μ11 97 12 (103 + 1) = μ12 at b12 ⊢
  refine T_aload_n (pc := 55) (i := 0) dX10_init_55 rfl rfl ?_
  refine T_bipush (pc := 56) (v := nI 20) dX10_init_56 (by decide) ?_
  refine T_newa (pc := 58) (at9 := .int) (t := 1) (N := 20) ac_int (Or.inl ⟨rfl, rfl⟩) (nI_pos (by omega)) (nI_clamp (by omega)) (by decide) (by rw [b12.n]; exact (show KT 104 = (1, 20) by decide)) (by rw [b12.n]; show _ < 595; omega) (Nat.le_of_ble_eq_true rfl) (Nat.le_of_ble_eq_true rfl) dX10_init_58 ?_
  rw [b12.n]
  have b13 : Bd 97 97 105 (upr (upr (upr (upr (upr (upr z0 7 (98 + 1)) 8 (99 + 1)) 9 (100 + 1)) 10 (101 + 1)) 11 (102 + 1)) 12 (103 + 1)) z0 zi μ (mNew μ12) := b12.newp (R0_arr (t := 1) (N := 20) (show KT 104 = (1, 20) by decide) (by decide))
  generalize mNew μ12 = μ13 at b13 ⊢
  refine T_putR (pc := 60) (c := 10) (j := 13) fl_X10_30 ⟨rfl, rfl⟩ ⟨rfl, rfl⟩ (fun q => ⟨rfl, rfl⟩) (show KT 97 = (0, 10) by decide) (by rw [b13.n]; omega) dX10_init_60 ?_
  have b14 : Bd 97 97 105 (upr (upr (upr (upr (upr (upr (upr z0 7 (98 + 1)) 8 (99 + 1)) 9 (100 + 1)) 10 (101 + 1)) 11 (102 + 1)) 12 (103 + 1)) 13 (104 + 1)) z0 zi μ (mR μ13 97 13 (104 + 1)) := b13.putR
  generalize mR μ13 97 13 (104 + 1) = μ14 at b14 ⊢
  refine T_aload_n (pc := 63) (i := 0) dX10_init_63 rfl rfl ?_
  refine T_aload_n (pc := 64) (i := 1) dX10_init_64 rfl rfl ?_
  refine T_putR (pc := 65) (c := 10) (j := 0) fl_X10_33 ⟨rfl, rfl⟩ ⟨rfl, rfl⟩ (fun q => ⟨rfl, rfl⟩) (show KT 97 = (0, 10) by decide) (by rw [b14.n]; omega) dX10_init_65 ?_
  have b15 : Bd 97 97 105 (upr (upr (upr (upr (upr (upr (upr (upr z0 7 (98 + 1)) 8 (99 + 1)) 9 (100 + 1)) 10 (101 + 1)) 11 (102 + 1)) 12 (103 + 1)) 13 (104 + 1)) 0 (4 + 1)) z0 zi μ (mR μ14 97 0 (4 + 1)) := b14.putR
  generalize mR μ14 97 0 (4 + 1) = μ15 at b15 ⊢
  refine T_aload_n (pc := 68) (i := 0) dX10_init_68 rfl rfl ?_
  refine T_aload_n (pc := 69) (i := 2) dX10_init_69 rfl rfl ?_
  refine T_putR (pc := 70) (c := 10) (j := 1) fl_X10_37 ⟨rfl, rfl⟩ ⟨rfl, rfl⟩ (fun q => ⟨rfl, rfl⟩) (show KT 97 = (0, 10) by decide) (by rw [b15.n]; omega) dX10_init_70 ?_
  have b16 : Bd 97 97 105 (upr (upr (upr (upr (upr (upr (upr (upr (upr z0 7 (98 + 1)) 8 (99 + 1)) 9 (100 + 1)) 10 (101 + 1)) 11 (102 + 1)) 12 (103 + 1)) 13 (104 + 1)) 0 (4 + 1)) 1 (59 + 1)) z0 zi μ (mR μ15 97 1 (59 + 1)) := b15.putR
  generalize mR μ15 97 1 (59 + 1) = μ16 at b16 ⊢
  have hr : R0 97 = (upr (upr (upr (upr (upr (upr (upr (upr (upr z0 7 (98 + 1)) 8 (99 + 1)) 9 (100 + 1)) 10 (101 + 1)) 11 (102 + 1)) 12 (103 + 1)) 13 (104 + 1)) 0 (4 + 1)) 1 (59 + 1)) := by
    funext j
    show rt (KT 97) 97 j = _
    rw [show KT 97 = (0, 10) from (show KT 97 = (0, 10) by decide)]
    match j with
    | 0 => rfl
    | 1 => rfl
    | 2 => rfl
    | 3 => rfl
    | 4 => rfl
    | 5 => rfl
    | 6 => rfl
    | 7 => rfl
    | 8 => rfl
    | 9 => rfl
    | 10 => rfl
    | 11 => rfl
    | 12 => rfl
    | 13 => rfl
    | q + 14 => (simp only [upr]; rw [if_neg (by omega), if_neg (by omega), if_neg (by omega), if_neg (by omega), if_neg (by omega), if_neg (by omega), if_neg (by omega), if_neg (by omega), if_neg (by omega)] <;> rfl)
  exact T_vret (pc := 73) dX10_init_73 rfl (Nat.le_of_ble_eq_true rfl) (Nat.le_of_ble_eq_true rfl) ⟨rfl, b16.done hr (fun h => absurd h (Nat.lt_irrefl _)) b16.i⟩
theorem i_X9 {k : Nat} {μ : SMem} (hk : isTold k) (hN : k + 28 ≤ 595) (h1 : μ.1 = k + 1) (h2 : μ.2.1 k = z0) (h3 : μ.2.2.1 k = zi) : Ex γ 2 27 351 M_X9_init [.ref k] μ (Ci k (k + 28) μ (fun I => I k = upr (upr zi 8 (nI 0)) 11 (nI 1) ∧ I (k + 1) = zi ∧ ∀ j, j < 8 → I (k + 9) j = nI 1)) := by
  refine Ex.of (by decide +kernel) rfl (Nat.le_of_ble_eq_true rfl) ?_
  show T _ _ _ _ _ _ _ _ 0 [some (.ref k), none] [] μ
  have b0 : Bd k k (k + 1) z0 z0 zi μ μ := Bd.start h1 h2 h3
  refine T_aload_n (pc := 0) (i := 0) dX9_init_0 rfl rfl ?_
  refine T_objInit (pc := 1) oi_X9_3 (Nat.le_of_ble_eq_true rfl) dX9_init_1 ?_
  refine T_aload_n (pc := 4) (i := 0) dX9_init_4 rfl rfl ?_
  refine T_new (pc := 5) (c := 6) nw_X9_9 (by decide) (by rw [b0.n]; exact (told_all hk 1 (by decide)).1) (by rw [b0.n]; show _ < 595; omega) (Nat.le_of_ble_eq_true rfl) (Nat.le_of_ble_eq_true rfl) dX9_init_5 ?_
  rw [b0.n]
  refine T_dup (pc := 8) dX9_init_8 rfl ?_
  refine T_callI (pc := 9) (b := (k + 1)) (As := []) (rest := [.ref (k + 1), .ref k]) (Or.inr lk_X9_11) mk_X6_init rfl (i_X6 (told_rules hk) (by omega) (by show μ.1 + 1 = _; rw [b0.n]) (new_rz b0.n) (new_iz b0.n)) dX9_init_9 rfl rfl (Nat.le_of_ble_eq_true rfl) (by decide) rfl (Nat.le_of_ble_eq_true rfl) (Nat.le_of_ble_eq_true rfl) (fun E m' h => by obtain ⟨z, _⟩ := h; cases z) (fun v μ1 h => ?_)
  obtain ⟨h0, c1⟩ := h
  cases h0
  have b1 : Bd k k (k + 6) z0 z0 zi μ μ1 := b0.call c1 (by omega)
  have jr_1 : μ1.2.2.1 (k + 1) = zi := c1.2.2.2.2
  show T _ _ _ _ _ _ _ _ 12 [some (.ref k), none] [.ref (k + 1), .ref k] μ1
  refine T_putR (pc := 12) (c := 9) (j := 0) fl_X9_12 ⟨rfl, rfl⟩ ⟨rfl, rfl⟩ (fun q => ⟨rfl, rfl⟩) (told_all hk 0 (by decide)).1 (by rw [b1.n]; omega) dX9_init_12 ?_
  have b2 : Bd k k (k + 6) (upr z0 0 (k + 1 + 1)) z0 zi μ (mR μ1 k 0 (k + 1 + 1)) := b1.putR
  have jr_2 : (mR μ1 k 0 (k + 1 + 1)).2.2.1 (k + 1) = zi := jr_1
  generalize mR μ1 k 0 (k + 1 + 1) = μ2 at b2 jr_2 ⊢
  refine T_aload_n (pc := 15) (i := 0) dX9_init_15 rfl rfl ?_
  refine T_bipush (pc := 16) (v := nI 6) dX9_init_16 (by decide) ?_
  refine T_anew (pc := 18) (c := 1) (t := 4) (N := 6) cl_X9_18 (Or.inl ⟨rfl, rfl⟩) (nI_pos (by omega)) (nI_clamp (by omega)) (by decide) (by rw [b2.n]; exact (told_all hk 6 (by decide)).1) (by rw [b2.n]; show _ < 595; omega) (Nat.le_of_ble_eq_true rfl) (Nat.le_of_ble_eq_true rfl) dX9_init_18 ?_
  rw [b2.n]
  have b3 : Bd k (k + 6) (k + 7) (upr z0 0 (k + 1 + 1)) z0 zi μ (mNew μ2) := b2.newr
  have jr_3 : (mNew μ2).2.2.1 (k + 1) = zi := (new_i (by rw [b2.n]; omega)).trans jr_2
  generalize mNew μ2 = μ3 at b3 jr_3 ⊢
  refine T_putR (pc := 21) (c := 9) (j := 1) fl_X9_20 ⟨rfl, rfl⟩ ⟨rfl, rfl⟩ (fun q => ⟨rfl, rfl⟩) (told_all hk 0 (by decide)).1 (by rw [b3.n]; omega) dX9_init_21 ?_
  have b4 : Bd k (k + 6) (k + 7) (upr (upr z0 0 (k + 1 + 1)) 1 (k + 6 + 1)) z0 zi μ (mR μ3 k 1 (k + 6 + 1)) := b3.putR
  have jr_4 : (mR μ3 k 1 (k + 6 + 1)).2.2.1 (k + 1) = zi := jr_3
  generalize mR μ3 k 1 (k + 6 + 1) = μ4 at b4 jr_4 ⊢
  refine T_aload_n (pc := 24) (i := 0) dX9_init_24 rfl rfl ?_
  refine T_bipush (pc := 25) (v := nI 10) dX9_init_25 (by decide) ?_
  refine T_newa (pc := 27) (at9 := .long) (t := 2) (N := 10) ac_long (Or.inr (Or.inl ⟨rfl, rfl⟩)) (nI_pos (by omega)) (nI_clamp (by omega)) (by decide) (by rw [b4.n]; exact (told_all hk 7 (by decide)).1) (by rw [b4.n]; show _ < 595; omega) (Nat.le_of_ble_eq_true rfl) (Nat.le_of_ble_eq_true rfl) dX9_init_27 ?_
  rw [b4.n]
  have b5 : Bd k (k + 6) (k + 8) (upr (upr z0 0 (k + 1 + 1)) 1 (k + 6 + 1)) z0 zi μ (mNew μ4) := b4.newp (R0_arr (t := 2) (N := 10) (told_all hk 7 (by decide)).1 (by decide))
  have jr_5 : (mNew μ4).2.2.1 (k + 1) = zi := (new_i (by rw [b4.n]; omega)).trans jr_4
  generalize mNew μ4 = μ5 at b5 jr_5 ⊢
  refine T_putR (pc := 29) (c := 9) (j := 3) fl_X9_24 ⟨rfl, rfl⟩ ⟨rfl, rfl⟩ (fun q => ⟨rfl, rfl⟩) (told_all hk 0 (by decide)).1 (by rw [b5.n]; omega) dX9_init_29 ?_
  have b6 : Bd k (k + 6) (k + 8) (upr (upr (upr z0 0 (k + 1 + 1)) 1 (k + 6 + 1)) 3 (k + 7 + 1)) z0 zi μ (mR μ5 k 3 (k + 7 + 1)) := b5.putR
  have jr_6 : (mR μ5 k 3 (k + 7 + 1)).2.2.1 (k + 1) = zi := jr_5
  generalize mR μ5 k 3 (k + 7 + 1) = μ6 at b6 jr_6 ⊢
  refine T_aload_n (pc := 32) (i := 0) dX9_init_32 rfl rfl ?_
  refine T_bipush (pc := 33) (v := nI 10) dX9_init_33 (by decide) ?_
  refine T_newa (pc := 35) (at9 := .long) (t := 2) (N := 10) ac_long (Or.inr (Or.inl ⟨rfl, rfl⟩)) (nI_pos (by omega)) (nI_clamp (by omega)) (by decide) (by rw [b6.n]; exact (told_all hk 8 (by decide)).1) (by rw [b6.n]; show _ < 595; omega) (Nat.le_of_ble_eq_true rfl) (Nat.le_of_ble_eq_true rfl) dX9_init_35 ?_
  rw [b6.n]
  have b7 : Bd k (k + 6) (k + 9) (upr (upr (upr z0 0 (k + 1 + 1)) 1 (k + 6 + 1)) 3 (k + 7 + 1)) z0 zi μ (mNew μ6) := b6.newp (R0_arr (t := 2) (N := 10) (told_all hk 8 (by decide)).1 (by decide))
  have jr_7 : (mNew μ6).2.2.1 (k + 1) = zi := (new_i (by rw [b6.n]; omega)).trans jr_6
  generalize mNew μ6 = μ7 at b7 jr_7 ⊢
  refine T_putR (pc := 37) (c := 9) (j := 4) fl_X9_28 ⟨rfl, rfl⟩ ⟨rfl, rfl⟩ (fun q => ⟨rfl, rfl⟩) (told_all hk 0 (by decide)).1 (by rw [b7.n]; omega) dX9_init_37 ?_
  have b8 : Bd k (k + 6) (k + 9) (upr (upr (upr (upr z0 0 (k + 1 + 1)) 1 (k + 6 + 1)) 3 (k + 7 + 1)) 4 (k + 8 + 1)) z0 zi μ (mR μ7 k 4 (k + 8 + 1)) := b7.putR
  have jr_8 : (mR μ7 k 4 (k + 8 + 1)).2.2.1 (k + 1) = zi := jr_7
  generalize mR μ7 k 4 (k + 8 + 1) = μ8 at b8 jr_8 ⊢
  refine T_aload_n (pc := 40) (i := 0) dX9_init_40 rfl rfl ?_
  refine T_bipush (pc := 41) (v := nI 8) dX9_init_41 (by decide) ?_
  refine T_newa (pc := 43) (at9 := .int) (t := 1) (N := 8) ac_int (Or.inl ⟨rfl, rfl⟩) (nI_pos (by omega)) (nI_clamp (by omega)) (by decide) (by rw [b8.n]; exact (told_all hk 9 (by decide)).1) (by rw [b8.n]; show _ < 595; omega) (Nat.le_of_ble_eq_true rfl) (Nat.le_of_ble_eq_true rfl) dX9_init_43 ?_
  rw [b8.n]
  have b9 : Bd k (k + 6) (k + 10) (upr (upr (upr (upr z0 0 (k + 1 + 1)) 1 (k + 6 + 1)) 3 (k + 7 + 1)) 4 (k + 8 + 1)) z0 zi μ (mNew μ8) := b8.newp (R0_arr (t := 1) (N := 8) (told_all hk 9 (by decide)).1 (by decide))
  have jr_9 : (mNew μ8).2.2.1 (k + 1) = zi := (new_i (by rw [b8.n]; omega)).trans jr_8
  generalize mNew μ8 = μ9 at b9 jr_9 ⊢
  refine T_putR (pc := 45) (c := 9) (j := 6) fl_X9_31 ⟨rfl, rfl⟩ ⟨rfl, rfl⟩ (fun q => ⟨rfl, rfl⟩) (told_all hk 0 (by decide)).1 (by rw [b9.n]; omega) dX9_init_45 ?_
  have b10 : Bd k (k + 6) (k + 10) (upr (upr (upr (upr (upr z0 0 (k + 1 + 1)) 1 (k + 6 + 1)) 3 (k + 7 + 1)) 4 (k + 8 + 1)) 6 (k + 9 + 1)) z0 zi μ (mR μ9 k 6 (k + 9 + 1)) := b9.putR
  have jr_10 : (mR μ9 k 6 (k + 9 + 1)).2.2.1 (k + 1) = zi := jr_9
  generalize mR μ9 k 6 (k + 9 + 1) = μ10 at b10 jr_10 ⊢
  refine T_aload_n (pc := 48) (i := 0) dX9_init_48 rfl rfl ?_
  refine T_iconst (pc := 49) (v := nI 0) dX9_init_49 (by decide) ?_
  refine T_putI (pc := 50) (c := 9) (j := 8) fl_X9_35 ⟨rfl, rfl⟩ (Or.inl rfl) (told_all hk 0 (by decide)).1 (by rw [b10.n]; omega) dX9_init_50 ?_
  have b11 : Bd k (k + 6) (k + 10) (upr (upr (upr (upr (upr z0 0 (k + 1 + 1)) 1 (k + 6 + 1)) 3 (k + 7 + 1)) 4 (k + 8 + 1)) 6 (k + 9 + 1)) z0 (upr zi 8 (nI 0)) μ (mI μ10 k 8 (nI 0)) := b10.putI
  have jr_11 : (mI μ10 k 8 (nI 0)).2.2.1 (k + 1) = zi := (show up2 μ10.2.2.1 k 8 (nI 0) (k + 1) = _ from (up2_ne (by omega)).trans jr_10)
  generalize mI μ10 k 8 (nI 0) = μ11 at b11 jr_11 ⊢
  refine T_aload_n (pc := 53) (i := 0) dX9_init_53 rfl rfl ?_
  refine T_iconst (pc := 54) (v := nI 1) dX9_init_54 (by decide) ?_
  refine T_putI (pc := 55) (c := 9) (j := 11) fl_X9_39 ⟨rfl, rfl⟩ (Or.inl rfl) (told_all hk 0 (by decide)).1 (by rw [b11.n]; omega) dX9_init_55 ?_
  have b12 : Bd k (k + 6) (k + 10) (upr (upr (upr (upr (upr z0 0 (k + 1 + 1)) 1 (k + 6 + 1)) 3 (k + 7 + 1)) 4 (k + 8 + 1)) 6 (k + 9 + 1)) z0 (upr (upr zi 8 (nI 0)) 11 (nI 1)) μ (mI μ11 k 11 (nI 1)) := b11.putI
  have jr_12 : (mI μ11 k 11 (nI 1)).2.2.1 (k + 1) = zi := (show up2 μ11.2.2.1 k 11 (nI 1) (k + 1) = _ from (up2_ne (by omega)).trans jr_11)
  generalize mI μ11 k 11 (nI 1) = μ12 at b12 jr_12 ⊢
  refine T_iconst (pc := 58) (v := nI 0) dX9_init_58 (by decide) ?_
  refine T_istore_n (pc := 59) (i := 1) (ls' := [some (.ref k), some (.int (nI 0))]) dX9_init_59 rfl (by decide) rfl ?_
  refine T_iload_n (pc := 60) (i := 1) dX9_init_60 rfl rfl ?_
  refine T_bipush (pc := 61) (v := nI 6) dX9_init_61 (by decide) ?_
  refine T_icmp_ge (pc := 63) (tgt := 85) dX9_init_63 (by decide) (fun h => absurd h (by decide)) (fun _ => ?_)
  refine T_aload_n (pc := 66) (i := 0) dX9_init_66 rfl rfl ?_
  refine T_getR (pc := 67) (c := 9) (j := 1) (i := (k + 6)) fl_X9_20 rfl (told_all hk 0 (by decide)).1 (by rw [b12.n]; omega) (by rw [b12.r]; rfl) dX9_init_67 ?_
  refine T_iload_n (pc := 70) (i := 1) dX9_init_70 rfl rfl ?_
  refine T_new (pc := 71) (c := 1) nw_X9_18 (by decide) (by rw [b12.n]; exact (told_all hk 10 (by decide)).1) (by rw [b12.n]; show _ < 595; omega) (Nat.le_of_ble_eq_true rfl) (Nat.le_of_ble_eq_true rfl) dX9_init_71 ?_
  rw [b12.n]
  refine T_dup (pc := 74) dX9_init_74 rfl ?_
  refine T_callI (pc := 75) (b := (k + 10)) (As := []) (rest := [.ref (k + 10), .int (nI 0), .ref (k + 6)]) (Or.inr lk_X9_42) mk_X1_init rfl (i_X1 (show isField (k + 10) from told_field (i := 0) hk (by decide)) (by omega) (by show μ12.1 + 1 = _; rw [b12.n]) (new_rz b12.n) (new_iz b12.n)) dX9_init_75 rfl rfl (Nat.le_of_ble_eq_true rfl) (by decide) rfl (Nat.le_of_ble_eq_true rfl) (Nat.le_of_ble_eq_true rfl) (fun E m' h => by obtain ⟨z, _⟩ := h; cases z) (fun v μ13 h => ?_)
  obtain ⟨h0, c13⟩ := h
  cases h0
  have b13 : Bd k (k + 6) (k + 13) (upr (upr (upr (upr (upr z0 0 (k + 1 + 1)) 1 (k + 6 + 1)) 3 (k + 7 + 1)) 4 (k + 8 + 1)) 6 (k + 9 + 1)) z0 (upr (upr zi 8 (nI 0)) 11 (nI 1)) μ μ13 := b12.call c13 (by omega)
  have jr_13 : μ13.2.2.1 (k + 1) = zi := (c13.lo b12.n (by omega)).trans jr_12
  show T _ _ _ _ _ _ _ _ 78 [some (.ref k), some (.int (nI 0))] [.ref (k + 10), .int (nI 0), .ref (k + 6)] μ13
  refine T_aast (pc := 78) (t := 0) (c := 1) (n := 6) (told_all hk 6 (by decide)).1 (Or.inl ⟨rfl, rfl⟩) (told_all hk 10 (by decide)).1 (by rw [b13.n]; omega) (by rw [b13.n]; omega) (vp_in_nI (n := 0) (by omega) (by omega)) dX9_init_78 ?_
  rw [nI_clamp (n := 0) (by omega)]
  have b14 : Bd k (k + 6) (k + 13) (upr (upr (upr (upr (upr z0 0 (k + 1 + 1)) 1 (k + 6 + 1)) 3 (k + 7 + 1)) 4 (k + 8 + 1)) 6 (k + 9 + 1)) (upr z0 0 (k + 10 + 1)) (upr (upr zi 8 (nI 0)) 11 (nI 1)) μ (mR μ13 (k + 6) 0 (k + 10 + 1)) := b13.ast (by omega)
  have jr_14 : (mR μ13 (k + 6) 0 (k + 10 + 1)).2.2.1 (k + 1) = zi := jr_13
  generalize mR μ13 (k + 6) 0 (k + 10 + 1) = μ14 at b14 jr_14 ⊢
  refine T_iinc (pc := 79) (i := 1) (v := nI 1) (ls' := [some (.ref k), some (.int (nI 1))]) dX9_init_79 rfl (by decide) rfl ?_
  refine T_goto (pc := 82) (tgt := 60) dX9_init_82 (by decide) ?_
  refine T_iload_n (pc := 60) (i := 1) dX9_init_60 rfl rfl ?_
  refine T_bipush (pc := 61) (v := nI 6) dX9_init_61 (by decide) ?_
  refine T_icmp_ge (pc := 63) (tgt := 85) dX9_init_63 (by decide) (fun h => absurd h (by decide)) (fun _ => ?_)
  refine T_aload_n (pc := 66) (i := 0) dX9_init_66 rfl rfl ?_
  refine T_getR (pc := 67) (c := 9) (j := 1) (i := (k + 6)) fl_X9_20 rfl (told_all hk 0 (by decide)).1 (by rw [b14.n]; omega) (by rw [b14.r]; rfl) dX9_init_67 ?_
  refine T_iload_n (pc := 70) (i := 1) dX9_init_70 rfl rfl ?_
  refine T_new (pc := 71) (c := 1) nw_X9_18 (by decide) (by rw [b14.n]; exact (told_all hk 13 (by decide)).1) (by rw [b14.n]; show _ < 595; omega) (Nat.le_of_ble_eq_true rfl) (Nat.le_of_ble_eq_true rfl) dX9_init_71 ?_
  rw [b14.n]
  refine T_dup (pc := 74) dX9_init_74 rfl ?_
  refine T_callI (pc := 75) (b := (k + 13)) (As := []) (rest := [.ref (k + 13), .int (nI 1), .ref (k + 6)]) (Or.inr lk_X9_42) mk_X1_init rfl (i_X1 (show isField (k + 13) from told_field (i := 1) hk (by decide)) (by omega) (by show μ14.1 + 1 = _; rw [b14.n]) (new_rz b14.n) (new_iz b14.n)) dX9_init_75 rfl rfl (Nat.le_of_ble_eq_true rfl) (by decide) rfl (Nat.le_of_ble_eq_true rfl) (Nat.le_of_ble_eq_true rfl) (fun E m' h => by obtain ⟨z, _⟩ := h; cases z) (fun v μ15 h => ?_)
  obtain ⟨h0, c15⟩ := h
  cases h0
  have b15 : Bd k (k + 6) (k + 16) (upr (upr (upr (upr (upr z0 0 (k + 1 + 1)) 1 (k + 6 + 1)) 3 (k + 7 + 1)) 4 (k + 8 + 1)) 6 (k + 9 + 1)) (upr z0 0 (k + 10 + 1)) (upr (upr zi 8 (nI 0)) 11 (nI 1)) μ μ15 := b14.call c15 (by omega)
  have jr_15 : μ15.2.2.1 (k + 1) = zi := (c15.lo b14.n (by omega)).trans jr_14
  show T _ _ _ _ _ _ _ _ 78 [some (.ref k), some (.int (nI 1))] [.ref (k + 13), .int (nI 1), .ref (k + 6)] μ15
  refine T_aast (pc := 78) (t := 0) (c := 1) (n := 6) (told_all hk 6 (by decide)).1 (Or.inl ⟨rfl, rfl⟩) (told_all hk 13 (by decide)).1 (by rw [b15.n]; omega) (by rw [b15.n]; omega) (vp_in_nI (n := 1) (by omega) (by omega)) dX9_init_78 ?_
  rw [nI_clamp (n := 1) (by omega)]
  have b16 : Bd k (k + 6) (k + 16) (upr (upr (upr (upr (upr z0 0 (k + 1 + 1)) 1 (k + 6 + 1)) 3 (k + 7 + 1)) 4 (k + 8 + 1)) 6 (k + 9 + 1)) (upr (upr z0 0 (k + 10 + 1)) 1 (k + 13 + 1)) (upr (upr zi 8 (nI 0)) 11 (nI 1)) μ (mR μ15 (k + 6) 1 (k + 13 + 1)) := b15.ast (by omega)
  have jr_16 : (mR μ15 (k + 6) 1 (k + 13 + 1)).2.2.1 (k + 1) = zi := jr_15
  generalize mR μ15 (k + 6) 1 (k + 13 + 1) = μ16 at b16 jr_16 ⊢
  refine T_iinc (pc := 79) (i := 1) (v := nI 2) (ls' := [some (.ref k), some (.int (nI 2))]) dX9_init_79 rfl (by decide) rfl ?_
  refine T_goto (pc := 82) (tgt := 60) dX9_init_82 (by decide) ?_
  refine T_iload_n (pc := 60) (i := 1) dX9_init_60 rfl rfl ?_
  refine T_bipush (pc := 61) (v := nI 6) dX9_init_61 (by decide) ?_
  refine T_icmp_ge (pc := 63) (tgt := 85) dX9_init_63 (by decide) (fun h => absurd h (by decide)) (fun _ => ?_)
  refine T_aload_n (pc := 66) (i := 0) dX9_init_66 rfl rfl ?_
  refine T_getR (pc := 67) (c := 9) (j := 1) (i := (k + 6)) fl_X9_20 rfl (told_all hk 0 (by decide)).1 (by rw [b16.n]; omega) (by rw [b16.r]; rfl) dX9_init_67 ?_
  refine T_iload_n (pc := 70) (i := 1) dX9_init_70 rfl rfl ?_
  refine T_new (pc := 71) (c := 1) nw_X9_18 (by decide) (by rw [b16.n]; exact (told_all hk 16 (by decide)).1) (by rw [b16.n]; show _ < 595; omega) (Nat.le_of_ble_eq_true rfl) (Nat.le_of_ble_eq_true rfl) dX9_init_71 ?_
  rw [b16.n]
  refine T_dup (pc := 74) dX9_init_74 rfl ?_
  refine T_callI (pc := 75) (b := (k + 16)) (As := []) (rest := [.ref (k + 16), .int (nI 2), .ref (k + 6)]) (Or.inr lk_X9_42) mk_X1_init rfl (i_X1 (show isField (k + 16) from told_field (i := 2) hk (by decide)) (by omega) (by show μ16.1 + 1 = _; rw [b16.n]) (new_rz b16.n) (new_iz b16.n)) dX9_init_75 rfl rfl (Nat.le_of_ble_eq_true rfl) (by decide) rfl (Nat.le_of_ble_eq_true rfl) (Nat.le_of_ble_eq_true rfl) (fun E m' h => by obtain ⟨z, _⟩ := h; cases z) (fun v μ17 h => ?_)
  obtain ⟨h0, c17⟩ := h
  cases h0
  have b17 : Bd k (k + 6) (k + 19) (upr (upr (upr (upr (upr z0 0 (k + 1 + 1)) 1 (k + 6 + 1)) 3 (k + 7 + 1)) 4 (k + 8 + 1)) 6 (k + 9 + 1)) (upr (upr z0 0 (k + 10 + 1)) 1 (k + 13 + 1)) (upr (upr zi 8 (nI 0)) 11 (nI 1)) μ μ17 := b16.call c17 (by omega)
  have jr_17 : μ17.2.2.1 (k + 1) = zi := (c17.lo b16.n (by omega)).trans jr_16
  show T _ _ _ _ _ _ _ _ 78 [some (.ref k), some (.int (nI 2))] [.ref (k + 16), .int (nI 2), .ref (k + 6)] μ17
  refine T_aast (pc := 78) (t := 0) (c := 1) (n := 6) (told_all hk 6 (by decide)).1 (Or.inl ⟨rfl, rfl⟩) (told_all hk 16 (by decide)).1 (by rw [b17.n]; omega) (by rw [b17.n]; omega) (vp_in_nI (n := 2) (by omega) (by omega)) dX9_init_78 ?_
  rw [nI_clamp (n := 2) (by omega)]
  have b18 : Bd k (k + 6) (k + 19) (upr (upr (upr (upr (upr z0 0 (k + 1 + 1)) 1 (k + 6 + 1)) 3 (k + 7 + 1)) 4 (k + 8 + 1)) 6 (k + 9 + 1)) (upr (upr (upr z0 0 (k + 10 + 1)) 1 (k + 13 + 1)) 2 (k + 16 + 1)) (upr (upr zi 8 (nI 0)) 11 (nI 1)) μ (mR μ17 (k + 6) 2 (k + 16 + 1)) := b17.ast (by omega)
  have jr_18 : (mR μ17 (k + 6) 2 (k + 16 + 1)).2.2.1 (k + 1) = zi := jr_17
  generalize mR μ17 (k + 6) 2 (k + 16 + 1) = μ18 at b18 jr_18 ⊢
  refine T_iinc (pc := 79) (i := 1) (v := nI 3) (ls' := [some (.ref k), some (.int (nI 3))]) dX9_init_79 rfl (by decide) rfl ?_
  refine T_goto (pc := 82) (tgt := 60) dX9_init_82 (by decide) ?_
  refine T_iload_n (pc := 60) (i := 1) dX9_init_60 rfl rfl ?_
  refine T_bipush (pc := 61) (v := nI 6) dX9_init_61 (by decide) ?_
  refine T_icmp_ge (pc := 63) (tgt := 85) dX9_init_63 (by decide) (fun h => absurd h (by decide)) (fun _ => ?_)
  refine T_aload_n (pc := 66) (i := 0) dX9_init_66 rfl rfl ?_
  refine T_getR (pc := 67) (c := 9) (j := 1) (i := (k + 6)) fl_X9_20 rfl (told_all hk 0 (by decide)).1 (by rw [b18.n]; omega) (by rw [b18.r]; rfl) dX9_init_67 ?_
  refine T_iload_n (pc := 70) (i := 1) dX9_init_70 rfl rfl ?_
  refine T_new (pc := 71) (c := 1) nw_X9_18 (by decide) (by rw [b18.n]; exact (told_all hk 19 (by decide)).1) (by rw [b18.n]; show _ < 595; omega) (Nat.le_of_ble_eq_true rfl) (Nat.le_of_ble_eq_true rfl) dX9_init_71 ?_
  rw [b18.n]
  refine T_dup (pc := 74) dX9_init_74 rfl ?_
  refine T_callI (pc := 75) (b := (k + 19)) (As := []) (rest := [.ref (k + 19), .int (nI 3), .ref (k + 6)]) (Or.inr lk_X9_42) mk_X1_init rfl (i_X1 (show isField (k + 19) from told_field (i := 3) hk (by decide)) (by omega) (by show μ18.1 + 1 = _; rw [b18.n]) (new_rz b18.n) (new_iz b18.n)) dX9_init_75 rfl rfl (Nat.le_of_ble_eq_true rfl) (by decide) rfl (Nat.le_of_ble_eq_true rfl) (Nat.le_of_ble_eq_true rfl) (fun E m' h => by obtain ⟨z, _⟩ := h; cases z) (fun v μ19 h => ?_)
  obtain ⟨h0, c19⟩ := h
  cases h0
  have b19 : Bd k (k + 6) (k + 22) (upr (upr (upr (upr (upr z0 0 (k + 1 + 1)) 1 (k + 6 + 1)) 3 (k + 7 + 1)) 4 (k + 8 + 1)) 6 (k + 9 + 1)) (upr (upr (upr z0 0 (k + 10 + 1)) 1 (k + 13 + 1)) 2 (k + 16 + 1)) (upr (upr zi 8 (nI 0)) 11 (nI 1)) μ μ19 := b18.call c19 (by omega)
  have jr_19 : μ19.2.2.1 (k + 1) = zi := (c19.lo b18.n (by omega)).trans jr_18
  show T _ _ _ _ _ _ _ _ 78 [some (.ref k), some (.int (nI 3))] [.ref (k + 19), .int (nI 3), .ref (k + 6)] μ19
  refine T_aast (pc := 78) (t := 0) (c := 1) (n := 6) (told_all hk 6 (by decide)).1 (Or.inl ⟨rfl, rfl⟩) (told_all hk 19 (by decide)).1 (by rw [b19.n]; omega) (by rw [b19.n]; omega) (vp_in_nI (n := 3) (by omega) (by omega)) dX9_init_78 ?_
  rw [nI_clamp (n := 3) (by omega)]
  have b20 : Bd k (k + 6) (k + 22) (upr (upr (upr (upr (upr z0 0 (k + 1 + 1)) 1 (k + 6 + 1)) 3 (k + 7 + 1)) 4 (k + 8 + 1)) 6 (k + 9 + 1)) (upr (upr (upr (upr z0 0 (k + 10 + 1)) 1 (k + 13 + 1)) 2 (k + 16 + 1)) 3 (k + 19 + 1)) (upr (upr zi 8 (nI 0)) 11 (nI 1)) μ (mR μ19 (k + 6) 3 (k + 19 + 1)) := b19.ast (by omega)
  have jr_20 : (mR μ19 (k + 6) 3 (k + 19 + 1)).2.2.1 (k + 1) = zi := jr_19
  generalize mR μ19 (k + 6) 3 (k + 19 + 1) = μ20 at b20 jr_20 ⊢
  refine T_iinc (pc := 79) (i := 1) (v := nI 4) (ls' := [some (.ref k), some (.int (nI 4))]) dX9_init_79 rfl (by decide) rfl ?_
  refine T_goto (pc := 82) (tgt := 60) dX9_init_82 (by decide) ?_
  refine T_iload_n (pc := 60) (i := 1) dX9_init_60 rfl rfl ?_
  refine T_bipush (pc := 61) (v := nI 6) dX9_init_61 (by decide) ?_
  refine T_icmp_ge (pc := 63) (tgt := 85) dX9_init_63 (by decide) (fun h => absurd h (by decide)) (fun _ => ?_)
  refine T_aload_n (pc := 66) (i := 0) dX9_init_66 rfl rfl ?_
  refine T_getR (pc := 67) (c := 9) (j := 1) (i := (k + 6)) fl_X9_20 rfl (told_all hk 0 (by decide)).1 (by rw [b20.n]; omega) (by rw [b20.r]; rfl) dX9_init_67 ?_
  refine T_iload_n (pc := 70) (i := 1) dX9_init_70 rfl rfl ?_
  refine T_new (pc := 71) (c := 1) nw_X9_18 (by decide) (by rw [b20.n]; exact (told_all hk 22 (by decide)).1) (by rw [b20.n]; show _ < 595; omega) (Nat.le_of_ble_eq_true rfl) (Nat.le_of_ble_eq_true rfl) dX9_init_71 ?_
  rw [b20.n]
  refine T_dup (pc := 74) dX9_init_74 rfl ?_
  refine T_callI (pc := 75) (b := (k + 22)) (As := []) (rest := [.ref (k + 22), .int (nI 4), .ref (k + 6)]) (Or.inr lk_X9_42) mk_X1_init rfl (i_X1 (show isField (k + 22) from told_field (i := 4) hk (by decide)) (by omega) (by show μ20.1 + 1 = _; rw [b20.n]) (new_rz b20.n) (new_iz b20.n)) dX9_init_75 rfl rfl (Nat.le_of_ble_eq_true rfl) (by decide) rfl (Nat.le_of_ble_eq_true rfl) (Nat.le_of_ble_eq_true rfl) (fun E m' h => by obtain ⟨z, _⟩ := h; cases z) (fun v μ21 h => ?_)
  obtain ⟨h0, c21⟩ := h
  cases h0
  have b21 : Bd k (k + 6) (k + 25) (upr (upr (upr (upr (upr z0 0 (k + 1 + 1)) 1 (k + 6 + 1)) 3 (k + 7 + 1)) 4 (k + 8 + 1)) 6 (k + 9 + 1)) (upr (upr (upr (upr z0 0 (k + 10 + 1)) 1 (k + 13 + 1)) 2 (k + 16 + 1)) 3 (k + 19 + 1)) (upr (upr zi 8 (nI 0)) 11 (nI 1)) μ μ21 := b20.call c21 (by omega)
  have jr_21 : μ21.2.2.1 (k + 1) = zi := (c21.lo b20.n (by omega)).trans jr_20
  show T _ _ _ _ _ _ _ _ 78 [some (.ref k), some (.int (nI 4))] [.ref (k + 22), .int (nI 4), .ref (k + 6)] μ21
  refine T_aast (pc := 78) (t := 0) (c := 1) (n := 6) (told_all hk 6 (by decide)).1 (Or.inl ⟨rfl, rfl⟩) (told_all hk 22 (by decide)).1 (by rw [b21.n]; omega) (by rw [b21.n]; omega) (vp_in_nI (n := 4) (by omega) (by omega)) dX9_init_78 ?_
  rw [nI_clamp (n := 4) (by omega)]
  have b22 : Bd k (k + 6) (k + 25) (upr (upr (upr (upr (upr z0 0 (k + 1 + 1)) 1 (k + 6 + 1)) 3 (k + 7 + 1)) 4 (k + 8 + 1)) 6 (k + 9 + 1)) (upr (upr (upr (upr (upr z0 0 (k + 10 + 1)) 1 (k + 13 + 1)) 2 (k + 16 + 1)) 3 (k + 19 + 1)) 4 (k + 22 + 1)) (upr (upr zi 8 (nI 0)) 11 (nI 1)) μ (mR μ21 (k + 6) 4 (k + 22 + 1)) := b21.ast (by omega)
  have jr_22 : (mR μ21 (k + 6) 4 (k + 22 + 1)).2.2.1 (k + 1) = zi := jr_21
  generalize mR μ21 (k + 6) 4 (k + 22 + 1) = μ22 at b22 jr_22 ⊢
  refine T_iinc (pc := 79) (i := 1) (v := nI 5) (ls' := [some (.ref k), some (.int (nI 5))]) dX9_init_79 rfl (by decide) rfl ?_
  refine T_goto (pc := 82) (tgt := 60) dX9_init_82 (by decide) ?_
  refine T_iload_n (pc := 60) (i := 1) dX9_init_60 rfl rfl ?_
  refine T_bipush (pc := 61) (v := nI 6) dX9_init_61 (by decide) ?_
  refine T_icmp_ge (pc := 63) (tgt := 85) dX9_init_63 (by decide) (fun h => absurd h (by decide)) (fun _ => ?_)
  refine T_aload_n (pc := 66) (i := 0) dX9_init_66 rfl rfl ?_
  refine T_getR (pc := 67) (c := 9) (j := 1) (i := (k + 6)) fl_X9_20 rfl (told_all hk 0 (by decide)).1 (by rw [b22.n]; omega) (by rw [b22.r]; rfl) dX9_init_67 ?_
  refine T_iload_n (pc := 70) (i := 1) dX9_init_70 rfl rfl ?_
  refine T_new (pc := 71) (c := 1) nw_X9_18 (by decide) (by rw [b22.n]; exact (told_all hk 25 (by decide)).1) (by rw [b22.n]; show _ < 595; omega) (Nat.le_of_ble_eq_true rfl) (Nat.le_of_ble_eq_true rfl) dX9_init_71 ?_
  rw [b22.n]
  refine T_dup (pc := 74) dX9_init_74 rfl ?_
  refine T_callI (pc := 75) (b := (k + 25)) (As := []) (rest := [.ref (k + 25), .int (nI 5), .ref (k + 6)]) (Or.inr lk_X9_42) mk_X1_init rfl (i_X1 (show isField (k + 25) from told_field (i := 5) hk (by decide)) (by omega) (by show μ22.1 + 1 = _; rw [b22.n]) (new_rz b22.n) (new_iz b22.n)) dX9_init_75 rfl rfl (Nat.le_of_ble_eq_true rfl) (by decide) rfl (Nat.le_of_ble_eq_true rfl) (Nat.le_of_ble_eq_true rfl) (fun E m' h => by obtain ⟨z, _⟩ := h; cases z) (fun v μ23 h => ?_)
  obtain ⟨h0, c23⟩ := h
  cases h0
  have b23 : Bd k (k + 6) (k + 28) (upr (upr (upr (upr (upr z0 0 (k + 1 + 1)) 1 (k + 6 + 1)) 3 (k + 7 + 1)) 4 (k + 8 + 1)) 6 (k + 9 + 1)) (upr (upr (upr (upr (upr z0 0 (k + 10 + 1)) 1 (k + 13 + 1)) 2 (k + 16 + 1)) 3 (k + 19 + 1)) 4 (k + 22 + 1)) (upr (upr zi 8 (nI 0)) 11 (nI 1)) μ μ23 := b22.call c23 (by omega)
  have jr_23 : μ23.2.2.1 (k + 1) = zi := (c23.lo b22.n (by omega)).trans jr_22
  show T _ _ _ _ _ _ _ _ 78 [some (.ref k), some (.int (nI 5))] [.ref (k + 25), .int (nI 5), .ref (k + 6)] μ23
  refine T_aast (pc := 78) (t := 0) (c := 1) (n := 6) (told_all hk 6 (by decide)).1 (Or.inl ⟨rfl, rfl⟩) (told_all hk 25 (by decide)).1 (by rw [b23.n]; omega) (by rw [b23.n]; omega) (vp_in_nI (n := 5) (by omega) (by omega)) dX9_init_78 ?_
  rw [nI_clamp (n := 5) (by omega)]
  have b24 : Bd k (k + 6) (k + 28) (upr (upr (upr (upr (upr z0 0 (k + 1 + 1)) 1 (k + 6 + 1)) 3 (k + 7 + 1)) 4 (k + 8 + 1)) 6 (k + 9 + 1)) (upr (upr (upr (upr (upr (upr z0 0 (k + 10 + 1)) 1 (k + 13 + 1)) 2 (k + 16 + 1)) 3 (k + 19 + 1)) 4 (k + 22 + 1)) 5 (k + 25 + 1)) (upr (upr zi 8 (nI 0)) 11 (nI 1)) μ (mR μ23 (k + 6) 5 (k + 25 + 1)) := b23.ast (by omega)
  have jr_24 : (mR μ23 (k + 6) 5 (k + 25 + 1)).2.2.1 (k + 1) = zi := jr_23
  generalize mR μ23 (k + 6) 5 (k + 25 + 1) = μ24 at b24 jr_24 ⊢
  refine T_iinc (pc := 79) (i := 1) (v := nI 6) (ls' := [some (.ref k), some (.int (nI 6))]) dX9_init_79 rfl (by decide) rfl ?_
  refine T_goto (pc := 82) (tgt := 60) dX9_init_82 (by decide) ?_
  refine T_iload_n (pc := 60) (i := 1) dX9_init_60 rfl rfl ?_
  refine T_bipush (pc := 61) (v := nI 6) dX9_init_61 (by decide) ?_
  refine T_icmp_ge (pc := 63) (tgt := 85) dX9_init_63 (by decide) (fun _ => ?_) (fun h => absurd (by decide) h)
  refine T_aload_n (pc := 85) (i := 0) dX9_init_85 rfl rfl ?_
  refine T_getR (pc := 86) (c := 9) (j := 6) (i := (k + 9)) fl_X9_31 rfl (told_all hk 0 (by decide)).1 (by rw [b24.n]; omega) (by rw [b24.r]; rfl) dX9_init_86 ?_
  refine T_iconst (pc := 89) (v := nI 1) dX9_init_89 (by decide) ?_
  refine T_callS (pc := 90) (av := [.ref (k + 9), .int (nI 1)]) (rest := []) (Or.inl lk_X9_43) mk_J7_fill_53178 (i_fill (N := 8) (v := nI 1) (told_all hk 9 (by decide)).1 (by rw [b24.n]; omega)) dX9_init_90 rfl rfl (Nat.le_of_ble_eq_true rfl) (by decide) rfl (Nat.le_of_ble_eq_true rfl) (Nat.le_of_ble_eq_true rfl) (fun E m' h => by obtain ⟨z, _⟩ := h; cases z) (fun v m' h => ?_)
  obtain ⟨h0, I9, rfl, f1, f2⟩ := h
  cases h0
  have b25 : Bd k (k + 6) (k + 28) (upr (upr (upr (upr (upr z0 0 (k + 1 + 1)) 1 (k + 6 + 1)) 3 (k + 7 + 1)) 4 (k + 8 + 1)) 6 (k + 9 + 1)) (upr (upr (upr (upr (upr (upr z0 0 (k + 10 + 1)) 1 (k + 13 + 1)) 2 (k + 16 + 1)) 3 (k + 19 + 1)) 4 (k + 22 + 1)) 5 (k + 25 + 1)) (upr (upr zi 8 (nI 0)) 11 (nI 1)) μ (μ24.1, μ24.2.1, I9, μ24.2.2.2) := b24.fil f1 (by omega)
  have jr_25 : I9 (k + 1) = zi := (f1 _ (by omega)).trans jr_24
  show T _ _ _ _ _ _ _ _ 93 [some (.ref k), some (.int (nI 6))] [] (μ24.1, μ24.2.1, I9, μ24.2.2.2)
  have hr : R0 k = (upr (upr (upr (upr (upr z0 0 (k + 1 + 1)) 1 (k + 6 + 1)) 3 (k + 7 + 1)) 4 (k + 8 + 1)) 6 (k + 9 + 1)) := by
    funext j
    show rt (KT k) k j = _
    rw [show KT k = (0, 9) from (told_all hk 0 (by decide)).1]
    match j with
    | 0 => rfl
    | 1 => rfl
    | 2 => rfl
    | 3 => rfl
    | 4 => rfl
    | 5 => rfl
    | 6 => rfl
    | 7 => rfl
    | 8 => rfl
    | 9 => rfl
    | 10 => rfl
    | 11 => rfl
    | q + 12 => (simp only [upr]; rw [if_neg (by omega), if_neg (by omega), if_neg (by omega), if_neg (by omega), if_neg (by omega)] <;> rfl)
  have ha : R0 (k + 6) = (upr (upr (upr (upr (upr (upr z0 0 (k + 10 + 1)) 1 (k + 13 + 1)) 2 (k + 16 + 1)) 3 (k + 19 + 1)) 4 (k + 22 + 1)) 5 (k + 25 + 1)) := by
    funext j
    show rt (KT (k + 6)) (k + 6) j = _
    rw [show KT (k + 6) = (4, 6) from (told_all hk 6 (by decide)).1]
    match j with
    | 0 => rfl
    | 1 => rfl
    | 2 => rfl
    | 3 => rfl
    | 4 => rfl
    | 5 => rfl
    | q + 6 => (simp only [upr]; rw [if_neg (by omega), if_neg (by omega), if_neg (by omega), if_neg (by omega), if_neg (by omega), if_neg (by omega)]; show (if q + 6 < 6 then k + 6 + 5 + 3 * (q + 6) else 0) = 0; rw [if_neg (by omega)])
  exact T_vret (pc := 93) dX9_init_93 rfl (Nat.le_of_ble_eq_true rfl) (Nat.le_of_ble_eq_true rfl) ⟨rfl, b25.done hr (fun h => ha) ⟨b25.i, jr_25, f2⟩⟩
end CT9

