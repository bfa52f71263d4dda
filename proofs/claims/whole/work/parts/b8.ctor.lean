/-! the constructors -/
theorem new_iz {μ : SMem} {n : Nat} (h : μ.1 = n) : (mNew μ).2.2.1 n = zi := by
  rw [← h]
  exact zr_eq
theorem new_rz {μ : SMem} {n : Nat} (h : μ.1 = n) : (mNew μ).2.1 n = z0 := by
  rw [← h]
  exact zr_eq
theorem Bd.fil {k a n c : Nat} {row arow : Nat → Nat} {irow : Nat → Int32} {S μ : SMem} {I9 : Nat → Nat → Int32} (b : Bd k a n row arow irow S μ) (f : ∀ i, i ≠ c → I9 i = μ.2.2.1 i) (hc : k < c) : Bd k a n row arow irow S (μ.1, μ.2.1, I9, μ.2.2.2) := by
  obtain ⟨⟨h1, h2⟩, h3, ⟨h4, h5⟩, h6, h7, h8⟩ := b
  exact ⟨⟨h1, h2⟩, fun i hi => ⟨(h3 i hi).1, (f i (by omega)).trans (h3 i hi).2⟩, ⟨h4, (f k (by omega)).trans h5⟩, h6, h7, h8⟩
set_option maxRecDepth 10000 in
theorem oi_X6_3 : (Cond.methodLink RX6 3 Lib.objectInit ∈ tbw ∧ Cond.instanceMethod Lib.objectInit ∈ tbw) ∧ Cond.code Lib.objectInit ⟨#[0xb1]⟩ 1 none ∈ tbw := ⟨⟨in_tb (in_t1 (List.mem_of_getElem? (i := 85) rfl)) rfl, in_tb (in_t1 (List.mem_of_getElem? (i := 38) rfl)) rfl⟩, in_tb (in_t1 (List.mem_of_getElem? (i := 39) rfl)) rfl⟩
set_option maxRecDepth 10000 in
theorem ac_long : Cond.arrayClass .long ∈ tbw := in_tb (in_t1 (List.mem_of_getElem? (i := 120) rfl)) rfl
set_option maxRecDepth 10000 in
theorem ac_int : Cond.arrayClass .int ∈ tbw := in_tb (in_t1 (List.mem_of_getElem? (i := 73) rfl)) rfl
set_option maxRecDepth 10000 in
theorem oi_X1_3 : (Cond.methodLink RX1 3 Lib.objectInit ∈ tbw ∧ Cond.instanceMethod Lib.objectInit ∈ tbw) ∧ Cond.code Lib.objectInit ⟨#[0xb1]⟩ 1 none ∈ tbw := ⟨⟨in_tb (in_t1 (List.mem_of_getElem? (i := 127) rfl)) rfl, in_tb (in_t1 (List.mem_of_getElem? (i := 38) rfl)) rfl⟩, in_tb (in_t1 (List.mem_of_getElem? (i := 39) rfl)) rfl⟩
set_option maxRecDepth 10000 in
theorem oi_X5_5 : (Cond.methodLink RX5 5 Lib.objectInit ∈ tbw ∧ Cond.instanceMethod Lib.objectInit ∈ tbw) ∧ Cond.code Lib.objectInit ⟨#[0xb1]⟩ 1 none ∈ tbw := ⟨⟨in_tb (in_t1 (List.mem_of_getElem? (i := 213) rfl)) rfl, in_tb (in_t1 (List.mem_of_getElem? (i := 38) rfl)) rfl⟩, in_tb (in_t1 (List.mem_of_getElem? (i := 39) rfl)) rfl⟩
set_option maxRecDepth 10000 in
theorem oi_X4_5 : (Cond.methodLink RX4 5 Lib.objectInit ∈ tbw ∧ Cond.instanceMethod Lib.objectInit ∈ tbw) ∧ Cond.code Lib.objectInit ⟨#[0xb1]⟩ 1 none ∈ tbw := ⟨⟨in_tb (in_t2 (List.mem_of_getElem? (i := 49) rfl)) rfl, in_tb (in_t1 (List.mem_of_getElem? (i := 38) rfl)) rfl⟩, in_tb (in_t1 (List.mem_of_getElem? (i := 39) rfl)) rfl⟩
set_option maxRecDepth 10000 in
theorem oi_X8_3 : (Cond.methodLink RX8 3 Lib.objectInit ∈ tbw ∧ Cond.instanceMethod Lib.objectInit ∈ tbw) ∧ Cond.code Lib.objectInit ⟨#[0xb1]⟩ 1 none ∈ tbw := ⟨⟨in_tb (in_t1 (List.mem_of_getElem? (i := 45) rfl)) rfl, in_tb (in_t1 (List.mem_of_getElem? (i := 38) rfl)) rfl⟩, in_tb (in_t1 (List.mem_of_getElem? (i := 39) rfl)) rfl⟩
set_option maxRecDepth 10000 in
theorem oi_X2_3 : (Cond.methodLink RX2 3 Lib.objectInit ∈ tbw ∧ Cond.instanceMethod Lib.objectInit ∈ tbw) ∧ Cond.code Lib.objectInit ⟨#[0xb1]⟩ 1 none ∈ tbw := ⟨⟨in_tb (in_t2 (List.mem_of_getElem? (i := 80) rfl)) rfl, in_tb (in_t1 (List.mem_of_getElem? (i := 38) rfl)) rfl⟩, in_tb (in_t1 (List.mem_of_getElem? (i := 39) rfl)) rfl⟩
set_option maxRecDepth 10000 in
theorem oi_X7_3 : (Cond.methodLink RX7 3 Lib.objectInit ∈ tbw ∧ Cond.instanceMethod Lib.objectInit ∈ tbw) ∧ Cond.code Lib.objectInit ⟨#[0xb1]⟩ 1 none ∈ tbw := ⟨⟨in_tb (in_t2 (List.mem_of_getElem? (i := 101) rfl)) rfl, in_tb (in_t1 (List.mem_of_getElem? (i := 38) rfl)) rfl⟩, in_tb (in_t1 (List.mem_of_getElem? (i := 39) rfl)) rfl⟩
set_option maxRecDepth 10000 in
theorem oi_X0_3 : (Cond.methodLink RX0 3 Lib.objectInit ∈ tbw ∧ Cond.instanceMethod Lib.objectInit ∈ tbw) ∧ Cond.code Lib.objectInit ⟨#[0xb1]⟩ 1 none ∈ tbw := ⟨⟨in_tb (in_t2 (List.mem_of_getElem? (i := 139) rfl)) rfl, in_tb (in_t1 (List.mem_of_getElem? (i := 38) rfl)) rfl⟩, in_tb (in_t1 (List.mem_of_getElem? (i := 39) rfl)) rfl⟩
set_option maxRecDepth 10000 in
theorem oi_X3_3 : (Cond.methodLink RX3 3 Lib.objectInit ∈ tbw ∧ Cond.instanceMethod Lib.objectInit ∈ tbw) ∧ Cond.code Lib.objectInit ⟨#[0xb1]⟩ 1 none ∈ tbw := ⟨⟨in_tb (in_t2 (List.mem_of_getElem? (i := 169) rfl)) rfl, in_tb (in_t1 (List.mem_of_getElem? (i := 38) rfl)) rfl⟩, in_tb (in_t1 (List.mem_of_getElem? (i := 39) rfl)) rfl⟩
set_option maxRecDepth 10000 in
theorem oi_X10_3 : (Cond.methodLink RX10 3 Lib.objectInit ∈ tbw ∧ Cond.instanceMethod Lib.objectInit ∈ tbw) ∧ Cond.code Lib.objectInit ⟨#[0xb1]⟩ 1 none ∈ tbw := ⟨⟨in_tb (in_t1 (List.mem_of_getElem? (i := 234) rfl)) rfl, in_tb (in_t1 (List.mem_of_getElem? (i := 38) rfl)) rfl⟩, in_tb (in_t1 (List.mem_of_getElem? (i := 39) rfl)) rfl⟩
set_option maxRecDepth 10000 in
theorem oi_X9_3 : (Cond.methodLink RX9 3 Lib.objectInit ∈ tbw ∧ Cond.instanceMethod Lib.objectInit ∈ tbw) ∧ Cond.code Lib.objectInit ⟨#[0xb1]⟩ 1 none ∈ tbw := ⟨⟨in_tb (in_t1 (List.mem_of_getElem? (i := 79) rfl)) rfl, in_tb (in_t1 (List.mem_of_getElem? (i := 38) rfl)) rfl⟩, in_tb (in_t1 (List.mem_of_getElem? (i := 39) rfl)) rfl⟩
set_option maxRecDepth 10000 in
theorem nw_X9_9 : (Cond.classLink RX9 9 (cl3 6).1 ∈ tbw ∧ Cond.instantiable (cl3 6).1 (cl3 6).2.2 ∈ tbw) ∧ Cond.initialized (cl3 6).1 ∈ tbw := ⟨⟨in_tb (in_t1 (List.mem_of_getElem? (i := 80) rfl)) rfl, in_tb (in_t1 (List.mem_of_getElem? (i := 81) rfl)) rfl⟩, in_tb (in_t1 (List.mem_of_getElem? (i := 4) rfl)) rfl⟩
set_option maxRecDepth 10000 in
theorem cl_X9_18 : Cond.classLink RX9 18 (cl3 1).1 ∈ tbw := in_tb (in_t1 (List.mem_of_getElem? (i := 121) rfl)) rfl
set_option maxRecDepth 10000 in
theorem nw_X9_18 : (Cond.classLink RX9 18 (cl3 1).1 ∈ tbw ∧ Cond.instantiable (cl3 1).1 (cl3 1).2.2 ∈ tbw) ∧ Cond.initialized (cl3 1).1 ∈ tbw := ⟨⟨in_tb (in_t1 (List.mem_of_getElem? (i := 121) rfl)) rfl, in_tb (in_t1 (List.mem_of_getElem? (i := 123) rfl)) rfl⟩, in_tb (in_t1 (List.mem_of_getElem? (i := 5) rfl)) rfl⟩
set_option maxRecDepth 10000 in
theorem oi_X11_1 : (Cond.methodLink RX11 1 Lib.objectInit ∈ tbw ∧ Cond.instanceMethod Lib.objectInit ∈ tbw) ∧ Cond.code Lib.objectInit ⟨#[0xb1]⟩ 1 none ∈ tbw := ⟨⟨in_tb (in_t1 (List.mem_of_getElem? (i := 37) rfl)) rfl, in_tb (in_t1 (List.mem_of_getElem? (i := 38) rfl)) rfl⟩, in_tb (in_t1 (List.mem_of_getElem? (i := 39) rfl)) rfl⟩
set_option maxRecDepth 10000 in
theorem nw_X11_7 : (Cond.classLink RX11 7 (cl3 8).1 ∈ tbw ∧ Cond.instantiable (cl3 8).1 (cl3 8).2.2 ∈ tbw) ∧ Cond.initialized (cl3 8).1 ∈ tbw := ⟨⟨in_tb (in_t1 (List.mem_of_getElem? (i := 40) rfl)) rfl, in_tb (in_t1 (List.mem_of_getElem? (i := 41) rfl)) rfl⟩, in_tb (in_t1 (List.mem_of_getElem? (i := 2) rfl)) rfl⟩
set_option maxRecDepth 10000 in
theorem nw_X11_16 : (Cond.classLink RX11 16 (cl3 9).1 ∈ tbw ∧ Cond.instantiable (cl3 9).1 (cl3 9).2.2 ∈ tbw) ∧ Cond.initialized (cl3 9).1 ∈ tbw := ⟨⟨in_tb (in_t1 (List.mem_of_getElem? (i := 74) rfl)) rfl, in_tb (in_t1 (List.mem_of_getElem? (i := 75) rfl)) rfl⟩, in_tb (in_t1 (List.mem_of_getElem? (i := 3) rfl)) rfl⟩
set_option maxRecDepth 10000 in
theorem nw_X11_26 : (Cond.classLink RX11 26 (cl3 5).1 ∈ tbw ∧ Cond.instantiable (cl3 5).1 (cl3 5).2.2 ∈ tbw) ∧ Cond.initialized (cl3 5).1 ∈ tbw := ⟨⟨in_tb (in_t1 (List.mem_of_getElem? (i := 208) rfl)) rfl, in_tb (in_t1 (List.mem_of_getElem? (i := 209) rfl)) rfl⟩, in_tb (in_t1 (List.mem_of_getElem? (i := 7) rfl)) rfl⟩
set_option maxRecDepth 10000 in
theorem cl_X11_16 : Cond.classLink RX11 16 (cl3 9).1 ∈ tbw := in_tb (in_t1 (List.mem_of_getElem? (i := 74) rfl)) rfl
set_option maxRecDepth 10000 in
theorem nw_X11_46 : (Cond.classLink RX11 46 (cl3 10).1 ∈ tbw ∧ Cond.instantiable (cl3 10).1 (cl3 10).2.2 ∈ tbw) ∧ Cond.initialized (cl3 10).1 ∈ tbw := ⟨⟨in_tb (in_t1 (List.mem_of_getElem? (i := 229) rfl)) rfl, in_tb (in_t1 (List.mem_of_getElem? (i := 230) rfl)) rfl⟩, in_tb (in_t1 (List.mem_of_getElem? (i := 8) rfl)) rfl⟩
set_option maxRecDepth 10000 in
theorem nw_X11_59 : (Cond.classLink RX11 59 (cl3 4).1 ∈ tbw ∧ Cond.instantiable (cl3 4).1 (cl3 4).2.2 ∈ tbw) ∧ Cond.initialized (cl3 4).1 ∈ tbw := ⟨⟨in_tb (in_t2 (List.mem_of_getElem? (i := 44) rfl)) rfl, in_tb (in_t2 (List.mem_of_getElem? (i := 45) rfl)) rfl⟩, in_tb (in_t1 (List.mem_of_getElem? (i := 9) rfl)) rfl⟩
set_option maxRecDepth 10000 in
theorem nw_X11_69 : (Cond.classLink RX11 69 (cl3 2).1 ∈ tbw ∧ Cond.instantiable (cl3 2).1 (cl3 2).2.2 ∈ tbw) ∧ Cond.initialized (cl3 2).1 ∈ tbw := ⟨⟨in_tb (in_t2 (List.mem_of_getElem? (i := 75) rfl)) rfl, in_tb (in_t2 (List.mem_of_getElem? (i := 76) rfl)) rfl⟩, in_tb (in_t1 (List.mem_of_getElem? (i := 10) rfl)) rfl⟩
set_option maxRecDepth 10000 in
theorem nw_X11_76 : (Cond.classLink RX11 76 (cl3 7).1 ∈ tbw ∧ Cond.instantiable (cl3 7).1 (cl3 7).2.2 ∈ tbw) ∧ Cond.initialized (cl3 7).1 ∈ tbw := ⟨⟨in_tb (in_t2 (List.mem_of_getElem? (i := 96) rfl)) rfl, in_tb (in_t2 (List.mem_of_getElem? (i := 97) rfl)) rfl⟩, in_tb (in_t1 (List.mem_of_getElem? (i := 11) rfl)) rfl⟩
set_option maxRecDepth 10000 in
theorem nw_X11_83 : (Cond.classLink RX11 83 (cl3 0).1 ∈ tbw ∧ Cond.instantiable (cl3 0).1 (cl3 0).2.2 ∈ tbw) ∧ Cond.initialized (cl3 0).1 ∈ tbw := ⟨⟨in_tb (in_t2 (List.mem_of_getElem? (i := 134) rfl)) rfl, in_tb (in_t2 (List.mem_of_getElem? (i := 135) rfl)) rfl⟩, in_tb (in_t1 (List.mem_of_getElem? (i := 12) rfl)) rfl⟩
set_option maxRecDepth 10000 in
theorem nw_X11_90 : (Cond.classLink RX11 90 (cl3 3).1 ∈ tbw ∧ Cond.instantiable (cl3 3).1 (cl3 3).2.2 ∈ tbw) ∧ Cond.initialized (cl3 3).1 ∈ tbw := ⟨⟨in_tb (in_t2 (List.mem_of_getElem? (i := 164) rfl)) rfl, in_tb (in_t2 (List.mem_of_getElem? (i := 165) rfl)) rfl⟩, in_tb (in_t1 (List.mem_of_getElem? (i := 13) rfl)) rfl⟩
set_option maxRecDepth 10000 in
theorem oi_X12_23 : (Cond.methodLink RX12 23 Lib.objectInit ∈ tbw ∧ Cond.instanceMethod Lib.objectInit ∈ tbw) ∧ Cond.code Lib.objectInit ⟨#[0xb1]⟩ 1 none ∈ tbw := ⟨⟨in_tb (in_t7 (List.mem_of_getElem? (i := 78) rfl)) rfl, in_tb (in_t1 (List.mem_of_getElem? (i := 38) rfl)) rfl⟩, in_tb (in_t1 (List.mem_of_getElem? (i := 39) rfl)) rfl⟩
set_option maxRecDepth 10000 in
theorem ac_byte : Cond.arrayClass .byte ∈ tbw := in_tb (in_t4 (List.mem_of_getElem? (i := 172) rfl)) rfl
section CT9
variable {γ : Ga}
theorem i_fill {a N : Nat} {v : Int32} {μ : SMem} (hk : KT a = (1, N)) (ha : a < μ.1) (hN : N < 2 ^ 31 := by decide) : Ex γ 1 0 0 M_J7_fill_53178 [.ref a, .int v] μ (fun o m => o = .inl none ∧ ∃ I', m = (μ.1, μ.2.1, I', μ.2.2.2) ∧ (∀ i, i ≠ a → I' i = μ.2.2.1 i) ∧ ∀ j, j < N → I' a j = v) := by
  refine Ex.of (by decide +kernel) rfl (Nat.le_of_ble_eq_true rfl) ?_
  show T _ _ _ _ _ _ _ _ 0 [some (.ref a), some (.int v), none, none] [] μ
  have loop : ∀ (f j : Nat) (I' : Nat → Nat → Int32), j + f = N → (∀ i, i ≠ a → I' i = μ.2.2.1 i) → (∀ q, q < j → I' a q = v) → T γ 1 0 0 M_J7_fill_53178 (fun o m => o = .inl none ∧ ∃ I', m = (μ.1, μ.2.1, I', μ.2.2.2) ∧ (∀ i, i ≠ a → I' i = μ.2.2.1 i) ∧ ∀ j, j < N → I' a j = v) 0 0 5 [some (.ref a), some (.int v), some (.int (nI j)), some (.int (nI N))] [] (μ.1, μ.2.1, I', μ.2.2.2) := by
    intro f
    induction f with
    | zero =>
      intro j I' hj h1 h2
      obtain rfl : j = N := by omega
      refine T_iload_n (pc := 5) (i := 2) dJ7_fill_53178_5 rfl rfl ?_
      refine T_iload_n (pc := 6) (i := 3) dJ7_fill_53178_6 rfl rfl ?_
      refine T_icmp_ge (pc := 7) (tgt := 20) dJ7_fill_53178_7 (by decide) (fun _ => ?_) (fun h => absurd (by rw [fa_le]; omega) h)
      exact T_vret (pc := 20) dJ7_fill_53178_20 rfl (Nat.le_refl _) (Nat.le_refl _) ⟨rfl, I', rfl, h1, h2⟩
    | succ f ih =>
      intro j I' hj h1 h2
      have hlt : ¬ nI N ≤ nI j := by
        rw [fa_le, nI_toInt (by omega), nI_toInt (by omega)]
        omega
      refine T_iload_n (pc := 5) (i := 2) dJ7_fill_53178_5 rfl rfl ?_
      refine T_iload_n (pc := 6) (i := 3) dJ7_fill_53178_6 rfl rfl ?_
      refine T_icmp_ge (pc := 7) (tgt := 20) dJ7_fill_53178_7 (by decide) (fun h => absurd h hlt) (fun _ => ?_)
      refine T_aload_n (pc := 10) (i := 0) dJ7_fill_53178_10 rfl rfl ?_
      refine T_iload_n (pc := 11) (i := 2) dJ7_fill_53178_11 rfl rfl ?_
      refine T_iload_n (pc := 12) (i := 1) dJ7_fill_53178_12 rfl rfl ?_
      refine T_iast (pc := 13) (n := N) hk ha (vp_in_nI (by omega) hN) dJ7_fill_53178_13 ?_
      rw [nI_clamp (n := j) (by omega)]
      refine T_iinc (pc := 14) (i := 2) (v := nI (j + 1)) (ls' := [some (.ref a), some (.int v), some (.int (nI (j + 1))), some (.int (nI N))]) dJ7_fill_53178_14 rfl (by rw [← nI_add]; rfl) rfl ?_
      refine T_goto (pc := 17) (tgt := 5) dJ7_fill_53178_17 (by decide) ?_
      refine ih (j + 1) (up2 I' a j v) (by omega) (fun i hi => (up2_ne hi).trans (h1 i hi)) (fun q hq => ?_)
      rw [up2_row]
      show (if q = j then v else I' a q) = v
      by_cases e : q = j
      · rw [if_pos e]
      · rw [if_neg e]
        exact h2 q (by omega)
  refine T_iconst (pc := 0) (v := nI 0) dJ7_fill_53178_0 (by decide) ?_
  refine T_istore_n (pc := 1) (i := 2) (ls' := [some (.ref a), some (.int v), some (.int (nI 0)), none]) dJ7_fill_53178_1 rfl (by decide) rfl ?_
  refine T_aload_n (pc := 2) (i := 0) dJ7_fill_53178_2 rfl rfl ?_
  refine T_alen (pc := 3) hk (by decide) ha dJ7_fill_53178_3 ?_
  refine T_istore_n (pc := 4) (i := 3) (ls' := [some (.ref a), some (.int v), some (.int (nI 0)), some (.int (nI N))]) dJ7_fill_53178_4 rfl (by decide) rfl ?_
  exact loop N 0 μ.2.2.1 (Nat.zero_add _) (fun i _ => rfl) (fun q hq => absurd hq (Nat.not_lt_zero _))
theorem i_X6 {k : Nat} {μ : SMem} (hk : isRules k) (hN : k + 5 ≤ 595) (h1 : μ.1 = k + 1) (h2 : μ.2.1 k = z0) (h3 : μ.2.2.1 k = zi) : Ex γ 1 4 48 M_X6_init [.ref k] μ (Ci k (k + 5) μ (fun I => I k = zi)) := by
  refine Ex.of (by decide +kernel) rfl (Nat.le_of_ble_eq_true rfl) ?_
  show T _ _ _ _ _ _ _ _ 0 [some (.ref k)] [] μ
  have b0 : Bd k k (k + 1) z0 z0 zi μ μ := Bd.start h1 h2 h3
  refine T_aload_n (pc := 0) (i := 0) dX6_init_0 rfl rfl ?_
  refine T_objInit (pc := 1) oi_X6_3 (Nat.le_of_ble_eq_true rfl) dX6_init_1 ?_
  refine T_aload_n (pc := 4) (i := 0) dX6_init_4 rfl rfl ?_
  refine T_bipush (pc := 5) (v := nI 12) dX6_init_5 (by decide) ?_
  refine T_newa (pc := 7) (at9 := .long) (t := 2) (N := 12) ac_long (Or.inr (Or.inl ⟨rfl, rfl⟩)) (nI_pos (by omega)) (nI_clamp (by omega)) (by decide) (by rw [b0.n]; exact (kt_rules_left hk)) (by rw [b0.n]; show _ < 595; omega) (Nat.le_of_ble_eq_true rfl) (Nat.le_of_ble_eq_true rfl) dX6_init_7 ?_
  rw [b0.n]
  have b1 : Bd k k (k + 2) z0 z0 zi μ (mNew μ) := b0.newp (R0_arr (t := 2) (N := 12) (kt_rules_left hk) (by decide))
  generalize mNew μ = μ1 at b1 ⊢
  refine T_putR (pc := 9) (c := 6) (j := 1) fl_X6_9 ⟨rfl, rfl⟩ ⟨rfl, rfl⟩ (fun q => ⟨rfl, rfl⟩) (kt_rules hk) (by rw [b1.n]; omega) dX6_init_9 ?_
  have b2 : Bd k k (k + 2) (upr z0 1 (k + 1 + 1)) z0 zi μ (mR μ1 k 1 (k + 1 + 1)) := b1.putR
  generalize mR μ1 k 1 (k + 1 + 1) = μ2 at b2 ⊢
  refine T_aload_n (pc := 12) (i := 0) dX6_init_12 rfl rfl ?_
  refine T_bipush (pc := 13) (v := nI 12) dX6_init_13 (by decide) ?_
  refine T_newa (pc := 15) (at9 := .long) (t := 2) (N := 12) ac_long (Or.inr (Or.inl ⟨rfl, rfl⟩)) (nI_pos (by omega)) (nI_clamp (by omega)) (by decide) (by rw [b2.n]; exact (kt_rules_right hk)) (by rw [b2.n]; show _ < 595; omega) (Nat.le_of_ble_eq_true rfl) (Nat.le_of_ble_eq_true rfl) dX6_init_15 ?_
  rw [b2.n]
  have b3 : Bd k k (k + 3) (upr z0 1 (k + 1 + 1)) z0 zi μ (mNew μ2) := b2.newp (R0_arr (t := 2) (N := 12) (kt_rules_right hk) (by decide))
  generalize mNew μ2 = μ3 at b3 ⊢
  refine T_putR (pc := 17) (c := 6) (j := 2) fl_X6_15 ⟨rfl, rfl⟩ ⟨rfl, rfl⟩ (fun q => ⟨rfl, rfl⟩) (kt_rules hk) (by rw [b3.n]; omega) dX6_init_17 ?_
  have b4 : Bd k k (k + 3) (upr (upr z0 1 (k + 1 + 1)) 2 (k + 2 + 1)) z0 zi μ (mR μ3 k 2 (k + 2 + 1)) := b3.putR
  generalize mR μ3 k 2 (k + 2 + 1) = μ4 at b4 ⊢
  refine T_aload_n (pc := 20) (i := 0) dX6_init_20 rfl rfl ?_
  refine T_bipush (pc := 21) (v := nI 12) dX6_init_21 (by decide) ?_
  refine T_newa (pc := 23) (at9 := .int) (t := 1) (N := 12) ac_int (Or.inl ⟨rfl, rfl⟩) (nI_pos (by omega)) (nI_clamp (by omega)) (by decide) (by rw [b4.n]; exact (kt_rules_leftSize hk)) (by rw [b4.n]; show _ < 595; omega) (Nat.le_of_ble_eq_true rfl) (Nat.le_of_ble_eq_true rfl) dX6_init_23 ?_
  rw [b4.n]
  have b5 : Bd k k (k + 4) (upr (upr z0 1 (k + 1 + 1)) 2 (k + 2 + 1)) z0 zi μ (mNew μ4) := b4.newp (R0_arr (t := 1) (N := 12) (kt_rules_leftSize hk) (by decide))
  generalize mNew μ4 = μ5 at b5 ⊢
  refine T_putR (pc := 25) (c := 6) (j := 3) fl_X6_18 ⟨rfl, rfl⟩ ⟨rfl, rfl⟩ (fun q => ⟨rfl, rfl⟩) (kt_rules hk) (by rw [b5.n]; omega) dX6_init_25 ?_
  have b6 : Bd k k (k + 4) (upr (upr (upr z0 1 (k + 1 + 1)) 2 (k + 2 + 1)) 3 (k + 3 + 1)) z0 zi μ (mR μ5 k 3 (k + 3 + 1)) := b5.putR
  generalize mR μ5 k 3 (k + 3 + 1) = μ6 at b6 ⊢
  refine T_aload_n (pc := 28) (i := 0) dX6_init_28 rfl rfl ?_
  refine T_bipush (pc := 29) (v := nI 12) dX6_init_29 (by decide) ?_
  refine T_newa (pc := 31) (at9 := .int) (t := 1) (N := 12) ac_int (Or.inl ⟨rfl, rfl⟩) (nI_pos (by omega)) (nI_clamp (by omega)) (by decide) (by rw [b6.n]; exact (kt_rules_rightSize hk)) (by rw [b6.n]; show _ < 595; omega) (Nat.le_of_ble_eq_true rfl) (Nat.le_of_ble_eq_true rfl) dX6_init_31 ?_
  rw [b6.n]
  have b7 : Bd k k (k + 5) (upr (upr (upr z0 1 (k + 1 + 1)) 2 (k + 2 + 1)) 3 (k + 3 + 1)) z0 zi μ (mNew μ6) := b6.newp (R0_arr (t := 1) (N := 12) (kt_rules_rightSize hk) (by decide))
  generalize mNew μ6 = μ7 at b7 ⊢
  refine T_putR (pc := 33) (c := 6) (j := 4) fl_X6_22 ⟨rfl, rfl⟩ ⟨rfl, rfl⟩ (fun q => ⟨rfl, rfl⟩) (kt_rules hk) (by rw [b7.n]; omega) dX6_init_33 ?_
  have b8 : Bd k k (k + 5) (upr (upr (upr (upr z0 1 (k + 1 + 1)) 2 (k + 2 + 1)) 3 (k + 3 + 1)) 4 (k + 4 + 1)) z0 zi μ (mR μ7 k 4 (k + 4 + 1)) := b7.putR
  generalize mR μ7 k 4 (k + 4 + 1) = μ8 at b8 ⊢
  have hr : R0 k = (upr (upr (upr (upr z0 1 (k + 1 + 1)) 2 (k + 2 + 1)) 3 (k + 3 + 1)) 4 (k + 4 + 1)) := by
    funext j
    show rt (KT k) k j = _
    rw [(kt_rules hk)]
    match j with
    | 0 => rfl
    | 1 => rfl
    | 2 => rfl
    | 3 => rfl
    | 4 => rfl
    | q + 5 => (simp only [upr]; rw [if_neg (by omega), if_neg (by omega), if_neg (by omega), if_neg (by omega)] <;> rfl)
  exact T_vret (pc := 36) dX6_init_36 rfl (Nat.le_of_ble_eq_true rfl) (Nat.le_of_ble_eq_true rfl) ⟨rfl, b8.done hr (fun h => absurd h (Nat.lt_irrefl _)) b8.i⟩
theorem i_X1 {k : Nat} {μ : SMem} (hk : isField k) (hN : k + 3 ≤ 595) (h1 : μ.1 = k + 1) (h2 : μ.2.1 k = z0) (h3 : μ.2.2.1 k = zi) : Ex γ 1 2 40 M_X1_init [.ref k] μ (Ci k (k + 3) μ (fun I => I k = zi)) := by
  refine Ex.of (by decide +kernel) rfl (Nat.le_of_ble_eq_true rfl) ?_
  show T _ _ _ _ _ _ _ _ 0 [some (.ref k)] [] μ
  have b0 : Bd k k (k + 1) z0 z0 zi μ μ := Bd.start h1 h2 h3
  refine T_aload_n (pc := 0) (i := 0) dX1_init_0 rfl rfl ?_
  refine T_objInit (pc := 1) oi_X1_3 (Nat.le_of_ble_eq_true rfl) dX1_init_1 ?_
  refine T_aload_n (pc := 4) (i := 0) dX1_init_4 rfl rfl ?_
  refine T_lconst (pc := 5) (v := lN 1) dX1_init_5 rfl ?_
  refine T_putL (pc := 6) (c := 1) (j := 0) fl_X1_9 ⟨rfl, rfl⟩ (kt_field hk) (by rw [b0.n]; omega) dX1_init_6 ?_
  have b1 : Bd k k (k + 1) z0 z0 zi μ (mL μ k 0 (lN 1)) := b0.putL
  generalize mL μ k 0 (lN 1) = μ1 at b1 ⊢
  refine T_aload_n (pc := 9) (i := 0) dX1_init_9 rfl rfl ?_
  refine T_bipush (pc := 10) (v := nI 20) dX1_init_10 (by decide) ?_
  refine T_newa (pc := 12) (at9 := .int) (t := 1) (N := 20) ac_int (Or.inl ⟨rfl, rfl⟩) (nI_pos (by omega)) (nI_clamp (by omega)) (by decide) (by rw [b1.n]; exact (kt_field_makers hk)) (by rw [b1.n]; show _ < 595; omega) (Nat.le_of_ble_eq_true rfl) (Nat.le_of_ble_eq_true rfl) dX1_init_12 ?_
  rw [b1.n]
  have b2 : Bd k k (k + 2) z0 z0 zi μ (mNew μ1) := b1.newp (R0_arr (t := 1) (N := 20) (kt_field_makers hk) (by decide))
  generalize mNew μ1 = μ2 at b2 ⊢
  refine T_putR (pc := 14) (c := 1) (j := 2) fl_X1_15 ⟨rfl, rfl⟩ ⟨rfl, rfl⟩ (fun q => ⟨rfl, rfl⟩) (kt_field hk) (by rw [b2.n]; omega) dX1_init_14 ?_
  have b3 : Bd k k (k + 2) (upr z0 2 (k + 1 + 1)) z0 zi μ (mR μ2 k 2 (k + 1 + 1)) := b2.putR
  generalize mR μ2 k 2 (k + 1 + 1) = μ3 at b3 ⊢
  refine T_aload_n (pc := 17) (i := 0) dX1_init_17 rfl rfl ?_
  refine T_bipush (pc := 18) (v := nI 20) dX1_init_18 (by decide) ?_
  refine T_newa (pc := 20) (at9 := .int) (t := 1) (N := 20) ac_int (Or.inl ⟨rfl, rfl⟩) (nI_pos (by omega)) (nI_clamp (by omega)) (by decide) (by rw [b3.n]; exact (kt_field_makings hk)) (by rw [b3.n]; show _ < 595; omega) (Nat.le_of_ble_eq_true rfl) (Nat.le_of_ble_eq_true rfl) dX1_init_20 ?_
  rw [b3.n]
  have b4 : Bd k k (k + 3) (upr z0 2 (k + 1 + 1)) z0 zi μ (mNew μ3) := b3.newp (R0_arr (t := 1) (N := 20) (kt_field_makings hk) (by decide))
  generalize mNew μ3 = μ4 at b4 ⊢
  refine T_putR (pc := 22) (c := 1) (j := 3) fl_X1_19 ⟨rfl, rfl⟩ ⟨rfl, rfl⟩ (fun q => ⟨rfl, rfl⟩) (kt_field hk) (by rw [b4.n]; omega) dX1_init_22 ?_
  have b5 : Bd k k (k + 3) (upr (upr z0 2 (k + 1 + 1)) 3 (k + 2 + 1)) z0 zi μ (mR μ4 k 3 (k + 2 + 1)) := b4.putR
  generalize mR μ4 k 3 (k + 2 + 1) = μ5 at b5 ⊢
  have hr : R0 k = (upr (upr z0 2 (k + 1 + 1)) 3 (k + 2 + 1)) := by
    funext j
    show rt (KT k) k j = _
    rw [(kt_field hk)]
    match j with
    | 0 => rfl
    | 1 => rfl
    | 2 => rfl
    | 3 => rfl
    | q + 4 => (simp only [upr]; rw [if_neg (by omega), if_neg (by omega)] <;> rfl)
  exact T_vret (pc := 25) dX1_init_25 rfl (Nat.le_of_ble_eq_true rfl) (Nat.le_of_ble_eq_true rfl) ⟨rfl, b5.done hr (fun h => absurd h (Nat.lt_irrefl _)) b5.i⟩
theorem i_X5 {k : Nat} {μ : SMem} (hk : isLaw k) (hN : k + 3 ≤ 595) (h1 : μ.1 = k + 1) (h2 : μ.2.1 k = z0) (h3 : μ.2.2.1 k = zi) : Ex γ 1 2 417 M_X5_init [.ref k] μ (Ci k (k + 3) μ (fun I => I k = upr zi 0 (-1))) := by
  refine Ex.of (by decide +kernel) rfl (Nat.le_of_ble_eq_true rfl) ?_
  show T _ _ _ _ _ _ _ _ 0 [some (.ref k)] [] μ
  have b0 : Bd k k (k + 1) z0 z0 zi μ μ := Bd.start h1 h2 h3
  refine T_aload_n (pc := 0) (i := 0) dX5_init_0 rfl rfl ?_
  refine T_objInit (pc := 1) oi_X5_5 (Nat.le_of_ble_eq_true rfl) dX5_init_1 ?_
  refine T_aload_n (pc := 4) (i := 0) dX5_init_4 rfl rfl ?_
  refine T_iconst (pc := 5) (v := (-1)) dX5_init_5 (by decide) ?_
  refine T_putI (pc := 6) (c := 5) (j := 0) fl_X5_11 ⟨rfl, rfl⟩ (Or.inl rfl) (kt_law hk) (by rw [b0.n]; omega) dX5_init_6 ?_
  have b1 : Bd k k (k + 1) z0 z0 (upr zi 0 (-1)) μ (mI μ k 0 (-1)) := b0.putI
  generalize mI μ k 0 (-1) = μ1 at b1 ⊢
  refine T_aload_n (pc := 9) (i := 0) dX5_init_9 rfl rfl ?_
  refine T_sipush (pc := 10) (v := nI 400) dX5_init_10 (by decide) ?_
  refine T_newa (pc := 13) (at9 := .int) (t := 1) (N := 400) ac_int (Or.inl ⟨rfl, rfl⟩) (nI_pos (by omega)) (nI_clamp (by omega)) (by decide) (by rw [b1.n]; exact (kt_law_signs hk)) (by rw [b1.n]; show _ < 595; omega) (Nat.le_of_ble_eq_true rfl) (Nat.le_of_ble_eq_true rfl) dX5_init_13 ?_
  rw [b1.n]
  have b2 : Bd k k (k + 2) z0 z0 (upr zi 0 (-1)) μ (mNew μ1) := b1.newp (R0_arr (t := 1) (N := 400) (kt_law_signs hk) (by decide))
  generalize mNew μ1 = μ2 at b2 ⊢
  refine T_putR (pc := 15) (c := 5) (j := 2) fl_X5_15 ⟨rfl, rfl⟩ ⟨rfl, rfl⟩ (fun q => ⟨rfl, rfl⟩) (kt_law hk) (by rw [b2.n]; omega) dX5_init_15 ?_
  have b3 : Bd k k (k + 2) (upr z0 2 (k + 1 + 1)) z0 (upr zi 0 (-1)) μ (mR μ2 k 2 (k + 1 + 1)) := b2.putR
  generalize mR μ2 k 2 (k + 1 + 1) = μ3 at b3 ⊢
  refine T_aload_n (pc := 18) (i := 0) dX5_init_18 rfl rfl ?_
  refine T_bipush (pc := 19) (v := nI 17) dX5_init_19 (by decide) ?_
  refine T_newa (pc := 21) (at9 := .int) (t := 1) (N := 17) ac_int (Or.inl ⟨rfl, rfl⟩) (nI_pos (by omega)) (nI_clamp (by omega)) (by decide) (by rw [b3.n]; exact (kt_law_waiting hk)) (by rw [b3.n]; show _ < 595; omega) (Nat.le_of_ble_eq_true rfl) (Nat.le_of_ble_eq_true rfl) dX5_init_21 ?_
  rw [b3.n]
  have b4 : Bd k k (k + 3) (upr z0 2 (k + 1 + 1)) z0 (upr zi 0 (-1)) μ (mNew μ3) := b3.newp (R0_arr (t := 1) (N := 17) (kt_law_waiting hk) (by decide))
  generalize mNew μ3 = μ4 at b4 ⊢
  refine T_putR (pc := 23) (c := 5) (j := 3) fl_X5_19 ⟨rfl, rfl⟩ ⟨rfl, rfl⟩ (fun q => ⟨rfl, rfl⟩) (kt_law hk) (by rw [b4.n]; omega) dX5_init_23 ?_
  have b5 : Bd k k (k + 3) (upr (upr z0 2 (k + 1 + 1)) 3 (k + 2 + 1)) z0 (upr zi 0 (-1)) μ (mR μ4 k 3 (k + 2 + 1)) := b4.putR
  generalize mR μ4 k 3 (k + 2 + 1) = μ5 at b5 ⊢
  have hr : R0 k = (upr (upr z0 2 (k + 1 + 1)) 3 (k + 2 + 1)) := by
    funext j
    show rt (KT k) k j = _
    rw [(kt_law hk)]
    match j with
    | 0 => rfl
    | 1 => rfl
    | 2 => rfl
    | 3 => rfl
    | q + 4 => (simp only [upr]; rw [if_neg (by omega), if_neg (by omega)] <;> rfl)
  exact T_vret (pc := 26) dX5_init_26 rfl (Nat.le_of_ble_eq_true rfl) (Nat.le_of_ble_eq_true rfl) ⟨rfl, b5.done hr (fun h => absurd h (Nat.lt_irrefl _)) b5.i⟩
theorem i_X4 {k : Nat} {μ : SMem} (hk : isHerd k) (hN : k + 4 ≤ 595) (h1 : μ.1 = k + 1) (h2 : μ.2.1 k = z0) (h3 : μ.2.2.1 k = zi) : Ex γ 1 3 7096 M_X4_init [.ref k] μ (Ci k (k + 4) μ (fun I => I k = zi)) := by
  refine Ex.of (by decide +kernel) rfl (Nat.le_of_ble_eq_true rfl) ?_
  show T _ _ _ _ _ _ _ _ 0 [some (.ref k)] [] μ
  have b0 : Bd k k (k + 1) z0 z0 zi μ μ := Bd.start h1 h2 h3
  refine T_aload_n (pc := 0) (i := 0) dX4_init_0 rfl rfl ?_
  refine T_objInit (pc := 1) oi_X4_5 (Nat.le_of_ble_eq_true rfl) dX4_init_1 ?_
  refine T_aload_n (pc := 4) (i := 0) dX4_init_4 rfl rfl ?_
  refine T_sipush (pc := 5) (v := nI 1500) dX4_init_5 (by decide) ?_
  refine T_newa (pc := 8) (at9 := .long) (t := 2) (N := 1500) ac_long (Or.inr (Or.inl ⟨rfl, rfl⟩)) (nI_pos (by omega)) (nI_clamp (by omega)) (by decide) (by rw [b0.n]; exact (kt_herd_codes hk)) (by rw [b0.n]; show _ < 595; omega) (Nat.le_of_ble_eq_true rfl) (Nat.le_of_ble_eq_true rfl) dX4_init_8 ?_
  rw [b0.n]
  have b1 : Bd k k (k + 2) z0 z0 zi μ (mNew μ) := b0.newp (R0_arr (t := 2) (N := 1500) (kt_herd_codes hk) (by decide))
  generalize mNew μ = μ1 at b1 ⊢
  refine T_putR (pc := 10) (c := 4) (j := 1) fl_X4_11 ⟨rfl, rfl⟩ ⟨rfl, rfl⟩ (fun q => ⟨rfl, rfl⟩) (kt_herd hk) (by rw [b1.n]; omega) dX4_init_10 ?_
  have b2 : Bd k k (k + 2) (upr z0 1 (k + 1 + 1)) z0 zi μ (mR μ1 k 1 (k + 1 + 1)) := b1.putR
  generalize mR μ1 k 1 (k + 1 + 1) = μ2 at b2 ⊢
  refine T_aload_n (pc := 13) (i := 0) dX4_init_13 rfl rfl ?_
  refine T_sipush (pc := 14) (v := nI 1500) dX4_init_14 (by decide) ?_
  refine T_newa (pc := 17) (at9 := .int) (t := 1) (N := 1500) ac_int (Or.inl ⟨rfl, rfl⟩) (nI_pos (by omega)) (nI_clamp (by omega)) (by decide) (by rw [b2.n]; exact (kt_herd_far hk)) (by rw [b2.n]; show _ < 595; omega) (Nat.le_of_ble_eq_true rfl) (Nat.le_of_ble_eq_true rfl) dX4_init_17 ?_
  rw [b2.n]
  have b3 : Bd k k (k + 3) (upr z0 1 (k + 1 + 1)) z0 zi μ (mNew μ2) := b2.newp (R0_arr (t := 1) (N := 1500) (kt_herd_far hk) (by decide))
  generalize mNew μ2 = μ3 at b3 ⊢
  refine T_putR (pc := 19) (c := 4) (j := 2) fl_X4_15 ⟨rfl, rfl⟩ ⟨rfl, rfl⟩ (fun q => ⟨rfl, rfl⟩) (kt_herd hk) (by rw [b3.n]; omega) dX4_init_19 ?_
  have b4 : Bd k k (k + 3) (upr (upr z0 1 (k + 1 + 1)) 2 (k + 2 + 1)) z0 zi μ (mR μ3 k 2 (k + 2 + 1)) := b3.putR
  generalize mR μ3 k 2 (k + 2 + 1) = μ4 at b4 ⊢
  refine T_aload_n (pc := 22) (i := 0) dX4_init_22 rfl rfl ?_
  refine T_sipush (pc := 23) (v := nI 4096) dX4_init_23 (by decide) ?_
  refine T_newa (pc := 26) (at9 := .int) (t := 1) (N := 4096) ac_int (Or.inl ⟨rfl, rfl⟩) (nI_pos (by omega)) (nI_clamp (by omega)) (by decide) (by rw [b4.n]; exact (kt_herd_slots hk)) (by rw [b4.n]; show _ < 595; omega) (Nat.le_of_ble_eq_true rfl) (Nat.le_of_ble_eq_true rfl) dX4_init_26 ?_
  rw [b4.n]
  have b5 : Bd k k (k + 4) (upr (upr z0 1 (k + 1 + 1)) 2 (k + 2 + 1)) z0 zi μ (mNew μ4) := b4.newp (R0_arr (t := 1) (N := 4096) (kt_herd_slots hk) (by decide))
  generalize mNew μ4 = μ5 at b5 ⊢
  refine T_putR (pc := 28) (c := 4) (j := 3) fl_X4_19 ⟨rfl, rfl⟩ ⟨rfl, rfl⟩ (fun q => ⟨rfl, rfl⟩) (kt_herd hk) (by rw [b5.n]; omega) dX4_init_28 ?_
  have b6 : Bd k k (k + 4) (upr (upr (upr z0 1 (k + 1 + 1)) 2 (k + 2 + 1)) 3 (k + 3 + 1)) z0 zi μ (mR μ5 k 3 (k + 3 + 1)) := b5.putR
  generalize mR μ5 k 3 (k + 3 + 1) = μ6 at b6 ⊢
  have hr : R0 k = (upr (upr (upr z0 1 (k + 1 + 1)) 2 (k + 2 + 1)) 3 (k + 3 + 1)) := by
    funext j
    show rt (KT k) k j = _
    rw [(kt_herd hk)]
    match j with
    | 0 => rfl
    | 1 => rfl
    | 2 => rfl
    | 3 => rfl
    | 4 => rfl
    | 5 => rfl
    | q + 6 => (simp only [upr]; rw [if_neg (by omega), if_neg (by omega), if_neg (by omega)] <;> rfl)
  exact T_vret (pc := 31) dX4_init_31 rfl (Nat.le_of_ble_eq_true rfl) (Nat.le_of_ble_eq_true rfl) ⟨rfl, b6.done hr (fun h => absurd h (Nat.lt_irrefl _)) b6.i⟩
theorem i_X8 {μ : SMem} (h1 : μ.1 = 2) (h2 : μ.2.1 1 = z0) (h3 : μ.2.2.1 1 = zi) : Ex γ 1 1 400 M_X8_init [.ref 1] μ (Ci 1 3 μ (fun I => I 1 = upr (upr zi 2 (-1)) 6 (-1))) := by
  refine Ex.of (by decide +kernel) rfl (Nat.le_of_ble_eq_true rfl) ?_
  show T _ _ _ _ _ _ _ _ 0 [some (.ref 1)] [] μ
  have b0 : Bd 1 1 2 z0 z0 zi μ μ := Bd.start h1 h2 h3
  refine T_aload_n (pc := 0) (i := 0) dX8_init_0 rfl rfl ?_
  refine T_objInit (pc := 1) oi_X8_3 (Nat.le_of_ble_eq_true rfl) dX8_init_1 ?_
  refine T_aload_n (pc := 4) (i := 0) dX8_init_4 rfl rfl ?_
  refine T_sipush (pc := 5) (v := nI 400) dX8_init_5 (by decide) ?_
  refine T_newa (pc := 8) (at9 := .int) (t := 1) (N := 400) ac_int (Or.inl ⟨rfl, rfl⟩) (nI_pos (by omega)) (nI_clamp (by omega)) (by decide) (by rw [b0.n]; exact (show KT 2 = (1, 400) by decide)) (by rw [b0.n]; show _ < 595; omega) (Nat.le_of_ble_eq_true rfl) (Nat.le_of_ble_eq_true rfl) dX8_init_8 ?_
  rw [b0.n]
  have b1 : Bd 1 1 3 z0 z0 zi μ (mNew μ) := b0.newp (R0_arr (t := 1) (N := 400) (show KT 2 = (1, 400) by decide) (by decide))
  generalize mNew μ = μ1 at b1 ⊢
  refine T_putR (pc := 10) (c := 8) (j := 0) fl_X8_9 ⟨rfl, rfl⟩ ⟨rfl, rfl⟩ (fun q => ⟨rfl, rfl⟩) (show KT 1 = (0, 8) by decide) (by rw [b1.n]; omega) dX8_init_10 ?_
  have b2 : Bd 1 1 3 (upr z0 0 (2 + 1)) z0 zi μ (mR μ1 1 0 (2 + 1)) := b1.putR
  generalize mR μ1 1 0 (2 + 1) = μ2 at b2 ⊢
  refine T_aload_n (pc := 13) (i := 0) dX8_init_13 rfl rfl ?_
  refine T_iconst (pc := 14) (v := (-1)) dX8_init_14 (by decide) ?_
  refine T_putI (pc := 15) (c := 8) (j := 2) fl_X8_15 ⟨rfl, rfl⟩ (Or.inl rfl) (show KT 1 = (0, 8) by decide) (by rw [b2.n]; omega) dX8_init_15 ?_
  have b3 : Bd 1 1 3 (upr z0 0 (2 + 1)) z0 (upr zi 2 (-1)) μ (mI μ2 1 2 (-1)) := b2.putI
  generalize mI μ2 1 2 (-1) = μ3 at b3 ⊢
  refine T_aload_n (pc := 18) (i := 0) dX8_init_18 rfl rfl ?_
  refine T_iconst (pc := 19) (v := (-1)) dX8_init_19 (by decide) ?_
  refine T_putI (pc := 20) (c := 8) (j := 6) fl_X8_19 ⟨rfl, rfl⟩ (Or.inl rfl) (show KT 1 = (0, 8) by decide) (by rw [b3.n]; omega) dX8_init_20 ?_
  have b4 : Bd 1 1 3 (upr z0 0 (2 + 1)) z0 (upr (upr zi 2 (-1)) 6 (-1)) μ (mI μ3 1 6 (-1)) := b3.putI
  generalize mI μ3 1 6 (-1) = μ4 at b4 ⊢
  have hr : R0 1 = (upr z0 0 (2 + 1)) := by
    funext j
    show rt (KT 1) 1 j = _
    rw [(show KT 1 = (0, 8) by decide)]
    match j with
    | 0 => rfl
    | 1 => rfl
    | 2 => rfl
    | 3 => rfl
    | 4 => rfl
    | 5 => rfl
    | 6 => rfl
    | q + 7 => (simp only [upr]; rw [if_neg (by omega)] <;> rfl)
  exact T_vret (pc := 23) dX8_init_23 rfl (Nat.le_of_ble_eq_true rfl) (Nat.le_of_ble_eq_true rfl) ⟨rfl, b4.done hr (fun h => absurd h (Nat.lt_irrefl _)) b4.i⟩
theorem i_X2 {μ : SMem} (h1 : μ.1 = 114) (h2 : μ.2.1 113 = z0) (h3 : μ.2.2.1 113 = zi) : Ex γ 1 2 3000 M_X2_init [.ref 113] μ (Ci 113 116 μ (fun I => I 113 = zi)) := by
  refine Ex.of (by decide +kernel) rfl (Nat.le_of_ble_eq_true rfl) ?_
  show T _ _ _ _ _ _ _ _ 0 [some (.ref 113)] [] μ
  have b0 : Bd 113 113 114 z0 z0 zi μ μ := Bd.start h1 h2 h3
  refine T_aload_n (pc := 0) (i := 0) dX2_init_0 rfl rfl ?_
  refine T_objInit (pc := 1) oi_X2_3 (Nat.le_of_ble_eq_true rfl) dX2_init_1 ?_
  refine T_aload_n (pc := 4) (i := 0) dX2_init_4 rfl rfl ?_
  refine T_sipush (pc := 5) (v := nI 1500) dX2_init_5 (by decide) ?_
  refine T_newa (pc := 8) (at9 := .int) (t := 1) (N := 1500) ac_int (Or.inl ⟨rfl, rfl⟩) (nI_pos (by omega)) (nI_clamp (by omega)) (by decide) (by rw [b0.n]; exact (show KT 114 = (1, 1500) by decide)) (by rw [b0.n]; show _ < 595; omega) (Nat.le_of_ble_eq_true rfl) (Nat.le_of_ble_eq_true rfl) dX2_init_8 ?_
  rw [b0.n]
  have b1 : Bd 113 113 115 z0 z0 zi μ (mNew μ) := b0.newp (R0_arr (t := 1) (N := 1500) (show KT 114 = (1, 1500) by decide) (by decide))
  generalize mNew μ = μ1 at b1 ⊢
  refine T_putR (pc := 10) (c := 2) (j := 2) fl_X2_9 ⟨rfl, rfl⟩ ⟨rfl, rfl⟩ (fun q => ⟨rfl, rfl⟩) (show KT 113 = (0, 2) by decide) (by rw [b1.n]; omega) dX2_init_10 ?_
  have b2 : Bd 113 113 115 (upr z0 2 (114 + 1)) z0 zi μ (mR μ1 113 2 (114 + 1)) := b1.putR
  generalize mR μ1 113 2 (114 + 1) = μ2 at b2 ⊢
  refine T_aload_n (pc := 13) (i := 0) dX2_init_13 rfl rfl ?_
  refine T_sipush (pc := 14) (v := nI 1500) dX2_init_14 (by decide) ?_
  refine T_newa (pc := 17) (at9 := .int) (t := 1) (N := 1500) ac_int (Or.inl ⟨rfl, rfl⟩) (nI_pos (by omega)) (nI_clamp (by omega)) (by decide) (by rw [b2.n]; exact (show KT 115 = (1, 1500) by decide)) (by rw [b2.n]; show _ < 595; omega) (Nat.le_of_ble_eq_true rfl) (Nat.le_of_ble_eq_true rfl) dX2_init_17 ?_
  rw [b2.n]
  have b3 : Bd 113 113 116 (upr z0 2 (114 + 1)) z0 zi μ (mNew μ2) := b2.newp (R0_arr (t := 1) (N := 1500) (show KT 115 = (1, 1500) by decide) (by decide))
  generalize mNew μ2 = μ3 at b3 ⊢
  refine T_putR (pc := 19) (c := 2) (j := 3) fl_X2_15 ⟨rfl, rfl⟩ ⟨rfl, rfl⟩ (fun q => ⟨rfl, rfl⟩) (show KT 113 = (0, 2) by decide) (by rw [b3.n]; omega) dX2_init_19 ?_
  have b4 : Bd 113 113 116 (upr (upr z0 2 (114 + 1)) 3 (115 + 1)) z0 zi μ (mR μ3 113 3 (115 + 1)) := b3.putR
  generalize mR μ3 113 3 (115 + 1) = μ4 at b4 ⊢
  have hr : R0 113 = (upr (upr z0 2 (114 + 1)) 3 (115 + 1)) := by
    funext j
    show rt (KT 113) 113 j = _
    rw [(show KT 113 = (0, 2) by decide)]
    match j with
    | 0 => rfl
    | 1 => rfl
    | 2 => rfl
    | 3 => rfl
    | q + 4 => (simp only [upr]; rw [if_neg (by omega), if_neg (by omega)] <;> rfl)
  exact T_vret (pc := 22) dX2_init_22 rfl (Nat.le_of_ble_eq_true rfl) (Nat.le_of_ble_eq_true rfl) ⟨rfl, b4.done hr (fun h => absurd h (Nat.lt_irrefl _)) b4.i⟩
theorem i_X7 {μ : SMem} (h1 : μ.1 = 117) (h2 : μ.2.1 116 = z0) (h3 : μ.2.2.1 116 = zi) : Ex γ 1 4 131 M_X7_init [.ref 116] μ (Ci 116 121 μ (fun I => I 116 = zi)) := by
  refine Ex.of (by decide +kernel) rfl (Nat.le_of_ble_eq_true rfl) ?_
  show T _ _ _ _ _ _ _ _ 0 [some (.ref 116)] [] μ
  have b0 : Bd 116 116 117 z0 z0 zi μ μ := Bd.start h1 h2 h3
  refine T_aload_n (pc := 0) (i := 0) dX7_init_0 rfl rfl ?_
  refine T_objInit (pc := 1) oi_X7_3 (Nat.le_of_ble_eq_true rfl) dX7_init_1 ?_
  refine T_aload_n (pc := 4) (i := 0) dX7_init_4 rfl rfl ?_
  refine T_bipush (pc := 5) (v := nI 8) dX7_init_5 (by decide) ?_
  refine T_newa (pc := 7) (at9 := .int) (t := 1) (N := 8) ac_int (Or.inl ⟨rfl, rfl⟩) (nI_pos (by omega)) (nI_clamp (by omega)) (by decide) (by rw [b0.n]; exact (show KT 117 = (1, 8) by decide)) (by rw [b0.n]; show _ < 595; omega) (Nat.le_of_ble_eq_true rfl) (Nat.le_of_ble_eq_true rfl) dX7_init_7 ?_
  rw [b0.n]
  have b1 : Bd 116 116 118 z0 z0 zi μ (mNew μ) := b0.newp (R0_arr (t := 1) (N := 8) (show KT 117 = (1, 8) by decide) (by decide))
  generalize mNew μ = μ1 at b1 ⊢
  refine T_putR (pc := 9) (c := 7) (j := 0) fl_X7_9 ⟨rfl, rfl⟩ ⟨rfl, rfl⟩ (fun q => ⟨rfl, rfl⟩) (show KT 116 = (0, 7) by decide) (by rw [b1.n]; omega) dX7_init_9 ?_
  have b2 : Bd 116 116 118 (upr z0 0 (117 + 1)) z0 zi μ (mR μ1 116 0 (117 + 1)) := b1.putR
  generalize mR μ1 116 0 (117 + 1) = μ2 at b2 ⊢
  refine T_aload_n (pc := 12) (i := 0) dX7_init_12 rfl rfl ?_
  refine T_bipush (pc := 13) (v := nI 6) dX7_init_13 (by decide) ?_
  refine T_newa (pc := 15) (at9 := .int) (t := 1) (N := 6) ac_int (Or.inl ⟨rfl, rfl⟩) (nI_pos (by omega)) (nI_clamp (by omega)) (by decide) (by rw [b2.n]; exact (show KT 118 = (1, 6) by decide)) (by rw [b2.n]; show _ < 595; omega) (Nat.le_of_ble_eq_true rfl) (Nat.le_of_ble_eq_true rfl) dX7_init_15 ?_
  rw [b2.n]
  have b3 : Bd 116 116 119 (upr z0 0 (117 + 1)) z0 zi μ (mNew μ2) := b2.newp (R0_arr (t := 1) (N := 6) (show KT 118 = (1, 6) by decide) (by decide))
  generalize mNew μ2 = μ3 at b3 ⊢
  refine T_putR (pc := 17) (c := 7) (j := 1) fl_X7_15 ⟨rfl, rfl⟩ ⟨rfl, rfl⟩ (fun q => ⟨rfl, rfl⟩) (show KT 116 = (0, 7) by decide) (by rw [b3.n]; omega) dX7_init_17 ?_
  have b4 : Bd 116 116 119 (upr (upr z0 0 (117 + 1)) 1 (118 + 1)) z0 zi μ (mR μ3 116 1 (118 + 1)) := b3.putR
  generalize mR μ3 116 1 (118 + 1) = μ4 at b4 ⊢
  refine T_aload_n (pc := 20) (i := 0) dX7_init_20 rfl rfl ?_
  refine T_bipush (pc := 21) (v := nI 104) dX7_init_21 (by decide) ?_
  refine T_newa (pc := 23) (at9 := .int) (t := 1) (N := 104) ac_int (Or.inl ⟨rfl, rfl⟩) (nI_pos (by omega)) (nI_clamp (by omega)) (by decide) (by rw [b4.n]; exact (show KT 119 = (1, 104) by decide)) (by rw [b4.n]; show _ < 595; omega) (Nat.le_of_ble_eq_true rfl) (Nat.le_of_ble_eq_true rfl) dX7_init_23 ?_
  rw [b4.n]
  have b5 : Bd 116 116 120 (upr (upr z0 0 (117 + 1)) 1 (118 + 1)) z0 zi μ (mNew μ4) := b4.newp (R0_arr (t := 1) (N := 104) (show KT 119 = (1, 104) by decide) (by decide))
  generalize mNew μ4 = μ5 at b5 ⊢
  refine T_putR (pc := 25) (c := 7) (j := 3) fl_X7_18 ⟨rfl, rfl⟩ ⟨rfl, rfl⟩ (fun q => ⟨rfl, rfl⟩) (show KT 116 = (0, 7) by decide) (by rw [b5.n]; omega) dX7_init_25 ?_
  have b6 : Bd 116 116 120 (upr (upr (upr z0 0 (117 + 1)) 1 (118 + 1)) 3 (119 + 1)) z0 zi μ (mR μ5 116 3 (119 + 1)) := b5.putR
  generalize mR μ5 116 3 (119 + 1) = μ6 at b6 ⊢
  refine T_aload_n (pc := 28) (i := 0) dX7_init_28 rfl rfl ?_
  refine T_bipush (pc := 29) (v := nI 13) dX7_init_29 (by decide) ?_
  refine T_newa (pc := 31) (at9 := .int) (t := 1) (N := 13) ac_int (Or.inl ⟨rfl, rfl⟩) (nI_pos (by omega)) (nI_clamp (by omega)) (by decide) (by rw [b6.n]; exact (show KT 120 = (1, 13) by decide)) (by rw [b6.n]; show _ < 595; omega) (Nat.le_of_ble_eq_true rfl) (Nat.le_of_ble_eq_true rfl) dX7_init_31 ?_
  rw [b6.n]
  have b7 : Bd 116 116 121 (upr (upr (upr z0 0 (117 + 1)) 1 (118 + 1)) 3 (119 + 1)) z0 zi μ (mNew μ6) := b6.newp (R0_arr (t := 1) (N := 13) (show KT 120 = (1, 13) by decide) (by decide))
  generalize mNew μ6 = μ7 at b7 ⊢
  refine T_putR (pc := 33) (c := 7) (j := 4) fl_X7_21 ⟨rfl, rfl⟩ ⟨rfl, rfl⟩ (fun q => ⟨rfl, rfl⟩) (show KT 116 = (0, 7) by decide) (by rw [b7.n]; omega) dX7_init_33 ?_
  have b8 : Bd 116 116 121 (upr (upr (upr (upr z0 0 (117 + 1)) 1 (118 + 1)) 3 (119 + 1)) 4 (120 + 1)) z0 zi μ (mR μ7 116 4 (120 + 1)) := b7.putR
  generalize mR μ7 116 4 (120 + 1) = μ8 at b8 ⊢
  have hr : R0 116 = (upr (upr (upr (upr z0 0 (117 + 1)) 1 (118 + 1)) 3 (119 + 1)) 4 (120 + 1)) := by
    funext j
    show rt (KT 116) 116 j = _
    rw [(show KT 116 = (0, 7) by decide)]
    match j with
    | 0 => rfl
    | 1 => rfl
    | 2 => rfl
    | 3 => rfl
    | 4 => rfl
    | 5 => rfl
    | 6 => rfl
    | 7 => rfl
    | 8 => rfl
    | 9 => rfl
    | q + 10 => (simp only [upr]; rw [if_neg (by omega), if_neg (by omega), if_neg (by omega), if_neg (by omega)] <;> rfl)
  exact T_vret (pc := 36) dX7_init_36 rfl (Nat.le_of_ble_eq_true rfl) (Nat.le_of_ble_eq_true rfl) ⟨rfl, b8.done hr (fun h => absurd h (Nat.lt_irrefl _)) b8.i⟩
theorem i_X0 {μ : SMem} (h1 : μ.1 = 122) (h2 : μ.2.1 121 = z0) (h3 : μ.2.2.1 121 = zi) : Ex γ 1 0 0 M_X0_init [.ref 121] μ (Ci 121 122 μ (fun I => I 121 = zi)) := by
  refine Ex.of (by decide +kernel) rfl (Nat.le_of_ble_eq_true rfl) ?_
  show T _ _ _ _ _ _ _ _ 0 [some (.ref 121)] [] μ
  have b0 : Bd 121 121 122 z0 z0 zi μ μ := Bd.start h1 h2 h3
  refine T_aload_n (pc := 0) (i := 0) dX0_init_0 rfl rfl ?_
  refine T_objInit (pc := 1) oi_X0_3 (Nat.le_of_ble_eq_true rfl) dX0_init_1 ?_
  have hr : R0 121 = z0 := by
    funext j
    show rt (KT 121) 121 j = _
    rw [(show KT 121 = (0, 0) by decide)]
    match j with
    | 0 => rfl
    | 1 => rfl
    | 2 => rfl
    | 3 => rfl
    | 4 => rfl
    | 5 => rfl
    | q + 6 => rfl
  exact T_vret (pc := 4) dX0_init_4 rfl (Nat.le_of_ble_eq_true rfl) (Nat.le_of_ble_eq_true rfl) ⟨rfl, b0.done hr (fun h => absurd h (Nat.lt_irrefl _)) b0.i⟩
theorem i_X3 {μ : SMem} (h1 : μ.1 = 123) (h2 : μ.2.1 122 = z0) (h3 : μ.2.2.1 122 = zi) : Ex γ 1 1 10 M_X3_init [.ref 122] μ (Ci 122 124 μ (fun I => I 122 = zi)) := by
  refine Ex.of (by decide +kernel) rfl (Nat.le_of_ble_eq_true rfl) ?_
  show T _ _ _ _ _ _ _ _ 0 [some (.ref 122)] [] μ
  have b0 : Bd 122 122 123 z0 z0 zi μ μ := Bd.start h1 h2 h3
  refine T_aload_n (pc := 0) (i := 0) dX3_init_0 rfl rfl ?_
  refine T_objInit (pc := 1) oi_X3_3 (Nat.le_of_ble_eq_true rfl) dX3_init_1 ?_
  refine T_aload_n (pc := 4) (i := 0) dX3_init_4 rfl rfl ?_
  refine T_bipush (pc := 5) (v := nI 10) dX3_init_5 (by decide) ?_
  refine T_newa (pc := 7) (at9 := .int) (t := 1) (N := 10) ac_int (Or.inl ⟨rfl, rfl⟩) (nI_pos (by omega)) (nI_clamp (by omega)) (by decide) (by rw [b0.n]; exact (show KT 123 = (1, 10) by decide)) (by rw [b0.n]; show _ < 595; omega) (Nat.le_of_ble_eq_true rfl) (Nat.le_of_ble_eq_true rfl) dX3_init_7 ?_
  rw [b0.n]
  have b1 : Bd 122 122 124 z0 z0 zi μ (mNew μ) := b0.newp (R0_arr (t := 1) (N := 10) (show KT 123 = (1, 10) by decide) (by decide))
  generalize mNew μ = μ1 at b1 ⊢
  refine T_putR (pc := 9) (c := 3) (j := 3) fl_X3_9 ⟨rfl, rfl⟩ ⟨rfl, rfl⟩ (fun q => ⟨rfl, rfl⟩) (show KT 122 = (0, 3) by decide) (by rw [b1.n]; omega) dX3_init_9 ?_
  have b2 : Bd 122 122 124 (upr z0 3 (123 + 1)) z0 zi μ (mR μ1 122 3 (123 + 1)) := b1.putR
  generalize mR μ1 122 3 (123 + 1) = μ2 at b2 ⊢
  have hr : R0 122 = (upr z0 3 (123 + 1)) := by
    funext j
    show rt (KT 122) 122 j = _
    rw [(show KT 122 = (0, 3) by decide)]
    match j with
    | 0 => rfl
    | 1 => rfl
    | 2 => rfl
    | 3 => rfl
    | q + 4 => (simp only [upr]; rw [if_neg (by omega)] <;> rfl)
  exact T_vret (pc := 12) dX3_init_12 rfl (Nat.le_of_ble_eq_true rfl) (Nat.le_of_ble_eq_true rfl) ⟨rfl, b2.done hr (fun h => absurd h (Nat.lt_irrefl _)) b2.i⟩
theorem i_X10 {μ : SMem} (h1 : μ.1 = 98) (h2 : μ.2.1 97 = z0) (h3 : μ.2.2.1 97 = zi) : Ex γ 1 7 824 M_X10_init [.ref 97, .ref 4, .ref 59] μ (Ci 97 105 μ (fun I => I 97 = zi)) := by
  refine Ex.of (by decide +kernel) rfl (Nat.le_of_ble_eq_true rfl) ?_
  show T _ _ _ _ _ _ _ _ 0 [some (.ref 97), some (.ref 4), some (.ref 59)] [] μ
  have b0 : Bd 97 97 98 z0 z0 zi μ μ := Bd.start h1 h2 h3
  refine T_aload_n (pc := 0) (i := 0) dX10_init_0 rfl rfl ?_
  refine T_objInit (pc := 1) oi_X10_3 (Nat.le_of_ble_eq_true rfl) dX10_init_1 ?_
  refine T_aload_n (pc := 4) (i := 0) dX10_init_4 rfl rfl ?_
  refine T_sipush (pc := 5) (v := nI 240) dX10_init_5 (by decide) ?_
  refine T_newa (pc := 8) (at9 := .int) (t := 1) (N := 240) ac_int (Or.inl ⟨rfl, rfl⟩) (nI_pos (by omega)) (nI_clamp (by omega)) (by decide) (by rw [b0.n]; exact (show KT 98 = (1, 240) by decide)) (by rw [b0.n]; show _ < 595; omega) (Nat.le_of_ble_eq_true rfl) (Nat.le_of_ble_eq_true rfl) dX10_init_8 ?_
  rw [b0.n]
  have b1 : Bd 97 97 99 z0 z0 zi μ (mNew μ) := b0.newp (R0_arr (t := 1) (N := 240) (show KT 98 = (1, 240) by decide) (by decide))
  generalize mNew μ = μ1 at b1 ⊢
  refine T_putR (pc := 10) (c := 10) (j := 7) fl_X10_9 ⟨rfl, rfl⟩ ⟨rfl, rfl⟩ (fun q => ⟨rfl, rfl⟩) (show KT 97 = (0, 10) by decide) (by rw [b1.n]; omega) dX10_init_10 ?_
  have b2 : Bd 97 97 99 (upr z0 7 (98 + 1)) z0 zi μ (mR μ1 97 7 (98 + 1)) := b1.putR
  generalize mR μ1 97 7 (98 + 1) = μ2 at b2 ⊢
  refine T_aload_n (pc := 13) (i := 0) dX10_init_13 rfl rfl ?_
  refine T_bipush (pc := 14) (v := nI 20) dX10_init_14 (by decide) ?_
  refine T_newa (pc := 16) (at9 := .int) (t := 1) (N := 20) ac_int (Or.inl ⟨rfl, rfl⟩) (nI_pos (by omega)) (nI_clamp (by omega)) (by decide) (by rw [b2.n]; exact (show KT 99 = (1, 20) by decide)) (by rw [b2.n]; show _ < 595; omega) (Nat.le_of_ble_eq_true rfl) (Nat.le_of_ble_eq_true rfl) dX10_init_16 ?_
  rw [b2.n]
  have b3 : Bd 97 97 100 (upr z0 7 (98 + 1)) z0 zi μ (mNew μ2) := b2.newp (R0_arr (t := 1) (N := 20) (show KT 99 = (1, 20) by decide) (by decide))
  generalize mNew μ2 = μ3 at b3 ⊢
  refine T_putR (pc := 18) (c := 10) (j := 8) fl_X10_15 ⟨rfl, rfl⟩ ⟨rfl, rfl⟩ (fun q => ⟨rfl, rfl⟩) (show KT 97 = (0, 10) by decide) (by rw [b3.n]; omega) dX10_init_18 ?_
  have b4 : Bd 97 97 100 (upr (upr z0 7 (98 + 1)) 8 (99 + 1)) z0 zi μ (mR μ3 97 8 (99 + 1)) := b3.putR
  generalize mR μ3 97 8 (99 + 1) = μ4 at b4 ⊢
  refine T_aload_n (pc := 21) (i := 0) dX10_init_21 rfl rfl ?_
  refine T_bipush (pc := 22) (v := nI 20) dX10_init_22 (by decide) ?_
  refine T_newa (pc := 24) (at9 := .int) (t := 1) (N := 20) ac_int (Or.inl ⟨rfl, rfl⟩) (nI_pos (by omega)) (nI_clamp (by omega)) (by decide) (by rw [b4.n]; exact (show KT 100 = (1, 20) by decide)) (by rw [b4.n]; show _ < 595; omega) (Nat.le_of_ble_eq_true rfl) (Nat.le_of_ble_eq_true rfl) dX10_init_24 ?_
  rw [b4.n]
  have b5 : Bd 97 97 101 (upr (upr z0 7 (98 + 1)) 8 (99 + 1)) z0 zi μ (mNew μ4) := b4.newp (R0_arr (t := 1) (N := 20) (show KT 100 = (1, 20) by decide) (by decide))
  generalize mNew μ4 = μ5 at b5 ⊢
  refine T_putR (pc := 26) (c := 10) (j := 9) fl_X10_18 ⟨rfl, rfl⟩ ⟨rfl, rfl⟩ (fun q => ⟨rfl, rfl⟩) (show KT 97 = (0, 10) by decide) (by rw [b5.n]; omega) dX10_init_26 ?_
  have b6 : Bd 97 97 101 (upr (upr (upr z0 7 (98 + 1)) 8 (99 + 1)) 9 (100 + 1)) z0 zi μ (mR μ5 97 9 (100 + 1)) := b5.putR
  generalize mR μ5 97 9 (100 + 1) = μ6 at b6 ⊢
  refine T_aload_n (pc := 29) (i := 0) dX10_init_29 rfl rfl ?_
  refine T_sipush (pc := 30) (v := nI 252) dX10_init_30 (by decide) ?_
  refine T_newa (pc := 33) (at9 := .int) (t := 1) (N := 252) ac_int (Or.inl ⟨rfl, rfl⟩) (nI_pos (by omega)) (nI_clamp (by omega)) (by decide) (by rw [b6.n]; exact (show KT 101 = (1, 252) by decide)) (by rw [b6.n]; show _ < 595; omega) (Nat.le_of_ble_eq_true rfl) (Nat.le_of_ble_eq_true rfl) dX10_init_33 ?_
  rw [b6.n]
  have b7 : Bd 97 97 102 (upr (upr (upr z0 7 (98 + 1)) 8 (99 + 1)) 9 (100 + 1)) z0 zi μ (mNew μ6) := b6.newp (R0_arr (t := 1) (N := 252) (show KT 101 = (1, 252) by decide) (by decide))
  generalize mNew μ6 = μ7 at b7 ⊢
  refine T_putR (pc := 35) (c := 10) (j := 10) fl_X10_21 ⟨rfl, rfl⟩ ⟨rfl, rfl⟩ (fun q => ⟨rfl, rfl⟩) (show KT 97 = (0, 10) by decide) (by rw [b7.n]; omega) dX10_init_35 ?_
  have b8 : Bd 97 97 102 (upr (upr (upr (upr z0 7 (98 + 1)) 8 (99 + 1)) 9 (100 + 1)) 10 (101 + 1)) z0 zi μ (mR μ7 97 10 (101 + 1)) := b7.putR
  generalize mR μ7 97 10 (101 + 1) = μ8 at b8 ⊢
  refine T_aload_n (pc := 38) (i := 0) dX10_init_38 rfl rfl ?_
  refine T_sipush (pc := 39) (v := nI 252) dX10_init_39 (by decide) ?_
  refine T_newa (pc := 42) (at9 := .int) (t := 1) (N := 252) ac_int (Or.inl ⟨rfl, rfl⟩) (nI_pos (by omega)) (nI_clamp (by omega)) (by decide) (by rw [b8.n]; exact (show KT 102 = (1, 252) by decide)) (by rw [b8.n]; show _ < 595; omega) (Nat.le_of_ble_eq_true rfl) (Nat.le_of_ble_eq_true rfl) dX10_init_42 ?_
  rw [b8.n]
  have b9 : Bd 97 97 103 (upr (upr (upr (upr z0 7 (98 + 1)) 8 (99 + 1)) 9 (100 + 1)) 10 (101 + 1)) z0 zi μ (mNew μ8) := b8.newp (R0_arr (t := 1) (N := 252) (show KT 102 = (1, 252) by decide) (by decide))
  generalize mNew μ8 = μ9 at b9 ⊢
  refine T_putR (pc := 44) (c := 10) (j := 11) fl_X10_24 ⟨rfl, rfl⟩ ⟨rfl, rfl⟩ (fun q => ⟨rfl, rfl⟩) (show KT 97 = (0, 10) by decide) (by rw [b9.n]; omega) dX10_init_44 ?_
  have b10 : Bd 97 97 103 (upr (upr (upr (upr (upr z0 7 (98 + 1)) 8 (99 + 1)) 9 (100 + 1)) 10 (101 + 1)) 11 (102 + 1)) z0 zi μ (mR μ9 97 11 (102 + 1)) := b9.putR
  generalize mR μ9 97 11 (102 + 1) = μ10 at b10 ⊢
  refine T_aload_n (pc := 47) (i := 0) dX10_init_47 rfl rfl ?_
  refine T_bipush (pc := 48) (v := nI 20) dX10_init_48 (by decide) ?_
  refine T_newa (pc := 50) (at9 := .int) (t := 1) (N := 20) ac_int (Or.inl ⟨rfl, rfl⟩) (nI_pos (by omega)) (nI_clamp (by omega)) (by decide) (by rw [b10.n]; exact (show KT 103 = (1, 20) by decide)) (by rw [b10.n]; show _ < 595; omega) (Nat.le_of_ble_eq_true rfl) (Nat.le_of_ble_eq_true rfl) dX10_init_50 ?_
  rw [b10.n]
  have b11 : Bd 97 97 104 (upr (upr (upr (upr (upr z0 7 (98 + 1)) 8 (99 + 1)) 9 (100 + 1)) 10 (101 + 1)) 11 (102 + 1)) z0 zi μ (mNew μ10) := b10.newp (R0_arr (t := 1) (N := 20) (show KT 103 = (1, 20) by decide) (by decide))
  generalize mNew μ10 = μ11 at b11 ⊢
  refine T_putR (pc := 52) (c := 10) (j := 12) fl_X10_27 ⟨rfl, rfl⟩ ⟨rfl, rfl⟩ (fun q => ⟨rfl, rfl⟩) (show KT 97 = (0, 10) by decide) (by rw [b11.n]; omega) dX10_init_52 ?_
  have b12 : Bd 97 97 104 (upr (upr (upr (upr (upr (upr z0 7 (98 + 1)) 8 (99 + 1)) 9 (100 + 1)) 10 (101 + 1)) 11 (102 + 1)) 12 (103 + 1)) z0 zi μ (mR μ11 97 12 (103 + 1)) := b11.putR
  generalize mR μ11 97 12 (103 + 1) = μ12 at b12 ⊢
  refine T_aload_n (pc := 55) (i := 0) dX10_init_55 rfl rfl ?_
  refine T_bipush (pc := 56) (v := nI 20) dX10_init_56 (by decide) ?_
  refine T_newa (pc := 58) (at9 := .int) (t := 1) (N := 20) ac_int (Or.inl ⟨rfl, rfl⟩) (nI_pos (by omega)) (nI_clamp (by omega)) (by decide) (by rw [b12.n]; exact (show KT 104 = (1, 20) by decide)) (by rw [b12.n]; show _ < 595; omega) (Nat.le_of_ble_eq_true rfl) (Nat.le_of_ble_eq_true rfl) dX10_init_58 ?_
  rw [b12.n]
  have b13 : Bd 97 97 105 (upr (upr (upr (upr (upr (upr z0 7 (98 + 1)) 8 (99 + 1)) 9 (100 + 1)) 10 (101 + 1)) 11 (102 + 1)) 12 (103 + 1)) z0 zi μ (mNew μ12) := b12.newp (R0_arr (t := 1) (N := 20) (show KT 104 = (1, 20) by decide) (by decide))
  generalize mNew μ12 = μ13 at b13 ⊢
  refine T_putR (pc := 60) (c := 10) (j := 13) fl_X10_30 ⟨rfl, rfl⟩ ⟨rfl, rfl⟩ (fun q => ⟨rfl, rfl⟩) (show KT 97 = (0, 10) by decide) (by rw [b13.n]; omega) dX10_init_60 ?_
  have b14 : Bd 97 97 105 (upr (upr (upr (upr (upr (upr (upr z0 7 (98 + 1)) 8 (99 + 1)) 9 (100 + 1)) 10 (101 + 1)) 11 (102 + 1)) 12 (103 + 1)) 13 (104 + 1)) z0 zi μ (mR μ13 97 13 (104 + 1)) := b13.putR
  generalize mR μ13 97 13 (104 + 1) = μ14 at b14 ⊢
  refine T_aload_n (pc := 63) (i := 0) dX10_init_63 rfl rfl ?_
  refine T_aload_n (pc := 64) (i := 1) dX10_init_64 rfl rfl ?_
  refine T_putR (pc := 65) (c := 10) (j := 0) fl_X10_33 ⟨rfl, rfl⟩ ⟨rfl, rfl⟩ (fun q => ⟨rfl, rfl⟩) (show KT 97 = (0, 10) by decide) (by rw [b14.n]; omega) dX10_init_65 ?_
  have b15 : Bd 97 97 105 (upr (upr (upr (upr (upr (upr (upr (upr z0 7 (98 + 1)) 8 (99 + 1)) 9 (100 + 1)) 10 (101 + 1)) 11 (102 + 1)) 12 (103 + 1)) 13 (104 + 1)) 0 (4 + 1)) z0 zi μ (mR μ14 97 0 (4 + 1)) := b14.putR
  generalize mR μ14 97 0 (4 + 1) = μ15 at b15 ⊢
  refine T_aload_n (pc := 68) (i := 0) dX10_init_68 rfl rfl ?_
  refine T_aload_n (pc := 69) (i := 2) dX10_init_69 rfl rfl ?_
  refine T_putR (pc := 70) (c := 10) (j := 1) fl_X10_37 ⟨rfl, rfl⟩ ⟨rfl, rfl⟩ (fun q => ⟨rfl, rfl⟩) (show KT 97 = (0, 10) by decide) (by rw [b15.n]; omega) dX10_init_70 ?_
  have b16 : Bd 97 97 105 (upr (upr (upr (upr (upr (upr (upr (upr (upr z0 7 (98 + 1)) 8 (99 + 1)) 9 (100 + 1)) 10 (101 + 1)) 11 (102 + 1)) 12 (103 + 1)) 13 (104 + 1)) 0 (4 + 1)) 1 (59 + 1)) z0 zi μ (mR μ15 97 1 (59 + 1)) := b15.putR
  generalize mR μ15 97 1 (59 + 1) = μ16 at b16 ⊢
  have hr : R0 97 = (upr (upr (upr (upr (upr (upr (upr (upr (upr z0 7 (98 + 1)) 8 (99 + 1)) 9 (100 + 1)) 10 (101 + 1)) 11 (102 + 1)) 12 (103 + 1)) 13 (104 + 1)) 0 (4 + 1)) 1 (59 + 1)) := by
    funext j
    show rt (KT 97) 97 j = _
    rw [(show KT 97 = (0, 10) by decide)]
    match j with
    | 0 => rfl
    | 1 => rfl
    | 2 => rfl
    | 3 => rfl
    | 4 => rfl
    | 5 => rfl
    | 6 => rfl
    | 7 => rfl
    | 8 => rfl
    | 9 => rfl
    | 10 => rfl
    | 11 => rfl
    | 12 => rfl
    | 13 => rfl
    | q + 14 => (simp only [upr]; rw [if_neg (by omega), if_neg (by omega), if_neg (by omega), if_neg (by omega), if_neg (by omega), if_neg (by omega), if_neg (by omega), if_neg (by omega), if_neg (by omega)] <;> rfl)
  exact T_vret (pc := 73) dX10_init_73 rfl (Nat.le_of_ble_eq_true rfl) (Nat.le_of_ble_eq_true rfl) ⟨rfl, b16.done hr (fun h => absurd h (Nat.lt_irrefl _)) b16.i⟩
theorem i_X9 {k : Nat} {μ : SMem} (hk : isTold k) (hN : k + 28 ≤ 595) (h1 : μ.1 = k + 1) (h2 : μ.2.1 k = z0) (h3 : μ.2.2.1 k = zi) : Ex γ 2 27 351 M_X9_init [.ref k] μ (Ci k (k + 28) μ (fun I => I k = upr (upr zi 8 (nI 0)) 11 (nI 1) ∧ I (k + 1) = zi ∧ ∀ j, j < 8 → I (k + 9) j = nI 1)) := by
  refine Ex.of (by decide +kernel) rfl (Nat.le_of_ble_eq_true rfl) ?_
  show T _ _ _ _ _ _ _ _ 0 [some (.ref k), none] [] μ
  have b0 : Bd k k (k + 1) z0 z0 zi μ μ := Bd.start h1 h2 h3
  refine T_aload_n (pc := 0) (i := 0) dX9_init_0 rfl rfl ?_
  refine T_objInit (pc := 1) oi_X9_3 (Nat.le_of_ble_eq_true rfl) dX9_init_1 ?_
  refine T_aload_n (pc := 4) (i := 0) dX9_init_4 rfl rfl ?_
  refine T_new (pc := 5) (c := 6) nw_X9_9 (by decide) (by rw [b0.n]; exact (told_all hk 1 (by decide)).1) (by rw [b0.n]; show _ < 595; omega) (Nat.le_of_ble_eq_true rfl) (Nat.le_of_ble_eq_true rfl) dX9_init_5 ?_
  rw [b0.n]
  refine T_dup (pc := 8) dX9_init_8 rfl ?_
  refine T_callI (pc := 9) (b := (k + 1)) (As := []) (rest := [.ref (k + 1), .ref k]) (Or.inr lk_X9_11) mk_X6_init rfl (i_X6 (told_rules hk) (by omega) (by show μ.1 + 1 = _; rw [b0.n]) (new_rz b0.n) (new_iz b0.n)) dX9_init_9 rfl rfl (Nat.le_of_ble_eq_true rfl) (by decide) rfl (Nat.le_of_ble_eq_true rfl) (Nat.le_of_ble_eq_true rfl) (fun E m' h => by obtain ⟨z, _⟩ := h; cases z) (fun v μ1 h => ?_)
  obtain ⟨h0, c1⟩ := h
  cases h0
  have b1 : Bd k k (k + 6) z0 z0 zi μ μ1 := b0.call c1 (by omega)
  have jr_1 : μ1.2.2.1 (k + 1) = zi := c1.2.2.2.2
  show T _ _ _ _ _ _ _ _ 12 [some (.ref k), none] [.ref (k + 1), .ref k] μ1
  refine T_putR (pc := 12) (c := 9) (j := 0) fl_X9_12 ⟨rfl, rfl⟩ ⟨rfl, rfl⟩ (fun q => ⟨rfl, rfl⟩) (told_all hk 0 (by decide)).1 (by rw [b1.n]; omega) dX9_init_12 ?_
  have b2 : Bd k k (k + 6) (upr z0 0 (k + 1 + 1)) z0 zi μ (mR μ1 k 0 (k + 1 + 1)) := b1.putR
  have jr_2 : (mR μ1 k 0 (k + 1 + 1)).2.2.1 (k + 1) = zi := jr_1
  generalize mR μ1 k 0 (k + 1 + 1) = μ2 at b2 jr_2 ⊢
  refine T_aload_n (pc := 15) (i := 0) dX9_init_15 rfl rfl ?_
  refine T_bipush (pc := 16) (v := nI 6) dX9_init_16 (by decide) ?_
  refine T_anew (pc := 18) (c := 1) (t := 4) (N := 6) cl_X9_18 (Or.inl ⟨rfl, rfl⟩) (nI_pos (by omega)) (nI_clamp (by omega)) (by decide) (by rw [b2.n]; exact (told_all hk 6 (by decide)).1) (by rw [b2.n]; show _ < 595; omega) (Nat.le_of_ble_eq_true rfl) (Nat.le_of_ble_eq_true rfl) dX9_init_18 ?_
  rw [b2.n]
  have b3 : Bd k (k + 6) (k + 7) (upr z0 0 (k + 1 + 1)) z0 zi μ (mNew μ2) := b2.newr
  have jr_3 : (mNew μ2).2.2.1 (k + 1) = zi := (new_i (by rw [b2.n]; omega)).trans jr_2
  generalize mNew μ2 = μ3 at b3 jr_3 ⊢
  refine T_putR (pc := 21) (c := 9) (j := 1) fl_X9_20 ⟨rfl, rfl⟩ ⟨rfl, rfl⟩ (fun q => ⟨rfl, rfl⟩) (told_all hk 0 (by decide)).1 (by rw [b3.n]; omega) dX9_init_21 ?_
  have b4 : Bd k (k + 6) (k + 7) (upr (upr z0 0 (k + 1 + 1)) 1 (k + 6 + 1)) z0 zi μ (mR μ3 k 1 (k + 6 + 1)) := b3.putR
  have jr_4 : (mR μ3 k 1 (k + 6 + 1)).2.2.1 (k + 1) = zi := jr_3
  generalize mR μ3 k 1 (k + 6 + 1) = μ4 at b4 jr_4 ⊢
  refine T_aload_n (pc := 24) (i := 0) dX9_init_24 rfl rfl ?_
  refine T_bipush (pc := 25) (v := nI 10) dX9_init_25 (by decide) ?_
  refine T_newa (pc := 27) (at9 := .long) (t := 2) (N := 10) ac_long (Or.inr (Or.inl ⟨rfl, rfl⟩)) (nI_pos (by omega)) (nI_clamp (by omega)) (by decide) (by rw [b4.n]; exact (told_all hk 7 (by decide)).1) (by rw [b4.n]; show _ < 595; omega) (Nat.le_of_ble_eq_true rfl) (Nat.le_of_ble_eq_true rfl) dX9_init_27 ?_
  rw [b4.n]
  have b5 : Bd k (k + 6) (k + 8) (upr (upr z0 0 (k + 1 + 1)) 1 (k + 6 + 1)) z0 zi μ (mNew μ4) := b4.newp (R0_arr (t := 2) (N := 10) (told_all hk 7 (by decide)).1 (by decide))
  have jr_5 : (mNew μ4).2.2.1 (k + 1) = zi := (new_i (by rw [b4.n]; omega)).trans jr_4
  generalize mNew μ4 = μ5 at b5 jr_5 ⊢
  refine T_putR (pc := 29) (c := 9) (j := 3) fl_X9_24 ⟨rfl, rfl⟩ ⟨rfl, rfl⟩ (fun q => ⟨rfl, rfl⟩) (told_all hk 0 (by decide)).1 (by rw [b5.n]; omega) dX9_init_29 ?_
  have b6 : Bd k (k + 6) (k + 8) (upr (upr (upr z0 0 (k + 1 + 1)) 1 (k + 6 + 1)) 3 (k + 7 + 1)) z0 zi μ (mR μ5 k 3 (k + 7 + 1)) := b5.putR
  have jr_6 : (mR μ5 k 3 (k + 7 + 1)).2.2.1 (k + 1) = zi := jr_5
  generalize mR μ5 k 3 (k + 7 + 1) = μ6 at b6 jr_6 ⊢
  refine T_aload_n (pc := 32) (i := 0) dX9_init_32 rfl rfl ?_
  refine T_bipush (pc := 33) (v := nI 10) dX9_init_33 (by decide) ?_
  refine T_newa (pc := 35) (at9 := .long) (t := 2) (N := 10) ac_long (Or.inr (Or.inl ⟨rfl, rfl⟩)) (nI_pos (by omega)) (nI_clamp (by omega)) (by decide) (by rw [b6.n]; exact (told_all hk 8 (by decide)).1) (by rw [b6.n]; show _ < 595; omega) (Nat.le_of_ble_eq_true rfl) (Nat.le_of_ble_eq_true rfl) dX9_init_35 ?_
  rw [b6.n]
  have b7 : Bd k (k + 6) (k + 9) (upr (upr (upr z0 0 (k + 1 + 1)) 1 (k + 6 + 1)) 3 (k + 7 + 1)) z0 zi μ (mNew μ6) := b6.newp (R0_arr (t := 2) (N := 10) (told_all hk 8 (by decide)).1 (by decide))
  have jr_7 : (mNew μ6).2.2.1 (k + 1) = zi := (new_i (by rw [b6.n]; omega)).trans jr_6
  generalize mNew μ6 = μ7 at b7 jr_7 ⊢
  refine T_putR (pc := 37) (c := 9) (j := 4) fl_X9_28 ⟨rfl, rfl⟩ ⟨rfl, rfl⟩ (fun q => ⟨rfl, rfl⟩) (told_all hk 0 (by decide)).1 (by rw [b7.n]; omega) dX9_init_37 ?_
  have b8 : Bd k (k + 6) (k + 9) (upr (upr (upr (upr z0 0 (k + 1 + 1)) 1 (k + 6 + 1)) 3 (k + 7 + 1)) 4 (k + 8 + 1)) z0 zi μ (mR μ7 k 4 (k + 8 + 1)) := b7.putR
  have jr_8 : (mR μ7 k 4 (k + 8 + 1)).2.2.1 (k + 1) = zi := jr_7
  generalize mR μ7 k 4 (k + 8 + 1) = μ8 at b8 jr_8 ⊢
  refine T_aload_n (pc := 40) (i := 0) dX9_init_40 rfl rfl ?_
  refine T_bipush (pc := 41) (v := nI 8) dX9_init_41 (by decide) ?_
  refine T_newa (pc := 43) (at9 := .int) (t := 1) (N := 8) ac_int (Or.inl ⟨rfl, rfl⟩) (nI_pos (by omega)) (nI_clamp (by omega)) (by decide) (by rw [b8.n]; exact (told_all hk 9 (by decide)).1) (by rw [b8.n]; show _ < 595; omega) (Nat.le_of_ble_eq_true rfl) (Nat.le_of_ble_eq_true rfl) dX9_init_43 ?_
  rw [b8.n]
  have b9 : Bd k (k + 6) (k + 10) (upr (upr (upr (upr z0 0 (k + 1 + 1)) 1 (k + 6 + 1)) 3 (k + 7 + 1)) 4 (k + 8 + 1)) z0 zi μ (mNew μ8) := b8.newp (R0_arr (t := 1) (N := 8) (told_all hk 9 (by decide)).1 (by decide))
  have jr_9 : (mNew μ8).2.2.1 (k + 1) = zi := (new_i (by rw [b8.n]; omega)).trans jr_8
  generalize mNew μ8 = μ9 at b9 jr_9 ⊢
  refine T_putR (pc := 45) (c := 9) (j := 6) fl_X9_31 ⟨rfl, rfl⟩ ⟨rfl, rfl⟩ (fun q => ⟨rfl, rfl⟩) (told_all hk 0 (by decide)).1 (by rw [b9.n]; omega) dX9_init_45 ?_
  have b10 : Bd k (k + 6) (k + 10) (upr (upr (upr (upr (upr z0 0 (k + 1 + 1)) 1 (k + 6 + 1)) 3 (k + 7 + 1)) 4 (k + 8 + 1)) 6 (k + 9 + 1)) z0 zi μ (mR μ9 k 6 (k + 9 + 1)) := b9.putR
  have jr_10 : (mR μ9 k 6 (k + 9 + 1)).2.2.1 (k + 1) = zi := jr_9
  generalize mR μ9 k 6 (k + 9 + 1) = μ10 at b10 jr_10 ⊢
  refine T_aload_n (pc := 48) (i := 0) dX9_init_48 rfl rfl ?_
  refine T_iconst (pc := 49) (v := nI 0) dX9_init_49 (by decide) ?_
  refine T_putI (pc := 50) (c := 9) (j := 8) fl_X9_35 ⟨rfl, rfl⟩ (Or.inl rfl) (told_all hk 0 (by decide)).1 (by rw [b10.n]; omega) dX9_init_50 ?_
  have b11 : Bd k (k + 6) (k + 10) (upr (upr (upr (upr (upr z0 0 (k + 1 + 1)) 1 (k + 6 + 1)) 3 (k + 7 + 1)) 4 (k + 8 + 1)) 6 (k + 9 + 1)) z0 (upr zi 8 (nI 0)) μ (mI μ10 k 8 (nI 0)) := b10.putI
  have jr_11 : (mI μ10 k 8 (nI 0)).2.2.1 (k + 1) = zi := (up2_ne (by omega)).trans jr_10
  generalize mI μ10 k 8 (nI 0) = μ11 at b11 jr_11 ⊢
  refine T_aload_n (pc := 53) (i := 0) dX9_init_53 rfl rfl ?_
  refine T_iconst (pc := 54) (v := nI 1) dX9_init_54 (by decide) ?_
  refine T_putI (pc := 55) (c := 9) (j := 11) fl_X9_39 ⟨rfl, rfl⟩ (Or.inl rfl) (told_all hk 0 (by decide)).1 (by rw [b11.n]; omega) dX9_init_55 ?_
  have b12 : Bd k (k + 6) (k + 10) (upr (upr (upr (upr (upr z0 0 (k + 1 + 1)) 1 (k + 6 + 1)) 3 (k + 7 + 1)) 4 (k + 8 + 1)) 6 (k + 9 + 1)) z0 (upr (upr zi 8 (nI 0)) 11 (nI 1)) μ (mI μ11 k 11 (nI 1)) := b11.putI
  have jr_12 : (mI μ11 k 11 (nI 1)).2.2.1 (k + 1) = zi := (up2_ne (by omega)).trans jr_11
  generalize mI μ11 k 11 (nI 1) = μ12 at b12 jr_12 ⊢
  refine T_iconst (pc := 58) (v := nI 0) dX9_init_58 (by decide) ?_
  refine T_istore_n (pc := 59) (i := 1) (ls' := [some (.ref k), some (.int (nI 0))]) dX9_init_59 rfl (by decide) rfl ?_
  refine T_iload_n (pc := 60) (i := 1) dX9_init_60 rfl rfl ?_
  refine T_bipush (pc := 61) (v := nI 6) dX9_init_61 (by decide) ?_
  refine T_icmp_ge (pc := 63) (tgt := 85) dX9_init_63 (by decide) (fun h => absurd h (by decide)) (fun _ => ?_)
  refine T_aload_n (pc := 66) (i := 0) dX9_init_66 rfl rfl ?_
  refine T_getR (pc := 67) (c := 9) (j := 1) (i := (k + 6)) fl_X9_20 rfl (told_all hk 0 (by decide)).1 (by rw [b12.n]; omega) (by rw [b12.r]; rfl) dX9_init_67 ?_
  refine T_iload_n (pc := 70) (i := 1) dX9_init_70 rfl rfl ?_
  refine T_new (pc := 71) (c := 1) nw_X9_18 (by decide) (by rw [b12.n]; exact (told_all hk 10 (by decide)).1) (by rw [b12.n]; show _ < 595; omega) (Nat.le_of_ble_eq_true rfl) (Nat.le_of_ble_eq_true rfl) dX9_init_71 ?_
  rw [b12.n]
  refine T_dup (pc := 74) dX9_init_74 rfl ?_
  refine T_callI (pc := 75) (b := (k + 10)) (As := []) (rest := [.ref (k + 10), .int (nI 0), .ref (k + 6)]) (Or.inr lk_X9_42) mk_X1_init rfl (i_X1 (show isField (k + 10) from told_field (i := 0) hk (by decide)) (by omega) (by show μ12.1 + 1 = _; rw [b12.n]) (new_rz b12.n) (new_iz b12.n)) dX9_init_75 rfl rfl (Nat.le_of_ble_eq_true rfl) (by decide) rfl (Nat.le_of_ble_eq_true rfl) (Nat.le_of_ble_eq_true rfl) (fun E m' h => by obtain ⟨z, _⟩ := h; cases z) (fun v μ13 h => ?_)
  obtain ⟨h0, c13⟩ := h
  cases h0
  have b13 : Bd k (k + 6) (k + 13) (upr (upr (upr (upr (upr z0 0 (k + 1 + 1)) 1 (k + 6 + 1)) 3 (k + 7 + 1)) 4 (k + 8 + 1)) 6 (k + 9 + 1)) z0 (upr (upr zi 8 (nI 0)) 11 (nI 1)) μ μ13 := b12.call c13 (by omega)
  have jr_13 : μ13.2.2.1 (k + 1) = zi := (c13.lo b12.n (by omega)).trans jr_12
  show T _ _ _ _ _ _ _ _ 78 [some (.ref k), some (.int (nI 0))] [.ref (k + 10), .int (nI 0), .ref (k + 6)] μ13
  refine T_aast (pc := 78) (t := 0) (c := 1) (n := 6) (told_all hk 6 (by decide)).1 (Or.inl ⟨rfl, rfl⟩) (told_all hk 10 (by decide)).1 (by rw [b13.n]; omega) (by rw [b13.n]; omega) (vp_in_nI (e := 0) (by omega) (by omega)) dX9_init_78 ?_
  rw [nI_clamp (n := 0) (by omega)]
  have b14 : Bd k (k + 6) (k + 13) (upr (upr (upr (upr (upr z0 0 (k + 1 + 1)) 1 (k + 6 + 1)) 3 (k + 7 + 1)) 4 (k + 8 + 1)) 6 (k + 9 + 1)) (upr z0 0 (k + 10 + 1)) (upr (upr zi 8 (nI 0)) 11 (nI 1)) μ (mR μ13 (k + 6) 0 (k + 10 + 1)) := b13.ast (by omega)
  have jr_14 : (mR μ13 (k + 6) 0 (k + 10 + 1)).2.2.1 (k + 1) = zi := jr_13
  generalize mR μ13 (k + 6) 0 (k + 10 + 1) = μ14 at b14 jr_14 ⊢
  refine T_iinc (pc := 79) (i := 1) (v := nI 1) (ls' := [some (.ref k), some (.int (nI 1))]) dX9_init_79 rfl (by decide) rfl ?_
  refine T_goto (pc := 82) (tgt := 60) dX9_init_82 (by decide) ?_
  refine T_iload_n (pc := 60) (i := 1) dX9_init_60 rfl rfl ?_
  refine T_bipush (pc := 61) (v := nI 6) dX9_init_61 (by decide) ?_
  refine T_icmp_ge (pc := 63) (tgt := 85) dX9_init_63 (by decide) (fun h => absurd h (by decide)) (fun _ => ?_)
  refine T_aload_n (pc := 66) (i := 0) dX9_init_66 rfl rfl ?_
  refine T_getR (pc := 67) (c := 9) (j := 1) (i := (k + 6)) fl_X9_20 rfl (told_all hk 0 (by decide)).1 (by rw [b14.n]; omega) (by rw [b14.r]; rfl) dX9_init_67 ?_
  refine T_iload_n (pc := 70) (i := 1) dX9_init_70 rfl rfl ?_
  refine T_new (pc := 71) (c := 1) nw_X9_18 (by decide) (by rw [b14.n]; exact (told_all hk 13 (by decide)).1) (by rw [b14.n]; show _ < 595; omega) (Nat.le_of_ble_eq_true rfl) (Nat.le_of_ble_eq_true rfl) dX9_init_71 ?_
  rw [b14.n]
  refine T_dup (pc := 74) dX9_init_74 rfl ?_
  refine T_callI (pc := 75) (b := (k + 13)) (As := []) (rest := [.ref (k + 13), .int (nI 1), .ref (k + 6)]) (Or.inr lk_X9_42) mk_X1_init rfl (i_X1 (show isField (k + 13) from told_field (i := 1) hk (by decide)) (by omega) (by show μ14.1 + 1 = _; rw [b14.n]) (new_rz b14.n) (new_iz b14.n)) dX9_init_75 rfl rfl (Nat.le_of_ble_eq_true rfl) (by decide) rfl (Nat.le_of_ble_eq_true rfl) (Nat.le_of_ble_eq_true rfl) (fun E m' h => by obtain ⟨z, _⟩ := h; cases z) (fun v μ15 h => ?_)
  obtain ⟨h0, c15⟩ := h
  cases h0
  have b15 : Bd k (k + 6) (k + 16) (upr (upr (upr (upr (upr z0 0 (k + 1 + 1)) 1 (k + 6 + 1)) 3 (k + 7 + 1)) 4 (k + 8 + 1)) 6 (k + 9 + 1)) (upr z0 0 (k + 10 + 1)) (upr (upr zi 8 (nI 0)) 11 (nI 1)) μ μ15 := b14.call c15 (by omega)
  have jr_15 : μ15.2.2.1 (k + 1) = zi := (c15.lo b14.n (by omega)).trans jr_14
  show T _ _ _ _ _ _ _ _ 78 [some (.ref k), some (.int (nI 1))] [.ref (k + 13), .int (nI 1), .ref (k + 6)] μ15
  refine T_aast (pc := 78) (t := 0) (c := 1) (n := 6) (told_all hk 6 (by decide)).1 (Or.inl ⟨rfl, rfl⟩) (told_all hk 13 (by decide)).1 (by rw [b15.n]; omega) (by rw [b15.n]; omega) (vp_in_nI (e := 1) (by omega) (by omega)) dX9_init_78 ?_
  rw [nI_clamp (n := 1) (by omega)]
  have b16 : Bd k (k + 6) (k + 16) (upr (upr (upr (upr (upr z0 0 (k + 1 + 1)) 1 (k + 6 + 1)) 3 (k + 7 + 1)) 4 (k + 8 + 1)) 6 (k + 9 + 1)) (upr (upr z0 0 (k + 10 + 1)) 1 (k + 13 + 1)) (upr (upr zi 8 (nI 0)) 11 (nI 1)) μ (mR μ15 (k + 6) 1 (k + 13 + 1)) := b15.ast (by omega)
  have jr_16 : (mR μ15 (k + 6) 1 (k + 13 + 1)).2.2.1 (k + 1) = zi := jr_15
  generalize mR μ15 (k + 6) 1 (k + 13 + 1) = μ16 at b16 jr_16 ⊢
  refine T_iinc (pc := 79) (i := 1) (v := nI 2) (ls' := [some (.ref k), some (.int (nI 2))]) dX9_init_79 rfl (by decide) rfl ?_
  refine T_goto (pc := 82) (tgt := 60) dX9_init_82 (by decide) ?_
  refine T_iload_n (pc := 60) (i := 1) dX9_init_60 rfl rfl ?_
  refine T_bipush (pc := 61) (v := nI 6) dX9_init_61 (by decide) ?_
  refine T_icmp_ge (pc := 63) (tgt := 85) dX9_init_63 (by decide) (fun h => absurd h (by decide)) (fun _ => ?_)
  refine T_aload_n (pc := 66) (i := 0) dX9_init_66 rfl rfl ?_
  refine T_getR (pc := 67) (c := 9) (j := 1) (i := (k + 6)) fl_X9_20 rfl (told_all hk 0 (by decide)).1 (by rw [b16.n]; omega) (by rw [b16.r]; rfl) dX9_init_67 ?_
  refine T_iload_n (pc := 70) (i := 1) dX9_init_70 rfl rfl ?_
  refine T_new (pc := 71) (c := 1) nw_X9_18 (by decide) (by rw [b16.n]; exact (told_all hk 16 (by decide)).1) (by rw [b16.n]; show _ < 595; omega) (Nat.le_of_ble_eq_true rfl) (Nat.le_of_ble_eq_true rfl) dX9_init_71 ?_
  rw [b16.n]
  refine T_dup (pc := 74) dX9_init_74 rfl ?_
  refine T_callI (pc := 75) (b := (k + 16)) (As := []) (rest := [.ref (k + 16), .int (nI 2), .ref (k + 6)]) (Or.inr lk_X9_42) mk_X1_init rfl (i_X1 (show isField (k + 16) from told_field (i := 2) hk (by decide)) (by omega) (by show μ16.1 + 1 = _; rw [b16.n]) (new_rz b16.n) (new_iz b16.n)) dX9_init_75 rfl rfl (Nat.le_of_ble_eq_true rfl) (by decide) rfl (Nat.le_of_ble_eq_true rfl) (Nat.le_of_ble_eq_true rfl) (fun E m' h => by obtain ⟨z, _⟩ := h; cases z) (fun v μ17 h => ?_)
  obtain ⟨h0, c17⟩ := h
  cases h0
  have b17 : Bd k (k + 6) (k + 19) (upr (upr (upr (upr (upr z0 0 (k + 1 + 1)) 1 (k + 6 + 1)) 3 (k + 7 + 1)) 4 (k + 8 + 1)) 6 (k + 9 + 1)) (upr (upr z0 0 (k + 10 + 1)) 1 (k + 13 + 1)) (upr (upr zi 8 (nI 0)) 11 (nI 1)) μ μ17 := b16.call c17 (by omega)
  have jr_17 : μ17.2.2.1 (k + 1) = zi := (c17.lo b16.n (by omega)).trans jr_16
  show T _ _ _ _ _ _ _ _ 78 [some (.ref k), some (.int (nI 2))] [.ref (k + 16), .int (nI 2), .ref (k + 6)] μ17
  refine T_aast (pc := 78) (t := 0) (c := 1) (n := 6) (told_all hk 6 (by decide)).1 (Or.inl ⟨rfl, rfl⟩) (told_all hk 16 (by decide)).1 (by rw [b17.n]; omega) (by rw [b17.n]; omega) (vp_in_nI (e := 2) (by omega) (by omega)) dX9_init_78 ?_
  rw [nI_clamp (n := 2) (by omega)]
  have b18 : Bd k (k + 6) (k + 19) (upr (upr (upr (upr (upr z0 0 (k + 1 + 1)) 1 (k + 6 + 1)) 3 (k + 7 + 1)) 4 (k + 8 + 1)) 6 (k + 9 + 1)) (upr (upr (upr z0 0 (k + 10 + 1)) 1 (k + 13 + 1)) 2 (k + 16 + 1)) (upr (upr zi 8 (nI 0)) 11 (nI 1)) μ (mR μ17 (k + 6) 2 (k + 16 + 1)) := b17.ast (by omega)
  have jr_18 : (mR μ17 (k + 6) 2 (k + 16 + 1)).2.2.1 (k + 1) = zi := jr_17
  generalize mR μ17 (k + 6) 2 (k + 16 + 1) = μ18 at b18 jr_18 ⊢
  refine T_iinc (pc := 79) (i := 1) (v := nI 3) (ls' := [some (.ref k), some (.int (nI 3))]) dX9_init_79 rfl (by decide) rfl ?_
  refine T_goto (pc := 82) (tgt := 60) dX9_init_82 (by decide) ?_
  refine T_iload_n (pc := 60) (i := 1) dX9_init_60 rfl rfl ?_
  refine T_bipush (pc := 61) (v := nI 6) dX9_init_61 (by decide) ?_
  refine T_icmp_ge (pc := 63) (tgt := 85) dX9_init_63 (by decide) (fun h => absurd h (by decide)) (fun _ => ?_)
  refine T_aload_n (pc := 66) (i := 0) dX9_init_66 rfl rfl ?_
  refine T_getR (pc := 67) (c := 9) (j := 1) (i := (k + 6)) fl_X9_20 rfl (told_all hk 0 (by decide)).1 (by rw [b18.n]; omega) (by rw [b18.r]; rfl) dX9_init_67 ?_
  refine T_iload_n (pc := 70) (i := 1) dX9_init_70 rfl rfl ?_
  refine T_new (pc := 71) (c := 1) nw_X9_18 (by decide) (by rw [b18.n]; exact (told_all hk 19 (by decide)).1) (by rw [b18.n]; show _ < 595; omega) (Nat.le_of_ble_eq_true rfl) (Nat.le_of_ble_eq_true rfl) dX9_init_71 ?_
  rw [b18.n]
  refine T_dup (pc := 74) dX9_init_74 rfl ?_
  refine T_callI (pc := 75) (b := (k + 19)) (As := []) (rest := [.ref (k + 19), .int (nI 3), .ref (k + 6)]) (Or.inr lk_X9_42) mk_X1_init rfl (i_X1 (show isField (k + 19) from told_field (i := 3) hk (by decide)) (by omega) (by show μ18.1 + 1 = _; rw [b18.n]) (new_rz b18.n) (new_iz b18.n)) dX9_init_75 rfl rfl (Nat.le_of_ble_eq_true rfl) (by decide) rfl (Nat.le_of_ble_eq_true rfl) (Nat.le_of_ble_eq_true rfl) (fun E m' h => by obtain ⟨z, _⟩ := h; cases z) (fun v μ19 h => ?_)
  obtain ⟨h0, c19⟩ := h
  cases h0
  have b19 : Bd k (k + 6) (k + 22) (upr (upr (upr (upr (upr z0 0 (k + 1 + 1)) 1 (k + 6 + 1)) 3 (k + 7 + 1)) 4 (k + 8 + 1)) 6 (k + 9 + 1)) (upr (upr (upr z0 0 (k + 10 + 1)) 1 (k + 13 + 1)) 2 (k + 16 + 1)) (upr (upr zi 8 (nI 0)) 11 (nI 1)) μ μ19 := b18.call c19 (by omega)
  have jr_19 : μ19.2.2.1 (k + 1) = zi := (c19.lo b18.n (by omega)).trans jr_18
  show T _ _ _ _ _ _ _ _ 78 [some (.ref k), some (.int (nI 3))] [.ref (k + 19), .int (nI 3), .ref (k + 6)] μ19
  refine T_aast (pc := 78) (t := 0) (c := 1) (n := 6) (told_all hk 6 (by decide)).1 (Or.inl ⟨rfl, rfl⟩) (told_all hk 19 (by decide)).1 (by rw [b19.n]; omega) (by rw [b19.n]; omega) (vp_in_nI (e := 3) (by omega) (by omega)) dX9_init_78 ?_
  rw [nI_clamp (n := 3) (by omega)]
  have b20 : Bd k (k + 6) (k + 22) (upr (upr (upr (upr (upr z0 0 (k + 1 + 1)) 1 (k + 6 + 1)) 3 (k + 7 + 1)) 4 (k + 8 + 1)) 6 (k + 9 + 1)) (upr (upr (upr (upr z0 0 (k + 10 + 1)) 1 (k + 13 + 1)) 2 (k + 16 + 1)) 3 (k + 19 + 1)) (upr (upr zi 8 (nI 0)) 11 (nI 1)) μ (mR μ19 (k + 6) 3 (k + 19 + 1)) := b19.ast (by omega)
  have jr_20 : (mR μ19 (k + 6) 3 (k + 19 + 1)).2.2.1 (k + 1) = zi := jr_19
  generalize mR μ19 (k + 6) 3 (k + 19 + 1) = μ20 at b20 jr_20 ⊢
  refine T_iinc (pc := 79) (i := 1) (v := nI 4) (ls' := [some (.ref k), some (.int (nI 4))]) dX9_init_79 rfl (by decide) rfl ?_
  refine T_goto (pc := 82) (tgt := 60) dX9_init_82 (by decide) ?_
  refine T_iload_n (pc := 60) (i := 1) dX9_init_60 rfl rfl ?_
  refine T_bipush (pc := 61) (v := nI 6) dX9_init_61 (by decide) ?_
  refine T_icmp_ge (pc := 63) (tgt := 85) dX9_init_63 (by decide) (fun h => absurd h (by decide)) (fun _ => ?_)
  refine T_aload_n (pc := 66) (i := 0) dX9_init_66 rfl rfl ?_
  refine T_getR (pc := 67) (c := 9) (j := 1) (i := (k + 6)) fl_X9_20 rfl (told_all hk 0 (by decide)).1 (by rw [b20.n]; omega) (by rw [b20.r]; rfl) dX9_init_67 ?_
  refine T_iload_n (pc := 70) (i := 1) dX9_init_70 rfl rfl ?_
  refine T_new (pc := 71) (c := 1) nw_X9_18 (by decide) (by rw [b20.n]; exact (told_all hk 22 (by decide)).1) (by rw [b20.n]; show _ < 595; omega) (Nat.le_of_ble_eq_true rfl) (Nat.le_of_ble_eq_true rfl) dX9_init_71 ?_
  rw [b20.n]
  refine T_dup (pc := 74) dX9_init_74 rfl ?_
  refine T_callI (pc := 75) (b := (k + 22)) (As := []) (rest := [.ref (k + 22), .int (nI 4), .ref (k + 6)]) (Or.inr lk_X9_42) mk_X1_init rfl (i_X1 (show isField (k + 22) from told_field (i := 4) hk (by decide)) (by omega) (by show μ20.1 + 1 = _; rw [b20.n]) (new_rz b20.n) (new_iz b20.n)) dX9_init_75 rfl rfl (Nat.le_of_ble_eq_true rfl) (by decide) rfl (Nat.le_of_ble_eq_true rfl) (Nat.le_of_ble_eq_true rfl) (fun E m' h => by obtain ⟨z, _⟩ := h; cases z) (fun v μ21 h => ?_)
  obtain ⟨h0, c21⟩ := h
  cases h0
  have b21 : Bd k (k + 6) (k + 25) (upr (upr (upr (upr (upr z0 0 (k + 1 + 1)) 1 (k + 6 + 1)) 3 (k + 7 + 1)) 4 (k + 8 + 1)) 6 (k + 9 + 1)) (upr (upr (upr (upr z0 0 (k + 10 + 1)) 1 (k + 13 + 1)) 2 (k + 16 + 1)) 3 (k + 19 + 1)) (upr (upr zi 8 (nI 0)) 11 (nI 1)) μ μ21 := b20.call c21 (by omega)
  have jr_21 : μ21.2.2.1 (k + 1) = zi := (c21.lo b20.n (by omega)).trans jr_20
  show T _ _ _ _ _ _ _ _ 78 [some (.ref k), some (.int (nI 4))] [.ref (k + 22), .int (nI 4), .ref (k + 6)] μ21
  refine T_aast (pc := 78) (t := 0) (c := 1) (n := 6) (told_all hk 6 (by decide)).1 (Or.inl ⟨rfl, rfl⟩) (told_all hk 22 (by decide)).1 (by rw [b21.n]; omega) (by rw [b21.n]; omega) (vp_in_nI (e := 4) (by omega) (by omega)) dX9_init_78 ?_
  rw [nI_clamp (n := 4) (by omega)]
  have b22 : Bd k (k + 6) (k + 25) (upr (upr (upr (upr (upr z0 0 (k + 1 + 1)) 1 (k + 6 + 1)) 3 (k + 7 + 1)) 4 (k + 8 + 1)) 6 (k + 9 + 1)) (upr (upr (upr (upr (upr z0 0 (k + 10 + 1)) 1 (k + 13 + 1)) 2 (k + 16 + 1)) 3 (k + 19 + 1)) 4 (k + 22 + 1)) (upr (upr zi 8 (nI 0)) 11 (nI 1)) μ (mR μ21 (k + 6) 4 (k + 22 + 1)) := b21.ast (by omega)
  have jr_22 : (mR μ21 (k + 6) 4 (k + 22 + 1)).2.2.1 (k + 1) = zi := jr_21
  generalize mR μ21 (k + 6) 4 (k + 22 + 1) = μ22 at b22 jr_22 ⊢
  refine T_iinc (pc := 79) (i := 1) (v := nI 5) (ls' := [some (.ref k), some (.int (nI 5))]) dX9_init_79 rfl (by decide) rfl ?_
  refine T_goto (pc := 82) (tgt := 60) dX9_init_82 (by decide) ?_
  refine T_iload_n (pc := 60) (i := 1) dX9_init_60 rfl rfl ?_
  refine T_bipush (pc := 61) (v := nI 6) dX9_init_61 (by decide) ?_
  refine T_icmp_ge (pc := 63) (tgt := 85) dX9_init_63 (by decide) (fun h => absurd h (by decide)) (fun _ => ?_)
  refine T_aload_n (pc := 66) (i := 0) dX9_init_66 rfl rfl ?_
  refine T_getR (pc := 67) (c := 9) (j := 1) (i := (k + 6)) fl_X9_20 rfl (told_all hk 0 (by decide)).1 (by rw [b22.n]; omega) (by rw [b22.r]; rfl) dX9_init_67 ?_
  refine T_iload_n (pc := 70) (i := 1) dX9_init_70 rfl rfl ?_
  refine T_new (pc := 71) (c := 1) nw_X9_18 (by decide) (by rw [b22.n]; exact (told_all hk 25 (by decide)).1) (by rw [b22.n]; show _ < 595; omega) (Nat.le_of_ble_eq_true rfl) (Nat.le_of_ble_eq_true rfl) dX9_init_71 ?_
  rw [b22.n]
  refine T_dup (pc := 74) dX9_init_74 rfl ?_
  refine T_callI (pc := 75) (b := (k + 25)) (As := []) (rest := [.ref (k + 25), .int (nI 5), .ref (k + 6)]) (Or.inr lk_X9_42) mk_X1_init rfl (i_X1 (show isField (k + 25) from told_field (i := 5) hk (by decide)) (by omega) (by show μ22.1 + 1 = _; rw [b22.n]) (new_rz b22.n) (new_iz b22.n)) dX9_init_75 rfl rfl (Nat.le_of_ble_eq_true rfl) (by decide) rfl (Nat.le_of_ble_eq_true rfl) (Nat.le_of_ble_eq_true rfl) (fun E m' h => by obtain ⟨z, _⟩ := h; cases z) (fun v μ23 h => ?_)
  obtain ⟨h0, c23⟩ := h
  cases h0
  have b23 : Bd k (k + 6) (k + 28) (upr (upr (upr (upr (upr z0 0 (k + 1 + 1)) 1 (k + 6 + 1)) 3 (k + 7 + 1)) 4 (k + 8 + 1)) 6 (k + 9 + 1)) (upr (upr (upr (upr (upr z0 0 (k + 10 + 1)) 1 (k + 13 + 1)) 2 (k + 16 + 1)) 3 (k + 19 + 1)) 4 (k + 22 + 1)) (upr (upr zi 8 (nI 0)) 11 (nI 1)) μ μ23 := b22.call c23 (by omega)
  have jr_23 : μ23.2.2.1 (k + 1) = zi := (c23.lo b22.n (by omega)).trans jr_22
  show T _ _ _ _ _ _ _ _ 78 [some (.ref k), some (.int (nI 5))] [.ref (k + 25), .int (nI 5), .ref (k + 6)] μ23
  refine T_aast (pc := 78) (t := 0) (c := 1) (n := 6) (told_all hk 6 (by decide)).1 (Or.inl ⟨rfl, rfl⟩) (told_all hk 25 (by decide)).1 (by rw [b23.n]; omega) (by rw [b23.n]; omega) (vp_in_nI (e := 5) (by omega) (by omega)) dX9_init_78 ?_
  rw [nI_clamp (n := 5) (by omega)]
  have b24 : Bd k (k + 6) (k + 28) (upr (upr (upr (upr (upr z0 0 (k + 1 + 1)) 1 (k + 6 + 1)) 3 (k + 7 + 1)) 4 (k + 8 + 1)) 6 (k + 9 + 1)) (upr (upr (upr (upr (upr (upr z0 0 (k + 10 + 1)) 1 (k + 13 + 1)) 2 (k + 16 + 1)) 3 (k + 19 + 1)) 4 (k + 22 + 1)) 5 (k + 25 + 1)) (upr (upr zi 8 (nI 0)) 11 (nI 1)) μ (mR μ23 (k + 6) 5 (k + 25 + 1)) := b23.ast (by omega)
  have jr_24 : (mR μ23 (k + 6) 5 (k + 25 + 1)).2.2.1 (k + 1) = zi := jr_23
  generalize mR μ23 (k + 6) 5 (k + 25 + 1) = μ24 at b24 jr_24 ⊢
  refine T_iinc (pc := 79) (i := 1) (v := nI 6) (ls' := [some (.ref k), some (.int (nI 6))]) dX9_init_79 rfl (by decide) rfl ?_
  refine T_goto (pc := 82) (tgt := 60) dX9_init_82 (by decide) ?_
  refine T_iload_n (pc := 60) (i := 1) dX9_init_60 rfl rfl ?_
  refine T_bipush (pc := 61) (v := nI 6) dX9_init_61 (by decide) ?_
  refine T_icmp_ge (pc := 63) (tgt := 85) dX9_init_63 (by decide) (fun _ => ?_) (fun h => absurd (by decide) h)
  refine T_aload_n (pc := 85) (i := 0) dX9_init_85 rfl rfl ?_
  refine T_getR (pc := 86) (c := 9) (j := 6) (i := (k + 9)) fl_X9_31 rfl (told_all hk 0 (by decide)).1 (by rw [b24.n]; omega) (by rw [b24.r]; rfl) dX9_init_86 ?_
  refine T_iconst (pc := 89) (v := nI 1) dX9_init_89 (by decide) ?_
  refine T_callS (pc := 90) (av := [.ref (k + 9), .int (nI 1)]) (rest := []) (Or.inl lk_X9_43) mk_J7_fill_53178 (i_fill (N := 8) (v := nI 1) (told_all hk 9 (by decide)).1 (by rw [b24.n]; omega)) dX9_init_90 rfl rfl (Nat.le_of_ble_eq_true rfl) (by decide) rfl (Nat.le_of_ble_eq_true rfl) (Nat.le_of_ble_eq_true rfl) (fun E m' h => by obtain ⟨z, _⟩ := h; cases z) (fun v m' h => ?_)
  obtain ⟨h0, I9, rfl, f1, f2⟩ := h
  cases h0
  have b25 : Bd k (k + 6) (k + 28) (upr (upr (upr (upr (upr z0 0 (k + 1 + 1)) 1 (k + 6 + 1)) 3 (k + 7 + 1)) 4 (k + 8 + 1)) 6 (k + 9 + 1)) (upr (upr (upr (upr (upr (upr z0 0 (k + 10 + 1)) 1 (k + 13 + 1)) 2 (k + 16 + 1)) 3 (k + 19 + 1)) 4 (k + 22 + 1)) 5 (k + 25 + 1)) (upr (upr zi 8 (nI 0)) 11 (nI 1)) μ (μ24.1, μ24.2.1, I9, μ24.2.2.2) := b24.fil f1 (by omega)
  have jr_25 : I9 (k + 1) = zi := (f1 _ (by omega)).trans jr_24
  show T _ _ _ _ _ _ _ _ 93 [some (.ref k), some (.int (nI 6))] [] (μ24.1, μ24.2.1, I9, μ24.2.2.2)
  have hr : R0 k = (upr (upr (upr (upr (upr z0 0 (k + 1 + 1)) 1 (k + 6 + 1)) 3 (k + 7 + 1)) 4 (k + 8 + 1)) 6 (k + 9 + 1)) := by
    funext j
    show rt (KT k) k j = _
    rw [(told_all hk 0 (by decide)).1]
    match j with
    | 0 => rfl
    | 1 => rfl
    | 2 => rfl
    | 3 => rfl
    | 4 => rfl
    | 5 => rfl
    | 6 => rfl
    | 7 => rfl
    | 8 => rfl
    | 9 => rfl
    | 10 => rfl
    | 11 => rfl
    | q + 12 => (simp only [upr]; rw [if_neg (by omega), if_neg (by omega), if_neg (by omega), if_neg (by omega), if_neg (by omega)] <;> rfl)
  have ha : R0 (k + 6) = (upr (upr (upr (upr (upr (upr z0 0 (k + 10 + 1)) 1 (k + 13 + 1)) 2 (k + 16 + 1)) 3 (k + 19 + 1)) 4 (k + 22 + 1)) 5 (k + 25 + 1)) := by
    funext j
    show rt (KT (k + 6)) (k + 6) j = _
    rw [show KT (k + 6) = (4, 6) from (told_all hk 6 (by decide)).1]
    match j with
    | 0 => rfl
    | 1 => rfl
    | 2 => rfl
    | 3 => rfl
    | 4 => rfl
    | 5 => rfl
    | q + 6 => (simp only [upr]; rw [if_neg (by omega), if_neg (by omega), if_neg (by omega), if_neg (by omega), if_neg (by omega), if_neg (by omega)]; show (if q + 6 < 6 then _ else 0) = 0; rw [if_neg (by omega)])
  exact T_vret (pc := 93) dX9_init_93 rfl (Nat.le_of_ble_eq_true rfl) (Nat.le_of_ble_eq_true rfl) ⟨rfl, b25.done hr (fun h => ha) ⟨b25.i, jr_25, f2⟩⟩
theorem i_X11 {μ : SMem} (h1 : μ.1 = 1) (h2 : μ.2.1 0 = z0) (h3 : μ.2.2.1 0 = zi) : Ex γ 3 571 26790 M_X11_init [.ref 0] μ (Ci 0 572 μ (fun I => I 0 = zi ∧ I 1 = upr (upr zi 2 (-1)) 6 (-1) ∧ I 3 = upr (upr zi 8 (nI 0)) 11 (nI 1) ∧ I 4 = zi ∧ I 59 = upr zi 0 (-1) ∧ ∀ j, j < 8 → I 12 j = nI 1)) := by
  refine Ex.of (by decide +kernel) rfl (Nat.le_of_ble_eq_true rfl) ?_
  show T _ _ _ _ _ _ _ _ 0 [some (.ref 0), none] [] μ
  have b0 : Bd 0 0 1 z0 z0 zi μ μ := Bd.start h1 h2 h3
  refine T_aload_n (pc := 0) (i := 0) dX11_init_0 rfl rfl ?_
  refine T_objInit (pc := 1) oi_X11_1 (Nat.le_of_ble_eq_true rfl) dX11_init_1 ?_
  refine T_aload_n (pc := 4) (i := 0) dX11_init_4 rfl rfl ?_
  refine T_new (pc := 5) (c := 8) nw_X11_7 (by decide) (by rw [b0.n]; exact (show KT 1 = (0, 8) by decide)) (by rw [b0.n]; show _ < 595; omega) (Nat.le_of_ble_eq_true rfl) (Nat.le_of_ble_eq_true rfl) dX11_init_5 ?_
  rw [b0.n]
  refine T_dup (pc := 8) dX11_init_8 rfl ?_
  refine T_callI (pc := 9) (b := 1) (As := []) (rest := [.ref 1, .ref 0]) (Or.inr lk_X11_9) mk_X8_init rfl (i_X8  (by show μ.1 + 1 = _; rw [b0.n]) (new_rz b0.n) (new_iz b0.n)) dX11_init_9 rfl rfl (Nat.le_of_ble_eq_true rfl) (by decide) rfl (Nat.le_of_ble_eq_true rfl) (Nat.le_of_ble_eq_true rfl) (fun E m' h => by obtain ⟨z, _⟩ := h; cases z) (fun v μ1 h => ?_)
  obtain ⟨h0, c1⟩ := h
  cases h0
  have b1 : Bd 0 0 3 z0 z0 zi μ μ1 := b0.call c1 (by omega)
  have jx_1 : μ1.2.2.1 1 = (upr (upr zi 2 (-1)) 6 (-1)) := c1.2.2.2.2
  show T _ _ _ _ _ _ _ _ 12 [some (.ref 0), none] [.ref 1, .ref 0] μ1
  refine T_putR (pc := 12) (c := 11) (j := 0) fl_X11_10 ⟨rfl, rfl⟩ ⟨rfl, rfl⟩ (fun q => ⟨rfl, rfl⟩) (show KT 0 = (0, 11) by decide) (by rw [b1.n]; omega) dX11_init_12 ?_
  have b2 : Bd 0 0 3 (upr z0 0 (1 + 1)) z0 zi μ (mR μ1 0 0 (1 + 1)) := b1.putR
  have jx_2 : (mR μ1 0 0 (1 + 1)).2.2.1 1 = (upr (upr zi 2 (-1)) 6 (-1)) := jx_1
  generalize mR μ1 0 0 (1 + 1) = μ2 at b2 jx_2 ⊢
  refine T_aload_n (pc := 15) (i := 0) dX11_init_15 rfl rfl ?_
  refine T_new (pc := 16) (c := 9) nw_X11_16 (by decide) (by rw [b2.n]; exact (show KT 3 = (0, 9) by decide)) (by rw [b2.n]; show _ < 595; omega) (Nat.le_of_ble_eq_true rfl) (Nat.le_of_ble_eq_true rfl) dX11_init_16 ?_
  rw [b2.n]
  refine T_dup (pc := 19) dX11_init_19 rfl ?_
  refine T_callI (pc := 20) (b := 3) (As := []) (rest := [.ref 3, .ref 0]) (Or.inl lk_X11_18) mk_X9_init rfl (i_X9 (show isTold 3 by unfold isTold; omega) (by omega) (by show μ2.1 + 1 = _; rw [b2.n]) (new_rz b2.n) (new_iz b2.n)) dX11_init_20 rfl rfl (Nat.le_of_ble_eq_true rfl) (by decide) rfl (Nat.le_of_ble_eq_true rfl) (Nat.le_of_ble_eq_true rfl) (fun E m' h => by obtain ⟨z, _⟩ := h; cases z) (fun v μ3 h => ?_)
  obtain ⟨h0, c3⟩ := h
  cases h0
  have b3 : Bd 0 0 31 (upr z0 0 (1 + 1)) z0 zi μ μ3 := b2.call c3 (by omega)
  have jx_3 : μ3.2.2.1 1 = (upr (upr zi 2 (-1)) 6 (-1)) := (c3.lo b2.n (by omega)).trans jx_2
  obtain ⟨w12, e12, w12p⟩ : ∃ w, μ3.2.2.1 12 = w ∧ ∀ j, j < 8 → w j = nI 1 := ⟨_, rfl, c3.2.2.2.2.2.2⟩
  have jm_3 : μ3.2.2.1 3 = (upr (upr zi 8 (nI 0)) 11 (nI 1)) := c3.2.2.2.2.1
  have jn_3 : μ3.2.2.1 4 = zi := c3.2.2.2.2.2.1
  have jo_3 : μ3.2.2.1 12 = w12 := e12
  show T _ _ _ _ _ _ _ _ 23 [some (.ref 0), none] [.ref 3, .ref 0] μ3
  refine T_putR (pc := 23) (c := 11) (j := 1) fl_X11_19 ⟨rfl, rfl⟩ ⟨rfl, rfl⟩ (fun q => ⟨rfl, rfl⟩) (show KT 0 = (0, 11) by decide) (by rw [b3.n]; omega) dX11_init_23 ?_
  have b4 : Bd 0 0 31 (upr (upr z0 0 (1 + 1)) 1 (3 + 1)) z0 zi μ (mR μ3 0 1 (3 + 1)) := b3.putR
  have jx_4 : (mR μ3 0 1 (3 + 1)).2.2.1 1 = (upr (upr zi 2 (-1)) 6 (-1)) := jx_3
  have jm_4 : (mR μ3 0 1 (3 + 1)).2.2.1 3 = (upr (upr zi 8 (nI 0)) 11 (nI 1)) := jm_3
  have jn_4 : (mR μ3 0 1 (3 + 1)).2.2.1 4 = zi := jn_3
  have jo_4 : (mR μ3 0 1 (3 + 1)).2.2.1 12 = w12 := jo_3
  generalize mR μ3 0 1 (3 + 1) = μ4 at b4 jx_4 jm_4 jn_4 jo_4 ⊢
  refine T_aload_n (pc := 26) (i := 0) dX11_init_26 rfl rfl ?_
  refine T_new (pc := 27) (c := 9) nw_X11_16 (by decide) (by rw [b4.n]; exact (show KT 31 = (0, 9) by decide)) (by rw [b4.n]; show _ < 595; omega) (Nat.le_of_ble_eq_true rfl) (Nat.le_of_ble_eq_true rfl) dX11_init_27 ?_
  rw [b4.n]
  refine T_dup (pc := 30) dX11_init_30 rfl ?_
  refine T_callI (pc := 31) (b := 31) (As := []) (rest := [.ref 31, .ref 0]) (Or.inl lk_X11_18) mk_X9_init rfl (i_X9 (show isTold 31 by unfold isTold; omega) (by omega) (by show μ4.1 + 1 = _; rw [b4.n]) (new_rz b4.n) (new_iz b4.n)) dX11_init_31 rfl rfl (Nat.le_of_ble_eq_true rfl) (by decide) rfl (Nat.le_of_ble_eq_true rfl) (Nat.le_of_ble_eq_true rfl) (fun E m' h => by obtain ⟨z, _⟩ := h; cases z) (fun v μ5 h => ?_)
  obtain ⟨h0, c5⟩ := h
  cases h0
  have b5 : Bd 0 0 59 (upr (upr z0 0 (1 + 1)) 1 (3 + 1)) z0 zi μ μ5 := b4.call c5 (by omega)
  have jx_5 : μ5.2.2.1 1 = (upr (upr zi 2 (-1)) 6 (-1)) := (c5.lo b4.n (by omega)).trans jx_4
  have jm_5 : μ5.2.2.1 3 = (upr (upr zi 8 (nI 0)) 11 (nI 1)) := (c5.lo b4.n (by omega)).trans jm_4
  have jn_5 : μ5.2.2.1 4 = zi := (c5.lo b4.n (by omega)).trans jn_4
  have jo_5 : μ5.2.2.1 12 = w12 := (c5.lo b4.n (by omega)).trans jo_4
  show T _ _ _ _ _ _ _ _ 34 [some (.ref 0), none] [.ref 31, .ref 0] μ5
  refine T_putR (pc := 34) (c := 11) (j := 2) fl_X11_23 ⟨rfl, rfl⟩ ⟨rfl, rfl⟩ (fun q => ⟨rfl, rfl⟩) (show KT 0 = (0, 11) by decide) (by rw [b5.n]; omega) dX11_init_34 ?_
  have b6 : Bd 0 0 59 (upr (upr (upr z0 0 (1 + 1)) 1 (3 + 1)) 2 (31 + 1)) z0 zi μ (mR μ5 0 2 (31 + 1)) := b5.putR
  have jx_6 : (mR μ5 0 2 (31 + 1)).2.2.1 1 = (upr (upr zi 2 (-1)) 6 (-1)) := jx_5
  have jm_6 : (mR μ5 0 2 (31 + 1)).2.2.1 3 = (upr (upr zi 8 (nI 0)) 11 (nI 1)) := jm_5
  have jn_6 : (mR μ5 0 2 (31 + 1)).2.2.1 4 = zi := jn_5
  have jo_6 : (mR μ5 0 2 (31 + 1)).2.2.1 12 = w12 := jo_5
  generalize mR μ5 0 2 (31 + 1) = μ6 at b6 jx_6 jm_6 jn_6 jo_6 ⊢
  refine T_aload_n (pc := 37) (i := 0) dX11_init_37 rfl rfl ?_
  refine T_new (pc := 38) (c := 5) nw_X11_26 (by decide) (by rw [b6.n]; exact (show KT 59 = (0, 5) by decide)) (by rw [b6.n]; show _ < 595; omega) (Nat.le_of_ble_eq_true rfl) (Nat.le_of_ble_eq_true rfl) dX11_init_38 ?_
  rw [b6.n]
  refine T_dup (pc := 41) dX11_init_41 rfl ?_
  refine T_callI (pc := 42) (b := 59) (As := []) (rest := [.ref 59, .ref 0]) (Or.inr lk_X11_28) mk_X5_init rfl (i_X5 (show isLaw 59 by unfold isLaw; omega) (by omega) (by show μ6.1 + 1 = _; rw [b6.n]) (new_rz b6.n) (new_iz b6.n)) dX11_init_42 rfl rfl (Nat.le_of_ble_eq_true rfl) (by decide) rfl (Nat.le_of_ble_eq_true rfl) (Nat.le_of_ble_eq_true rfl) (fun E m' h => by obtain ⟨z, _⟩ := h; cases z) (fun v μ7 h => ?_)
  obtain ⟨h0, c7⟩ := h
  cases h0
  have b7 : Bd 0 0 62 (upr (upr (upr z0 0 (1 + 1)) 1 (3 + 1)) 2 (31 + 1)) z0 zi μ μ7 := b6.call c7 (by omega)
  have jx_7 : μ7.2.2.1 1 = (upr (upr zi 2 (-1)) 6 (-1)) := (c7.lo b6.n (by omega)).trans jx_6
  have jm_7 : μ7.2.2.1 3 = (upr (upr zi 8 (nI 0)) 11 (nI 1)) := (c7.lo b6.n (by omega)).trans jm_6
  have jn_7 : μ7.2.2.1 4 = zi := (c7.lo b6.n (by omega)).trans jn_6
  have jo_7 : μ7.2.2.1 12 = w12 := (c7.lo b6.n (by omega)).trans jo_6
  have jl_7 : μ7.2.2.1 59 = (upr zi 0 (-1)) := c7.2.2.2.2
  show T _ _ _ _ _ _ _ _ 45 [some (.ref 0), none] [.ref 59, .ref 0] μ7
  refine T_putR (pc := 45) (c := 11) (j := 3) fl_X11_29 ⟨rfl, rfl⟩ ⟨rfl, rfl⟩ (fun q => ⟨rfl, rfl⟩) (show KT 0 = (0, 11) by decide) (by rw [b7.n]; omega) dX11_init_45 ?_
  have b8 : Bd 0 0 62 (upr (upr (upr (upr z0 0 (1 + 1)) 1 (3 + 1)) 2 (31 + 1)) 3 (59 + 1)) z0 zi μ (mR μ7 0 3 (59 + 1)) := b7.putR
  have jx_8 : (mR μ7 0 3 (59 + 1)).2.2.1 1 = (upr (upr zi 2 (-1)) 6 (-1)) := jx_7
  have jm_8 : (mR μ7 0 3 (59 + 1)).2.2.1 3 = (upr (upr zi 8 (nI 0)) 11 (nI 1)) := jm_7
  have jn_8 : (mR μ7 0 3 (59 + 1)).2.2.1 4 = zi := jn_7
  have jo_8 : (mR μ7 0 3 (59 + 1)).2.2.1 12 = w12 := jo_7
  have jl_8 : (mR μ7 0 3 (59 + 1)).2.2.1 59 = (upr zi 0 (-1)) := jl_7
  generalize mR μ7 0 3 (59 + 1) = μ8 at b8 jx_8 jm_8 jn_8 jo_8 jl_8 ⊢
  refine T_aload_n (pc := 48) (i := 0) dX11_init_48 rfl rfl ?_
  refine T_new (pc := 49) (c := 5) nw_X11_26 (by decide) (by rw [b8.n]; exact (show KT 62 = (0, 5) by decide)) (by rw [b8.n]; show _ < 595; omega) (Nat.le_of_ble_eq_true rfl) (Nat.le_of_ble_eq_true rfl) dX11_init_49 ?_
  rw [b8.n]
  refine T_dup (pc := 52) dX11_init_52 rfl ?_
  refine T_callI (pc := 53) (b := 62) (As := []) (rest := [.ref 62, .ref 0]) (Or.inr lk_X11_28) mk_X5_init rfl (i_X5 (show isLaw 62 by unfold isLaw; omega) (by omega) (by show μ8.1 + 1 = _; rw [b8.n]) (new_rz b8.n) (new_iz b8.n)) dX11_init_53 rfl rfl (Nat.le_of_ble_eq_true rfl) (by decide) rfl (Nat.le_of_ble_eq_true rfl) (Nat.le_of_ble_eq_true rfl) (fun E m' h => by obtain ⟨z, _⟩ := h; cases z) (fun v μ9 h => ?_)
  obtain ⟨h0, c9⟩ := h
  cases h0
  have b9 : Bd 0 0 65 (upr (upr (upr (upr z0 0 (1 + 1)) 1 (3 + 1)) 2 (31 + 1)) 3 (59 + 1)) z0 zi μ μ9 := b8.call c9 (by omega)
  have jx_9 : μ9.2.2.1 1 = (upr (upr zi 2 (-1)) 6 (-1)) := (c9.lo b8.n (by omega)).trans jx_8
  have jm_9 : μ9.2.2.1 3 = (upr (upr zi 8 (nI 0)) 11 (nI 1)) := (c9.lo b8.n (by omega)).trans jm_8
  have jn_9 : μ9.2.2.1 4 = zi := (c9.lo b8.n (by omega)).trans jn_8
  have jo_9 : μ9.2.2.1 12 = w12 := (c9.lo b8.n (by omega)).trans jo_8
  have jl_9 : μ9.2.2.1 59 = (upr zi 0 (-1)) := (c9.lo b8.n (by omega)).trans jl_8
  show T _ _ _ _ _ _ _ _ 56 [some (.ref 0), none] [.ref 62, .ref 0] μ9
  refine T_putR (pc := 56) (c := 11) (j := 4) fl_X11_33 ⟨rfl, rfl⟩ ⟨rfl, rfl⟩ (fun q => ⟨rfl, rfl⟩) (show KT 0 = (0, 11) by decide) (by rw [b9.n]; omega) dX11_init_56 ?_
  have b10 : Bd 0 0 65 (upr (upr (upr (upr (upr z0 0 (1 + 1)) 1 (3 + 1)) 2 (31 + 1)) 3 (59 + 1)) 4 (62 + 1)) z0 zi μ (mR μ9 0 4 (62 + 1)) := b9.putR
  have jx_10 : (mR μ9 0 4 (62 + 1)).2.2.1 1 = (upr (upr zi 2 (-1)) 6 (-1)) := jx_9
  have jm_10 : (mR μ9 0 4 (62 + 1)).2.2.1 3 = (upr (upr zi 8 (nI 0)) 11 (nI 1)) := jm_9
  have jn_10 : (mR μ9 0 4 (62 + 1)).2.2.1 4 = zi := jn_9
  have jo_10 : (mR μ9 0 4 (62 + 1)).2.2.1 12 = w12 := jo_9
  have jl_10 : (mR μ9 0 4 (62 + 1)).2.2.1 59 = (upr zi 0 (-1)) := jl_9
  generalize mR μ9 0 4 (62 + 1) = μ10 at b10 jx_10 jm_10 jn_10 jo_10 jl_10 ⊢
  refine T_aload_n (pc := 59) (i := 0) dX11_init_59 rfl rfl ?_
  refine T_new (pc := 60) (c := 9) nw_X11_16 (by decide) (by rw [b10.n]; exact (show KT 65 = (0, 9) by decide)) (by rw [b10.n]; show _ < 595; omega) (Nat.le_of_ble_eq_true rfl) (Nat.le_of_ble_eq_true rfl) dX11_init_60 ?_
  rw [b10.n]
  refine T_dup (pc := 63) dX11_init_63 rfl ?_
  refine T_callI (pc := 64) (b := 65) (As := []) (rest := [.ref 65, .ref 0]) (Or.inl lk_X11_18) mk_X9_init rfl (i_X9 (show isTold 65 by unfold isTold; omega) (by omega) (by show μ10.1 + 1 = _; rw [b10.n]) (new_rz b10.n) (new_iz b10.n)) dX11_init_64 rfl rfl (Nat.le_of_ble_eq_true rfl) (by decide) rfl (Nat.le_of_ble_eq_true rfl) (Nat.le_of_ble_eq_true rfl) (fun E m' h => by obtain ⟨z, _⟩ := h; cases z) (fun v μ11 h => ?_)
  obtain ⟨h0, c11⟩ := h
  cases h0
  have b11 : Bd 0 0 93 (upr (upr (upr (upr (upr z0 0 (1 + 1)) 1 (3 + 1)) 2 (31 + 1)) 3 (59 + 1)) 4 (62 + 1)) z0 zi μ μ11 := b10.call c11 (by omega)
  have jx_11 : μ11.2.2.1 1 = (upr (upr zi 2 (-1)) 6 (-1)) := (c11.lo b10.n (by omega)).trans jx_10
  have jm_11 : μ11.2.2.1 3 = (upr (upr zi 8 (nI 0)) 11 (nI 1)) := (c11.lo b10.n (by omega)).trans jm_10
  have jn_11 : μ11.2.2.1 4 = zi := (c11.lo b10.n (by omega)).trans jn_10
  have jo_11 : μ11.2.2.1 12 = w12 := (c11.lo b10.n (by omega)).trans jo_10
  have jl_11 : μ11.2.2.1 59 = (upr zi 0 (-1)) := (c11.lo b10.n (by omega)).trans jl_10
  show T _ _ _ _ _ _ _ _ 67 [some (.ref 0), none] [.ref 65, .ref 0] μ11
  refine T_putR (pc := 67) (c := 11) (j := 5) fl_X11_36 ⟨rfl, rfl⟩ ⟨rfl, rfl⟩ (fun q => ⟨rfl, rfl⟩) (show KT 0 = (0, 11) by decide) (by rw [b11.n]; omega) dX11_init_67 ?_
  have b12 : Bd 0 0 93 (upr (upr (upr (upr (upr (upr z0 0 (1 + 1)) 1 (3 + 1)) 2 (31 + 1)) 3 (59 + 1)) 4 (62 + 1)) 5 (65 + 1)) z0 zi μ (mR μ11 0 5 (65 + 1)) := b11.putR
  have jx_12 : (mR μ11 0 5 (65 + 1)).2.2.1 1 = (upr (upr zi 2 (-1)) 6 (-1)) := jx_11
  have jm_12 : (mR μ11 0 5 (65 + 1)).2.2.1 3 = (upr (upr zi 8 (nI 0)) 11 (nI 1)) := jm_11
  have jn_12 : (mR μ11 0 5 (65 + 1)).2.2.1 4 = zi := jn_11
  have jo_12 : (mR μ11 0 5 (65 + 1)).2.2.1 12 = w12 := jo_11
  have jl_12 : (mR μ11 0 5 (65 + 1)).2.2.1 59 = (upr zi 0 (-1)) := jl_11
  generalize mR μ11 0 5 (65 + 1) = μ12 at b12 jx_12 jm_12 jn_12 jo_12 jl_12 ⊢
  refine T_aload_n (pc := 70) (i := 0) dX11_init_70 rfl rfl ?_
  refine T_new (pc := 71) (c := 5) nw_X11_26 (by decide) (by rw [b12.n]; exact (show KT 93 = (0, 5) by decide)) (by rw [b12.n]; show _ < 595; omega) (Nat.le_of_ble_eq_true rfl) (Nat.le_of_ble_eq_true rfl) dX11_init_71 ?_
  rw [b12.n]
  refine T_dup (pc := 74) dX11_init_74 rfl ?_
  refine T_callI (pc := 75) (b := 93) (As := []) (rest := [.ref 93, .ref 0]) (Or.inr lk_X11_28) mk_X5_init rfl (i_X5 (show isLaw 93 by unfold isLaw; omega) (by omega) (by show μ12.1 + 1 = _; rw [b12.n]) (new_rz b12.n) (new_iz b12.n)) dX11_init_75 rfl rfl (Nat.le_of_ble_eq_true rfl) (by decide) rfl (Nat.le_of_ble_eq_true rfl) (Nat.le_of_ble_eq_true rfl) (fun E m' h => by obtain ⟨z, _⟩ := h; cases z) (fun v μ13 h => ?_)
  obtain ⟨h0, c13⟩ := h
  cases h0
  have b13 : Bd 0 0 96 (upr (upr (upr (upr (upr (upr z0 0 (1 + 1)) 1 (3 + 1)) 2 (31 + 1)) 3 (59 + 1)) 4 (62 + 1)) 5 (65 + 1)) z0 zi μ μ13 := b12.call c13 (by omega)
  have jx_13 : μ13.2.2.1 1 = (upr (upr zi 2 (-1)) 6 (-1)) := (c13.lo b12.n (by omega)).trans jx_12
  have jm_13 : μ13.2.2.1 3 = (upr (upr zi 8 (nI 0)) 11 (nI 1)) := (c13.lo b12.n (by omega)).trans jm_12
  have jn_13 : μ13.2.2.1 4 = zi := (c13.lo b12.n (by omega)).trans jn_12
  have jo_13 : μ13.2.2.1 12 = w12 := (c13.lo b12.n (by omega)).trans jo_12
  have jl_13 : μ13.2.2.1 59 = (upr zi 0 (-1)) := (c13.lo b12.n (by omega)).trans jl_12
  show T _ _ _ _ _ _ _ _ 78 [some (.ref 0), none] [.ref 93, .ref 0] μ13
  refine T_putR (pc := 78) (c := 11) (j := 6) fl_X11_39 ⟨rfl, rfl⟩ ⟨rfl, rfl⟩ (fun q => ⟨rfl, rfl⟩) (show KT 0 = (0, 11) by decide) (by rw [b13.n]; omega) dX11_init_78 ?_
  have b14 : Bd 0 0 96 (upr (upr (upr (upr (upr (upr (upr z0 0 (1 + 1)) 1 (3 + 1)) 2 (31 + 1)) 3 (59 + 1)) 4 (62 + 1)) 5 (65 + 1)) 6 (93 + 1)) z0 zi μ (mR μ13 0 6 (93 + 1)) := b13.putR
  have jx_14 : (mR μ13 0 6 (93 + 1)).2.2.1 1 = (upr (upr zi 2 (-1)) 6 (-1)) := jx_13
  have jm_14 : (mR μ13 0 6 (93 + 1)).2.2.1 3 = (upr (upr zi 8 (nI 0)) 11 (nI 1)) := jm_13
  have jn_14 : (mR μ13 0 6 (93 + 1)).2.2.1 4 = zi := jn_13
  have jo_14 : (mR μ13 0 6 (93 + 1)).2.2.1 12 = w12 := jo_13
  have jl_14 : (mR μ13 0 6 (93 + 1)).2.2.1 59 = (upr zi 0 (-1)) := jl_13
  generalize mR μ13 0 6 (93 + 1) = μ14 at b14 jx_14 jm_14 jn_14 jo_14 jl_14 ⊢
  refine T_aload_n (pc := 81) (i := 0) dX11_init_81 rfl rfl ?_
  refine T_bipush (pc := 82) (v := nI 16) dX11_init_82 (by decide) ?_
  refine T_anew (pc := 84) (c := 9) (t := 5) (N := 16) cl_X11_16 (Or.inr ⟨rfl, rfl⟩) (nI_pos (by omega)) (nI_clamp (by omega)) (by decide) (by rw [b14.n]; exact (show KT 96 = (5, 16) by decide)) (by rw [b14.n]; show _ < 595; omega) (Nat.le_of_ble_eq_true rfl) (Nat.le_of_ble_eq_true rfl) dX11_init_84 ?_
  rw [b14.n]
  have b15 : Bd 0 96 97 (upr (upr (upr (upr (upr (upr (upr z0 0 (1 + 1)) 1 (3 + 1)) 2 (31 + 1)) 3 (59 + 1)) 4 (62 + 1)) 5 (65 + 1)) 6 (93 + 1)) z0 zi μ (mNew μ14) := b14.newr
  have jx_15 : (mNew μ14).2.2.1 1 = (upr (upr zi 2 (-1)) 6 (-1)) := (new_i (by rw [b14.n]; omega)).trans jx_14
  have jm_15 : (mNew μ14).2.2.1 3 = (upr (upr zi 8 (nI 0)) 11 (nI 1)) := (new_i (by rw [b14.n]; omega)).trans jm_14
  have jn_15 : (mNew μ14).2.2.1 4 = zi := (new_i (by rw [b14.n]; omega)).trans jn_14
  have jo_15 : (mNew μ14).2.2.1 12 = w12 := (new_i (by rw [b14.n]; omega)).trans jo_14
  have jl_15 : (mNew μ14).2.2.1 59 = (upr zi 0 (-1)) := (new_i (by rw [b14.n]; omega)).trans jl_14
  generalize mNew μ14 = μ15 at b15 jx_15 jm_15 jn_15 jo_15 jl_15 ⊢
  refine T_putR (pc := 87) (c := 11) (j := 8) fl_X11_42 ⟨rfl, rfl⟩ ⟨rfl, rfl⟩ (fun q => ⟨rfl, rfl⟩) (show KT 0 = (0, 11) by decide) (by rw [b15.n]; omega) dX11_init_87 ?_
  have b16 : Bd 0 96 97 (upr (upr (upr (upr (upr (upr (upr (upr z0 0 (1 + 1)) 1 (3 + 1)) 2 (31 + 1)) 3 (59 + 1)) 4 (62 + 1)) 5 (65 + 1)) 6 (93 + 1)) 8 (96 + 1)) z0 zi μ (mR μ15 0 8 (96 + 1)) := b15.putR
  have jx_16 : (mR μ15 0 8 (96 + 1)).2.2.1 1 = (upr (upr zi 2 (-1)) 6 (-1)) := jx_15
  have jm_16 : (mR μ15 0 8 (96 + 1)).2.2.1 3 = (upr (upr zi 8 (nI 0)) 11 (nI 1)) := jm_15
  have jn_16 : (mR μ15 0 8 (96 + 1)).2.2.1 4 = zi := jn_15
  have jo_16 : (mR μ15 0 8 (96 + 1)).2.2.1 12 = w12 := jo_15
  have jl_16 : (mR μ15 0 8 (96 + 1)).2.2.1 59 = (upr zi 0 (-1)) := jl_15
  generalize mR μ15 0 8 (96 + 1) = μ16 at b16 jx_16 jm_16 jn_16 jo_16 jl_16 ⊢
  refine T_aload_n (pc := 90) (i := 0) dX11_init_90 rfl rfl ?_
  refine T_new (pc := 91) (c := 10) nw_X11_46 (by decide) (by rw [b16.n]; exact (show KT 97 = (0, 10) by decide)) (by rw [b16.n]; show _ < 595; omega) (Nat.le_of_ble_eq_true rfl) (Nat.le_of_ble_eq_true rfl) dX11_init_91 ?_
  rw [b16.n]
  refine T_dup (pc := 94) dX11_init_94 rfl ?_
  refine T_aload_n (pc := 95) (i := 0) dX11_init_95 rfl rfl ?_
  refine T_getR (pc := 96) (c := 11) (j := 1) (i := 3) fl_X11_19 rfl (show KT 0 = (0, 11) by decide) (by show _ < μ16.1 + 1; rw [b16.n]; omega) (by rw [new_r (by rw [b16.n]; omega)]; rw [b16.r]; rfl) dX11_init_96 ?_
  refine T_getR (pc := 99) (c := 9) (j := 0) (i := 5) fl_X11_48 rfl (show KT 3 = (0, 9) by decide) (by show _ < μ16.1 + 1; rw [b16.n]; omega) (by rw [new_r (by rw [b16.n]; omega)]; rw [b16.2.2.2.1 3 (by omega) (by omega) (by omega)]; rfl) dX11_init_99 ?_
  refine T_aload_n (pc := 102) (i := 0) dX11_init_102 rfl rfl ?_
  refine T_getR (pc := 103) (c := 11) (j := 3) (i := 59) fl_X11_29 rfl (show KT 0 = (0, 11) by decide) (by show _ < μ16.1 + 1; rw [b16.n]; omega) (by rw [new_r (by rw [b16.n]; omega)]; rw [b16.r]; rfl) dX11_init_103 ?_
  refine T_callI (pc := 106) (b := 97) (As := [.ref 5, .ref 59]) (rest := [.ref 97, .ref 0]) (Or.inl lk_X11_52) mk_X10_init rfl (i_X10  (by show μ16.1 + 1 = _; rw [b16.n]) (new_rz b16.n) (new_iz b16.n)) dX11_init_106 rfl rfl (Nat.le_of_ble_eq_true rfl) (by decide) rfl (Nat.le_of_ble_eq_true rfl) (Nat.le_of_ble_eq_true rfl) (fun E m' h => by obtain ⟨z, _⟩ := h; cases z) (fun v μ17 h => ?_)
  obtain ⟨h0, c17⟩ := h
  cases h0
  have b17 : Bd 0 96 105 (upr (upr (upr (upr (upr (upr (upr (upr z0 0 (1 + 1)) 1 (3 + 1)) 2 (31 + 1)) 3 (59 + 1)) 4 (62 + 1)) 5 (65 + 1)) 6 (93 + 1)) 8 (96 + 1)) z0 zi μ μ17 := b16.call c17 (by omega)
  have jx_17 : μ17.2.2.1 1 = (upr (upr zi 2 (-1)) 6 (-1)) := (c17.lo b16.n (by omega)).trans jx_16
  have jm_17 : μ17.2.2.1 3 = (upr (upr zi 8 (nI 0)) 11 (nI 1)) := (c17.lo b16.n (by omega)).trans jm_16
  have jn_17 : μ17.2.2.1 4 = zi := (c17.lo b16.n (by omega)).trans jn_16
  have jo_17 : μ17.2.2.1 12 = w12 := (c17.lo b16.n (by omega)).trans jo_16
  have jl_17 : μ17.2.2.1 59 = (upr zi 0 (-1)) := (c17.lo b16.n (by omega)).trans jl_16
  show T _ _ _ _ _ _ _ _ 109 [some (.ref 0), none] [.ref 97, .ref 0] μ17
  refine T_putR (pc := 109) (c := 11) (j := 11) fl_X11_55 ⟨rfl, rfl⟩ ⟨rfl, rfl⟩ (fun q => ⟨rfl, rfl⟩) (show KT 0 = (0, 11) by decide) (by rw [b17.n]; omega) dX11_init_109 ?_
  have b18 : Bd 0 96 105 (upr (upr (upr (upr (upr (upr (upr (upr (upr z0 0 (1 + 1)) 1 (3 + 1)) 2 (31 + 1)) 3 (59 + 1)) 4 (62 + 1)) 5 (65 + 1)) 6 (93 + 1)) 8 (96 + 1)) 11 (97 + 1)) z0 zi μ (mR μ17 0 11 (97 + 1)) := b17.putR
  have jx_18 : (mR μ17 0 11 (97 + 1)).2.2.1 1 = (upr (upr zi 2 (-1)) 6 (-1)) := jx_17
  have jm_18 : (mR μ17 0 11 (97 + 1)).2.2.1 3 = (upr (upr zi 8 (nI 0)) 11 (nI 1)) := jm_17
  have jn_18 : (mR μ17 0 11 (97 + 1)).2.2.1 4 = zi := jn_17
  have jo_18 : (mR μ17 0 11 (97 + 1)).2.2.1 12 = w12 := jo_17
  have jl_18 : (mR μ17 0 11 (97 + 1)).2.2.1 59 = (upr zi 0 (-1)) := jl_17
  generalize mR μ17 0 11 (97 + 1) = μ18 at b18 jx_18 jm_18 jn_18 jo_18 jl_18 ⊢
  refine T_aload_n (pc := 112) (i := 0) dX11_init_112 rfl rfl ?_
  refine T_new (pc := 113) (c := 4) nw_X11_59 (by decide) (by rw [b18.n]; exact (show KT 105 = (0, 4) by decide)) (by rw [b18.n]; show _ < 595; omega) (Nat.le_of_ble_eq_true rfl) (Nat.le_of_ble_eq_true rfl) dX11_init_113 ?_
  rw [b18.n]
  refine T_dup (pc := 116) dX11_init_116 rfl ?_
  refine T_callI (pc := 117) (b := 105) (As := []) (rest := [.ref 105, .ref 0]) (Or.inr lk_X11_61) mk_X4_init rfl (i_X4 (show isHerd 105 by unfold isHerd; omega) (by omega) (by show μ18.1 + 1 = _; rw [b18.n]) (new_rz b18.n) (new_iz b18.n)) dX11_init_117 rfl rfl (Nat.le_of_ble_eq_true rfl) (by decide) rfl (Nat.le_of_ble_eq_true rfl) (Nat.le_of_ble_eq_true rfl) (fun E m' h => by obtain ⟨z, _⟩ := h; cases z) (fun v μ19 h => ?_)
  obtain ⟨h0, c19⟩ := h
  cases h0
  have b19 : Bd 0 96 109 (upr (upr (upr (upr (upr (upr (upr (upr (upr z0 0 (1 + 1)) 1 (3 + 1)) 2 (31 + 1)) 3 (59 + 1)) 4 (62 + 1)) 5 (65 + 1)) 6 (93 + 1)) 8 (96 + 1)) 11 (97 + 1)) z0 zi μ μ19 := b18.call c19 (by omega)
  have jx_19 : μ19.2.2.1 1 = (upr (upr zi 2 (-1)) 6 (-1)) := (c19.lo b18.n (by omega)).trans jx_18
  have jm_19 : μ19.2.2.1 3 = (upr (upr zi 8 (nI 0)) 11 (nI 1)) := (c19.lo b18.n (by omega)).trans jm_18
  have jn_19 : μ19.2.2.1 4 = zi := (c19.lo b18.n (by omega)).trans jn_18
  have jo_19 : μ19.2.2.1 12 = w12 := (c19.lo b18.n (by omega)).trans jo_18
  have jl_19 : μ19.2.2.1 59 = (upr zi 0 (-1)) := (c19.lo b18.n (by omega)).trans jl_18
  show T _ _ _ _ _ _ _ _ 120 [some (.ref 0), none] [.ref 105, .ref 0] μ19
  refine T_putR (pc := 120) (c := 11) (j := 12) fl_X11_62 ⟨rfl, rfl⟩ ⟨rfl, rfl⟩ (fun q => ⟨rfl, rfl⟩) (show KT 0 = (0, 11) by decide) (by rw [b19.n]; omega) dX11_init_120 ?_
  have b20 : Bd 0 96 109 (upr (upr (upr (upr (upr (upr (upr (upr (upr (upr z0 0 (1 + 1)) 1 (3 + 1)) 2 (31 + 1)) 3 (59 + 1)) 4 (62 + 1)) 5 (65 + 1)) 6 (93 + 1)) 8 (96 + 1)) 11 (97 + 1)) 12 (105 + 1)) z0 zi μ (mR μ19 0 12 (105 + 1)) := b19.putR
  have jx_20 : (mR μ19 0 12 (105 + 1)).2.2.1 1 = (upr (upr zi 2 (-1)) 6 (-1)) := jx_19
  have jm_20 : (mR μ19 0 12 (105 + 1)).2.2.1 3 = (upr (upr zi 8 (nI 0)) 11 (nI 1)) := jm_19
  have jn_20 : (mR μ19 0 12 (105 + 1)).2.2.1 4 = zi := jn_19
  have jo_20 : (mR μ19 0 12 (105 + 1)).2.2.1 12 = w12 := jo_19
  have jl_20 : (mR μ19 0 12 (105 + 1)).2.2.1 59 = (upr zi 0 (-1)) := jl_19
  generalize mR μ19 0 12 (105 + 1) = μ20 at b20 jx_20 jm_20 jn_20 jo_20 jl_20 ⊢
  refine T_aload_n (pc := 123) (i := 0) dX11_init_123 rfl rfl ?_
  refine T_new (pc := 124) (c := 4) nw_X11_59 (by decide) (by rw [b20.n]; exact (show KT 109 = (0, 4) by decide)) (by rw [b20.n]; show _ < 595; omega) (Nat.le_of_ble_eq_true rfl) (Nat.le_of_ble_eq_true rfl) dX11_init_124 ?_
  rw [b20.n]
  refine T_dup (pc := 127) dX11_init_127 rfl ?_
  refine T_callI (pc := 128) (b := 109) (As := []) (rest := [.ref 109, .ref 0]) (Or.inr lk_X11_61) mk_X4_init rfl (i_X4 (show isHerd 109 by unfold isHerd; omega) (by omega) (by show μ20.1 + 1 = _; rw [b20.n]) (new_rz b20.n) (new_iz b20.n)) dX11_init_128 rfl rfl (Nat.le_of_ble_eq_true rfl) (by decide) rfl (Nat.le_of_ble_eq_true rfl) (Nat.le_of_ble_eq_true rfl) (fun E m' h => by obtain ⟨z, _⟩ := h; cases z) (fun v μ21 h => ?_)
  obtain ⟨h0, c21⟩ := h
  cases h0
  have b21 : Bd 0 96 113 (upr (upr (upr (upr (upr (upr (upr (upr (upr (upr z0 0 (1 + 1)) 1 (3 + 1)) 2 (31 + 1)) 3 (59 + 1)) 4 (62 + 1)) 5 (65 + 1)) 6 (93 + 1)) 8 (96 + 1)) 11 (97 + 1)) 12 (105 + 1)) z0 zi μ μ21 := b20.call c21 (by omega)
  have jx_21 : μ21.2.2.1 1 = (upr (upr zi 2 (-1)) 6 (-1)) := (c21.lo b20.n (by omega)).trans jx_20
  have jm_21 : μ21.2.2.1 3 = (upr (upr zi 8 (nI 0)) 11 (nI 1)) := (c21.lo b20.n (by omega)).trans jm_20
  have jn_21 : μ21.2.2.1 4 = zi := (c21.lo b20.n (by omega)).trans jn_20
  have jo_21 : μ21.2.2.1 12 = w12 := (c21.lo b20.n (by omega)).trans jo_20
  have jl_21 : μ21.2.2.1 59 = (upr zi 0 (-1)) := (c21.lo b20.n (by omega)).trans jl_20
  show T _ _ _ _ _ _ _ _ 131 [some (.ref 0), none] [.ref 109, .ref 0] μ21
  refine T_putR (pc := 131) (c := 11) (j := 13) fl_X11_66 ⟨rfl, rfl⟩ ⟨rfl, rfl⟩ (fun q => ⟨rfl, rfl⟩) (show KT 0 = (0, 11) by decide) (by rw [b21.n]; omega) dX11_init_131 ?_
  have b22 : Bd 0 96 113 (upr (upr (upr (upr (upr (upr (upr (upr (upr (upr (upr z0 0 (1 + 1)) 1 (3 + 1)) 2 (31 + 1)) 3 (59 + 1)) 4 (62 + 1)) 5 (65 + 1)) 6 (93 + 1)) 8 (96 + 1)) 11 (97 + 1)) 12 (105 + 1)) 13 (109 + 1)) z0 zi μ (mR μ21 0 13 (109 + 1)) := b21.putR
  have jx_22 : (mR μ21 0 13 (109 + 1)).2.2.1 1 = (upr (upr zi 2 (-1)) 6 (-1)) := jx_21
  have jm_22 : (mR μ21 0 13 (109 + 1)).2.2.1 3 = (upr (upr zi 8 (nI 0)) 11 (nI 1)) := jm_21
  have jn_22 : (mR μ21 0 13 (109 + 1)).2.2.1 4 = zi := jn_21
  have jo_22 : (mR μ21 0 13 (109 + 1)).2.2.1 12 = w12 := jo_21
  have jl_22 : (mR μ21 0 13 (109 + 1)).2.2.1 59 = (upr zi 0 (-1)) := jl_21
  generalize mR μ21 0 13 (109 + 1) = μ22 at b22 jx_22 jm_22 jn_22 jo_22 jl_22 ⊢
  refine T_aload_n (pc := 134) (i := 0) dX11_init_134 rfl rfl ?_
  refine T_new (pc := 135) (c := 2) nw_X11_69 (by decide) (by rw [b22.n]; exact (show KT 113 = (0, 2) by decide)) (by rw [b22.n]; show _ < 595; omega) (Nat.le_of_ble_eq_true rfl) (Nat.le_of_ble_eq_true rfl) dX11_init_135 ?_
  rw [b22.n]
  refine T_dup (pc := 138) dX11_init_138 rfl ?_
  refine T_callI (pc := 139) (b := 113) (As := []) (rest := [.ref 113, .ref 0]) (Or.inr lk_X11_71) mk_X2_init rfl (i_X2  (by show μ22.1 + 1 = _; rw [b22.n]) (new_rz b22.n) (new_iz b22.n)) dX11_init_139 rfl rfl (Nat.le_of_ble_eq_true rfl) (by decide) rfl (Nat.le_of_ble_eq_true rfl) (Nat.le_of_ble_eq_true rfl) (fun E m' h => by obtain ⟨z, _⟩ := h; cases z) (fun v μ23 h => ?_)
  obtain ⟨h0, c23⟩ := h
  cases h0
  have b23 : Bd 0 96 116 (upr (upr (upr (upr (upr (upr (upr (upr (upr (upr (upr z0 0 (1 + 1)) 1 (3 + 1)) 2 (31 + 1)) 3 (59 + 1)) 4 (62 + 1)) 5 (65 + 1)) 6 (93 + 1)) 8 (96 + 1)) 11 (97 + 1)) 12 (105 + 1)) 13 (109 + 1)) z0 zi μ μ23 := b22.call c23 (by omega)
  have jx_23 : μ23.2.2.1 1 = (upr (upr zi 2 (-1)) 6 (-1)) := (c23.lo b22.n (by omega)).trans jx_22
  have jm_23 : μ23.2.2.1 3 = (upr (upr zi 8 (nI 0)) 11 (nI 1)) := (c23.lo b22.n (by omega)).trans jm_22
  have jn_23 : μ23.2.2.1 4 = zi := (c23.lo b22.n (by omega)).trans jn_22
  have jo_23 : μ23.2.2.1 12 = w12 := (c23.lo b22.n (by omega)).trans jo_22
  have jl_23 : μ23.2.2.1 59 = (upr zi 0 (-1)) := (c23.lo b22.n (by omega)).trans jl_22
  show T _ _ _ _ _ _ _ _ 142 [some (.ref 0), none] [.ref 113, .ref 0] μ23
  refine T_putR (pc := 142) (c := 11) (j := 14) fl_X11_72 ⟨rfl, rfl⟩ ⟨rfl, rfl⟩ (fun q => ⟨rfl, rfl⟩) (show KT 0 = (0, 11) by decide) (by rw [b23.n]; omega) dX11_init_142 ?_
  have b24 : Bd 0 96 116 (upr (upr (upr (upr (upr (upr (upr (upr (upr (upr (upr (upr z0 0 (1 + 1)) 1 (3 + 1)) 2 (31 + 1)) 3 (59 + 1)) 4 (62 + 1)) 5 (65 + 1)) 6 (93 + 1)) 8 (96 + 1)) 11 (97 + 1)) 12 (105 + 1)) 13 (109 + 1)) 14 (113 + 1)) z0 zi μ (mR μ23 0 14 (113 + 1)) := b23.putR
  have jx_24 : (mR μ23 0 14 (113 + 1)).2.2.1 1 = (upr (upr zi 2 (-1)) 6 (-1)) := jx_23
  have jm_24 : (mR μ23 0 14 (113 + 1)).2.2.1 3 = (upr (upr zi 8 (nI 0)) 11 (nI 1)) := jm_23
  have jn_24 : (mR μ23 0 14 (113 + 1)).2.2.1 4 = zi := jn_23
  have jo_24 : (mR μ23 0 14 (113 + 1)).2.2.1 12 = w12 := jo_23
  have jl_24 : (mR μ23 0 14 (113 + 1)).2.2.1 59 = (upr zi 0 (-1)) := jl_23
  generalize mR μ23 0 14 (113 + 1) = μ24 at b24 jx_24 jm_24 jn_24 jo_24 jl_24 ⊢
  refine T_aload_n (pc := 145) (i := 0) dX11_init_145 rfl rfl ?_
  refine T_new (pc := 146) (c := 7) nw_X11_76 (by decide) (by rw [b24.n]; exact (show KT 116 = (0, 7) by decide)) (by rw [b24.n]; show _ < 595; omega) (Nat.le_of_ble_eq_true rfl) (Nat.le_of_ble_eq_true rfl) dX11_init_146 ?_
  rw [b24.n]
  refine T_dup (pc := 149) dX11_init_149 rfl ?_
  refine T_callI (pc := 150) (b := 116) (As := []) (rest := [.ref 116, .ref 0]) (Or.inr lk_X11_78) mk_X7_init rfl (i_X7  (by show μ24.1 + 1 = _; rw [b24.n]) (new_rz b24.n) (new_iz b24.n)) dX11_init_150 rfl rfl (Nat.le_of_ble_eq_true rfl) (by decide) rfl (Nat.le_of_ble_eq_true rfl) (Nat.le_of_ble_eq_true rfl) (fun E m' h => by obtain ⟨z, _⟩ := h; cases z) (fun v μ25 h => ?_)
  obtain ⟨h0, c25⟩ := h
  cases h0
  have b25 : Bd 0 96 121 (upr (upr (upr (upr (upr (upr (upr (upr (upr (upr (upr (upr z0 0 (1 + 1)) 1 (3 + 1)) 2 (31 + 1)) 3 (59 + 1)) 4 (62 + 1)) 5 (65 + 1)) 6 (93 + 1)) 8 (96 + 1)) 11 (97 + 1)) 12 (105 + 1)) 13 (109 + 1)) 14 (113 + 1)) z0 zi μ μ25 := b24.call c25 (by omega)
  have jx_25 : μ25.2.2.1 1 = (upr (upr zi 2 (-1)) 6 (-1)) := (c25.lo b24.n (by omega)).trans jx_24
  have jm_25 : μ25.2.2.1 3 = (upr (upr zi 8 (nI 0)) 11 (nI 1)) := (c25.lo b24.n (by omega)).trans jm_24
  have jn_25 : μ25.2.2.1 4 = zi := (c25.lo b24.n (by omega)).trans jn_24
  have jo_25 : μ25.2.2.1 12 = w12 := (c25.lo b24.n (by omega)).trans jo_24
  have jl_25 : μ25.2.2.1 59 = (upr zi 0 (-1)) := (c25.lo b24.n (by omega)).trans jl_24
  show T _ _ _ _ _ _ _ _ 153 [some (.ref 0), none] [.ref 116, .ref 0] μ25
  refine T_putR (pc := 153) (c := 11) (j := 15) fl_X11_79 ⟨rfl, rfl⟩ ⟨rfl, rfl⟩ (fun q => ⟨rfl, rfl⟩) (show KT 0 = (0, 11) by decide) (by rw [b25.n]; omega) dX11_init_153 ?_
  have b26 : Bd 0 96 121 (upr (upr (upr (upr (upr (upr (upr (upr (upr (upr (upr (upr (upr z0 0 (1 + 1)) 1 (3 + 1)) 2 (31 + 1)) 3 (59 + 1)) 4 (62 + 1)) 5 (65 + 1)) 6 (93 + 1)) 8 (96 + 1)) 11 (97 + 1)) 12 (105 + 1)) 13 (109 + 1)) 14 (113 + 1)) 15 (116 + 1)) z0 zi μ (mR μ25 0 15 (116 + 1)) := b25.putR
  have jx_26 : (mR μ25 0 15 (116 + 1)).2.2.1 1 = (upr (upr zi 2 (-1)) 6 (-1)) := jx_25
  have jm_26 : (mR μ25 0 15 (116 + 1)).2.2.1 3 = (upr (upr zi 8 (nI 0)) 11 (nI 1)) := jm_25
  have jn_26 : (mR μ25 0 15 (116 + 1)).2.2.1 4 = zi := jn_25
  have jo_26 : (mR μ25 0 15 (116 + 1)).2.2.1 12 = w12 := jo_25
  have jl_26 : (mR μ25 0 15 (116 + 1)).2.2.1 59 = (upr zi 0 (-1)) := jl_25
  generalize mR μ25 0 15 (116 + 1) = μ26 at b26 jx_26 jm_26 jn_26 jo_26 jl_26 ⊢
  refine T_aload_n (pc := 156) (i := 0) dX11_init_156 rfl rfl ?_
  refine T_new (pc := 157) (c := 0) nw_X11_83 (by decide) (by rw [b26.n]; exact (show KT 121 = (0, 0) by decide)) (by rw [b26.n]; show _ < 595; omega) (Nat.le_of_ble_eq_true rfl) (Nat.le_of_ble_eq_true rfl) dX11_init_157 ?_
  rw [b26.n]
  refine T_dup (pc := 160) dX11_init_160 rfl ?_
  refine T_callI (pc := 161) (b := 121) (As := []) (rest := [.ref 121, .ref 0]) (Or.inr lk_X11_85) mk_X0_init rfl (i_X0  (by show μ26.1 + 1 = _; rw [b26.n]) (new_rz b26.n) (new_iz b26.n)) dX11_init_161 rfl rfl (Nat.le_of_ble_eq_true rfl) (by decide) rfl (Nat.le_of_ble_eq_true rfl) (Nat.le_of_ble_eq_true rfl) (fun E m' h => by obtain ⟨z, _⟩ := h; cases z) (fun v μ27 h => ?_)
  obtain ⟨h0, c27⟩ := h
  cases h0
  have b27 : Bd 0 96 122 (upr (upr (upr (upr (upr (upr (upr (upr (upr (upr (upr (upr (upr z0 0 (1 + 1)) 1 (3 + 1)) 2 (31 + 1)) 3 (59 + 1)) 4 (62 + 1)) 5 (65 + 1)) 6 (93 + 1)) 8 (96 + 1)) 11 (97 + 1)) 12 (105 + 1)) 13 (109 + 1)) 14 (113 + 1)) 15 (116 + 1)) z0 zi μ μ27 := b26.call c27 (by omega)
  have jx_27 : μ27.2.2.1 1 = (upr (upr zi 2 (-1)) 6 (-1)) := (c27.lo b26.n (by omega)).trans jx_26
  have jm_27 : μ27.2.2.1 3 = (upr (upr zi 8 (nI 0)) 11 (nI 1)) := (c27.lo b26.n (by omega)).trans jm_26
  have jn_27 : μ27.2.2.1 4 = zi := (c27.lo b26.n (by omega)).trans jn_26
  have jo_27 : μ27.2.2.1 12 = w12 := (c27.lo b26.n (by omega)).trans jo_26
  have jl_27 : μ27.2.2.1 59 = (upr zi 0 (-1)) := (c27.lo b26.n (by omega)).trans jl_26
  show T _ _ _ _ _ _ _ _ 164 [some (.ref 0), none] [.ref 121, .ref 0] μ27
  refine T_putR (pc := 164) (c := 11) (j := 16) fl_X11_86 ⟨rfl, rfl⟩ ⟨rfl, rfl⟩ (fun q => ⟨rfl, rfl⟩) (show KT 0 = (0, 11) by decide) (by rw [b27.n]; omega) dX11_init_164 ?_
  have b28 : Bd 0 96 122 (upr (upr (upr (upr (upr (upr (upr (upr (upr (upr (upr (upr (upr (upr z0 0 (1 + 1)) 1 (3 + 1)) 2 (31 + 1)) 3 (59 + 1)) 4 (62 + 1)) 5 (65 + 1)) 6 (93 + 1)) 8 (96 + 1)) 11 (97 + 1)) 12 (105 + 1)) 13 (109 + 1)) 14 (113 + 1)) 15 (116 + 1)) 16 (121 + 1)) z0 zi μ (mR μ27 0 16 (121 + 1)) := b27.putR
  have jx_28 : (mR μ27 0 16 (121 + 1)).2.2.1 1 = (upr (upr zi 2 (-1)) 6 (-1)) := jx_27
  have jm_28 : (mR μ27 0 16 (121 + 1)).2.2.1 3 = (upr (upr zi 8 (nI 0)) 11 (nI 1)) := jm_27
  have jn_28 : (mR μ27 0 16 (121 + 1)).2.2.1 4 = zi := jn_27
  have jo_28 : (mR μ27 0 16 (121 + 1)).2.2.1 12 = w12 := jo_27
  have jl_28 : (mR μ27 0 16 (121 + 1)).2.2.1 59 = (upr zi 0 (-1)) := jl_27
  generalize mR μ27 0 16 (121 + 1) = μ28 at b28 jx_28 jm_28 jn_28 jo_28 jl_28 ⊢
  refine T_aload_n (pc := 167) (i := 0) dX11_init_167 rfl rfl ?_
  refine T_new (pc := 168) (c := 3) nw_X11_90 (by decide) (by rw [b28.n]; exact (show KT 122 = (0, 3) by decide)) (by rw [b28.n]; show _ < 595; omega) (Nat.le_of_ble_eq_true rfl) (Nat.le_of_ble_eq_true rfl) dX11_init_168 ?_
  rw [b28.n]
  refine T_dup (pc := 171) dX11_init_171 rfl ?_
  refine T_callI (pc := 172) (b := 122) (As := []) (rest := [.ref 122, .ref 0]) (Or.inr lk_X11_92) mk_X3_init rfl (i_X3  (by show μ28.1 + 1 = _; rw [b28.n]) (new_rz b28.n) (new_iz b28.n)) dX11_init_172 rfl rfl (Nat.le_of_ble_eq_true rfl) (by decide) rfl (Nat.le_of_ble_eq_true rfl) (Nat.le_of_ble_eq_true rfl) (fun E m' h => by obtain ⟨z, _⟩ := h; cases z) (fun v μ29 h => ?_)
  obtain ⟨h0, c29⟩ := h
  cases h0
  have b29 : Bd 0 96 124 (upr (upr (upr (upr (upr (upr (upr (upr (upr (upr (upr (upr (upr (upr z0 0 (1 + 1)) 1 (3 + 1)) 2 (31 + 1)) 3 (59 + 1)) 4 (62 + 1)) 5 (65 + 1)) 6 (93 + 1)) 8 (96 + 1)) 11 (97 + 1)) 12 (105 + 1)) 13 (109 + 1)) 14 (113 + 1)) 15 (116 + 1)) 16 (121 + 1)) z0 zi μ μ29 := b28.call c29 (by omega)
  have jx_29 : μ29.2.2.1 1 = (upr (upr zi 2 (-1)) 6 (-1)) := (c29.lo b28.n (by omega)).trans jx_28
  have jm_29 : μ29.2.2.1 3 = (upr (upr zi 8 (nI 0)) 11 (nI 1)) := (c29.lo b28.n (by omega)).trans jm_28
  have jn_29 : μ29.2.2.1 4 = zi := (c29.lo b28.n (by omega)).trans jn_28
  have jo_29 : μ29.2.2.1 12 = w12 := (c29.lo b28.n (by omega)).trans jo_28
  have jl_29 : μ29.2.2.1 59 = (upr zi 0 (-1)) := (c29.lo b28.n (by omega)).trans jl_28
  show T _ _ _ _ _ _ _ _ 175 [some (.ref 0), none] [.ref 122, .ref 0] μ29
  refine T_putR (pc := 175) (c := 11) (j := 17) fl_X11_93 ⟨rfl, rfl⟩ ⟨rfl, rfl⟩ (fun q => ⟨rfl, rfl⟩) (show KT 0 = (0, 11) by decide) (by rw [b29.n]; omega) dX11_init_175 ?_
  have b30 : Bd 0 96 124 (upr (upr (upr (upr (upr (upr (upr (upr (upr (upr (upr (upr (upr (upr (upr z0 0 (1 + 1)) 1 (3 + 1)) 2 (31 + 1)) 3 (59 + 1)) 4 (62 + 1)) 5 (65 + 1)) 6 (93 + 1)) 8 (96 + 1)) 11 (97 + 1)) 12 (105 + 1)) 13 (109 + 1)) 14 (113 + 1)) 15 (116 + 1)) 16 (121 + 1)) 17 (122 + 1)) z0 zi μ (mR μ29 0 17 (122 + 1)) := b29.putR
  have jx_30 : (mR μ29 0 17 (122 + 1)).2.2.1 1 = (upr (upr zi 2 (-1)) 6 (-1)) := jx_29
  have jm_30 : (mR μ29 0 17 (122 + 1)).2.2.1 3 = (upr (upr zi 8 (nI 0)) 11 (nI 1)) := jm_29
  have jn_30 : (mR μ29 0 17 (122 + 1)).2.2.1 4 = zi := jn_29
  have jo_30 : (mR μ29 0 17 (122 + 1)).2.2.1 12 = w12 := jo_29
  have jl_30 : (mR μ29 0 17 (122 + 1)).2.2.1 59 = (upr zi 0 (-1)) := jl_29
  generalize mR μ29 0 17 (122 + 1) = μ30 at b30 jx_30 jm_30 jn_30 jo_30 jl_30 ⊢
  refine T_iconst (pc := 178) (v := nI 0) dX11_init_178 (by decide) ?_
  refine T_istore_n (pc := 179) (i := 1) (ls' := [some (.ref 0), some (.int (nI 0))]) dX11_init_179 rfl (by decide) rfl ?_
  refine T_iload_n (pc := 180) (i := 1) dX11_init_180 rfl rfl ?_
  refine T_bipush (pc := 181) (v := nI 16) dX11_init_181 (by decide) ?_
  refine T_icmp_ge (pc := 183) (tgt := 205) dX11_init_183 (by decide) (fun h => absurd h (by decide)) (fun _ => ?_)
  refine T_aload_n (pc := 186) (i := 0) dX11_init_186 rfl rfl ?_
  refine T_getR (pc := 187) (c := 11) (j := 8) (i := 96) fl_X11_42 rfl (show KT 0 = (0, 11) by decide) (by rw [b30.n]; omega) (by rw [b30.r]; rfl) dX11_init_187 ?_
  refine T_iload_n (pc := 190) (i := 1) dX11_init_190 rfl rfl ?_
  refine T_new (pc := 191) (c := 9) nw_X11_16 (by decide) (by rw [b30.n]; exact (show KT 124 = (0, 9) by decide)) (by rw [b30.n]; show _ < 595; omega) (Nat.le_of_ble_eq_true rfl) (Nat.le_of_ble_eq_true rfl) dX11_init_191 ?_
  rw [b30.n]
  refine T_dup (pc := 194) dX11_init_194 rfl ?_
  refine T_callI (pc := 195) (b := 124) (As := []) (rest := [.ref 124, .int (nI 0), .ref 96]) (Or.inl lk_X11_18) mk_X9_init rfl (i_X9 (show isTold 124 from memory_told (i := 0) (by decide)) (by omega) (by show μ30.1 + 1 = _; rw [b30.n]) (new_rz b30.n) (new_iz b30.n)) dX11_init_195 rfl rfl (Nat.le_of_ble_eq_true rfl) (by decide) rfl (Nat.le_of_ble_eq_true rfl) (Nat.le_of_ble_eq_true rfl) (fun E m' h => by obtain ⟨z, _⟩ := h; cases z) (fun v μ31 h => ?_)
  obtain ⟨h0, c31⟩ := h
  cases h0
  have b31 : Bd 0 96 152 (upr (upr (upr (upr (upr (upr (upr (upr (upr (upr (upr (upr (upr (upr (upr z0 0 (1 + 1)) 1 (3 + 1)) 2 (31 + 1)) 3 (59 + 1)) 4 (62 + 1)) 5 (65 + 1)) 6 (93 + 1)) 8 (96 + 1)) 11 (97 + 1)) 12 (105 + 1)) 13 (109 + 1)) 14 (113 + 1)) 15 (116 + 1)) 16 (121 + 1)) 17 (122 + 1)) z0 zi μ μ31 := b30.call c31 (by omega)
  have jx_31 : μ31.2.2.1 1 = (upr (upr zi 2 (-1)) 6 (-1)) := (c31.lo b30.n (by omega)).trans jx_30
  have jm_31 : μ31.2.2.1 3 = (upr (upr zi 8 (nI 0)) 11 (nI 1)) := (c31.lo b30.n (by omega)).trans jm_30
  have jn_31 : μ31.2.2.1 4 = zi := (c31.lo b30.n (by omega)).trans jn_30
  have jo_31 : μ31.2.2.1 12 = w12 := (c31.lo b30.n (by omega)).trans jo_30
  have jl_31 : μ31.2.2.1 59 = (upr zi 0 (-1)) := (c31.lo b30.n (by omega)).trans jl_30
  show T _ _ _ _ _ _ _ _ 198 [some (.ref 0), some (.int (nI 0))] [.ref 124, .int (nI 0), .ref 96] μ31
  refine T_aast (pc := 198) (t := 1) (c := 9) (n := 16) (show KT 96 = (5, 16) by decide) (Or.inr ⟨rfl, rfl⟩) (show KT 124 = (0, 9) by decide) (by rw [b31.n]; omega) (by rw [b31.n]; omega) (vp_in_nI (e := 0) (by omega) (by omega)) dX11_init_198 ?_
  rw [nI_clamp (n := 0) (by omega)]
  have b32 : Bd 0 96 152 (upr (upr (upr (upr (upr (upr (upr (upr (upr (upr (upr (upr (upr (upr (upr z0 0 (1 + 1)) 1 (3 + 1)) 2 (31 + 1)) 3 (59 + 1)) 4 (62 + 1)) 5 (65 + 1)) 6 (93 + 1)) 8 (96 + 1)) 11 (97 + 1)) 12 (105 + 1)) 13 (109 + 1)) 14 (113 + 1)) 15 (116 + 1)) 16 (121 + 1)) 17 (122 + 1)) (upr z0 0 (124 + 1)) zi μ (mR μ31 96 0 (124 + 1)) := b31.ast (by omega)
  have jx_32 : (mR μ31 96 0 (124 + 1)).2.2.1 1 = (upr (upr zi 2 (-1)) 6 (-1)) := jx_31
  have jm_32 : (mR μ31 96 0 (124 + 1)).2.2.1 3 = (upr (upr zi 8 (nI 0)) 11 (nI 1)) := jm_31
  have jn_32 : (mR μ31 96 0 (124 + 1)).2.2.1 4 = zi := jn_31
  have jo_32 : (mR μ31 96 0 (124 + 1)).2.2.1 12 = w12 := jo_31
  have jl_32 : (mR μ31 96 0 (124 + 1)).2.2.1 59 = (upr zi 0 (-1)) := jl_31
  generalize mR μ31 96 0 (124 + 1) = μ32 at b32 jx_32 jm_32 jn_32 jo_32 jl_32 ⊢
  refine T_iinc (pc := 199) (i := 1) (v := nI 1) (ls' := [some (.ref 0), some (.int (nI 1))]) dX11_init_199 rfl (by decide) rfl ?_
  refine T_goto (pc := 202) (tgt := 180) dX11_init_202 (by decide) ?_
  refine T_iload_n (pc := 180) (i := 1) dX11_init_180 rfl rfl ?_
  refine T_bipush (pc := 181) (v := nI 16) dX11_init_181 (by decide) ?_
  refine T_icmp_ge (pc := 183) (tgt := 205) dX11_init_183 (by decide) (fun h => absurd h (by decide)) (fun _ => ?_)
  refine T_aload_n (pc := 186) (i := 0) dX11_init_186 rfl rfl ?_
  refine T_getR (pc := 187) (c := 11) (j := 8) (i := 96) fl_X11_42 rfl (show KT 0 = (0, 11) by decide) (by rw [b32.n]; omega) (by rw [b32.r]; rfl) dX11_init_187 ?_
  refine T_iload_n (pc := 190) (i := 1) dX11_init_190 rfl rfl ?_
  refine T_new (pc := 191) (c := 9) nw_X11_16 (by decide) (by rw [b32.n]; exact (show KT 152 = (0, 9) by decide)) (by rw [b32.n]; show _ < 595; omega) (Nat.le_of_ble_eq_true rfl) (Nat.le_of_ble_eq_true rfl) dX11_init_191 ?_
  rw [b32.n]
  refine T_dup (pc := 194) dX11_init_194 rfl ?_
  refine T_callI (pc := 195) (b := 152) (As := []) (rest := [.ref 152, .int (nI 1), .ref 96]) (Or.inl lk_X11_18) mk_X9_init rfl (i_X9 (show isTold 152 from memory_told (i := 1) (by decide)) (by omega) (by show μ32.1 + 1 = _; rw [b32.n]) (new_rz b32.n) (new_iz b32.n)) dX11_init_195 rfl rfl (Nat.le_of_ble_eq_true rfl) (by decide) rfl (Nat.le_of_ble_eq_true rfl) (Nat.le_of_ble_eq_true rfl) (fun E m' h => by obtain ⟨z, _⟩ := h; cases z) (fun v μ33 h => ?_)
  obtain ⟨h0, c33⟩ := h
  cases h0
  have b33 : Bd 0 96 180 (upr (upr (upr (upr (upr (upr (upr (upr (upr (upr (upr (upr (upr (upr (upr z0 0 (1 + 1)) 1 (3 + 1)) 2 (31 + 1)) 3 (59 + 1)) 4 (62 + 1)) 5 (65 + 1)) 6 (93 + 1)) 8 (96 + 1)) 11 (97 + 1)) 12 (105 + 1)) 13 (109 + 1)) 14 (113 + 1)) 15 (116 + 1)) 16 (121 + 1)) 17 (122 + 1)) (upr z0 0 (124 + 1)) zi μ μ33 := b32.call c33 (by omega)
  have jx_33 : μ33.2.2.1 1 = (upr (upr zi 2 (-1)) 6 (-1)) := (c33.lo b32.n (by omega)).trans jx_32
  have jm_33 : μ33.2.2.1 3 = (upr (upr zi 8 (nI 0)) 11 (nI 1)) := (c33.lo b32.n (by omega)).trans jm_32
  have jn_33 : μ33.2.2.1 4 = zi := (c33.lo b32.n (by omega)).trans jn_32
  have jo_33 : μ33.2.2.1 12 = w12 := (c33.lo b32.n (by omega)).trans jo_32
  have jl_33 : μ33.2.2.1 59 = (upr zi 0 (-1)) := (c33.lo b32.n (by omega)).trans jl_32
  show T _ _ _ _ _ _ _ _ 198 [some (.ref 0), some (.int (nI 1))] [.ref 152, .int (nI 1), .ref 96] μ33
  refine T_aast (pc := 198) (t := 1) (c := 9) (n := 16) (show KT 96 = (5, 16) by decide) (Or.inr ⟨rfl, rfl⟩) (show KT 152 = (0, 9) by decide) (by rw [b33.n]; omega) (by rw [b33.n]; omega) (vp_in_nI (e := 1) (by omega) (by omega)) dX11_init_198 ?_
  rw [nI_clamp (n := 1) (by omega)]
  have b34 : Bd 0 96 180 (upr (upr (upr (upr (upr (upr (upr (upr (upr (upr (upr (upr (upr (upr (upr z0 0 (1 + 1)) 1 (3 + 1)) 2 (31 + 1)) 3 (59 + 1)) 4 (62 + 1)) 5 (65 + 1)) 6 (93 + 1)) 8 (96 + 1)) 11 (97 + 1)) 12 (105 + 1)) 13 (109 + 1)) 14 (113 + 1)) 15 (116 + 1)) 16 (121 + 1)) 17 (122 + 1)) (upr (upr z0 0 (124 + 1)) 1 (152 + 1)) zi μ (mR μ33 96 1 (152 + 1)) := b33.ast (by omega)
  have jx_34 : (mR μ33 96 1 (152 + 1)).2.2.1 1 = (upr (upr zi 2 (-1)) 6 (-1)) := jx_33
  have jm_34 : (mR μ33 96 1 (152 + 1)).2.2.1 3 = (upr (upr zi 8 (nI 0)) 11 (nI 1)) := jm_33
  have jn_34 : (mR μ33 96 1 (152 + 1)).2.2.1 4 = zi := jn_33
  have jo_34 : (mR μ33 96 1 (152 + 1)).2.2.1 12 = w12 := jo_33
  have jl_34 : (mR μ33 96 1 (152 + 1)).2.2.1 59 = (upr zi 0 (-1)) := jl_33
  generalize mR μ33 96 1 (152 + 1) = μ34 at b34 jx_34 jm_34 jn_34 jo_34 jl_34 ⊢
  refine T_iinc (pc := 199) (i := 1) (v := nI 2) (ls' := [some (.ref 0), some (.int (nI 2))]) dX11_init_199 rfl (by decide) rfl ?_
  refine T_goto (pc := 202) (tgt := 180) dX11_init_202 (by decide) ?_
  refine T_iload_n (pc := 180) (i := 1) dX11_init_180 rfl rfl ?_
  refine T_bipush (pc := 181) (v := nI 16) dX11_init_181 (by decide) ?_
  refine T_icmp_ge (pc := 183) (tgt := 205) dX11_init_183 (by decide) (fun h => absurd h (by decide)) (fun _ => ?_)
  refine T_aload_n (pc := 186) (i := 0) dX11_init_186 rfl rfl ?_
  refine T_getR (pc := 187) (c := 11) (j := 8) (i := 96) fl_X11_42 rfl (show KT 0 = (0, 11) by decide) (by rw [b34.n]; omega) (by rw [b34.r]; rfl) dX11_init_187 ?_
  refine T_iload_n (pc := 190) (i := 1) dX11_init_190 rfl rfl ?_
  refine T_new (pc := 191) (c := 9) nw_X11_16 (by decide) (by rw [b34.n]; exact (show KT 180 = (0, 9) by decide)) (by rw [b34.n]; show _ < 595; omega) (Nat.le_of_ble_eq_true rfl) (Nat.le_of_ble_eq_true rfl) dX11_init_191 ?_
  rw [b34.n]
  refine T_dup (pc := 194) dX11_init_194 rfl ?_
  refine T_callI (pc := 195) (b := 180) (As := []) (rest := [.ref 180, .int (nI 2), .ref 96]) (Or.inl lk_X11_18) mk_X9_init rfl (i_X9 (show isTold 180 from memory_told (i := 2) (by decide)) (by omega) (by show μ34.1 + 1 = _; rw [b34.n]) (new_rz b34.n) (new_iz b34.n)) dX11_init_195 rfl rfl (Nat.le_of_ble_eq_true rfl) (by decide) rfl (Nat.le_of_ble_eq_true rfl) (Nat.le_of_ble_eq_true rfl) (fun E m' h => by obtain ⟨z, _⟩ := h; cases z) (fun v μ35 h => ?_)
  obtain ⟨h0, c35⟩ := h
  cases h0
  have b35 : Bd 0 96 208 (upr (upr (upr (upr (upr (upr (upr (upr (upr (upr (upr (upr (upr (upr (upr z0 0 (1 + 1)) 1 (3 + 1)) 2 (31 + 1)) 3 (59 + 1)) 4 (62 + 1)) 5 (65 + 1)) 6 (93 + 1)) 8 (96 + 1)) 11 (97 + 1)) 12 (105 + 1)) 13 (109 + 1)) 14 (113 + 1)) 15 (116 + 1)) 16 (121 + 1)) 17 (122 + 1)) (upr (upr z0 0 (124 + 1)) 1 (152 + 1)) zi μ μ35 := b34.call c35 (by omega)
  have jx_35 : μ35.2.2.1 1 = (upr (upr zi 2 (-1)) 6 (-1)) := (c35.lo b34.n (by omega)).trans jx_34
  have jm_35 : μ35.2.2.1 3 = (upr (upr zi 8 (nI 0)) 11 (nI 1)) := (c35.lo b34.n (by omega)).trans jm_34
  have jn_35 : μ35.2.2.1 4 = zi := (c35.lo b34.n (by omega)).trans jn_34
  have jo_35 : μ35.2.2.1 12 = w12 := (c35.lo b34.n (by omega)).trans jo_34
  have jl_35 : μ35.2.2.1 59 = (upr zi 0 (-1)) := (c35.lo b34.n (by omega)).trans jl_34
  show T _ _ _ _ _ _ _ _ 198 [some (.ref 0), some (.int (nI 2))] [.ref 180, .int (nI 2), .ref 96] μ35
  refine T_aast (pc := 198) (t := 1) (c := 9) (n := 16) (show KT 96 = (5, 16) by decide) (Or.inr ⟨rfl, rfl⟩) (show KT 180 = (0, 9) by decide) (by rw [b35.n]; omega) (by rw [b35.n]; omega) (vp_in_nI (e := 2) (by omega) (by omega)) dX11_init_198 ?_
  rw [nI_clamp (n := 2) (by omega)]
  have b36 : Bd 0 96 208 (upr (upr (upr (upr (upr (upr (upr (upr (upr (upr (upr (upr (upr (upr (upr z0 0 (1 + 1)) 1 (3 + 1)) 2 (31 + 1)) 3 (59 + 1)) 4 (62 + 1)) 5 (65 + 1)) 6 (93 + 1)) 8 (96 + 1)) 11 (97 + 1)) 12 (105 + 1)) 13 (109 + 1)) 14 (113 + 1)) 15 (116 + 1)) 16 (121 + 1)) 17 (122 + 1)) (upr (upr (upr z0 0 (124 + 1)) 1 (152 + 1)) 2 (180 + 1)) zi μ (mR μ35 96 2 (180 + 1)) := b35.ast (by omega)
  have jx_36 : (mR μ35 96 2 (180 + 1)).2.2.1 1 = (upr (upr zi 2 (-1)) 6 (-1)) := jx_35
  have jm_36 : (mR μ35 96 2 (180 + 1)).2.2.1 3 = (upr (upr zi 8 (nI 0)) 11 (nI 1)) := jm_35
  have jn_36 : (mR μ35 96 2 (180 + 1)).2.2.1 4 = zi := jn_35
  have jo_36 : (mR μ35 96 2 (180 + 1)).2.2.1 12 = w12 := jo_35
  have jl_36 : (mR μ35 96 2 (180 + 1)).2.2.1 59 = (upr zi 0 (-1)) := jl_35
  generalize mR μ35 96 2 (180 + 1) = μ36 at b36 jx_36 jm_36 jn_36 jo_36 jl_36 ⊢
  refine T_iinc (pc := 199) (i := 1) (v := nI 3) (ls' := [some (.ref 0), some (.int (nI 3))]) dX11_init_199 rfl (by decide) rfl ?_
  refine T_goto (pc := 202) (tgt := 180) dX11_init_202 (by decide) ?_
  refine T_iload_n (pc := 180) (i := 1) dX11_init_180 rfl rfl ?_
  refine T_bipush (pc := 181) (v := nI 16) dX11_init_181 (by decide) ?_
  refine T_icmp_ge (pc := 183) (tgt := 205) dX11_init_183 (by decide) (fun h => absurd h (by decide)) (fun _ => ?_)
  refine T_aload_n (pc := 186) (i := 0) dX11_init_186 rfl rfl ?_
  refine T_getR (pc := 187) (c := 11) (j := 8) (i := 96) fl_X11_42 rfl (show KT 0 = (0, 11) by decide) (by rw [b36.n]; omega) (by rw [b36.r]; rfl) dX11_init_187 ?_
  refine T_iload_n (pc := 190) (i := 1) dX11_init_190 rfl rfl ?_
  refine T_new (pc := 191) (c := 9) nw_X11_16 (by decide) (by rw [b36.n]; exact (show KT 208 = (0, 9) by decide)) (by rw [b36.n]; show _ < 595; omega) (Nat.le_of_ble_eq_true rfl) (Nat.le_of_ble_eq_true rfl) dX11_init_191 ?_
  rw [b36.n]
  refine T_dup (pc := 194) dX11_init_194 rfl ?_
  refine T_callI (pc := 195) (b := 208) (As := []) (rest := [.ref 208, .int (nI 3), .ref 96]) (Or.inl lk_X11_18) mk_X9_init rfl (i_X9 (show isTold 208 from memory_told (i := 3) (by decide)) (by omega) (by show μ36.1 + 1 = _; rw [b36.n]) (new_rz b36.n) (new_iz b36.n)) dX11_init_195 rfl rfl (Nat.le_of_ble_eq_true rfl) (by decide) rfl (Nat.le_of_ble_eq_true rfl) (Nat.le_of_ble_eq_true rfl) (fun E m' h => by obtain ⟨z, _⟩ := h; cases z) (fun v μ37 h => ?_)
  obtain ⟨h0, c37⟩ := h
  cases h0
  have b37 : Bd 0 96 236 (upr (upr (upr (upr (upr (upr (upr (upr (upr (upr (upr (upr (upr (upr (upr z0 0 (1 + 1)) 1 (3 + 1)) 2 (31 + 1)) 3 (59 + 1)) 4 (62 + 1)) 5 (65 + 1)) 6 (93 + 1)) 8 (96 + 1)) 11 (97 + 1)) 12 (105 + 1)) 13 (109 + 1)) 14 (113 + 1)) 15 (116 + 1)) 16 (121 + 1)) 17 (122 + 1)) (upr (upr (upr z0 0 (124 + 1)) 1 (152 + 1)) 2 (180 + 1)) zi μ μ37 := b36.call c37 (by omega)
  have jx_37 : μ37.2.2.1 1 = (upr (upr zi 2 (-1)) 6 (-1)) := (c37.lo b36.n (by omega)).trans jx_36
  have jm_37 : μ37.2.2.1 3 = (upr (upr zi 8 (nI 0)) 11 (nI 1)) := (c37.lo b36.n (by omega)).trans jm_36
  have jn_37 : μ37.2.2.1 4 = zi := (c37.lo b36.n (by omega)).trans jn_36
  have jo_37 : μ37.2.2.1 12 = w12 := (c37.lo b36.n (by omega)).trans jo_36
  have jl_37 : μ37.2.2.1 59 = (upr zi 0 (-1)) := (c37.lo b36.n (by omega)).trans jl_36
  show T _ _ _ _ _ _ _ _ 198 [some (.ref 0), some (.int (nI 3))] [.ref 208, .int (nI 3), .ref 96] μ37
  refine T_aast (pc := 198) (t := 1) (c := 9) (n := 16) (show KT 96 = (5, 16) by decide) (Or.inr ⟨rfl, rfl⟩) (show KT 208 = (0, 9) by decide) (by rw [b37.n]; omega) (by rw [b37.n]; omega) (vp_in_nI (e := 3) (by omega) (by omega)) dX11_init_198 ?_
  rw [nI_clamp (n := 3) (by omega)]
  have b38 : Bd 0 96 236 (upr (upr (upr (upr (upr (upr (upr (upr (upr (upr (upr (upr (upr (upr (upr z0 0 (1 + 1)) 1 (3 + 1)) 2 (31 + 1)) 3 (59 + 1)) 4 (62 + 1)) 5 (65 + 1)) 6 (93 + 1)) 8 (96 + 1)) 11 (97 + 1)) 12 (105 + 1)) 13 (109 + 1)) 14 (113 + 1)) 15 (116 + 1)) 16 (121 + 1)) 17 (122 + 1)) (upr (upr (upr (upr z0 0 (124 + 1)) 1 (152 + 1)) 2 (180 + 1)) 3 (208 + 1)) zi μ (mR μ37 96 3 (208 + 1)) := b37.ast (by omega)
  have jx_38 : (mR μ37 96 3 (208 + 1)).2.2.1 1 = (upr (upr zi 2 (-1)) 6 (-1)) := jx_37
  have jm_38 : (mR μ37 96 3 (208 + 1)).2.2.1 3 = (upr (upr zi 8 (nI 0)) 11 (nI 1)) := jm_37
  have jn_38 : (mR μ37 96 3 (208 + 1)).2.2.1 4 = zi := jn_37
  have jo_38 : (mR μ37 96 3 (208 + 1)).2.2.1 12 = w12 := jo_37
  have jl_38 : (mR μ37 96 3 (208 + 1)).2.2.1 59 = (upr zi 0 (-1)) := jl_37
  generalize mR μ37 96 3 (208 + 1) = μ38 at b38 jx_38 jm_38 jn_38 jo_38 jl_38 ⊢
  refine T_iinc (pc := 199) (i := 1) (v := nI 4) (ls' := [some (.ref 0), some (.int (nI 4))]) dX11_init_199 rfl (by decide) rfl ?_
  refine T_goto (pc := 202) (tgt := 180) dX11_init_202 (by decide) ?_
  refine T_iload_n (pc := 180) (i := 1) dX11_init_180 rfl rfl ?_
  refine T_bipush (pc := 181) (v := nI 16) dX11_init_181 (by decide) ?_
  refine T_icmp_ge (pc := 183) (tgt := 205) dX11_init_183 (by decide) (fun h => absurd h (by decide)) (fun _ => ?_)
  refine T_aload_n (pc := 186) (i := 0) dX11_init_186 rfl rfl ?_
  refine T_getR (pc := 187) (c := 11) (j := 8) (i := 96) fl_X11_42 rfl (show KT 0 = (0, 11) by decide) (by rw [b38.n]; omega) (by rw [b38.r]; rfl) dX11_init_187 ?_
  refine T_iload_n (pc := 190) (i := 1) dX11_init_190 rfl rfl ?_
  refine T_new (pc := 191) (c := 9) nw_X11_16 (by decide) (by rw [b38.n]; exact (show KT 236 = (0, 9) by decide)) (by rw [b38.n]; show _ < 595; omega) (Nat.le_of_ble_eq_true rfl) (Nat.le_of_ble_eq_true rfl) dX11_init_191 ?_
  rw [b38.n]
  refine T_dup (pc := 194) dX11_init_194 rfl ?_
  refine T_callI (pc := 195) (b := 236) (As := []) (rest := [.ref 236, .int (nI 4), .ref 96]) (Or.inl lk_X11_18) mk_X9_init rfl (i_X9 (show isTold 236 from memory_told (i := 4) (by decide)) (by omega) (by show μ38.1 + 1 = _; rw [b38.n]) (new_rz b38.n) (new_iz b38.n)) dX11_init_195 rfl rfl (Nat.le_of_ble_eq_true rfl) (by decide) rfl (Nat.le_of_ble_eq_true rfl) (Nat.le_of_ble_eq_true rfl) (fun E m' h => by obtain ⟨z, _⟩ := h; cases z) (fun v μ39 h => ?_)
  obtain ⟨h0, c39⟩ := h
  cases h0
  have b39 : Bd 0 96 264 (upr (upr (upr (upr (upr (upr (upr (upr (upr (upr (upr (upr (upr (upr (upr z0 0 (1 + 1)) 1 (3 + 1)) 2 (31 + 1)) 3 (59 + 1)) 4 (62 + 1)) 5 (65 + 1)) 6 (93 + 1)) 8 (96 + 1)) 11 (97 + 1)) 12 (105 + 1)) 13 (109 + 1)) 14 (113 + 1)) 15 (116 + 1)) 16 (121 + 1)) 17 (122 + 1)) (upr (upr (upr (upr z0 0 (124 + 1)) 1 (152 + 1)) 2 (180 + 1)) 3 (208 + 1)) zi μ μ39 := b38.call c39 (by omega)
  have jx_39 : μ39.2.2.1 1 = (upr (upr zi 2 (-1)) 6 (-1)) := (c39.lo b38.n (by omega)).trans jx_38
  have jm_39 : μ39.2.2.1 3 = (upr (upr zi 8 (nI 0)) 11 (nI 1)) := (c39.lo b38.n (by omega)).trans jm_38
  have jn_39 : μ39.2.2.1 4 = zi := (c39.lo b38.n (by omega)).trans jn_38
  have jo_39 : μ39.2.2.1 12 = w12 := (c39.lo b38.n (by omega)).trans jo_38
  have jl_39 : μ39.2.2.1 59 = (upr zi 0 (-1)) := (c39.lo b38.n (by omega)).trans jl_38
  show T _ _ _ _ _ _ _ _ 198 [some (.ref 0), some (.int (nI 4))] [.ref 236, .int (nI 4), .ref 96] μ39
  refine T_aast (pc := 198) (t := 1) (c := 9) (n := 16) (show KT 96 = (5, 16) by decide) (Or.inr ⟨rfl, rfl⟩) (show KT 236 = (0, 9) by decide) (by rw [b39.n]; omega) (by rw [b39.n]; omega) (vp_in_nI (e := 4) (by omega) (by omega)) dX11_init_198 ?_
  rw [nI_clamp (n := 4) (by omega)]
  have b40 : Bd 0 96 264 (upr (upr (upr (upr (upr (upr (upr (upr (upr (upr (upr (upr (upr (upr (upr z0 0 (1 + 1)) 1 (3 + 1)) 2 (31 + 1)) 3 (59 + 1)) 4 (62 + 1)) 5 (65 + 1)) 6 (93 + 1)) 8 (96 + 1)) 11 (97 + 1)) 12 (105 + 1)) 13 (109 + 1)) 14 (113 + 1)) 15 (116 + 1)) 16 (121 + 1)) 17 (122 + 1)) (upr (upr (upr (upr (upr z0 0 (124 + 1)) 1 (152 + 1)) 2 (180 + 1)) 3 (208 + 1)) 4 (236 + 1)) zi μ (mR μ39 96 4 (236 + 1)) := b39.ast (by omega)
  have jx_40 : (mR μ39 96 4 (236 + 1)).2.2.1 1 = (upr (upr zi 2 (-1)) 6 (-1)) := jx_39
  have jm_40 : (mR μ39 96 4 (236 + 1)).2.2.1 3 = (upr (upr zi 8 (nI 0)) 11 (nI 1)) := jm_39
  have jn_40 : (mR μ39 96 4 (236 + 1)).2.2.1 4 = zi := jn_39
  have jo_40 : (mR μ39 96 4 (236 + 1)).2.2.1 12 = w12 := jo_39
  have jl_40 : (mR μ39 96 4 (236 + 1)).2.2.1 59 = (upr zi 0 (-1)) := jl_39
  generalize mR μ39 96 4 (236 + 1) = μ40 at b40 jx_40 jm_40 jn_40 jo_40 jl_40 ⊢
  refine T_iinc (pc := 199) (i := 1) (v := nI 5) (ls' := [some (.ref 0), some (.int (nI 5))]) dX11_init_199 rfl (by decide) rfl ?_
  refine T_goto (pc := 202) (tgt := 180) dX11_init_202 (by decide) ?_
  refine T_iload_n (pc := 180) (i := 1) dX11_init_180 rfl rfl ?_
  refine T_bipush (pc := 181) (v := nI 16) dX11_init_181 (by decide) ?_
  refine T_icmp_ge (pc := 183) (tgt := 205) dX11_init_183 (by decide) (fun h => absurd h (by decide)) (fun _ => ?_)
  refine T_aload_n (pc := 186) (i := 0) dX11_init_186 rfl rfl ?_
  refine T_getR (pc := 187) (c := 11) (j := 8) (i := 96) fl_X11_42 rfl (show KT 0 = (0, 11) by decide) (by rw [b40.n]; omega) (by rw [b40.r]; rfl) dX11_init_187 ?_
  refine T_iload_n (pc := 190) (i := 1) dX11_init_190 rfl rfl ?_
  refine T_new (pc := 191) (c := 9) nw_X11_16 (by decide) (by rw [b40.n]; exact (show KT 264 = (0, 9) by decide)) (by rw [b40.n]; show _ < 595; omega) (Nat.le_of_ble_eq_true rfl) (Nat.le_of_ble_eq_true rfl) dX11_init_191 ?_
  rw [b40.n]
  refine T_dup (pc := 194) dX11_init_194 rfl ?_
  refine T_callI (pc := 195) (b := 264) (As := []) (rest := [.ref 264, .int (nI 5), .ref 96]) (Or.inl lk_X11_18) mk_X9_init rfl (i_X9 (show isTold 264 from memory_told (i := 5) (by decide)) (by omega) (by show μ40.1 + 1 = _; rw [b40.n]) (new_rz b40.n) (new_iz b40.n)) dX11_init_195 rfl rfl (Nat.le_of_ble_eq_true rfl) (by decide) rfl (Nat.le_of_ble_eq_true rfl) (Nat.le_of_ble_eq_true rfl) (fun E m' h => by obtain ⟨z, _⟩ := h; cases z) (fun v μ41 h => ?_)
  obtain ⟨h0, c41⟩ := h
  cases h0
  have b41 : Bd 0 96 292 (upr (upr (upr (upr (upr (upr (upr (upr (upr (upr (upr (upr (upr (upr (upr z0 0 (1 + 1)) 1 (3 + 1)) 2 (31 + 1)) 3 (59 + 1)) 4 (62 + 1)) 5 (65 + 1)) 6 (93 + 1)) 8 (96 + 1)) 11 (97 + 1)) 12 (105 + 1)) 13 (109 + 1)) 14 (113 + 1)) 15 (116 + 1)) 16 (121 + 1)) 17 (122 + 1)) (upr (upr (upr (upr (upr z0 0 (124 + 1)) 1 (152 + 1)) 2 (180 + 1)) 3 (208 + 1)) 4 (236 + 1)) zi μ μ41 := b40.call c41 (by omega)
  have jx_41 : μ41.2.2.1 1 = (upr (upr zi 2 (-1)) 6 (-1)) := (c41.lo b40.n (by omega)).trans jx_40
  have jm_41 : μ41.2.2.1 3 = (upr (upr zi 8 (nI 0)) 11 (nI 1)) := (c41.lo b40.n (by omega)).trans jm_40
  have jn_41 : μ41.2.2.1 4 = zi := (c41.lo b40.n (by omega)).trans jn_40
  have jo_41 : μ41.2.2.1 12 = w12 := (c41.lo b40.n (by omega)).trans jo_40
  have jl_41 : μ41.2.2.1 59 = (upr zi 0 (-1)) := (c41.lo b40.n (by omega)).trans jl_40
  show T _ _ _ _ _ _ _ _ 198 [some (.ref 0), some (.int (nI 5))] [.ref 264, .int (nI 5), .ref 96] μ41
  refine T_aast (pc := 198) (t := 1) (c := 9) (n := 16) (show KT 96 = (5, 16) by decide) (Or.inr ⟨rfl, rfl⟩) (show KT 264 = (0, 9) by decide) (by rw [b41.n]; omega) (by rw [b41.n]; omega) (vp_in_nI (e := 5) (by omega) (by omega)) dX11_init_198 ?_
  rw [nI_clamp (n := 5) (by omega)]
  have b42 : Bd 0 96 292 (upr (upr (upr (upr (upr (upr (upr (upr (upr (upr (upr (upr (upr (upr (upr z0 0 (1 + 1)) 1 (3 + 1)) 2 (31 + 1)) 3 (59 + 1)) 4 (62 + 1)) 5 (65 + 1)) 6 (93 + 1)) 8 (96 + 1)) 11 (97 + 1)) 12 (105 + 1)) 13 (109 + 1)) 14 (113 + 1)) 15 (116 + 1)) 16 (121 + 1)) 17 (122 + 1)) (upr (upr (upr (upr (upr (upr z0 0 (124 + 1)) 1 (152 + 1)) 2 (180 + 1)) 3 (208 + 1)) 4 (236 + 1)) 5 (264 + 1)) zi μ (mR μ41 96 5 (264 + 1)) := b41.ast (by omega)
  have jx_42 : (mR μ41 96 5 (264 + 1)).2.2.1 1 = (upr (upr zi 2 (-1)) 6 (-1)) := jx_41
  have jm_42 : (mR μ41 96 5 (264 + 1)).2.2.1 3 = (upr (upr zi 8 (nI 0)) 11 (nI 1)) := jm_41
  have jn_42 : (mR μ41 96 5 (264 + 1)).2.2.1 4 = zi := jn_41
  have jo_42 : (mR μ41 96 5 (264 + 1)).2.2.1 12 = w12 := jo_41
  have jl_42 : (mR μ41 96 5 (264 + 1)).2.2.1 59 = (upr zi 0 (-1)) := jl_41
  generalize mR μ41 96 5 (264 + 1) = μ42 at b42 jx_42 jm_42 jn_42 jo_42 jl_42 ⊢
  refine T_iinc (pc := 199) (i := 1) (v := nI 6) (ls' := [some (.ref 0), some (.int (nI 6))]) dX11_init_199 rfl (by decide) rfl ?_
  refine T_goto (pc := 202) (tgt := 180) dX11_init_202 (by decide) ?_
  refine T_iload_n (pc := 180) (i := 1) dX11_init_180 rfl rfl ?_
  refine T_bipush (pc := 181) (v := nI 16) dX11_init_181 (by decide) ?_
  refine T_icmp_ge (pc := 183) (tgt := 205) dX11_init_183 (by decide) (fun h => absurd h (by decide)) (fun _ => ?_)
  refine T_aload_n (pc := 186) (i := 0) dX11_init_186 rfl rfl ?_
  refine T_getR (pc := 187) (c := 11) (j := 8) (i := 96) fl_X11_42 rfl (show KT 0 = (0, 11) by decide) (by rw [b42.n]; omega) (by rw [b42.r]; rfl) dX11_init_187 ?_
  refine T_iload_n (pc := 190) (i := 1) dX11_init_190 rfl rfl ?_
  refine T_new (pc := 191) (c := 9) nw_X11_16 (by decide) (by rw [b42.n]; exact (show KT 292 = (0, 9) by decide)) (by rw [b42.n]; show _ < 595; omega) (Nat.le_of_ble_eq_true rfl) (Nat.le_of_ble_eq_true rfl) dX11_init_191 ?_
  rw [b42.n]
  refine T_dup (pc := 194) dX11_init_194 rfl ?_
  refine T_callI (pc := 195) (b := 292) (As := []) (rest := [.ref 292, .int (nI 6), .ref 96]) (Or.inl lk_X11_18) mk_X9_init rfl (i_X9 (show isTold 292 from memory_told (i := 6) (by decide)) (by omega) (by show μ42.1 + 1 = _; rw [b42.n]) (new_rz b42.n) (new_iz b42.n)) dX11_init_195 rfl rfl (Nat.le_of_ble_eq_true rfl) (by decide) rfl (Nat.le_of_ble_eq_true rfl) (Nat.le_of_ble_eq_true rfl) (fun E m' h => by obtain ⟨z, _⟩ := h; cases z) (fun v μ43 h => ?_)
  obtain ⟨h0, c43⟩ := h
  cases h0
  have b43 : Bd 0 96 320 (upr (upr (upr (upr (upr (upr (upr (upr (upr (upr (upr (upr (upr (upr (upr z0 0 (1 + 1)) 1 (3 + 1)) 2 (31 + 1)) 3 (59 + 1)) 4 (62 + 1)) 5 (65 + 1)) 6 (93 + 1)) 8 (96 + 1)) 11 (97 + 1)) 12 (105 + 1)) 13 (109 + 1)) 14 (113 + 1)) 15 (116 + 1)) 16 (121 + 1)) 17 (122 + 1)) (upr (upr (upr (upr (upr (upr z0 0 (124 + 1)) 1 (152 + 1)) 2 (180 + 1)) 3 (208 + 1)) 4 (236 + 1)) 5 (264 + 1)) zi μ μ43 := b42.call c43 (by omega)
  have jx_43 : μ43.2.2.1 1 = (upr (upr zi 2 (-1)) 6 (-1)) := (c43.lo b42.n (by omega)).trans jx_42
  have jm_43 : μ43.2.2.1 3 = (upr (upr zi 8 (nI 0)) 11 (nI 1)) := (c43.lo b42.n (by omega)).trans jm_42
  have jn_43 : μ43.2.2.1 4 = zi := (c43.lo b42.n (by omega)).trans jn_42
  have jo_43 : μ43.2.2.1 12 = w12 := (c43.lo b42.n (by omega)).trans jo_42
  have jl_43 : μ43.2.2.1 59 = (upr zi 0 (-1)) := (c43.lo b42.n (by omega)).trans jl_42
  show T _ _ _ _ _ _ _ _ 198 [some (.ref 0), some (.int (nI 6))] [.ref 292, .int (nI 6), .ref 96] μ43
  refine T_aast (pc := 198) (t := 1) (c := 9) (n := 16) (show KT 96 = (5, 16) by decide) (Or.inr ⟨rfl, rfl⟩) (show KT 292 = (0, 9) by decide) (by rw [b43.n]; omega) (by rw [b43.n]; omega) (vp_in_nI (e := 6) (by omega) (by omega)) dX11_init_198 ?_
  rw [nI_clamp (n := 6) (by omega)]
  have b44 : Bd 0 96 320 (upr (upr (upr (upr (upr (upr (upr (upr (upr (upr (upr (upr (upr (upr (upr z0 0 (1 + 1)) 1 (3 + 1)) 2 (31 + 1)) 3 (59 + 1)) 4 (62 + 1)) 5 (65 + 1)) 6 (93 + 1)) 8 (96 + 1)) 11 (97 + 1)) 12 (105 + 1)) 13 (109 + 1)) 14 (113 + 1)) 15 (116 + 1)) 16 (121 + 1)) 17 (122 + 1)) (upr (upr (upr (upr (upr (upr (upr z0 0 (124 + 1)) 1 (152 + 1)) 2 (180 + 1)) 3 (208 + 1)) 4 (236 + 1)) 5 (264 + 1)) 6 (292 + 1)) zi μ (mR μ43 96 6 (292 + 1)) := b43.ast (by omega)
  have jx_44 : (mR μ43 96 6 (292 + 1)).2.2.1 1 = (upr (upr zi 2 (-1)) 6 (-1)) := jx_43
  have jm_44 : (mR μ43 96 6 (292 + 1)).2.2.1 3 = (upr (upr zi 8 (nI 0)) 11 (nI 1)) := jm_43
  have jn_44 : (mR μ43 96 6 (292 + 1)).2.2.1 4 = zi := jn_43
  have jo_44 : (mR μ43 96 6 (292 + 1)).2.2.1 12 = w12 := jo_43
  have jl_44 : (mR μ43 96 6 (292 + 1)).2.2.1 59 = (upr zi 0 (-1)) := jl_43
  generalize mR μ43 96 6 (292 + 1) = μ44 at b44 jx_44 jm_44 jn_44 jo_44 jl_44 ⊢
  refine T_iinc (pc := 199) (i := 1) (v := nI 7) (ls' := [some (.ref 0), some (.int (nI 7))]) dX11_init_199 rfl (by decide) rfl ?_
  refine T_goto (pc := 202) (tgt := 180) dX11_init_202 (by decide) ?_
  refine T_iload_n (pc := 180) (i := 1) dX11_init_180 rfl rfl ?_
  refine T_bipush (pc := 181) (v := nI 16) dX11_init_181 (by decide) ?_
  refine T_icmp_ge (pc := 183) (tgt := 205) dX11_init_183 (by decide) (fun h => absurd h (by decide)) (fun _ => ?_)
  refine T_aload_n (pc := 186) (i := 0) dX11_init_186 rfl rfl ?_
  refine T_getR (pc := 187) (c := 11) (j := 8) (i := 96) fl_X11_42 rfl (show KT 0 = (0, 11) by decide) (by rw [b44.n]; omega) (by rw [b44.r]; rfl) dX11_init_187 ?_
  refine T_iload_n (pc := 190) (i := 1) dX11_init_190 rfl rfl ?_
  refine T_new (pc := 191) (c := 9) nw_X11_16 (by decide) (by rw [b44.n]; exact (show KT 320 = (0, 9) by decide)) (by rw [b44.n]; show _ < 595; omega) (Nat.le_of_ble_eq_true rfl) (Nat.le_of_ble_eq_true rfl) dX11_init_191 ?_
  rw [b44.n]
  refine T_dup (pc := 194) dX11_init_194 rfl ?_
  refine T_callI (pc := 195) (b := 320) (As := []) (rest := [.ref 320, .int (nI 7), .ref 96]) (Or.inl lk_X11_18) mk_X9_init rfl (i_X9 (show isTold 320 from memory_told (i := 7) (by decide)) (by omega) (by show μ44.1 + 1 = _; rw [b44.n]) (new_rz b44.n) (new_iz b44.n)) dX11_init_195 rfl rfl (Nat.le_of_ble_eq_true rfl) (by decide) rfl (Nat.le_of_ble_eq_true rfl) (Nat.le_of_ble_eq_true rfl) (fun E m' h => by obtain ⟨z, _⟩ := h; cases z) (fun v μ45 h => ?_)
  obtain ⟨h0, c45⟩ := h
  cases h0
  have b45 : Bd 0 96 348 (upr (upr (upr (upr (upr (upr (upr (upr (upr (upr (upr (upr (upr (upr (upr z0 0 (1 + 1)) 1 (3 + 1)) 2 (31 + 1)) 3 (59 + 1)) 4 (62 + 1)) 5 (65 + 1)) 6 (93 + 1)) 8 (96 + 1)) 11 (97 + 1)) 12 (105 + 1)) 13 (109 + 1)) 14 (113 + 1)) 15 (116 + 1)) 16 (121 + 1)) 17 (122 + 1)) (upr (upr (upr (upr (upr (upr (upr z0 0 (124 + 1)) 1 (152 + 1)) 2 (180 + 1)) 3 (208 + 1)) 4 (236 + 1)) 5 (264 + 1)) 6 (292 + 1)) zi μ μ45 := b44.call c45 (by omega)
  have jx_45 : μ45.2.2.1 1 = (upr (upr zi 2 (-1)) 6 (-1)) := (c45.lo b44.n (by omega)).trans jx_44
  have jm_45 : μ45.2.2.1 3 = (upr (upr zi 8 (nI 0)) 11 (nI 1)) := (c45.lo b44.n (by omega)).trans jm_44
  have jn_45 : μ45.2.2.1 4 = zi := (c45.lo b44.n (by omega)).trans jn_44
  have jo_45 : μ45.2.2.1 12 = w12 := (c45.lo b44.n (by omega)).trans jo_44
  have jl_45 : μ45.2.2.1 59 = (upr zi 0 (-1)) := (c45.lo b44.n (by omega)).trans jl_44
  show T _ _ _ _ _ _ _ _ 198 [some (.ref 0), some (.int (nI 7))] [.ref 320, .int (nI 7), .ref 96] μ45
  refine T_aast (pc := 198) (t := 1) (c := 9) (n := 16) (show KT 96 = (5, 16) by decide) (Or.inr ⟨rfl, rfl⟩) (show KT 320 = (0, 9) by decide) (by rw [b45.n]; omega) (by rw [b45.n]; omega) (vp_in_nI (e := 7) (by omega) (by omega)) dX11_init_198 ?_
  rw [nI_clamp (n := 7) (by omega)]
  have b46 : Bd 0 96 348 (upr (upr (upr (upr (upr (upr (upr (upr (upr (upr (upr (upr (upr (upr (upr z0 0 (1 + 1)) 1 (3 + 1)) 2 (31 + 1)) 3 (59 + 1)) 4 (62 + 1)) 5 (65 + 1)) 6 (93 + 1)) 8 (96 + 1)) 11 (97 + 1)) 12 (105 + 1)) 13 (109 + 1)) 14 (113 + 1)) 15 (116 + 1)) 16 (121 + 1)) 17 (122 + 1)) (upr (upr (upr (upr (upr (upr (upr (upr z0 0 (124 + 1)) 1 (152 + 1)) 2 (180 + 1)) 3 (208 + 1)) 4 (236 + 1)) 5 (264 + 1)) 6 (292 + 1)) 7 (320 + 1)) zi μ (mR μ45 96 7 (320 + 1)) := b45.ast (by omega)
  have jx_46 : (mR μ45 96 7 (320 + 1)).2.2.1 1 = (upr (upr zi 2 (-1)) 6 (-1)) := jx_45
  have jm_46 : (mR μ45 96 7 (320 + 1)).2.2.1 3 = (upr (upr zi 8 (nI 0)) 11 (nI 1)) := jm_45
  have jn_46 : (mR μ45 96 7 (320 + 1)).2.2.1 4 = zi := jn_45
  have jo_46 : (mR μ45 96 7 (320 + 1)).2.2.1 12 = w12 := jo_45
  have jl_46 : (mR μ45 96 7 (320 + 1)).2.2.1 59 = (upr zi 0 (-1)) := jl_45
  generalize mR μ45 96 7 (320 + 1) = μ46 at b46 jx_46 jm_46 jn_46 jo_46 jl_46 ⊢
  refine T_iinc (pc := 199) (i := 1) (v := nI 8) (ls' := [some (.ref 0), some (.int (nI 8))]) dX11_init_199 rfl (by decide) rfl ?_
  refine T_goto (pc := 202) (tgt := 180) dX11_init_202 (by decide) ?_
  refine T_iload_n (pc := 180) (i := 1) dX11_init_180 rfl rfl ?_
  refine T_bipush (pc := 181) (v := nI 16) dX11_init_181 (by decide) ?_
  refine T_icmp_ge (pc := 183) (tgt := 205) dX11_init_183 (by decide) (fun h => absurd h (by decide)) (fun _ => ?_)
  refine T_aload_n (pc := 186) (i := 0) dX11_init_186 rfl rfl ?_
  refine T_getR (pc := 187) (c := 11) (j := 8) (i := 96) fl_X11_42 rfl (show KT 0 = (0, 11) by decide) (by rw [b46.n]; omega) (by rw [b46.r]; rfl) dX11_init_187 ?_
  refine T_iload_n (pc := 190) (i := 1) dX11_init_190 rfl rfl ?_
  refine T_new (pc := 191) (c := 9) nw_X11_16 (by decide) (by rw [b46.n]; exact (show KT 348 = (0, 9) by decide)) (by rw [b46.n]; show _ < 595; omega) (Nat.le_of_ble_eq_true rfl) (Nat.le_of_ble_eq_true rfl) dX11_init_191 ?_
  rw [b46.n]
  refine T_dup (pc := 194) dX11_init_194 rfl ?_
  refine T_callI (pc := 195) (b := 348) (As := []) (rest := [.ref 348, .int (nI 8), .ref 96]) (Or.inl lk_X11_18) mk_X9_init rfl (i_X9 (show isTold 348 from memory_told (i := 8) (by decide)) (by omega) (by show μ46.1 + 1 = _; rw [b46.n]) (new_rz b46.n) (new_iz b46.n)) dX11_init_195 rfl rfl (Nat.le_of_ble_eq_true rfl) (by decide) rfl (Nat.le_of_ble_eq_true rfl) (Nat.le_of_ble_eq_true rfl) (fun E m' h => by obtain ⟨z, _⟩ := h; cases z) (fun v μ47 h => ?_)
  obtain ⟨h0, c47⟩ := h
  cases h0
  have b47 : Bd 0 96 376 (upr (upr (upr (upr (upr (upr (upr (upr (upr (upr (upr (upr (upr (upr (upr z0 0 (1 + 1)) 1 (3 + 1)) 2 (31 + 1)) 3 (59 + 1)) 4 (62 + 1)) 5 (65 + 1)) 6 (93 + 1)) 8 (96 + 1)) 11 (97 + 1)) 12 (105 + 1)) 13 (109 + 1)) 14 (113 + 1)) 15 (116 + 1)) 16 (121 + 1)) 17 (122 + 1)) (upr (upr (upr (upr (upr (upr (upr (upr z0 0 (124 + 1)) 1 (152 + 1)) 2 (180 + 1)) 3 (208 + 1)) 4 (236 + 1)) 5 (264 + 1)) 6 (292 + 1)) 7 (320 + 1)) zi μ μ47 := b46.call c47 (by omega)
  have jx_47 : μ47.2.2.1 1 = (upr (upr zi 2 (-1)) 6 (-1)) := (c47.lo b46.n (by omega)).trans jx_46
  have jm_47 : μ47.2.2.1 3 = (upr (upr zi 8 (nI 0)) 11 (nI 1)) := (c47.lo b46.n (by omega)).trans jm_46
  have jn_47 : μ47.2.2.1 4 = zi := (c47.lo b46.n (by omega)).trans jn_46
  have jo_47 : μ47.2.2.1 12 = w12 := (c47.lo b46.n (by omega)).trans jo_46
  have jl_47 : μ47.2.2.1 59 = (upr zi 0 (-1)) := (c47.lo b46.n (by omega)).trans jl_46
  show T _ _ _ _ _ _ _ _ 198 [some (.ref 0), some (.int (nI 8))] [.ref 348, .int (nI 8), .ref 96] μ47
  refine T_aast (pc := 198) (t := 1) (c := 9) (n := 16) (show KT 96 = (5, 16) by decide) (Or.inr ⟨rfl, rfl⟩) (show KT 348 = (0, 9) by decide) (by rw [b47.n]; omega) (by rw [b47.n]; omega) (vp_in_nI (e := 8) (by omega) (by omega)) dX11_init_198 ?_
  rw [nI_clamp (n := 8) (by omega)]
  have b48 : Bd 0 96 376 (upr (upr (upr (upr (upr (upr (upr (upr (upr (upr (upr (upr (upr (upr (upr z0 0 (1 + 1)) 1 (3 + 1)) 2 (31 + 1)) 3 (59 + 1)) 4 (62 + 1)) 5 (65 + 1)) 6 (93 + 1)) 8 (96 + 1)) 11 (97 + 1)) 12 (105 + 1)) 13 (109 + 1)) 14 (113 + 1)) 15 (116 + 1)) 16 (121 + 1)) 17 (122 + 1)) (upr (upr (upr (upr (upr (upr (upr (upr (upr z0 0 (124 + 1)) 1 (152 + 1)) 2 (180 + 1)) 3 (208 + 1)) 4 (236 + 1)) 5 (264 + 1)) 6 (292 + 1)) 7 (320 + 1)) 8 (348 + 1)) zi μ (mR μ47 96 8 (348 + 1)) := b47.ast (by omega)
  have jx_48 : (mR μ47 96 8 (348 + 1)).2.2.1 1 = (upr (upr zi 2 (-1)) 6 (-1)) := jx_47
  have jm_48 : (mR μ47 96 8 (348 + 1)).2.2.1 3 = (upr (upr zi 8 (nI 0)) 11 (nI 1)) := jm_47
  have jn_48 : (mR μ47 96 8 (348 + 1)).2.2.1 4 = zi := jn_47
  have jo_48 : (mR μ47 96 8 (348 + 1)).2.2.1 12 = w12 := jo_47
  have jl_48 : (mR μ47 96 8 (348 + 1)).2.2.1 59 = (upr zi 0 (-1)) := jl_47
  generalize mR μ47 96 8 (348 + 1) = μ48 at b48 jx_48 jm_48 jn_48 jo_48 jl_48 ⊢
  refine T_iinc (pc := 199) (i := 1) (v := nI 9) (ls' := [some (.ref 0), some (.int (nI 9))]) dX11_init_199 rfl (by decide) rfl ?_
  refine T_goto (pc := 202) (tgt := 180) dX11_init_202 (by decide) ?_
  refine T_iload_n (pc := 180) (i := 1) dX11_init_180 rfl rfl ?_
  refine T_bipush (pc := 181) (v := nI 16) dX11_init_181 (by decide) ?_
  refine T_icmp_ge (pc := 183) (tgt := 205) dX11_init_183 (by decide) (fun h => absurd h (by decide)) (fun _ => ?_)
  refine T_aload_n (pc := 186) (i := 0) dX11_init_186 rfl rfl ?_
  refine T_getR (pc := 187) (c := 11) (j := 8) (i := 96) fl_X11_42 rfl (show KT 0 = (0, 11) by decide) (by rw [b48.n]; omega) (by rw [b48.r]; rfl) dX11_init_187 ?_
  refine T_iload_n (pc := 190) (i := 1) dX11_init_190 rfl rfl ?_
  refine T_new (pc := 191) (c := 9) nw_X11_16 (by decide) (by rw [b48.n]; exact (show KT 376 = (0, 9) by decide)) (by rw [b48.n]; show _ < 595; omega) (Nat.le_of_ble_eq_true rfl) (Nat.le_of_ble_eq_true rfl) dX11_init_191 ?_
  rw [b48.n]
  refine T_dup (pc := 194) dX11_init_194 rfl ?_
  refine T_callI (pc := 195) (b := 376) (As := []) (rest := [.ref 376, .int (nI 9), .ref 96]) (Or.inl lk_X11_18) mk_X9_init rfl (i_X9 (show isTold 376 from memory_told (i := 9) (by decide)) (by omega) (by show μ48.1 + 1 = _; rw [b48.n]) (new_rz b48.n) (new_iz b48.n)) dX11_init_195 rfl rfl (Nat.le_of_ble_eq_true rfl) (by decide) rfl (Nat.le_of_ble_eq_true rfl) (Nat.le_of_ble_eq_true rfl) (fun E m' h => by obtain ⟨z, _⟩ := h; cases z) (fun v μ49 h => ?_)
  obtain ⟨h0, c49⟩ := h
  cases h0
  have b49 : Bd 0 96 404 (upr (upr (upr (upr (upr (upr (upr (upr (upr (upr (upr (upr (upr (upr (upr z0 0 (1 + 1)) 1 (3 + 1)) 2 (31 + 1)) 3 (59 + 1)) 4 (62 + 1)) 5 (65 + 1)) 6 (93 + 1)) 8 (96 + 1)) 11 (97 + 1)) 12 (105 + 1)) 13 (109 + 1)) 14 (113 + 1)) 15 (116 + 1)) 16 (121 + 1)) 17 (122 + 1)) (upr (upr (upr (upr (upr (upr (upr (upr (upr z0 0 (124 + 1)) 1 (152 + 1)) 2 (180 + 1)) 3 (208 + 1)) 4 (236 + 1)) 5 (264 + 1)) 6 (292 + 1)) 7 (320 + 1)) 8 (348 + 1)) zi μ μ49 := b48.call c49 (by omega)
  have jx_49 : μ49.2.2.1 1 = (upr (upr zi 2 (-1)) 6 (-1)) := (c49.lo b48.n (by omega)).trans jx_48
  have jm_49 : μ49.2.2.1 3 = (upr (upr zi 8 (nI 0)) 11 (nI 1)) := (c49.lo b48.n (by omega)).trans jm_48
  have jn_49 : μ49.2.2.1 4 = zi := (c49.lo b48.n (by omega)).trans jn_48
  have jo_49 : μ49.2.2.1 12 = w12 := (c49.lo b48.n (by omega)).trans jo_48
  have jl_49 : μ49.2.2.1 59 = (upr zi 0 (-1)) := (c49.lo b48.n (by omega)).trans jl_48
  show T _ _ _ _ _ _ _ _ 198 [some (.ref 0), some (.int (nI 9))] [.ref 376, .int (nI 9), .ref 96] μ49
  refine T_aast (pc := 198) (t := 1) (c := 9) (n := 16) (show KT 96 = (5, 16) by decide) (Or.inr ⟨rfl, rfl⟩) (show KT 376 = (0, 9) by decide) (by rw [b49.n]; omega) (by rw [b49.n]; omega) (vp_in_nI (e := 9) (by omega) (by omega)) dX11_init_198 ?_
  rw [nI_clamp (n := 9) (by omega)]
  have b50 : Bd 0 96 404 (upr (upr (upr (upr (upr (upr (upr (upr (upr (upr (upr (upr (upr (upr (upr z0 0 (1 + 1)) 1 (3 + 1)) 2 (31 + 1)) 3 (59 + 1)) 4 (62 + 1)) 5 (65 + 1)) 6 (93 + 1)) 8 (96 + 1)) 11 (97 + 1)) 12 (105 + 1)) 13 (109 + 1)) 14 (113 + 1)) 15 (116 + 1)) 16 (121 + 1)) 17 (122 + 1)) (upr (upr (upr (upr (upr (upr (upr (upr (upr (upr z0 0 (124 + 1)) 1 (152 + 1)) 2 (180 + 1)) 3 (208 + 1)) 4 (236 + 1)) 5 (264 + 1)) 6 (292 + 1)) 7 (320 + 1)) 8 (348 + 1)) 9 (376 + 1)) zi μ (mR μ49 96 9 (376 + 1)) := b49.ast (by omega)
  have jx_50 : (mR μ49 96 9 (376 + 1)).2.2.1 1 = (upr (upr zi 2 (-1)) 6 (-1)) := jx_49
  have jm_50 : (mR μ49 96 9 (376 + 1)).2.2.1 3 = (upr (upr zi 8 (nI 0)) 11 (nI 1)) := jm_49
  have jn_50 : (mR μ49 96 9 (376 + 1)).2.2.1 4 = zi := jn_49
  have jo_50 : (mR μ49 96 9 (376 + 1)).2.2.1 12 = w12 := jo_49
  have jl_50 : (mR μ49 96 9 (376 + 1)).2.2.1 59 = (upr zi 0 (-1)) := jl_49
  generalize mR μ49 96 9 (376 + 1) = μ50 at b50 jx_50 jm_50 jn_50 jo_50 jl_50 ⊢
  refine T_iinc (pc := 199) (i := 1) (v := nI 10) (ls' := [some (.ref 0), some (.int (nI 10))]) dX11_init_199 rfl (by decide) rfl ?_
  refine T_goto (pc := 202) (tgt := 180) dX11_init_202 (by decide) ?_
  refine T_iload_n (pc := 180) (i := 1) dX11_init_180 rfl rfl ?_
  refine T_bipush (pc := 181) (v := nI 16) dX11_init_181 (by decide) ?_
  refine T_icmp_ge (pc := 183) (tgt := 205) dX11_init_183 (by decide) (fun h => absurd h (by decide)) (fun _ => ?_)
  refine T_aload_n (pc := 186) (i := 0) dX11_init_186 rfl rfl ?_
  refine T_getR (pc := 187) (c := 11) (j := 8) (i := 96) fl_X11_42 rfl (show KT 0 = (0, 11) by decide) (by rw [b50.n]; omega) (by rw [b50.r]; rfl) dX11_init_187 ?_
  refine T_iload_n (pc := 190) (i := 1) dX11_init_190 rfl rfl ?_
  refine T_new (pc := 191) (c := 9) nw_X11_16 (by decide) (by rw [b50.n]; exact (show KT 404 = (0, 9) by decide)) (by rw [b50.n]; show _ < 595; omega) (Nat.le_of_ble_eq_true rfl) (Nat.le_of_ble_eq_true rfl) dX11_init_191 ?_
  rw [b50.n]
  refine T_dup (pc := 194) dX11_init_194 rfl ?_
  refine T_callI (pc := 195) (b := 404) (As := []) (rest := [.ref 404, .int (nI 10), .ref 96]) (Or.inl lk_X11_18) mk_X9_init rfl (i_X9 (show isTold 404 from memory_told (i := 10) (by decide)) (by omega) (by show μ50.1 + 1 = _; rw [b50.n]) (new_rz b50.n) (new_iz b50.n)) dX11_init_195 rfl rfl (Nat.le_of_ble_eq_true rfl) (by decide) rfl (Nat.le_of_ble_eq_true rfl) (Nat.le_of_ble_eq_true rfl) (fun E m' h => by obtain ⟨z, _⟩ := h; cases z) (fun v μ51 h => ?_)
  obtain ⟨h0, c51⟩ := h
  cases h0
  have b51 : Bd 0 96 432 (upr (upr (upr (upr (upr (upr (upr (upr (upr (upr (upr (upr (upr (upr (upr z0 0 (1 + 1)) 1 (3 + 1)) 2 (31 + 1)) 3 (59 + 1)) 4 (62 + 1)) 5 (65 + 1)) 6 (93 + 1)) 8 (96 + 1)) 11 (97 + 1)) 12 (105 + 1)) 13 (109 + 1)) 14 (113 + 1)) 15 (116 + 1)) 16 (121 + 1)) 17 (122 + 1)) (upr (upr (upr (upr (upr (upr (upr (upr (upr (upr z0 0 (124 + 1)) 1 (152 + 1)) 2 (180 + 1)) 3 (208 + 1)) 4 (236 + 1)) 5 (264 + 1)) 6 (292 + 1)) 7 (320 + 1)) 8 (348 + 1)) 9 (376 + 1)) zi μ μ51 := b50.call c51 (by omega)
  have jx_51 : μ51.2.2.1 1 = (upr (upr zi 2 (-1)) 6 (-1)) := (c51.lo b50.n (by omega)).trans jx_50
  have jm_51 : μ51.2.2.1 3 = (upr (upr zi 8 (nI 0)) 11 (nI 1)) := (c51.lo b50.n (by omega)).trans jm_50
  have jn_51 : μ51.2.2.1 4 = zi := (c51.lo b50.n (by omega)).trans jn_50
  have jo_51 : μ51.2.2.1 12 = w12 := (c51.lo b50.n (by omega)).trans jo_50
  have jl_51 : μ51.2.2.1 59 = (upr zi 0 (-1)) := (c51.lo b50.n (by omega)).trans jl_50
  show T _ _ _ _ _ _ _ _ 198 [some (.ref 0), some (.int (nI 10))] [.ref 404, .int (nI 10), .ref 96] μ51
  refine T_aast (pc := 198) (t := 1) (c := 9) (n := 16) (show KT 96 = (5, 16) by decide) (Or.inr ⟨rfl, rfl⟩) (show KT 404 = (0, 9) by decide) (by rw [b51.n]; omega) (by rw [b51.n]; omega) (vp_in_nI (e := 10) (by omega) (by omega)) dX11_init_198 ?_
  rw [nI_clamp (n := 10) (by omega)]
  have b52 : Bd 0 96 432 (upr (upr (upr (upr (upr (upr (upr (upr (upr (upr (upr (upr (upr (upr (upr z0 0 (1 + 1)) 1 (3 + 1)) 2 (31 + 1)) 3 (59 + 1)) 4 (62 + 1)) 5 (65 + 1)) 6 (93 + 1)) 8 (96 + 1)) 11 (97 + 1)) 12 (105 + 1)) 13 (109 + 1)) 14 (113 + 1)) 15 (116 + 1)) 16 (121 + 1)) 17 (122 + 1)) (upr (upr (upr (upr (upr (upr (upr (upr (upr (upr (upr z0 0 (124 + 1)) 1 (152 + 1)) 2 (180 + 1)) 3 (208 + 1)) 4 (236 + 1)) 5 (264 + 1)) 6 (292 + 1)) 7 (320 + 1)) 8 (348 + 1)) 9 (376 + 1)) 10 (404 + 1)) zi μ (mR μ51 96 10 (404 + 1)) := b51.ast (by omega)
  have jx_52 : (mR μ51 96 10 (404 + 1)).2.2.1 1 = (upr (upr zi 2 (-1)) 6 (-1)) := jx_51
  have jm_52 : (mR μ51 96 10 (404 + 1)).2.2.1 3 = (upr (upr zi 8 (nI 0)) 11 (nI 1)) := jm_51
  have jn_52 : (mR μ51 96 10 (404 + 1)).2.2.1 4 = zi := jn_51
  have jo_52 : (mR μ51 96 10 (404 + 1)).2.2.1 12 = w12 := jo_51
  have jl_52 : (mR μ51 96 10 (404 + 1)).2.2.1 59 = (upr zi 0 (-1)) := jl_51
  generalize mR μ51 96 10 (404 + 1) = μ52 at b52 jx_52 jm_52 jn_52 jo_52 jl_52 ⊢
  refine T_iinc (pc := 199) (i := 1) (v := nI 11) (ls' := [some (.ref 0), some (.int (nI 11))]) dX11_init_199 rfl (by decide) rfl ?_
  refine T_goto (pc := 202) (tgt := 180) dX11_init_202 (by decide) ?_
  refine T_iload_n (pc := 180) (i := 1) dX11_init_180 rfl rfl ?_
  refine T_bipush (pc := 181) (v := nI 16) dX11_init_181 (by decide) ?_
  refine T_icmp_ge (pc := 183) (tgt := 205) dX11_init_183 (by decide) (fun h => absurd h (by decide)) (fun _ => ?_)
  refine T_aload_n (pc := 186) (i := 0) dX11_init_186 rfl rfl ?_
  refine T_getR (pc := 187) (c := 11) (j := 8) (i := 96) fl_X11_42 rfl (show KT 0 = (0, 11) by decide) (by rw [b52.n]; omega) (by rw [b52.r]; rfl) dX11_init_187 ?_
  refine T_iload_n (pc := 190) (i := 1) dX11_init_190 rfl rfl ?_
  refine T_new (pc := 191) (c := 9) nw_X11_16 (by decide) (by rw [b52.n]; exact (show KT 432 = (0, 9) by decide)) (by rw [b52.n]; show _ < 595; omega) (Nat.le_of_ble_eq_true rfl) (Nat.le_of_ble_eq_true rfl) dX11_init_191 ?_
  rw [b52.n]
  refine T_dup (pc := 194) dX11_init_194 rfl ?_
  refine T_callI (pc := 195) (b := 432) (As := []) (rest := [.ref 432, .int (nI 11), .ref 96]) (Or.inl lk_X11_18) mk_X9_init rfl (i_X9 (show isTold 432 from memory_told (i := 11) (by decide)) (by omega) (by show μ52.1 + 1 = _; rw [b52.n]) (new_rz b52.n) (new_iz b52.n)) dX11_init_195 rfl rfl (Nat.le_of_ble_eq_true rfl) (by decide) rfl (Nat.le_of_ble_eq_true rfl) (Nat.le_of_ble_eq_true rfl) (fun E m' h => by obtain ⟨z, _⟩ := h; cases z) (fun v μ53 h => ?_)
  obtain ⟨h0, c53⟩ := h
  cases h0
  have b53 : Bd 0 96 460 (upr (upr (upr (upr (upr (upr (upr (upr (upr (upr (upr (upr (upr (upr (upr z0 0 (1 + 1)) 1 (3 + 1)) 2 (31 + 1)) 3 (59 + 1)) 4 (62 + 1)) 5 (65 + 1)) 6 (93 + 1)) 8 (96 + 1)) 11 (97 + 1)) 12 (105 + 1)) 13 (109 + 1)) 14 (113 + 1)) 15 (116 + 1)) 16 (121 + 1)) 17 (122 + 1)) (upr (upr (upr (upr (upr (upr (upr (upr (upr (upr (upr z0 0 (124 + 1)) 1 (152 + 1)) 2 (180 + 1)) 3 (208 + 1)) 4 (236 + 1)) 5 (264 + 1)) 6 (292 + 1)) 7 (320 + 1)) 8 (348 + 1)) 9 (376 + 1)) 10 (404 + 1)) zi μ μ53 := b52.call c53 (by omega)
  have jx_53 : μ53.2.2.1 1 = (upr (upr zi 2 (-1)) 6 (-1)) := (c53.lo b52.n (by omega)).trans jx_52
  have jm_53 : μ53.2.2.1 3 = (upr (upr zi 8 (nI 0)) 11 (nI 1)) := (c53.lo b52.n (by omega)).trans jm_52
  have jn_53 : μ53.2.2.1 4 = zi := (c53.lo b52.n (by omega)).trans jn_52
  have jo_53 : μ53.2.2.1 12 = w12 := (c53.lo b52.n (by omega)).trans jo_52
  have jl_53 : μ53.2.2.1 59 = (upr zi 0 (-1)) := (c53.lo b52.n (by omega)).trans jl_52
  show T _ _ _ _ _ _ _ _ 198 [some (.ref 0), some (.int (nI 11))] [.ref 432, .int (nI 11), .ref 96] μ53
  refine T_aast (pc := 198) (t := 1) (c := 9) (n := 16) (show KT 96 = (5, 16) by decide) (Or.inr ⟨rfl, rfl⟩) (show KT 432 = (0, 9) by decide) (by rw [b53.n]; omega) (by rw [b53.n]; omega) (vp_in_nI (e := 11) (by omega) (by omega)) dX11_init_198 ?_
  rw [nI_clamp (n := 11) (by omega)]
  have b54 : Bd 0 96 460 (upr (upr (upr (upr (upr (upr (upr (upr (upr (upr (upr (upr (upr (upr (upr z0 0 (1 + 1)) 1 (3 + 1)) 2 (31 + 1)) 3 (59 + 1)) 4 (62 + 1)) 5 (65 + 1)) 6 (93 + 1)) 8 (96 + 1)) 11 (97 + 1)) 12 (105 + 1)) 13 (109 + 1)) 14 (113 + 1)) 15 (116 + 1)) 16 (121 + 1)) 17 (122 + 1)) (upr (upr (upr (upr (upr (upr (upr (upr (upr (upr (upr (upr z0 0 (124 + 1)) 1 (152 + 1)) 2 (180 + 1)) 3 (208 + 1)) 4 (236 + 1)) 5 (264 + 1)) 6 (292 + 1)) 7 (320 + 1)) 8 (348 + 1)) 9 (376 + 1)) 10 (404 + 1)) 11 (432 + 1)) zi μ (mR μ53 96 11 (432 + 1)) := b53.ast (by omega)
  have jx_54 : (mR μ53 96 11 (432 + 1)).2.2.1 1 = (upr (upr zi 2 (-1)) 6 (-1)) := jx_53
  have jm_54 : (mR μ53 96 11 (432 + 1)).2.2.1 3 = (upr (upr zi 8 (nI 0)) 11 (nI 1)) := jm_53
  have jn_54 : (mR μ53 96 11 (432 + 1)).2.2.1 4 = zi := jn_53
  have jo_54 : (mR μ53 96 11 (432 + 1)).2.2.1 12 = w12 := jo_53
  have jl_54 : (mR μ53 96 11 (432 + 1)).2.2.1 59 = (upr zi 0 (-1)) := jl_53
  generalize mR μ53 96 11 (432 + 1) = μ54 at b54 jx_54 jm_54 jn_54 jo_54 jl_54 ⊢
  refine T_iinc (pc := 199) (i := 1) (v := nI 12) (ls' := [some (.ref 0), some (.int (nI 12))]) dX11_init_199 rfl (by decide) rfl ?_
  refine T_goto (pc := 202) (tgt := 180) dX11_init_202 (by decide) ?_
  refine T_iload_n (pc := 180) (i := 1) dX11_init_180 rfl rfl ?_
  refine T_bipush (pc := 181) (v := nI 16) dX11_init_181 (by decide) ?_
  refine T_icmp_ge (pc := 183) (tgt := 205) dX11_init_183 (by decide) (fun h => absurd h (by decide)) (fun _ => ?_)
  refine T_aload_n (pc := 186) (i := 0) dX11_init_186 rfl rfl ?_
  refine T_getR (pc := 187) (c := 11) (j := 8) (i := 96) fl_X11_42 rfl (show KT 0 = (0, 11) by decide) (by rw [b54.n]; omega) (by rw [b54.r]; rfl) dX11_init_187 ?_
  refine T_iload_n (pc := 190) (i := 1) dX11_init_190 rfl rfl ?_
  refine T_new (pc := 191) (c := 9) nw_X11_16 (by decide) (by rw [b54.n]; exact (show KT 460 = (0, 9) by decide)) (by rw [b54.n]; show _ < 595; omega) (Nat.le_of_ble_eq_true rfl) (Nat.le_of_ble_eq_true rfl) dX11_init_191 ?_
  rw [b54.n]
  refine T_dup (pc := 194) dX11_init_194 rfl ?_
  refine T_callI (pc := 195) (b := 460) (As := []) (rest := [.ref 460, .int (nI 12), .ref 96]) (Or.inl lk_X11_18) mk_X9_init rfl (i_X9 (show isTold 460 from memory_told (i := 12) (by decide)) (by omega) (by show μ54.1 + 1 = _; rw [b54.n]) (new_rz b54.n) (new_iz b54.n)) dX11_init_195 rfl rfl (Nat.le_of_ble_eq_true rfl) (by decide) rfl (Nat.le_of_ble_eq_true rfl) (Nat.le_of_ble_eq_true rfl) (fun E m' h => by obtain ⟨z, _⟩ := h; cases z) (fun v μ55 h => ?_)
  obtain ⟨h0, c55⟩ := h
  cases h0
  have b55 : Bd 0 96 488 (upr (upr (upr (upr (upr (upr (upr (upr (upr (upr (upr (upr (upr (upr (upr z0 0 (1 + 1)) 1 (3 + 1)) 2 (31 + 1)) 3 (59 + 1)) 4 (62 + 1)) 5 (65 + 1)) 6 (93 + 1)) 8 (96 + 1)) 11 (97 + 1)) 12 (105 + 1)) 13 (109 + 1)) 14 (113 + 1)) 15 (116 + 1)) 16 (121 + 1)) 17 (122 + 1)) (upr (upr (upr (upr (upr (upr (upr (upr (upr (upr (upr (upr z0 0 (124 + 1)) 1 (152 + 1)) 2 (180 + 1)) 3 (208 + 1)) 4 (236 + 1)) 5 (264 + 1)) 6 (292 + 1)) 7 (320 + 1)) 8 (348 + 1)) 9 (376 + 1)) 10 (404 + 1)) 11 (432 + 1)) zi μ μ55 := b54.call c55 (by omega)
  have jx_55 : μ55.2.2.1 1 = (upr (upr zi 2 (-1)) 6 (-1)) := (c55.lo b54.n (by omega)).trans jx_54
  have jm_55 : μ55.2.2.1 3 = (upr (upr zi 8 (nI 0)) 11 (nI 1)) := (c55.lo b54.n (by omega)).trans jm_54
  have jn_55 : μ55.2.2.1 4 = zi := (c55.lo b54.n (by omega)).trans jn_54
  have jo_55 : μ55.2.2.1 12 = w12 := (c55.lo b54.n (by omega)).trans jo_54
  have jl_55 : μ55.2.2.1 59 = (upr zi 0 (-1)) := (c55.lo b54.n (by omega)).trans jl_54
  show T _ _ _ _ _ _ _ _ 198 [some (.ref 0), some (.int (nI 12))] [.ref 460, .int (nI 12), .ref 96] μ55
  refine T_aast (pc := 198) (t := 1) (c := 9) (n := 16) (show KT 96 = (5, 16) by decide) (Or.inr ⟨rfl, rfl⟩) (show KT 460 = (0, 9) by decide) (by rw [b55.n]; omega) (by rw [b55.n]; omega) (vp_in_nI (e := 12) (by omega) (by omega)) dX11_init_198 ?_
  rw [nI_clamp (n := 12) (by omega)]
  have b56 : Bd 0 96 488 (upr (upr (upr (upr (upr (upr (upr (upr (upr (upr (upr (upr (upr (upr (upr z0 0 (1 + 1)) 1 (3 + 1)) 2 (31 + 1)) 3 (59 + 1)) 4 (62 + 1)) 5 (65 + 1)) 6 (93 + 1)) 8 (96 + 1)) 11 (97 + 1)) 12 (105 + 1)) 13 (109 + 1)) 14 (113 + 1)) 15 (116 + 1)) 16 (121 + 1)) 17 (122 + 1)) (upr (upr (upr (upr (upr (upr (upr (upr (upr (upr (upr (upr (upr z0 0 (124 + 1)) 1 (152 + 1)) 2 (180 + 1)) 3 (208 + 1)) 4 (236 + 1)) 5 (264 + 1)) 6 (292 + 1)) 7 (320 + 1)) 8 (348 + 1)) 9 (376 + 1)) 10 (404 + 1)) 11 (432 + 1)) 12 (460 + 1)) zi μ (mR μ55 96 12 (460 + 1)) := b55.ast (by omega)
  have jx_56 : (mR μ55 96 12 (460 + 1)).2.2.1 1 = (upr (upr zi 2 (-1)) 6 (-1)) := jx_55
  have jm_56 : (mR μ55 96 12 (460 + 1)).2.2.1 3 = (upr (upr zi 8 (nI 0)) 11 (nI 1)) := jm_55
  have jn_56 : (mR μ55 96 12 (460 + 1)).2.2.1 4 = zi := jn_55
  have jo_56 : (mR μ55 96 12 (460 + 1)).2.2.1 12 = w12 := jo_55
  have jl_56 : (mR μ55 96 12 (460 + 1)).2.2.1 59 = (upr zi 0 (-1)) := jl_55
  generalize mR μ55 96 12 (460 + 1) = μ56 at b56 jx_56 jm_56 jn_56 jo_56 jl_56 ⊢
  refine T_iinc (pc := 199) (i := 1) (v := nI 13) (ls' := [some (.ref 0), some (.int (nI 13))]) dX11_init_199 rfl (by decide) rfl ?_
  refine T_goto (pc := 202) (tgt := 180) dX11_init_202 (by decide) ?_
  refine T_iload_n (pc := 180) (i := 1) dX11_init_180 rfl rfl ?_
  refine T_bipush (pc := 181) (v := nI 16) dX11_init_181 (by decide) ?_
  refine T_icmp_ge (pc := 183) (tgt := 205) dX11_init_183 (by decide) (fun h => absurd h (by decide)) (fun _ => ?_)
  refine T_aload_n (pc := 186) (i := 0) dX11_init_186 rfl rfl ?_
  refine T_getR (pc := 187) (c := 11) (j := 8) (i := 96) fl_X11_42 rfl (show KT 0 = (0, 11) by decide) (by rw [b56.n]; omega) (by rw [b56.r]; rfl) dX11_init_187 ?_
  refine T_iload_n (pc := 190) (i := 1) dX11_init_190 rfl rfl ?_
  refine T_new (pc := 191) (c := 9) nw_X11_16 (by decide) (by rw [b56.n]; exact (show KT 488 = (0, 9) by decide)) (by rw [b56.n]; show _ < 595; omega) (Nat.le_of_ble_eq_true rfl) (Nat.le_of_ble_eq_true rfl) dX11_init_191 ?_
  rw [b56.n]
  refine T_dup (pc := 194) dX11_init_194 rfl ?_
  refine T_callI (pc := 195) (b := 488) (As := []) (rest := [.ref 488, .int (nI 13), .ref 96]) (Or.inl lk_X11_18) mk_X9_init rfl (i_X9 (show isTold 488 from memory_told (i := 13) (by decide)) (by omega) (by show μ56.1 + 1 = _; rw [b56.n]) (new_rz b56.n) (new_iz b56.n)) dX11_init_195 rfl rfl (Nat.le_of_ble_eq_true rfl) (by decide) rfl (Nat.le_of_ble_eq_true rfl) (Nat.le_of_ble_eq_true rfl) (fun E m' h => by obtain ⟨z, _⟩ := h; cases z) (fun v μ57 h => ?_)
  obtain ⟨h0, c57⟩ := h
  cases h0
  have b57 : Bd 0 96 516 (upr (upr (upr (upr (upr (upr (upr (upr (upr (upr (upr (upr (upr (upr (upr z0 0 (1 + 1)) 1 (3 + 1)) 2 (31 + 1)) 3 (59 + 1)) 4 (62 + 1)) 5 (65 + 1)) 6 (93 + 1)) 8 (96 + 1)) 11 (97 + 1)) 12 (105 + 1)) 13 (109 + 1)) 14 (113 + 1)) 15 (116 + 1)) 16 (121 + 1)) 17 (122 + 1)) (upr (upr (upr (upr (upr (upr (upr (upr (upr (upr (upr (upr (upr z0 0 (124 + 1)) 1 (152 + 1)) 2 (180 + 1)) 3 (208 + 1)) 4 (236 + 1)) 5 (264 + 1)) 6 (292 + 1)) 7 (320 + 1)) 8 (348 + 1)) 9 (376 + 1)) 10 (404 + 1)) 11 (432 + 1)) 12 (460 + 1)) zi μ μ57 := b56.call c57 (by omega)
  have jx_57 : μ57.2.2.1 1 = (upr (upr zi 2 (-1)) 6 (-1)) := (c57.lo b56.n (by omega)).trans jx_56
  have jm_57 : μ57.2.2.1 3 = (upr (upr zi 8 (nI 0)) 11 (nI 1)) := (c57.lo b56.n (by omega)).trans jm_56
  have jn_57 : μ57.2.2.1 4 = zi := (c57.lo b56.n (by omega)).trans jn_56
  have jo_57 : μ57.2.2.1 12 = w12 := (c57.lo b56.n (by omega)).trans jo_56
  have jl_57 : μ57.2.2.1 59 = (upr zi 0 (-1)) := (c57.lo b56.n (by omega)).trans jl_56
  show T _ _ _ _ _ _ _ _ 198 [some (.ref 0), some (.int (nI 13))] [.ref 488, .int (nI 13), .ref 96] μ57
  refine T_aast (pc := 198) (t := 1) (c := 9) (n := 16) (show KT 96 = (5, 16) by decide) (Or.inr ⟨rfl, rfl⟩) (show KT 488 = (0, 9) by decide) (by rw [b57.n]; omega) (by rw [b57.n]; omega) (vp_in_nI (e := 13) (by omega) (by omega)) dX11_init_198 ?_
  rw [nI_clamp (n := 13) (by omega)]
  have b58 : Bd 0 96 516 (upr (upr (upr (upr (upr (upr (upr (upr (upr (upr (upr (upr (upr (upr (upr z0 0 (1 + 1)) 1 (3 + 1)) 2 (31 + 1)) 3 (59 + 1)) 4 (62 + 1)) 5 (65 + 1)) 6 (93 + 1)) 8 (96 + 1)) 11 (97 + 1)) 12 (105 + 1)) 13 (109 + 1)) 14 (113 + 1)) 15 (116 + 1)) 16 (121 + 1)) 17 (122 + 1)) (upr (upr (upr (upr (upr (upr (upr (upr (upr (upr (upr (upr (upr (upr z0 0 (124 + 1)) 1 (152 + 1)) 2 (180 + 1)) 3 (208 + 1)) 4 (236 + 1)) 5 (264 + 1)) 6 (292 + 1)) 7 (320 + 1)) 8 (348 + 1)) 9 (376 + 1)) 10 (404 + 1)) 11 (432 + 1)) 12 (460 + 1)) 13 (488 + 1)) zi μ (mR μ57 96 13 (488 + 1)) := b57.ast (by omega)
  have jx_58 : (mR μ57 96 13 (488 + 1)).2.2.1 1 = (upr (upr zi 2 (-1)) 6 (-1)) := jx_57
  have jm_58 : (mR μ57 96 13 (488 + 1)).2.2.1 3 = (upr (upr zi 8 (nI 0)) 11 (nI 1)) := jm_57
  have jn_58 : (mR μ57 96 13 (488 + 1)).2.2.1 4 = zi := jn_57
  have jo_58 : (mR μ57 96 13 (488 + 1)).2.2.1 12 = w12 := jo_57
  have jl_58 : (mR μ57 96 13 (488 + 1)).2.2.1 59 = (upr zi 0 (-1)) := jl_57
  generalize mR μ57 96 13 (488 + 1) = μ58 at b58 jx_58 jm_58 jn_58 jo_58 jl_58 ⊢
  refine T_iinc (pc := 199) (i := 1) (v := nI 14) (ls' := [some (.ref 0), some (.int (nI 14))]) dX11_init_199 rfl (by decide) rfl ?_
  refine T_goto (pc := 202) (tgt := 180) dX11_init_202 (by decide) ?_
  refine T_iload_n (pc := 180) (i := 1) dX11_init_180 rfl rfl ?_
  refine T_bipush (pc := 181) (v := nI 16) dX11_init_181 (by decide) ?_
  refine T_icmp_ge (pc := 183) (tgt := 205) dX11_init_183 (by decide) (fun h => absurd h (by decide)) (fun _ => ?_)
  refine T_aload_n (pc := 186) (i := 0) dX11_init_186 rfl rfl ?_
  refine T_getR (pc := 187) (c := 11) (j := 8) (i := 96) fl_X11_42 rfl (show KT 0 = (0, 11) by decide) (by rw [b58.n]; omega) (by rw [b58.r]; rfl) dX11_init_187 ?_
  refine T_iload_n (pc := 190) (i := 1) dX11_init_190 rfl rfl ?_
  refine T_new (pc := 191) (c := 9) nw_X11_16 (by decide) (by rw [b58.n]; exact (show KT 516 = (0, 9) by decide)) (by rw [b58.n]; show _ < 595; omega) (Nat.le_of_ble_eq_true rfl) (Nat.le_of_ble_eq_true rfl) dX11_init_191 ?_
  rw [b58.n]
  refine T_dup (pc := 194) dX11_init_194 rfl ?_
  refine T_callI (pc := 195) (b := 516) (As := []) (rest := [.ref 516, .int (nI 14), .ref 96]) (Or.inl lk_X11_18) mk_X9_init rfl (i_X9 (show isTold 516 from memory_told (i := 14) (by decide)) (by omega) (by show μ58.1 + 1 = _; rw [b58.n]) (new_rz b58.n) (new_iz b58.n)) dX11_init_195 rfl rfl (Nat.le_of_ble_eq_true rfl) (by decide) rfl (Nat.le_of_ble_eq_true rfl) (Nat.le_of_ble_eq_true rfl) (fun E m' h => by obtain ⟨z, _⟩ := h; cases z) (fun v μ59 h => ?_)
  obtain ⟨h0, c59⟩ := h
  cases h0
  have b59 : Bd 0 96 544 (upr (upr (upr (upr (upr (upr (upr (upr (upr (upr (upr (upr (upr (upr (upr z0 0 (1 + 1)) 1 (3 + 1)) 2 (31 + 1)) 3 (59 + 1)) 4 (62 + 1)) 5 (65 + 1)) 6 (93 + 1)) 8 (96 + 1)) 11 (97 + 1)) 12 (105 + 1)) 13 (109 + 1)) 14 (113 + 1)) 15 (116 + 1)) 16 (121 + 1)) 17 (122 + 1)) (upr (upr (upr (upr (upr (upr (upr (upr (upr (upr (upr (upr (upr (upr z0 0 (124 + 1)) 1 (152 + 1)) 2 (180 + 1)) 3 (208 + 1)) 4 (236 + 1)) 5 (264 + 1)) 6 (292 + 1)) 7 (320 + 1)) 8 (348 + 1)) 9 (376 + 1)) 10 (404 + 1)) 11 (432 + 1)) 12 (460 + 1)) 13 (488 + 1)) zi μ μ59 := b58.call c59 (by omega)
  have jx_59 : μ59.2.2.1 1 = (upr (upr zi 2 (-1)) 6 (-1)) := (c59.lo b58.n (by omega)).trans jx_58
  have jm_59 : μ59.2.2.1 3 = (upr (upr zi 8 (nI 0)) 11 (nI 1)) := (c59.lo b58.n (by omega)).trans jm_58
  have jn_59 : μ59.2.2.1 4 = zi := (c59.lo b58.n (by omega)).trans jn_58
  have jo_59 : μ59.2.2.1 12 = w12 := (c59.lo b58.n (by omega)).trans jo_58
  have jl_59 : μ59.2.2.1 59 = (upr zi 0 (-1)) := (c59.lo b58.n (by omega)).trans jl_58
  show T _ _ _ _ _ _ _ _ 198 [some (.ref 0), some (.int (nI 14))] [.ref 516, .int (nI 14), .ref 96] μ59
  refine T_aast (pc := 198) (t := 1) (c := 9) (n := 16) (show KT 96 = (5, 16) by decide) (Or.inr ⟨rfl, rfl⟩) (show KT 516 = (0, 9) by decide) (by rw [b59.n]; omega) (by rw [b59.n]; omega) (vp_in_nI (e := 14) (by omega) (by omega)) dX11_init_198 ?_
  rw [nI_clamp (n := 14) (by omega)]
  have b60 : Bd 0 96 544 (upr (upr (upr (upr (upr (upr (upr (upr (upr (upr (upr (upr (upr (upr (upr z0 0 (1 + 1)) 1 (3 + 1)) 2 (31 + 1)) 3 (59 + 1)) 4 (62 + 1)) 5 (65 + 1)) 6 (93 + 1)) 8 (96 + 1)) 11 (97 + 1)) 12 (105 + 1)) 13 (109 + 1)) 14 (113 + 1)) 15 (116 + 1)) 16 (121 + 1)) 17 (122 + 1)) (upr (upr (upr (upr (upr (upr (upr (upr (upr (upr (upr (upr (upr (upr (upr z0 0 (124 + 1)) 1 (152 + 1)) 2 (180 + 1)) 3 (208 + 1)) 4 (236 + 1)) 5 (264 + 1)) 6 (292 + 1)) 7 (320 + 1)) 8 (348 + 1)) 9 (376 + 1)) 10 (404 + 1)) 11 (432 + 1)) 12 (460 + 1)) 13 (488 + 1)) 14 (516 + 1)) zi μ (mR μ59 96 14 (516 + 1)) := b59.ast (by omega)
  have jx_60 : (mR μ59 96 14 (516 + 1)).2.2.1 1 = (upr (upr zi 2 (-1)) 6 (-1)) := jx_59
  have jm_60 : (mR μ59 96 14 (516 + 1)).2.2.1 3 = (upr (upr zi 8 (nI 0)) 11 (nI 1)) := jm_59
  have jn_60 : (mR μ59 96 14 (516 + 1)).2.2.1 4 = zi := jn_59
  have jo_60 : (mR μ59 96 14 (516 + 1)).2.2.1 12 = w12 := jo_59
  have jl_60 : (mR μ59 96 14 (516 + 1)).2.2.1 59 = (upr zi 0 (-1)) := jl_59
  generalize mR μ59 96 14 (516 + 1) = μ60 at b60 jx_60 jm_60 jn_60 jo_60 jl_60 ⊢
  refine T_iinc (pc := 199) (i := 1) (v := nI 15) (ls' := [some (.ref 0), some (.int (nI 15))]) dX11_init_199 rfl (by decide) rfl ?_
  refine T_goto (pc := 202) (tgt := 180) dX11_init_202 (by decide) ?_
  refine T_iload_n (pc := 180) (i := 1) dX11_init_180 rfl rfl ?_
  refine T_bipush (pc := 181) (v := nI 16) dX11_init_181 (by decide) ?_
  refine T_icmp_ge (pc := 183) (tgt := 205) dX11_init_183 (by decide) (fun h => absurd h (by decide)) (fun _ => ?_)
  refine T_aload_n (pc := 186) (i := 0) dX11_init_186 rfl rfl ?_
  refine T_getR (pc := 187) (c := 11) (j := 8) (i := 96) fl_X11_42 rfl (show KT 0 = (0, 11) by decide) (by rw [b60.n]; omega) (by rw [b60.r]; rfl) dX11_init_187 ?_
  refine T_iload_n (pc := 190) (i := 1) dX11_init_190 rfl rfl ?_
  refine T_new (pc := 191) (c := 9) nw_X11_16 (by decide) (by rw [b60.n]; exact (show KT 544 = (0, 9) by decide)) (by rw [b60.n]; show _ < 595; omega) (Nat.le_of_ble_eq_true rfl) (Nat.le_of_ble_eq_true rfl) dX11_init_191 ?_
  rw [b60.n]
  refine T_dup (pc := 194) dX11_init_194 rfl ?_
  refine T_callI (pc := 195) (b := 544) (As := []) (rest := [.ref 544, .int (nI 15), .ref 96]) (Or.inl lk_X11_18) mk_X9_init rfl (i_X9 (show isTold 544 from memory_told (i := 15) (by decide)) (by omega) (by show μ60.1 + 1 = _; rw [b60.n]) (new_rz b60.n) (new_iz b60.n)) dX11_init_195 rfl rfl (Nat.le_of_ble_eq_true rfl) (by decide) rfl (Nat.le_of_ble_eq_true rfl) (Nat.le_of_ble_eq_true rfl) (fun E m' h => by obtain ⟨z, _⟩ := h; cases z) (fun v μ61 h => ?_)
  obtain ⟨h0, c61⟩ := h
  cases h0
  have b61 : Bd 0 96 572 (upr (upr (upr (upr (upr (upr (upr (upr (upr (upr (upr (upr (upr (upr (upr z0 0 (1 + 1)) 1 (3 + 1)) 2 (31 + 1)) 3 (59 + 1)) 4 (62 + 1)) 5 (65 + 1)) 6 (93 + 1)) 8 (96 + 1)) 11 (97 + 1)) 12 (105 + 1)) 13 (109 + 1)) 14 (113 + 1)) 15 (116 + 1)) 16 (121 + 1)) 17 (122 + 1)) (upr (upr (upr (upr (upr (upr (upr (upr (upr (upr (upr (upr (upr (upr (upr z0 0 (124 + 1)) 1 (152 + 1)) 2 (180 + 1)) 3 (208 + 1)) 4 (236 + 1)) 5 (264 + 1)) 6 (292 + 1)) 7 (320 + 1)) 8 (348 + 1)) 9 (376 + 1)) 10 (404 + 1)) 11 (432 + 1)) 12 (460 + 1)) 13 (488 + 1)) 14 (516 + 1)) zi μ μ61 := b60.call c61 (by omega)
  have jx_61 : μ61.2.2.1 1 = (upr (upr zi 2 (-1)) 6 (-1)) := (c61.lo b60.n (by omega)).trans jx_60
  have jm_61 : μ61.2.2.1 3 = (upr (upr zi 8 (nI 0)) 11 (nI 1)) := (c61.lo b60.n (by omega)).trans jm_60
  have jn_61 : μ61.2.2.1 4 = zi := (c61.lo b60.n (by omega)).trans jn_60
  have jo_61 : μ61.2.2.1 12 = w12 := (c61.lo b60.n (by omega)).trans jo_60
  have jl_61 : μ61.2.2.1 59 = (upr zi 0 (-1)) := (c61.lo b60.n (by omega)).trans jl_60
  show T _ _ _ _ _ _ _ _ 198 [some (.ref 0), some (.int (nI 15))] [.ref 544, .int (nI 15), .ref 96] μ61
  refine T_aast (pc := 198) (t := 1) (c := 9) (n := 16) (show KT 96 = (5, 16) by decide) (Or.inr ⟨rfl, rfl⟩) (show KT 544 = (0, 9) by decide) (by rw [b61.n]; omega) (by rw [b61.n]; omega) (vp_in_nI (e := 15) (by omega) (by omega)) dX11_init_198 ?_
  rw [nI_clamp (n := 15) (by omega)]
  have b62 : Bd 0 96 572 (upr (upr (upr (upr (upr (upr (upr (upr (upr (upr (upr (upr (upr (upr (upr z0 0 (1 + 1)) 1 (3 + 1)) 2 (31 + 1)) 3 (59 + 1)) 4 (62 + 1)) 5 (65 + 1)) 6 (93 + 1)) 8 (96 + 1)) 11 (97 + 1)) 12 (105 + 1)) 13 (109 + 1)) 14 (113 + 1)) 15 (116 + 1)) 16 (121 + 1)) 17 (122 + 1)) (upr (upr (upr (upr (upr (upr (upr (upr (upr (upr (upr (upr (upr (upr (upr (upr z0 0 (124 + 1)) 1 (152 + 1)) 2 (180 + 1)) 3 (208 + 1)) 4 (236 + 1)) 5 (264 + 1)) 6 (292 + 1)) 7 (320 + 1)) 8 (348 + 1)) 9 (376 + 1)) 10 (404 + 1)) 11 (432 + 1)) 12 (460 + 1)) 13 (488 + 1)) 14 (516 + 1)) 15 (544 + 1)) zi μ (mR μ61 96 15 (544 + 1)) := b61.ast (by omega)
  have jx_62 : (mR μ61 96 15 (544 + 1)).2.2.1 1 = (upr (upr zi 2 (-1)) 6 (-1)) := jx_61
  have jm_62 : (mR μ61 96 15 (544 + 1)).2.2.1 3 = (upr (upr zi 8 (nI 0)) 11 (nI 1)) := jm_61
  have jn_62 : (mR μ61 96 15 (544 + 1)).2.2.1 4 = zi := jn_61
  have jo_62 : (mR μ61 96 15 (544 + 1)).2.2.1 12 = w12 := jo_61
  have jl_62 : (mR μ61 96 15 (544 + 1)).2.2.1 59 = (upr zi 0 (-1)) := jl_61
  generalize mR μ61 96 15 (544 + 1) = μ62 at b62 jx_62 jm_62 jn_62 jo_62 jl_62 ⊢
  refine T_iinc (pc := 199) (i := 1) (v := nI 16) (ls' := [some (.ref 0), some (.int (nI 16))]) dX11_init_199 rfl (by decide) rfl ?_
  refine T_goto (pc := 202) (tgt := 180) dX11_init_202 (by decide) ?_
  refine T_iload_n (pc := 180) (i := 1) dX11_init_180 rfl rfl ?_
  refine T_bipush (pc := 181) (v := nI 16) dX11_init_181 (by decide) ?_
  refine T_icmp_ge (pc := 183) (tgt := 205) dX11_init_183 (by decide) (fun _ => ?_) (fun h => absurd (by decide) h)
  have hr : R0 0 = (upr (upr (upr (upr (upr (upr (upr (upr (upr (upr (upr (upr (upr (upr (upr z0 0 (1 + 1)) 1 (3 + 1)) 2 (31 + 1)) 3 (59 + 1)) 4 (62 + 1)) 5 (65 + 1)) 6 (93 + 1)) 8 (96 + 1)) 11 (97 + 1)) 12 (105 + 1)) 13 (109 + 1)) 14 (113 + 1)) 15 (116 + 1)) 16 (121 + 1)) 17 (122 + 1)) := by
    funext j
    show rt (KT 0) 0 j = _
    rw [(show KT 0 = (0, 11) by decide)]
    match j with
    | 0 => rfl
    | 1 => rfl
    | 2 => rfl
    | 3 => rfl
    | 4 => rfl
    | 5 => rfl
    | 6 => rfl
    | 7 => rfl
    | 8 => rfl
    | 9 => rfl
    | 10 => rfl
    | 11 => rfl
    | 12 => rfl
    | 13 => rfl
    | 14 => rfl
    | 15 => rfl
    | 16 => rfl
    | 17 => rfl
    | q + 18 => (simp only [upr]; rw [if_neg (by omega), if_neg (by omega), if_neg (by omega), if_neg (by omega), if_neg (by omega), if_neg (by omega), if_neg (by omega), if_neg (by omega), if_neg (by omega), if_neg (by omega), if_neg (by omega), if_neg (by omega), if_neg (by omega), if_neg (by omega), if_neg (by omega)] <;> rfl)
  have ha : R0 96 = (upr (upr (upr (upr (upr (upr (upr (upr (upr (upr (upr (upr (upr (upr (upr (upr z0 0 (124 + 1)) 1 (152 + 1)) 2 (180 + 1)) 3 (208 + 1)) 4 (236 + 1)) 5 (264 + 1)) 6 (292 + 1)) 7 (320 + 1)) 8 (348 + 1)) 9 (376 + 1)) 10 (404 + 1)) 11 (432 + 1)) 12 (460 + 1)) 13 (488 + 1)) 14 (516 + 1)) 15 (544 + 1)) := by
    funext j
    show rt (KT 96) 96 j = _
    rw [show KT 96 = (5, 16) from (show KT 96 = (5, 16) by decide)]
    match j with
    | 0 => rfl
    | 1 => rfl
    | 2 => rfl
    | 3 => rfl
    | 4 => rfl
    | 5 => rfl
    | 6 => rfl
    | 7 => rfl
    | 8 => rfl
    | 9 => rfl
    | 10 => rfl
    | 11 => rfl
    | 12 => rfl
    | 13 => rfl
    | 14 => rfl
    | 15 => rfl
    | q + 16 => (simp only [upr]; rw [if_neg (by omega), if_neg (by omega), if_neg (by omega), if_neg (by omega), if_neg (by omega), if_neg (by omega), if_neg (by omega), if_neg (by omega), if_neg (by omega), if_neg (by omega), if_neg (by omega), if_neg (by omega), if_neg (by omega), if_neg (by omega), if_neg (by omega), if_neg (by omega)]; show (if q + 16 < 16 then _ else 0) = 0; rw [if_neg (by omega)])
  exact T_vret (pc := 205) dX11_init_205 rfl (Nat.le_of_ble_eq_true rfl) (Nat.le_of_ble_eq_true rfl) ⟨rfl, b62.done hr (fun h => ha) ⟨b62.i, jx_62, jm_62, jn_62, jl_62, fun j hj => by rw [jo_62]; exact w12p j hj⟩⟩
theorem i_X12 {μ : SMem} (h1 : μ.1 = 573) (h2 : μ.2.1 572 = z0) (h3 : μ.2.2.1 572 = zi) : Ex γ 1 21 24415 M_X12_init [.ref 572] μ (Ci 572 594 μ (fun I => I 572 = upr zi 13 (-1) ∧ I 573 = upr (upr (upr (upr (upr (upr (upr (upr (upr zi 8 (nI 1)) 9 (nI 1)) 10 (nI 1)) 11 (nI 1)) 12 (nI 1)) 13 (nI 1)) 14 (nI 1)) 15 (nI 1)) 16 (nI 1))) := by
  refine Ex.of (by decide +kernel) rfl (Nat.le_of_ble_eq_true rfl) ?_
  show T _ _ _ _ _ _ _ _ 0 [some (.ref 572), none] [] μ
  have b0 : Bd 572 572 573 z0 z0 zi μ μ := Bd.start h1 h2 h3
  refine T_aload_n (pc := 0) (i := 0) dX12_init_0 rfl rfl ?_
  refine T_objInit (pc := 1) oi_X12_23 (Nat.le_of_ble_eq_true rfl) dX12_init_1 ?_
  refine T_aload_n (pc := 4) (i := 0) dX12_init_4 rfl rfl ?_
  refine T_sipush (pc := 5) (v := nI 1989) dX12_init_5 (by decide) ?_
  refine T_newa (pc := 8) (at9 := .int) (t := 1) (N := 1989) ac_int (Or.inl ⟨rfl, rfl⟩) (nI_pos (by omega)) (nI_clamp (by omega)) (by decide) (by rw [b0.n]; exact (show KT 573 = (1, 1989) by decide)) (by rw [b0.n]; show _ < 595; omega) (Nat.le_of_ble_eq_true rfl) (Nat.le_of_ble_eq_true rfl) dX12_init_8 ?_
  rw [b0.n]
  have b1 : Bd 572 572 574 z0 z0 zi μ (mNew μ) := b0.newp (R0_arr (t := 1) (N := 1989) (show KT 573 = (1, 1989) by decide) (by decide))
  have jt_1 : (mNew μ).2.2.1 573 = zi := new_iz b0.n
  generalize mNew μ = μ1 at b1 jt_1 ⊢
  refine T_putR (pc := 10) (c := 12) (j := 1) fl_X12_29 ⟨rfl, rfl⟩ ⟨rfl, rfl⟩ (fun q => ⟨rfl, rfl⟩) (show KT 572 = (0, 12) by decide) (by rw [b1.n]; omega) dX12_init_10 ?_
  have b2 : Bd 572 572 574 (upr z0 1 (573 + 1)) z0 zi μ (mR μ1 572 1 (573 + 1)) := b1.putR
  have jt_2 : (mR μ1 572 1 (573 + 1)).2.2.1 573 = zi := jt_1
  generalize mR μ1 572 1 (573 + 1) = μ2 at b2 jt_2 ⊢
  refine T_aload_n (pc := 13) (i := 0) dX12_init_13 rfl rfl ?_
  refine T_sipush (pc := 14) (v := nI 1164) dX12_init_14 (by decide) ?_
  refine T_newa (pc := 17) (at9 := .int) (t := 1) (N := 1164) ac_int (Or.inl ⟨rfl, rfl⟩) (nI_pos (by omega)) (nI_clamp (by omega)) (by decide) (by rw [b2.n]; exact (show KT 574 = (1, 1164) by decide)) (by rw [b2.n]; show _ < 595; omega) (Nat.le_of_ble_eq_true rfl) (Nat.le_of_ble_eq_true rfl) dX12_init_17 ?_
  rw [b2.n]
  have b3 : Bd 572 572 575 (upr z0 1 (573 + 1)) z0 zi μ (mNew μ2) := b2.newp (R0_arr (t := 1) (N := 1164) (show KT 574 = (1, 1164) by decide) (by decide))
  have jt_3 : (mNew μ2).2.2.1 573 = zi := (new_i (by rw [b2.n]; omega)).trans jt_2
  generalize mNew μ2 = μ3 at b3 jt_3 ⊢
  refine T_putR (pc := 19) (c := 12) (j := 2) fl_X12_33 ⟨rfl, rfl⟩ ⟨rfl, rfl⟩ (fun q => ⟨rfl, rfl⟩) (show KT 572 = (0, 12) by decide) (by rw [b3.n]; omega) dX12_init_19 ?_
  have b4 : Bd 572 572 575 (upr (upr z0 1 (573 + 1)) 2 (574 + 1)) z0 zi μ (mR μ3 572 2 (574 + 1)) := b3.putR
  have jt_4 : (mR μ3 572 2 (574 + 1)).2.2.1 573 = zi := jt_3
  generalize mR μ3 572 2 (574 + 1) = μ4 at b4 jt_4 ⊢
  refine T_aload_n (pc := 22) (i := 0) dX12_init_22 rfl rfl ?_
  refine T_sipush (pc := 23) (v := nI 1164) dX12_init_23 (by decide) ?_
  refine T_newa (pc := 26) (at9 := .int) (t := 1) (N := 1164) ac_int (Or.inl ⟨rfl, rfl⟩) (nI_pos (by omega)) (nI_clamp (by omega)) (by decide) (by rw [b4.n]; exact (show KT 575 = (1, 1164) by decide)) (by rw [b4.n]; show _ < 595; omega) (Nat.le_of_ble_eq_true rfl) (Nat.le_of_ble_eq_true rfl) dX12_init_26 ?_
  rw [b4.n]
  have b5 : Bd 572 572 576 (upr (upr z0 1 (573 + 1)) 2 (574 + 1)) z0 zi μ (mNew μ4) := b4.newp (R0_arr (t := 1) (N := 1164) (show KT 575 = (1, 1164) by decide) (by decide))
  have jt_5 : (mNew μ4).2.2.1 573 = zi := (new_i (by rw [b4.n]; omega)).trans jt_4
  generalize mNew μ4 = μ5 at b5 jt_5 ⊢
  refine T_putR (pc := 28) (c := 12) (j := 3) fl_X12_36 ⟨rfl, rfl⟩ ⟨rfl, rfl⟩ (fun q => ⟨rfl, rfl⟩) (show KT 572 = (0, 12) by decide) (by rw [b5.n]; omega) dX12_init_28 ?_
  have b6 : Bd 572 572 576 (upr (upr (upr z0 1 (573 + 1)) 2 (574 + 1)) 3 (575 + 1)) z0 zi μ (mR μ5 572 3 (575 + 1)) := b5.putR
  have jt_6 : (mR μ5 572 3 (575 + 1)).2.2.1 573 = zi := jt_5
  generalize mR μ5 572 3 (575 + 1) = μ6 at b6 jt_6 ⊢
  refine T_aload_n (pc := 31) (i := 0) dX12_init_31 rfl rfl ?_
  refine T_sipush (pc := 32) (v := nI 5424) dX12_init_32 (by decide) ?_
  refine T_newa (pc := 35) (at9 := .int) (t := 1) (N := 5424) ac_int (Or.inl ⟨rfl, rfl⟩) (nI_pos (by omega)) (nI_clamp (by omega)) (by decide) (by rw [b6.n]; exact (show KT 576 = (1, 5424) by decide)) (by rw [b6.n]; show _ < 595; omega) (Nat.le_of_ble_eq_true rfl) (Nat.le_of_ble_eq_true rfl) dX12_init_35 ?_
  rw [b6.n]
  have b7 : Bd 572 572 577 (upr (upr (upr z0 1 (573 + 1)) 2 (574 + 1)) 3 (575 + 1)) z0 zi μ (mNew μ6) := b6.newp (R0_arr (t := 1) (N := 5424) (show KT 576 = (1, 5424) by decide) (by decide))
  have jt_7 : (mNew μ6).2.2.1 573 = zi := (new_i (by rw [b6.n]; omega)).trans jt_6
  generalize mNew μ6 = μ7 at b7 jt_7 ⊢
  refine T_putR (pc := 37) (c := 12) (j := 4) fl_X12_39 ⟨rfl, rfl⟩ ⟨rfl, rfl⟩ (fun q => ⟨rfl, rfl⟩) (show KT 572 = (0, 12) by decide) (by rw [b7.n]; omega) dX12_init_37 ?_
  have b8 : Bd 572 572 577 (upr (upr (upr (upr z0 1 (573 + 1)) 2 (574 + 1)) 3 (575 + 1)) 4 (576 + 1)) z0 zi μ (mR μ7 572 4 (576 + 1)) := b7.putR
  have jt_8 : (mR μ7 572 4 (576 + 1)).2.2.1 573 = zi := jt_7
  generalize mR μ7 572 4 (576 + 1) = μ8 at b8 jt_8 ⊢
  refine T_aload_n (pc := 40) (i := 0) dX12_init_40 rfl rfl ?_
  refine T_sipush (pc := 41) (v := nI 400) dX12_init_41 (by decide) ?_
  refine T_newa (pc := 44) (at9 := .byte) (t := 3) (N := 400) ac_byte (Or.inr (Or.inr ⟨rfl, rfl⟩)) (nI_pos (by omega)) (nI_clamp (by omega)) (by decide) (by rw [b8.n]; exact (show KT 577 = (3, 400) by decide)) (by rw [b8.n]; show _ < 595; omega) (Nat.le_of_ble_eq_true rfl) (Nat.le_of_ble_eq_true rfl) dX12_init_44 ?_
  rw [b8.n]
  have b9 : Bd 572 572 578 (upr (upr (upr (upr z0 1 (573 + 1)) 2 (574 + 1)) 3 (575 + 1)) 4 (576 + 1)) z0 zi μ (mNew μ8) := b8.newp (R0_arr (t := 3) (N := 400) (show KT 577 = (3, 400) by decide) (by decide))
  have jt_9 : (mNew μ8).2.2.1 573 = zi := (new_i (by rw [b8.n]; omega)).trans jt_8
  generalize mNew μ8 = μ9 at b9 jt_9 ⊢
  refine T_putR (pc := 46) (c := 12) (j := 7) fl_X12_42 ⟨rfl, rfl⟩ ⟨rfl, rfl⟩ (fun q => ⟨rfl, rfl⟩) (show KT 572 = (0, 12) by decide) (by rw [b9.n]; omega) dX12_init_46 ?_
  have b10 : Bd 572 572 578 (upr (upr (upr (upr (upr z0 1 (573 + 1)) 2 (574 + 1)) 3 (575 + 1)) 4 (576 + 1)) 7 (577 + 1)) z0 zi μ (mR μ9 572 7 (577 + 1)) := b9.putR
  have jt_10 : (mR μ9 572 7 (577 + 1)).2.2.1 573 = zi := jt_9
  generalize mR μ9 572 7 (577 + 1) = μ10 at b10 jt_10 ⊢
  refine T_aload_n (pc := 49) (i := 0) dX12_init_49 rfl rfl ?_
  refine T_iconst (pc := 50) (v := (-1)) dX12_init_50 (by decide) ?_
  refine T_putI (pc := 51) (c := 12) (j := 13) fl_X12_46 ⟨rfl, rfl⟩ (Or.inl rfl) (show KT 572 = (0, 12) by decide) (by rw [b10.n]; omega) dX12_init_51 ?_
  have b11 : Bd 572 572 578 (upr (upr (upr (upr (upr z0 1 (573 + 1)) 2 (574 + 1)) 3 (575 + 1)) 4 (576 + 1)) 7 (577 + 1)) z0 (upr zi 13 (-1)) μ (mI μ10 572 13 (-1)) := b10.putI
  have jt_11 : (mI μ10 572 13 (-1)).2.2.1 573 = zi := (up2_ne (by omega)).trans jt_10
  generalize mI μ10 572 13 (-1) = μ11 at b11 jt_11 ⊢
  refine T_aload_n (pc := 54) (i := 0) dX12_init_54 rfl rfl ?_
  refine T_iconst (pc := 55) (v := nI 5) dX12_init_55 (by decide) ?_
  refine T_newa (pc := 56) (at9 := .int) (t := 1) (N := 5) ac_int (Or.inl ⟨rfl, rfl⟩) (nI_pos (by omega)) (nI_clamp (by omega)) (by decide) (by rw [b11.n]; exact (show KT 578 = (1, 5) by decide)) (by rw [b11.n]; show _ < 595; omega) (Nat.le_of_ble_eq_true rfl) (Nat.le_of_ble_eq_true rfl) dX12_init_56 ?_
  rw [b11.n]
  have b12 : Bd 572 572 579 (upr (upr (upr (upr (upr z0 1 (573 + 1)) 2 (574 + 1)) 3 (575 + 1)) 4 (576 + 1)) 7 (577 + 1)) z0 (upr zi 13 (-1)) μ (mNew μ11) := b11.newp (R0_arr (t := 1) (N := 5) (show KT 578 = (1, 5) by decide) (by decide))
  have jt_12 : (mNew μ11).2.2.1 573 = zi := (new_i (by rw [b11.n]; omega)).trans jt_11
  generalize mNew μ11 = μ12 at b12 jt_12 ⊢
  refine T_putR (pc := 58) (c := 12) (j := 14) fl_X12_49 ⟨rfl, rfl⟩ ⟨rfl, rfl⟩ (fun q => ⟨rfl, rfl⟩) (show KT 572 = (0, 12) by decide) (by rw [b12.n]; omega) dX12_init_58 ?_
  have b13 : Bd 572 572 579 (upr (upr (upr (upr (upr (upr z0 1 (573 + 1)) 2 (574 + 1)) 3 (575 + 1)) 4 (576 + 1)) 7 (577 + 1)) 14 (578 + 1)) z0 (upr zi 13 (-1)) μ (mR μ12 572 14 (578 + 1)) := b12.putR
  have jt_13 : (mR μ12 572 14 (578 + 1)).2.2.1 573 = zi := jt_12
  generalize mR μ12 572 14 (578 + 1) = μ13 at b13 jt_13 ⊢
  refine T_aload_n (pc := 61) (i := 0) dX12_init_61 rfl rfl ?_
  refine T_sipush (pc := 62) (v := nI 400) dX12_init_62 (by decide) ?_
  refine T_newa (pc := 65) (at9 := .int) (t := 1) (N := 400) ac_int (Or.inl ⟨rfl, rfl⟩) (nI_pos (by omega)) (nI_clamp (by omega)) (by decide) (by rw [b13.n]; exact (show KT 579 = (1, 400) by decide)) (by rw [b13.n]; show _ < 595; omega) (Nat.le_of_ble_eq_true rfl) (Nat.le_of_ble_eq_true rfl) dX12_init_65 ?_
  rw [b13.n]
  have b14 : Bd 572 572 580 (upr (upr (upr (upr (upr (upr z0 1 (573 + 1)) 2 (574 + 1)) 3 (575 + 1)) 4 (576 + 1)) 7 (577 + 1)) 14 (578 + 1)) z0 (upr zi 13 (-1)) μ (mNew μ13) := b13.newp (R0_arr (t := 1) (N := 400) (show KT 579 = (1, 400) by decide) (by decide))
  have jt_14 : (mNew μ13).2.2.1 573 = zi := (new_i (by rw [b13.n]; omega)).trans jt_13
  generalize mNew μ13 = μ14 at b14 jt_14 ⊢
  refine T_putR (pc := 67) (c := 12) (j := 18) fl_X12_52 ⟨rfl, rfl⟩ ⟨rfl, rfl⟩ (fun q => ⟨rfl, rfl⟩) (show KT 572 = (0, 12) by decide) (by rw [b14.n]; omega) dX12_init_67 ?_
  have b15 : Bd 572 572 580 (upr (upr (upr (upr (upr (upr (upr z0 1 (573 + 1)) 2 (574 + 1)) 3 (575 + 1)) 4 (576 + 1)) 7 (577 + 1)) 14 (578 + 1)) 18 (579 + 1)) z0 (upr zi 13 (-1)) μ (mR μ14 572 18 (579 + 1)) := b14.putR
  have jt_15 : (mR μ14 572 18 (579 + 1)).2.2.1 573 = zi := jt_14
  generalize mR μ14 572 18 (579 + 1) = μ15 at b15 jt_15 ⊢
  refine T_aload_n (pc := 70) (i := 0) dX12_init_70 rfl rfl ?_
  refine T_bipush (pc := 71) (v := nI 40) dX12_init_71 (by decide) ?_
  refine T_newa (pc := 73) (at9 := .int) (t := 1) (N := 40) ac_int (Or.inl ⟨rfl, rfl⟩) (nI_pos (by omega)) (nI_clamp (by omega)) (by decide) (by rw [b15.n]; exact (show KT 580 = (1, 40) by decide)) (by rw [b15.n]; show _ < 595; omega) (Nat.le_of_ble_eq_true rfl) (Nat.le_of_ble_eq_true rfl) dX12_init_73 ?_
  rw [b15.n]
  have b16 : Bd 572 572 581 (upr (upr (upr (upr (upr (upr (upr z0 1 (573 + 1)) 2 (574 + 1)) 3 (575 + 1)) 4 (576 + 1)) 7 (577 + 1)) 14 (578 + 1)) 18 (579 + 1)) z0 (upr zi 13 (-1)) μ (mNew μ15) := b15.newp (R0_arr (t := 1) (N := 40) (show KT 580 = (1, 40) by decide) (by decide))
  have jt_16 : (mNew μ15).2.2.1 573 = zi := (new_i (by rw [b15.n]; omega)).trans jt_15
  generalize mNew μ15 = μ16 at b16 jt_16 ⊢
  refine T_putR (pc := 75) (c := 12) (j := 23) fl_X12_55 ⟨rfl, rfl⟩ ⟨rfl, rfl⟩ (fun q => ⟨rfl, rfl⟩) (show KT 572 = (0, 12) by decide) (by rw [b16.n]; omega) dX12_init_75 ?_
  have b17 : Bd 572 572 581 (upr (upr (upr (upr (upr (upr (upr (upr z0 1 (573 + 1)) 2 (574 + 1)) 3 (575 + 1)) 4 (576 + 1)) 7 (577 + 1)) 14 (578 + 1)) 18 (579 + 1)) 23 (580 + 1)) z0 (upr zi 13 (-1)) μ (mR μ16 572 23 (580 + 1)) := b16.putR
  have jt_17 : (mR μ16 572 23 (580 + 1)).2.2.1 573 = zi := jt_16
  generalize mR μ16 572 23 (580 + 1) = μ17 at b17 jt_17 ⊢
  refine T_aload_n (pc := 78) (i := 0) dX12_init_78 rfl rfl ?_
  refine T_sipush (pc := 79) (v := nI 501) dX12_init_79 (by decide) ?_
  refine T_newa (pc := 82) (at9 := .long) (t := 2) (N := 501) ac_long (Or.inr (Or.inl ⟨rfl, rfl⟩)) (nI_pos (by omega)) (nI_clamp (by omega)) (by decide) (by rw [b17.n]; exact (show KT 581 = (2, 501) by decide)) (by rw [b17.n]; show _ < 595; omega) (Nat.le_of_ble_eq_true rfl) (Nat.le_of_ble_eq_true rfl) dX12_init_82 ?_
  rw [b17.n]
  have b18 : Bd 572 572 582 (upr (upr (upr (upr (upr (upr (upr (upr z0 1 (573 + 1)) 2 (574 + 1)) 3 (575 + 1)) 4 (576 + 1)) 7 (577 + 1)) 14 (578 + 1)) 18 (579 + 1)) 23 (580 + 1)) z0 (upr zi 13 (-1)) μ (mNew μ17) := b17.newp (R0_arr (t := 2) (N := 501) (show KT 581 = (2, 501) by decide) (by decide))
  have jt_18 : (mNew μ17).2.2.1 573 = zi := (new_i (by rw [b17.n]; omega)).trans jt_17
  generalize mNew μ17 = μ18 at b18 jt_18 ⊢
  refine T_putR (pc := 84) (c := 12) (j := 25) fl_X12_58 ⟨rfl, rfl⟩ ⟨rfl, rfl⟩ (fun q => ⟨rfl, rfl⟩) (show KT 572 = (0, 12) by decide) (by rw [b18.n]; omega) dX12_init_84 ?_
  have b19 : Bd 572 572 582 (upr (upr (upr (upr (upr (upr (upr (upr (upr z0 1 (573 + 1)) 2 (574 + 1)) 3 (575 + 1)) 4 (576 + 1)) 7 (577 + 1)) 14 (578 + 1)) 18 (579 + 1)) 23 (580 + 1)) 25 (581 + 1)) z0 (upr zi 13 (-1)) μ (mR μ18 572 25 (581 + 1)) := b18.putR
  have jt_19 : (mR μ18 572 25 (581 + 1)).2.2.1 573 = zi := jt_18
  generalize mR μ18 572 25 (581 + 1) = μ19 at b19 jt_19 ⊢
  refine T_aload_n (pc := 87) (i := 0) dX12_init_87 rfl rfl ?_
  refine T_sipush (pc := 88) (v := nI 1501) dX12_init_88 (by decide) ?_
  refine T_newa (pc := 91) (at9 := .long) (t := 2) (N := 1501) ac_long (Or.inr (Or.inl ⟨rfl, rfl⟩)) (nI_pos (by omega)) (nI_clamp (by omega)) (by decide) (by rw [b19.n]; exact (show KT 582 = (2, 1501) by decide)) (by rw [b19.n]; show _ < 595; omega) (Nat.le_of_ble_eq_true rfl) (Nat.le_of_ble_eq_true rfl) dX12_init_91 ?_
  rw [b19.n]
  have b20 : Bd 572 572 583 (upr (upr (upr (upr (upr (upr (upr (upr (upr z0 1 (573 + 1)) 2 (574 + 1)) 3 (575 + 1)) 4 (576 + 1)) 7 (577 + 1)) 14 (578 + 1)) 18 (579 + 1)) 23 (580 + 1)) 25 (581 + 1)) z0 (upr zi 13 (-1)) μ (mNew μ19) := b19.newp (R0_arr (t := 2) (N := 1501) (show KT 582 = (2, 1501) by decide) (by decide))
  have jt_20 : (mNew μ19).2.2.1 573 = zi := (new_i (by rw [b19.n]; omega)).trans jt_19
  generalize mNew μ19 = μ20 at b20 jt_20 ⊢
  refine T_putR (pc := 93) (c := 12) (j := 26) fl_X12_62 ⟨rfl, rfl⟩ ⟨rfl, rfl⟩ (fun q => ⟨rfl, rfl⟩) (show KT 572 = (0, 12) by decide) (by rw [b20.n]; omega) dX12_init_93 ?_
  have b21 : Bd 572 572 583 (upr (upr (upr (upr (upr (upr (upr (upr (upr (upr z0 1 (573 + 1)) 2 (574 + 1)) 3 (575 + 1)) 4 (576 + 1)) 7 (577 + 1)) 14 (578 + 1)) 18 (579 + 1)) 23 (580 + 1)) 25 (581 + 1)) 26 (582 + 1)) z0 (upr zi 13 (-1)) μ (mR μ20 572 26 (582 + 1)) := b20.putR
  have jt_21 : (mR μ20 572 26 (582 + 1)).2.2.1 573 = zi := jt_20
  generalize mR μ20 572 26 (582 + 1) = μ21 at b21 jt_21 ⊢
  refine T_aload_n (pc := 96) (i := 0) dX12_init_96 rfl rfl ?_
  refine T_sipush (pc := 97) (v := nI 1501) dX12_init_97 (by decide) ?_
  refine T_newa (pc := 100) (at9 := .int) (t := 1) (N := 1501) ac_int (Or.inl ⟨rfl, rfl⟩) (nI_pos (by omega)) (nI_clamp (by omega)) (by decide) (by rw [b21.n]; exact (show KT 583 = (1, 1501) by decide)) (by rw [b21.n]; show _ < 595; omega) (Nat.le_of_ble_eq_true rfl) (Nat.le_of_ble_eq_true rfl) dX12_init_100 ?_
  rw [b21.n]
  have b22 : Bd 572 572 584 (upr (upr (upr (upr (upr (upr (upr (upr (upr (upr z0 1 (573 + 1)) 2 (574 + 1)) 3 (575 + 1)) 4 (576 + 1)) 7 (577 + 1)) 14 (578 + 1)) 18 (579 + 1)) 23 (580 + 1)) 25 (581 + 1)) 26 (582 + 1)) z0 (upr zi 13 (-1)) μ (mNew μ21) := b21.newp (R0_arr (t := 1) (N := 1501) (show KT 583 = (1, 1501) by decide) (by decide))
  have jt_22 : (mNew μ21).2.2.1 573 = zi := (new_i (by rw [b21.n]; omega)).trans jt_21
  generalize mNew μ21 = μ22 at b22 jt_22 ⊢
  refine T_putR (pc := 102) (c := 12) (j := 27) fl_X12_65 ⟨rfl, rfl⟩ ⟨rfl, rfl⟩ (fun q => ⟨rfl, rfl⟩) (show KT 572 = (0, 12) by decide) (by rw [b22.n]; omega) dX12_init_102 ?_
  have b23 : Bd 572 572 584 (upr (upr (upr (upr (upr (upr (upr (upr (upr (upr (upr z0 1 (573 + 1)) 2 (574 + 1)) 3 (575 + 1)) 4 (576 + 1)) 7 (577 + 1)) 14 (578 + 1)) 18 (579 + 1)) 23 (580 + 1)) 25 (581 + 1)) 26 (582 + 1)) 27 (583 + 1)) z0 (upr zi 13 (-1)) μ (mR μ22 572 27 (583 + 1)) := b22.putR
  have jt_23 : (mR μ22 572 27 (583 + 1)).2.2.1 573 = zi := jt_22
  generalize mR μ22 572 27 (583 + 1) = μ23 at b23 jt_23 ⊢
  refine T_aload_n (pc := 105) (i := 0) dX12_init_105 rfl rfl ?_
  refine T_sipush (pc := 106) (v := nI 4096) dX12_init_106 (by decide) ?_
  refine T_newa (pc := 109) (at9 := .int) (t := 1) (N := 4096) ac_int (Or.inl ⟨rfl, rfl⟩) (nI_pos (by omega)) (nI_clamp (by omega)) (by decide) (by rw [b23.n]; exact (show KT 584 = (1, 4096) by decide)) (by rw [b23.n]; show _ < 595; omega) (Nat.le_of_ble_eq_true rfl) (Nat.le_of_ble_eq_true rfl) dX12_init_109 ?_
  rw [b23.n]
  have b24 : Bd 572 572 585 (upr (upr (upr (upr (upr (upr (upr (upr (upr (upr (upr z0 1 (573 + 1)) 2 (574 + 1)) 3 (575 + 1)) 4 (576 + 1)) 7 (577 + 1)) 14 (578 + 1)) 18 (579 + 1)) 23 (580 + 1)) 25 (581 + 1)) 26 (582 + 1)) 27 (583 + 1)) z0 (upr zi 13 (-1)) μ (mNew μ23) := b23.newp (R0_arr (t := 1) (N := 4096) (show KT 584 = (1, 4096) by decide) (by decide))
  have jt_24 : (mNew μ23).2.2.1 573 = zi := (new_i (by rw [b23.n]; omega)).trans jt_23
  generalize mNew μ23 = μ24 at b24 jt_24 ⊢
  refine T_putR (pc := 111) (c := 12) (j := 28) fl_X12_68 ⟨rfl, rfl⟩ ⟨rfl, rfl⟩ (fun q => ⟨rfl, rfl⟩) (show KT 572 = (0, 12) by decide) (by rw [b24.n]; omega) dX12_init_111 ?_
  have b25 : Bd 572 572 585 (upr (upr (upr (upr (upr (upr (upr (upr (upr (upr (upr (upr z0 1 (573 + 1)) 2 (574 + 1)) 3 (575 + 1)) 4 (576 + 1)) 7 (577 + 1)) 14 (578 + 1)) 18 (579 + 1)) 23 (580 + 1)) 25 (581 + 1)) 26 (582 + 1)) 27 (583 + 1)) 28 (584 + 1)) z0 (upr zi 13 (-1)) μ (mR μ24 572 28 (584 + 1)) := b24.putR
  have jt_25 : (mR μ24 572 28 (584 + 1)).2.2.1 573 = zi := jt_24
  generalize mR μ24 572 28 (584 + 1) = μ25 at b25 jt_25 ⊢
  refine T_aload_n (pc := 114) (i := 0) dX12_init_114 rfl rfl ?_
  refine T_sipush (pc := 115) (v := nI 1501) dX12_init_115 (by decide) ?_
  refine T_newa (pc := 118) (at9 := .long) (t := 2) (N := 1501) ac_long (Or.inr (Or.inl ⟨rfl, rfl⟩)) (nI_pos (by omega)) (nI_clamp (by omega)) (by decide) (by rw [b25.n]; exact (show KT 585 = (2, 1501) by decide)) (by rw [b25.n]; show _ < 595; omega) (Nat.le_of_ble_eq_true rfl) (Nat.le_of_ble_eq_true rfl) dX12_init_118 ?_
  rw [b25.n]
  have b26 : Bd 572 572 586 (upr (upr (upr (upr (upr (upr (upr (upr (upr (upr (upr (upr z0 1 (573 + 1)) 2 (574 + 1)) 3 (575 + 1)) 4 (576 + 1)) 7 (577 + 1)) 14 (578 + 1)) 18 (579 + 1)) 23 (580 + 1)) 25 (581 + 1)) 26 (582 + 1)) 27 (583 + 1)) 28 (584 + 1)) z0 (upr zi 13 (-1)) μ (mNew μ25) := b25.newp (R0_arr (t := 2) (N := 1501) (show KT 585 = (2, 1501) by decide) (by decide))
  have jt_26 : (mNew μ25).2.2.1 573 = zi := (new_i (by rw [b25.n]; omega)).trans jt_25
  generalize mNew μ25 = μ26 at b26 jt_26 ⊢
  refine T_putR (pc := 120) (c := 12) (j := 30) fl_X12_71 ⟨rfl, rfl⟩ ⟨rfl, rfl⟩ (fun q => ⟨rfl, rfl⟩) (show KT 572 = (0, 12) by decide) (by rw [b26.n]; omega) dX12_init_120 ?_
  have b27 : Bd 572 572 586 (upr (upr (upr (upr (upr (upr (upr (upr (upr (upr (upr (upr (upr z0 1 (573 + 1)) 2 (574 + 1)) 3 (575 + 1)) 4 (576 + 1)) 7 (577 + 1)) 14 (578 + 1)) 18 (579 + 1)) 23 (580 + 1)) 25 (581 + 1)) 26 (582 + 1)) 27 (583 + 1)) 28 (584 + 1)) 30 (585 + 1)) z0 (upr zi 13 (-1)) μ (mR μ26 572 30 (585 + 1)) := b26.putR
  have jt_27 : (mR μ26 572 30 (585 + 1)).2.2.1 573 = zi := jt_26
  generalize mR μ26 572 30 (585 + 1) = μ27 at b27 jt_27 ⊢
  refine T_aload_n (pc := 123) (i := 0) dX12_init_123 rfl rfl ?_
  refine T_sipush (pc := 124) (v := nI 1501) dX12_init_124 (by decide) ?_
  refine T_newa (pc := 127) (at9 := .int) (t := 1) (N := 1501) ac_int (Or.inl ⟨rfl, rfl⟩) (nI_pos (by omega)) (nI_clamp (by omega)) (by decide) (by rw [b27.n]; exact (show KT 586 = (1, 1501) by decide)) (by rw [b27.n]; show _ < 595; omega) (Nat.le_of_ble_eq_true rfl) (Nat.le_of_ble_eq_true rfl) dX12_init_127 ?_
  rw [b27.n]
  have b28 : Bd 572 572 587 (upr (upr (upr (upr (upr (upr (upr (upr (upr (upr (upr (upr (upr z0 1 (573 + 1)) 2 (574 + 1)) 3 (575 + 1)) 4 (576 + 1)) 7 (577 + 1)) 14 (578 + 1)) 18 (579 + 1)) 23 (580 + 1)) 25 (581 + 1)) 26 (582 + 1)) 27 (583 + 1)) 28 (584 + 1)) 30 (585 + 1)) z0 (upr zi 13 (-1)) μ (mNew μ27) := b27.newp (R0_arr (t := 1) (N := 1501) (show KT 586 = (1, 1501) by decide) (by decide))
  have jt_28 : (mNew μ27).2.2.1 573 = zi := (new_i (by rw [b27.n]; omega)).trans jt_27
  generalize mNew μ27 = μ28 at b28 jt_28 ⊢
  refine T_putR (pc := 129) (c := 12) (j := 31) fl_X12_74 ⟨rfl, rfl⟩ ⟨rfl, rfl⟩ (fun q => ⟨rfl, rfl⟩) (show KT 572 = (0, 12) by decide) (by rw [b28.n]; omega) dX12_init_129 ?_
  have b29 : Bd 572 572 587 (upr (upr (upr (upr (upr (upr (upr (upr (upr (upr (upr (upr (upr (upr z0 1 (573 + 1)) 2 (574 + 1)) 3 (575 + 1)) 4 (576 + 1)) 7 (577 + 1)) 14 (578 + 1)) 18 (579 + 1)) 23 (580 + 1)) 25 (581 + 1)) 26 (582 + 1)) 27 (583 + 1)) 28 (584 + 1)) 30 (585 + 1)) 31 (586 + 1)) z0 (upr zi 13 (-1)) μ (mR μ28 572 31 (586 + 1)) := b28.putR
  have jt_29 : (mR μ28 572 31 (586 + 1)).2.2.1 573 = zi := jt_28
  generalize mR μ28 572 31 (586 + 1) = μ29 at b29 jt_29 ⊢
  refine T_aload_n (pc := 132) (i := 0) dX12_init_132 rfl rfl ?_
  refine T_bipush (pc := 133) (v := nI 8) dX12_init_133 (by decide) ?_
  refine T_newa (pc := 135) (at9 := .int) (t := 1) (N := 8) ac_int (Or.inl ⟨rfl, rfl⟩) (nI_pos (by omega)) (nI_clamp (by omega)) (by decide) (by rw [b29.n]; exact (show KT 587 = (1, 8) by decide)) (by rw [b29.n]; show _ < 595; omega) (Nat.le_of_ble_eq_true rfl) (Nat.le_of_ble_eq_true rfl) dX12_init_135 ?_
  rw [b29.n]
  have b30 : Bd 572 572 588 (upr (upr (upr (upr (upr (upr (upr (upr (upr (upr (upr (upr (upr (upr z0 1 (573 + 1)) 2 (574 + 1)) 3 (575 + 1)) 4 (576 + 1)) 7 (577 + 1)) 14 (578 + 1)) 18 (579 + 1)) 23 (580 + 1)) 25 (581 + 1)) 26 (582 + 1)) 27 (583 + 1)) 28 (584 + 1)) 30 (585 + 1)) 31 (586 + 1)) z0 (upr zi 13 (-1)) μ (mNew μ29) := b29.newp (R0_arr (t := 1) (N := 8) (show KT 587 = (1, 8) by decide) (by decide))
  have jt_30 : (mNew μ29).2.2.1 573 = zi := (new_i (by rw [b29.n]; omega)).trans jt_29
  generalize mNew μ29 = μ30 at b30 jt_30 ⊢
  refine T_putR (pc := 137) (c := 12) (j := 41) fl_X12_77 ⟨rfl, rfl⟩ ⟨rfl, rfl⟩ (fun q => ⟨rfl, rfl⟩) (show KT 572 = (0, 12) by decide) (by rw [b30.n]; omega) dX12_init_137 ?_
  have b31 : Bd 572 572 588 (upr (upr (upr (upr (upr (upr (upr (upr (upr (upr (upr (upr (upr (upr (upr z0 1 (573 + 1)) 2 (574 + 1)) 3 (575 + 1)) 4 (576 + 1)) 7 (577 + 1)) 14 (578 + 1)) 18 (579 + 1)) 23 (580 + 1)) 25 (581 + 1)) 26 (582 + 1)) 27 (583 + 1)) 28 (584 + 1)) 30 (585 + 1)) 31 (586 + 1)) 41 (587 + 1)) z0 (upr zi 13 (-1)) μ (mR μ30 572 41 (587 + 1)) := b30.putR
  have jt_31 : (mR μ30 572 41 (587 + 1)).2.2.1 573 = zi := jt_30
  generalize mR μ30 572 41 (587 + 1) = μ31 at b31 jt_31 ⊢
  refine T_aload_n (pc := 140) (i := 0) dX12_init_140 rfl rfl ?_
  refine T_bipush (pc := 141) (v := nI 8) dX12_init_141 (by decide) ?_
  refine T_newa (pc := 143) (at9 := .int) (t := 1) (N := 8) ac_int (Or.inl ⟨rfl, rfl⟩) (nI_pos (by omega)) (nI_clamp (by omega)) (by decide) (by rw [b31.n]; exact (show KT 588 = (1, 8) by decide)) (by rw [b31.n]; show _ < 595; omega) (Nat.le_of_ble_eq_true rfl) (Nat.le_of_ble_eq_true rfl) dX12_init_143 ?_
  rw [b31.n]
  have b32 : Bd 572 572 589 (upr (upr (upr (upr (upr (upr (upr (upr (upr (upr (upr (upr (upr (upr (upr z0 1 (573 + 1)) 2 (574 + 1)) 3 (575 + 1)) 4 (576 + 1)) 7 (577 + 1)) 14 (578 + 1)) 18 (579 + 1)) 23 (580 + 1)) 25 (581 + 1)) 26 (582 + 1)) 27 (583 + 1)) 28 (584 + 1)) 30 (585 + 1)) 31 (586 + 1)) 41 (587 + 1)) z0 (upr zi 13 (-1)) μ (mNew μ31) := b31.newp (R0_arr (t := 1) (N := 8) (show KT 588 = (1, 8) by decide) (by decide))
  have jt_32 : (mNew μ31).2.2.1 573 = zi := (new_i (by rw [b31.n]; omega)).trans jt_31
  generalize mNew μ31 = μ32 at b32 jt_32 ⊢
  refine T_putR (pc := 145) (c := 12) (j := 42) fl_X12_80 ⟨rfl, rfl⟩ ⟨rfl, rfl⟩ (fun q => ⟨rfl, rfl⟩) (show KT 572 = (0, 12) by decide) (by rw [b32.n]; omega) dX12_init_145 ?_
  have b33 : Bd 572 572 589 (upr (upr (upr (upr (upr (upr (upr (upr (upr (upr (upr (upr (upr (upr (upr (upr z0 1 (573 + 1)) 2 (574 + 1)) 3 (575 + 1)) 4 (576 + 1)) 7 (577 + 1)) 14 (578 + 1)) 18 (579 + 1)) 23 (580 + 1)) 25 (581 + 1)) 26 (582 + 1)) 27 (583 + 1)) 28 (584 + 1)) 30 (585 + 1)) 31 (586 + 1)) 41 (587 + 1)) 42 (588 + 1)) z0 (upr zi 13 (-1)) μ (mR μ32 572 42 (588 + 1)) := b32.putR
  have jt_33 : (mR μ32 572 42 (588 + 1)).2.2.1 573 = zi := jt_32
  generalize mR μ32 572 42 (588 + 1) = μ33 at b33 jt_33 ⊢
  refine T_aload_n (pc := 148) (i := 0) dX12_init_148 rfl rfl ?_
  refine T_bipush (pc := 149) (v := nI 10) dX12_init_149 (by decide) ?_
  refine T_newa (pc := 151) (at9 := .int) (t := 1) (N := 10) ac_int (Or.inl ⟨rfl, rfl⟩) (nI_pos (by omega)) (nI_clamp (by omega)) (by decide) (by rw [b33.n]; exact (show KT 589 = (1, 10) by decide)) (by rw [b33.n]; show _ < 595; omega) (Nat.le_of_ble_eq_true rfl) (Nat.le_of_ble_eq_true rfl) dX12_init_151 ?_
  rw [b33.n]
  have b34 : Bd 572 572 590 (upr (upr (upr (upr (upr (upr (upr (upr (upr (upr (upr (upr (upr (upr (upr (upr z0 1 (573 + 1)) 2 (574 + 1)) 3 (575 + 1)) 4 (576 + 1)) 7 (577 + 1)) 14 (578 + 1)) 18 (579 + 1)) 23 (580 + 1)) 25 (581 + 1)) 26 (582 + 1)) 27 (583 + 1)) 28 (584 + 1)) 30 (585 + 1)) 31 (586 + 1)) 41 (587 + 1)) 42 (588 + 1)) z0 (upr zi 13 (-1)) μ (mNew μ33) := b33.newp (R0_arr (t := 1) (N := 10) (show KT 589 = (1, 10) by decide) (by decide))
  have jt_34 : (mNew μ33).2.2.1 573 = zi := (new_i (by rw [b33.n]; omega)).trans jt_33
  generalize mNew μ33 = μ34 at b34 jt_34 ⊢
  refine T_putR (pc := 153) (c := 12) (j := 44) fl_X12_83 ⟨rfl, rfl⟩ ⟨rfl, rfl⟩ (fun q => ⟨rfl, rfl⟩) (show KT 572 = (0, 12) by decide) (by rw [b34.n]; omega) dX12_init_153 ?_
  have b35 : Bd 572 572 590 (upr (upr (upr (upr (upr (upr (upr (upr (upr (upr (upr (upr (upr (upr (upr (upr (upr z0 1 (573 + 1)) 2 (574 + 1)) 3 (575 + 1)) 4 (576 + 1)) 7 (577 + 1)) 14 (578 + 1)) 18 (579 + 1)) 23 (580 + 1)) 25 (581 + 1)) 26 (582 + 1)) 27 (583 + 1)) 28 (584 + 1)) 30 (585 + 1)) 31 (586 + 1)) 41 (587 + 1)) 42 (588 + 1)) 44 (589 + 1)) z0 (upr zi 13 (-1)) μ (mR μ34 572 44 (589 + 1)) := b34.putR
  have jt_35 : (mR μ34 572 44 (589 + 1)).2.2.1 573 = zi := jt_34
  generalize mR μ34 572 44 (589 + 1) = μ35 at b35 jt_35 ⊢
  refine T_aload_n (pc := 156) (i := 0) dX12_init_156 rfl rfl ?_
  refine T_bipush (pc := 157) (v := nI 100) dX12_init_157 (by decide) ?_
  refine T_newa (pc := 159) (at9 := .long) (t := 2) (N := 100) ac_long (Or.inr (Or.inl ⟨rfl, rfl⟩)) (nI_pos (by omega)) (nI_clamp (by omega)) (by decide) (by rw [b35.n]; exact (show KT 590 = (2, 100) by decide)) (by rw [b35.n]; show _ < 595; omega) (Nat.le_of_ble_eq_true rfl) (Nat.le_of_ble_eq_true rfl) dX12_init_159 ?_
  rw [b35.n]
  have b36 : Bd 572 572 591 (upr (upr (upr (upr (upr (upr (upr (upr (upr (upr (upr (upr (upr (upr (upr (upr (upr z0 1 (573 + 1)) 2 (574 + 1)) 3 (575 + 1)) 4 (576 + 1)) 7 (577 + 1)) 14 (578 + 1)) 18 (579 + 1)) 23 (580 + 1)) 25 (581 + 1)) 26 (582 + 1)) 27 (583 + 1)) 28 (584 + 1)) 30 (585 + 1)) 31 (586 + 1)) 41 (587 + 1)) 42 (588 + 1)) 44 (589 + 1)) z0 (upr zi 13 (-1)) μ (mNew μ35) := b35.newp (R0_arr (t := 2) (N := 100) (show KT 590 = (2, 100) by decide) (by decide))
  have jt_36 : (mNew μ35).2.2.1 573 = zi := (new_i (by rw [b35.n]; omega)).trans jt_35
  generalize mNew μ35 = μ36 at b36 jt_36 ⊢
  refine T_putR (pc := 161) (c := 12) (j := 45) fl_X12_86 ⟨rfl, rfl⟩ ⟨rfl, rfl⟩ (fun q => ⟨rfl, rfl⟩) (show KT 572 = (0, 12) by decide) (by rw [b36.n]; omega) dX12_init_161 ?_
  have b37 : Bd 572 572 591 (upr (upr (upr (upr (upr (upr (upr (upr (upr (upr (upr (upr (upr (upr (upr (upr (upr (upr z0 1 (573 + 1)) 2 (574 + 1)) 3 (575 + 1)) 4 (576 + 1)) 7 (577 + 1)) 14 (578 + 1)) 18 (579 + 1)) 23 (580 + 1)) 25 (581 + 1)) 26 (582 + 1)) 27 (583 + 1)) 28 (584 + 1)) 30 (585 + 1)) 31 (586 + 1)) 41 (587 + 1)) 42 (588 + 1)) 44 (589 + 1)) 45 (590 + 1)) z0 (upr zi 13 (-1)) μ (mR μ36 572 45 (590 + 1)) := b36.putR
  have jt_37 : (mR μ36 572 45 (590 + 1)).2.2.1 573 = zi := jt_36
  generalize mR μ36 572 45 (590 + 1) = μ37 at b37 jt_37 ⊢
  refine T_aload_n (pc := 164) (i := 0) dX12_init_164 rfl rfl ?_
  refine T_bipush (pc := 165) (v := nI 100) dX12_init_165 (by decide) ?_
  refine T_newa (pc := 167) (at9 := .long) (t := 2) (N := 100) ac_long (Or.inr (Or.inl ⟨rfl, rfl⟩)) (nI_pos (by omega)) (nI_clamp (by omega)) (by decide) (by rw [b37.n]; exact (show KT 591 = (2, 100) by decide)) (by rw [b37.n]; show _ < 595; omega) (Nat.le_of_ble_eq_true rfl) (Nat.le_of_ble_eq_true rfl) dX12_init_167 ?_
  rw [b37.n]
  have b38 : Bd 572 572 592 (upr (upr (upr (upr (upr (upr (upr (upr (upr (upr (upr (upr (upr (upr (upr (upr (upr (upr z0 1 (573 + 1)) 2 (574 + 1)) 3 (575 + 1)) 4 (576 + 1)) 7 (577 + 1)) 14 (578 + 1)) 18 (579 + 1)) 23 (580 + 1)) 25 (581 + 1)) 26 (582 + 1)) 27 (583 + 1)) 28 (584 + 1)) 30 (585 + 1)) 31 (586 + 1)) 41 (587 + 1)) 42 (588 + 1)) 44 (589 + 1)) 45 (590 + 1)) z0 (upr zi 13 (-1)) μ (mNew μ37) := b37.newp (R0_arr (t := 2) (N := 100) (show KT 591 = (2, 100) by decide) (by decide))
  have jt_38 : (mNew μ37).2.2.1 573 = zi := (new_i (by rw [b37.n]; omega)).trans jt_37
  generalize mNew μ37 = μ38 at b38 jt_38 ⊢
  refine T_putR (pc := 169) (c := 12) (j := 46) fl_X12_89 ⟨rfl, rfl⟩ ⟨rfl, rfl⟩ (fun q => ⟨rfl, rfl⟩) (show KT 572 = (0, 12) by decide) (by rw [b38.n]; omega) dX12_init_169 ?_
  have b39 : Bd 572 572 592 (upr (upr (upr (upr (upr (upr (upr (upr (upr (upr (upr (upr (upr (upr (upr (upr (upr (upr (upr z0 1 (573 + 1)) 2 (574 + 1)) 3 (575 + 1)) 4 (576 + 1)) 7 (577 + 1)) 14 (578 + 1)) 18 (579 + 1)) 23 (580 + 1)) 25 (581 + 1)) 26 (582 + 1)) 27 (583 + 1)) 28 (584 + 1)) 30 (585 + 1)) 31 (586 + 1)) 41 (587 + 1)) 42 (588 + 1)) 44 (589 + 1)) 45 (590 + 1)) 46 (591 + 1)) z0 (upr zi 13 (-1)) μ (mR μ38 572 46 (591 + 1)) := b38.putR
  have jt_39 : (mR μ38 572 46 (591 + 1)).2.2.1 573 = zi := jt_38
  generalize mR μ38 572 46 (591 + 1) = μ39 at b39 jt_39 ⊢
  refine T_aload_n (pc := 172) (i := 0) dX12_init_172 rfl rfl ?_
  refine T_sipush (pc := 173) (v := nI 1501) dX12_init_173 (by decide) ?_
  refine T_newa (pc := 176) (at9 := .int) (t := 1) (N := 1501) ac_int (Or.inl ⟨rfl, rfl⟩) (nI_pos (by omega)) (nI_clamp (by omega)) (by decide) (by rw [b39.n]; exact (show KT 592 = (1, 1501) by decide)) (by rw [b39.n]; show _ < 595; omega) (Nat.le_of_ble_eq_true rfl) (Nat.le_of_ble_eq_true rfl) dX12_init_176 ?_
  rw [b39.n]
  have b40 : Bd 572 572 593 (upr (upr (upr (upr (upr (upr (upr (upr (upr (upr (upr (upr (upr (upr (upr (upr (upr (upr (upr z0 1 (573 + 1)) 2 (574 + 1)) 3 (575 + 1)) 4 (576 + 1)) 7 (577 + 1)) 14 (578 + 1)) 18 (579 + 1)) 23 (580 + 1)) 25 (581 + 1)) 26 (582 + 1)) 27 (583 + 1)) 28 (584 + 1)) 30 (585 + 1)) 31 (586 + 1)) 41 (587 + 1)) 42 (588 + 1)) 44 (589 + 1)) 45 (590 + 1)) 46 (591 + 1)) z0 (upr zi 13 (-1)) μ (mNew μ39) := b39.newp (R0_arr (t := 1) (N := 1501) (show KT 592 = (1, 1501) by decide) (by decide))
  have jt_40 : (mNew μ39).2.2.1 573 = zi := (new_i (by rw [b39.n]; omega)).trans jt_39
  generalize mNew μ39 = μ40 at b40 jt_40 ⊢
  refine T_putR (pc := 178) (c := 12) (j := 48) fl_X12_92 ⟨rfl, rfl⟩ ⟨rfl, rfl⟩ (fun q => ⟨rfl, rfl⟩) (show KT 572 = (0, 12) by decide) (by rw [b40.n]; omega) dX12_init_178 ?_
  have b41 : Bd 572 572 593 (upr (upr (upr (upr (upr (upr (upr (upr (upr (upr (upr (upr (upr (upr (upr (upr (upr (upr (upr (upr z0 1 (573 + 1)) 2 (574 + 1)) 3 (575 + 1)) 4 (576 + 1)) 7 (577 + 1)) 14 (578 + 1)) 18 (579 + 1)) 23 (580 + 1)) 25 (581 + 1)) 26 (582 + 1)) 27 (583 + 1)) 28 (584 + 1)) 30 (585 + 1)) 31 (586 + 1)) 41 (587 + 1)) 42 (588 + 1)) 44 (589 + 1)) 45 (590 + 1)) 46 (591 + 1)) 48 (592 + 1)) z0 (upr zi 13 (-1)) μ (mR μ40 572 48 (592 + 1)) := b40.putR
  have jt_41 : (mR μ40 572 48 (592 + 1)).2.2.1 573 = zi := jt_40
  generalize mR μ40 572 48 (592 + 1) = μ41 at b41 jt_41 ⊢
  refine T_aload_n (pc := 181) (i := 0) dX12_init_181 rfl rfl ?_
  refine T_sipush (pc := 182) (v := nI 1501) dX12_init_182 (by decide) ?_
  refine T_newa (pc := 185) (at9 := .int) (t := 1) (N := 1501) ac_int (Or.inl ⟨rfl, rfl⟩) (nI_pos (by omega)) (nI_clamp (by omega)) (by decide) (by rw [b41.n]; exact (show KT 593 = (1, 1501) by decide)) (by rw [b41.n]; show _ < 595; omega) (Nat.le_of_ble_eq_true rfl) (Nat.le_of_ble_eq_true rfl) dX12_init_185 ?_
  rw [b41.n]
  have b42 : Bd 572 572 594 (upr (upr (upr (upr (upr (upr (upr (upr (upr (upr (upr (upr (upr (upr (upr (upr (upr (upr (upr (upr z0 1 (573 + 1)) 2 (574 + 1)) 3 (575 + 1)) 4 (576 + 1)) 7 (577 + 1)) 14 (578 + 1)) 18 (579 + 1)) 23 (580 + 1)) 25 (581 + 1)) 26 (582 + 1)) 27 (583 + 1)) 28 (584 + 1)) 30 (585 + 1)) 31 (586 + 1)) 41 (587 + 1)) 42 (588 + 1)) 44 (589 + 1)) 45 (590 + 1)) 46 (591 + 1)) 48 (592 + 1)) z0 (upr zi 13 (-1)) μ (mNew μ41) := b41.newp (R0_arr (t := 1) (N := 1501) (show KT 593 = (1, 1501) by decide) (by decide))
  have jt_42 : (mNew μ41).2.2.1 573 = zi := (new_i (by rw [b41.n]; omega)).trans jt_41
  generalize mNew μ41 = μ42 at b42 jt_42 ⊢
  refine T_putR (pc := 187) (c := 12) (j := 49) fl_X12_95 ⟨rfl, rfl⟩ ⟨rfl, rfl⟩ (fun q => ⟨rfl, rfl⟩) (show KT 572 = (0, 12) by decide) (by rw [b42.n]; omega) dX12_init_187 ?_
  have b43 : Bd 572 572 594 (upr (upr (upr (upr (upr (upr (upr (upr (upr (upr (upr (upr (upr (upr (upr (upr (upr (upr (upr (upr (upr z0 1 (573 + 1)) 2 (574 + 1)) 3 (575 + 1)) 4 (576 + 1)) 7 (577 + 1)) 14 (578 + 1)) 18 (579 + 1)) 23 (580 + 1)) 25 (581 + 1)) 26 (582 + 1)) 27 (583 + 1)) 28 (584 + 1)) 30 (585 + 1)) 31 (586 + 1)) 41 (587 + 1)) 42 (588 + 1)) 44 (589 + 1)) 45 (590 + 1)) 46 (591 + 1)) 48 (592 + 1)) 49 (593 + 1)) z0 (upr zi 13 (-1)) μ (mR μ42 572 49 (593 + 1)) := b42.putR
  have jt_43 : (mR μ42 572 49 (593 + 1)).2.2.1 573 = zi := jt_42
  generalize mR μ42 572 49 (593 + 1) = μ43 at b43 jt_43 ⊢
  refine T_aload_n (pc := 190) (i := 0) dX12_init_190 rfl rfl ?_
  refine T_getR (pc := 191) (c := 12) (j := 1) (i := 573) fl_X12_29 rfl (show KT 572 = (0, 12) by decide) (by rw [b43.n]; omega) (by rw [b43.r]; rfl) dX12_init_191 ?_
  refine T_bipush (pc := 194) (v := nI 8) dX12_init_194 (by decide) ?_
  refine T_iconst (pc := 196) (v := nI 1) dX12_init_196 (by decide) ?_
  refine T_iast (pc := 197) (n := 1989) (show KT 573 = (1, 1989) by decide) (by rw [b43.n]; omega) (vp_in_nI (e := 8) (by omega) (by omega)) dX12_init_197 ?_
  rw [nI_clamp (n := 8) (by omega)]
  have b44 : Bd 572 572 594 (upr (upr (upr (upr (upr (upr (upr (upr (upr (upr (upr (upr (upr (upr (upr (upr (upr (upr (upr (upr (upr z0 1 (573 + 1)) 2 (574 + 1)) 3 (575 + 1)) 4 (576 + 1)) 7 (577 + 1)) 14 (578 + 1)) 18 (579 + 1)) 23 (580 + 1)) 25 (581 + 1)) 26 (582 + 1)) 27 (583 + 1)) 28 (584 + 1)) 30 (585 + 1)) 31 (586 + 1)) 41 (587 + 1)) 42 (588 + 1)) 44 (589 + 1)) 45 (590 + 1)) 46 (591 + 1)) 48 (592 + 1)) 49 (593 + 1)) z0 (upr zi 13 (-1)) μ (mI μ43 573 8 (nI 1)) := b43.ist (by omega)
  have jt_44 : (mI μ43 573 8 (nI 1)).2.2.1 573 = (upr zi 8 (nI 1)) := (up2_row.trans (by rw [jt_43]))
  generalize mI μ43 573 8 (nI 1) = μ44 at b44 jt_44 ⊢
  refine T_iconst (pc := 198) (v := nI 0) dX12_init_198 (by decide) ?_
  refine T_istore_n (pc := 199) (i := 1) (ls' := [some (.ref 572), some (.int (nI 0))]) dX12_init_199 rfl (by decide) rfl ?_
  refine T_iload_n (pc := 200) (i := 1) dX12_init_200 rfl rfl ?_
  refine T_bipush (pc := 201) (v := nI 8) dX12_init_201 (by decide) ?_
  refine T_icmp_ge (pc := 203) (tgt := 222) dX12_init_203 (by decide) (fun h => absurd h (by decide)) (fun _ => ?_)
  refine T_aload_n (pc := 206) (i := 0) dX12_init_206 rfl rfl ?_
  refine T_getR (pc := 207) (c := 12) (j := 1) (i := 573) fl_X12_29 rfl (show KT 572 = (0, 12) by decide) (by rw [b44.n]; omega) (by rw [b44.r]; rfl) dX12_init_207 ?_
  refine T_bipush (pc := 210) (v := nI 9) dX12_init_210 (by decide) ?_
  refine T_iload_n (pc := 212) (i := 1) dX12_init_212 rfl rfl ?_
  refine T_iadd (pc := 213) dX12_init_213 ?_
  refine T_topi (v := nI 9) (by decide) ?_
  refine T_iconst (pc := 214) (v := nI 1) dX12_init_214 (by decide) ?_
  refine T_iast (pc := 215) (n := 1989) (show KT 573 = (1, 1989) by decide) (by rw [b44.n]; omega) (vp_in_nI (e := 9) (by omega) (by omega)) dX12_init_215 ?_
  rw [nI_clamp (n := 9) (by omega)]
  have b45 : Bd 572 572 594 (upr (upr (upr (upr (upr (upr (upr (upr (upr (upr (upr (upr (upr (upr (upr (upr (upr (upr (upr (upr (upr z0 1 (573 + 1)) 2 (574 + 1)) 3 (575 + 1)) 4 (576 + 1)) 7 (577 + 1)) 14 (578 + 1)) 18 (579 + 1)) 23 (580 + 1)) 25 (581 + 1)) 26 (582 + 1)) 27 (583 + 1)) 28 (584 + 1)) 30 (585 + 1)) 31 (586 + 1)) 41 (587 + 1)) 42 (588 + 1)) 44 (589 + 1)) 45 (590 + 1)) 46 (591 + 1)) 48 (592 + 1)) 49 (593 + 1)) z0 (upr zi 13 (-1)) μ (mI μ44 573 9 (nI 1)) := b44.ist (by omega)
  have jt_45 : (mI μ44 573 9 (nI 1)).2.2.1 573 = (upr (upr zi 8 (nI 1)) 9 (nI 1)) := (up2_row.trans (by rw [jt_44]))
  generalize mI μ44 573 9 (nI 1) = μ45 at b45 jt_45 ⊢
  refine T_iinc (pc := 216) (i := 1) (v := nI 1) (ls' := [some (.ref 572), some (.int (nI 1))]) dX12_init_216 rfl (by decide) rfl ?_
  refine T_goto (pc := 219) (tgt := 200) dX12_init_219 (by decide) ?_
  refine T_iload_n (pc := 200) (i := 1) dX12_init_200 rfl rfl ?_
  refine T_bipush (pc := 201) (v := nI 8) dX12_init_201 (by decide) ?_
  refine T_icmp_ge (pc := 203) (tgt := 222) dX12_init_203 (by decide) (fun h => absurd h (by decide)) (fun _ => ?_)
  refine T_aload_n (pc := 206) (i := 0) dX12_init_206 rfl rfl ?_
  refine T_getR (pc := 207) (c := 12) (j := 1) (i := 573) fl_X12_29 rfl (show KT 572 = (0, 12) by decide) (by rw [b45.n]; omega) (by rw [b45.r]; rfl) dX12_init_207 ?_
  refine T_bipush (pc := 210) (v := nI 9) dX12_init_210 (by decide) ?_
  refine T_iload_n (pc := 212) (i := 1) dX12_init_212 rfl rfl ?_
  refine T_iadd (pc := 213) dX12_init_213 ?_
  refine T_topi (v := nI 10) (by decide) ?_
  refine T_iconst (pc := 214) (v := nI 1) dX12_init_214 (by decide) ?_
  refine T_iast (pc := 215) (n := 1989) (show KT 573 = (1, 1989) by decide) (by rw [b45.n]; omega) (vp_in_nI (e := 10) (by omega) (by omega)) dX12_init_215 ?_
  rw [nI_clamp (n := 10) (by omega)]
  have b46 : Bd 572 572 594 (upr (upr (upr (upr (upr (upr (upr (upr (upr (upr (upr (upr (upr (upr (upr (upr (upr (upr (upr (upr (upr z0 1 (573 + 1)) 2 (574 + 1)) 3 (575 + 1)) 4 (576 + 1)) 7 (577 + 1)) 14 (578 + 1)) 18 (579 + 1)) 23 (580 + 1)) 25 (581 + 1)) 26 (582 + 1)) 27 (583 + 1)) 28 (584 + 1)) 30 (585 + 1)) 31 (586 + 1)) 41 (587 + 1)) 42 (588 + 1)) 44 (589 + 1)) 45 (590 + 1)) 46 (591 + 1)) 48 (592 + 1)) 49 (593 + 1)) z0 (upr zi 13 (-1)) μ (mI μ45 573 10 (nI 1)) := b45.ist (by omega)
  have jt_46 : (mI μ45 573 10 (nI 1)).2.2.1 573 = (upr (upr (upr zi 8 (nI 1)) 9 (nI 1)) 10 (nI 1)) := (up2_row.trans (by rw [jt_45]))
  generalize mI μ45 573 10 (nI 1) = μ46 at b46 jt_46 ⊢
  refine T_iinc (pc := 216) (i := 1) (v := nI 2) (ls' := [some (.ref 572), some (.int (nI 2))]) dX12_init_216 rfl (by decide) rfl ?_
  refine T_goto (pc := 219) (tgt := 200) dX12_init_219 (by decide) ?_
  refine T_iload_n (pc := 200) (i := 1) dX12_init_200 rfl rfl ?_
  refine T_bipush (pc := 201) (v := nI 8) dX12_init_201 (by decide) ?_
  refine T_icmp_ge (pc := 203) (tgt := 222) dX12_init_203 (by decide) (fun h => absurd h (by decide)) (fun _ => ?_)
  refine T_aload_n (pc := 206) (i := 0) dX12_init_206 rfl rfl ?_
  refine T_getR (pc := 207) (c := 12) (j := 1) (i := 573) fl_X12_29 rfl (show KT 572 = (0, 12) by decide) (by rw [b46.n]; omega) (by rw [b46.r]; rfl) dX12_init_207 ?_
  refine T_bipush (pc := 210) (v := nI 9) dX12_init_210 (by decide) ?_
  refine T_iload_n (pc := 212) (i := 1) dX12_init_212 rfl rfl ?_
  refine T_iadd (pc := 213) dX12_init_213 ?_
  refine T_topi (v := nI 11) (by decide) ?_
  refine T_iconst (pc := 214) (v := nI 1) dX12_init_214 (by decide) ?_
  refine T_iast (pc := 215) (n := 1989) (show KT 573 = (1, 1989) by decide) (by rw [b46.n]; omega) (vp_in_nI (e := 11) (by omega) (by omega)) dX12_init_215 ?_
  rw [nI_clamp (n := 11) (by omega)]
  have b47 : Bd 572 572 594 (upr (upr (upr (upr (upr (upr (upr (upr (upr (upr (upr (upr (upr (upr (upr (upr (upr (upr (upr (upr (upr z0 1 (573 + 1)) 2 (574 + 1)) 3 (575 + 1)) 4 (576 + 1)) 7 (577 + 1)) 14 (578 + 1)) 18 (579 + 1)) 23 (580 + 1)) 25 (581 + 1)) 26 (582 + 1)) 27 (583 + 1)) 28 (584 + 1)) 30 (585 + 1)) 31 (586 + 1)) 41 (587 + 1)) 42 (588 + 1)) 44 (589 + 1)) 45 (590 + 1)) 46 (591 + 1)) 48 (592 + 1)) 49 (593 + 1)) z0 (upr zi 13 (-1)) μ (mI μ46 573 11 (nI 1)) := b46.ist (by omega)
  have jt_47 : (mI μ46 573 11 (nI 1)).2.2.1 573 = (upr (upr (upr (upr zi 8 (nI 1)) 9 (nI 1)) 10 (nI 1)) 11 (nI 1)) := (up2_row.trans (by rw [jt_46]))
  generalize mI μ46 573 11 (nI 1) = μ47 at b47 jt_47 ⊢
  refine T_iinc (pc := 216) (i := 1) (v := nI 3) (ls' := [some (.ref 572), some (.int (nI 3))]) dX12_init_216 rfl (by decide) rfl ?_
  refine T_goto (pc := 219) (tgt := 200) dX12_init_219 (by decide) ?_
  refine T_iload_n (pc := 200) (i := 1) dX12_init_200 rfl rfl ?_
  refine T_bipush (pc := 201) (v := nI 8) dX12_init_201 (by decide) ?_
  refine T_icmp_ge (pc := 203) (tgt := 222) dX12_init_203 (by decide) (fun h => absurd h (by decide)) (fun _ => ?_)
  refine T_aload_n (pc := 206) (i := 0) dX12_init_206 rfl rfl ?_
  refine T_getR (pc := 207) (c := 12) (j := 1) (i := 573) fl_X12_29 rfl (show KT 572 = (0, 12) by decide) (by rw [b47.n]; omega) (by rw [b47.r]; rfl) dX12_init_207 ?_
  refine T_bipush (pc := 210) (v := nI 9) dX12_init_210 (by decide) ?_
  refine T_iload_n (pc := 212) (i := 1) dX12_init_212 rfl rfl ?_
  refine T_iadd (pc := 213) dX12_init_213 ?_
  refine T_topi (v := nI 12) (by decide) ?_
  refine T_iconst (pc := 214) (v := nI 1) dX12_init_214 (by decide) ?_
  refine T_iast (pc := 215) (n := 1989) (show KT 573 = (1, 1989) by decide) (by rw [b47.n]; omega) (vp_in_nI (e := 12) (by omega) (by omega)) dX12_init_215 ?_
  rw [nI_clamp (n := 12) (by omega)]
  have b48 : Bd 572 572 594 (upr (upr (upr (upr (upr (upr (upr (upr (upr (upr (upr (upr (upr (upr (upr (upr (upr (upr (upr (upr (upr z0 1 (573 + 1)) 2 (574 + 1)) 3 (575 + 1)) 4 (576 + 1)) 7 (577 + 1)) 14 (578 + 1)) 18 (579 + 1)) 23 (580 + 1)) 25 (581 + 1)) 26 (582 + 1)) 27 (583 + 1)) 28 (584 + 1)) 30 (585 + 1)) 31 (586 + 1)) 41 (587 + 1)) 42 (588 + 1)) 44 (589 + 1)) 45 (590 + 1)) 46 (591 + 1)) 48 (592 + 1)) 49 (593 + 1)) z0 (upr zi 13 (-1)) μ (mI μ47 573 12 (nI 1)) := b47.ist (by omega)
  have jt_48 : (mI μ47 573 12 (nI 1)).2.2.1 573 = (upr (upr (upr (upr (upr zi 8 (nI 1)) 9 (nI 1)) 10 (nI 1)) 11 (nI 1)) 12 (nI 1)) := (up2_row.trans (by rw [jt_47]))
  generalize mI μ47 573 12 (nI 1) = μ48 at b48 jt_48 ⊢
  refine T_iinc (pc := 216) (i := 1) (v := nI 4) (ls' := [some (.ref 572), some (.int (nI 4))]) dX12_init_216 rfl (by decide) rfl ?_
  refine T_goto (pc := 219) (tgt := 200) dX12_init_219 (by decide) ?_
  refine T_iload_n (pc := 200) (i := 1) dX12_init_200 rfl rfl ?_
  refine T_bipush (pc := 201) (v := nI 8) dX12_init_201 (by decide) ?_
  refine T_icmp_ge (pc := 203) (tgt := 222) dX12_init_203 (by decide) (fun h => absurd h (by decide)) (fun _ => ?_)
  refine T_aload_n (pc := 206) (i := 0) dX12_init_206 rfl rfl ?_
  refine T_getR (pc := 207) (c := 12) (j := 1) (i := 573) fl_X12_29 rfl (show KT 572 = (0, 12) by decide) (by rw [b48.n]; omega) (by rw [b48.r]; rfl) dX12_init_207 ?_
  refine T_bipush (pc := 210) (v := nI 9) dX12_init_210 (by decide) ?_
  refine T_iload_n (pc := 212) (i := 1) dX12_init_212 rfl rfl ?_
  refine T_iadd (pc := 213) dX12_init_213 ?_
  refine T_topi (v := nI 13) (by decide) ?_
  refine T_iconst (pc := 214) (v := nI 1) dX12_init_214 (by decide) ?_
  refine T_iast (pc := 215) (n := 1989) (show KT 573 = (1, 1989) by decide) (by rw [b48.n]; omega) (vp_in_nI (e := 13) (by omega) (by omega)) dX12_init_215 ?_
  rw [nI_clamp (n := 13) (by omega)]
  have b49 : Bd 572 572 594 (upr (upr (upr (upr (upr (upr (upr (upr (upr (upr (upr (upr (upr (upr (upr (upr (upr (upr (upr (upr (upr z0 1 (573 + 1)) 2 (574 + 1)) 3 (575 + 1)) 4 (576 + 1)) 7 (577 + 1)) 14 (578 + 1)) 18 (579 + 1)) 23 (580 + 1)) 25 (581 + 1)) 26 (582 + 1)) 27 (583 + 1)) 28 (584 + 1)) 30 (585 + 1)) 31 (586 + 1)) 41 (587 + 1)) 42 (588 + 1)) 44 (589 + 1)) 45 (590 + 1)) 46 (591 + 1)) 48 (592 + 1)) 49 (593 + 1)) z0 (upr zi 13 (-1)) μ (mI μ48 573 13 (nI 1)) := b48.ist (by omega)
  have jt_49 : (mI μ48 573 13 (nI 1)).2.2.1 573 = (upr (upr (upr (upr (upr (upr zi 8 (nI 1)) 9 (nI 1)) 10 (nI 1)) 11 (nI 1)) 12 (nI 1)) 13 (nI 1)) := (up2_row.trans (by rw [jt_48]))
  generalize mI μ48 573 13 (nI 1) = μ49 at b49 jt_49 ⊢
  refine T_iinc (pc := 216) (i := 1) (v := nI 5) (ls' := [some (.ref 572), some (.int (nI 5))]) dX12_init_216 rfl (by decide) rfl ?_
  refine T_goto (pc := 219) (tgt := 200) dX12_init_219 (by decide) ?_
  refine T_iload_n (pc := 200) (i := 1) dX12_init_200 rfl rfl ?_
  refine T_bipush (pc := 201) (v := nI 8) dX12_init_201 (by decide) ?_
  refine T_icmp_ge (pc := 203) (tgt := 222) dX12_init_203 (by decide) (fun h => absurd h (by decide)) (fun _ => ?_)
  refine T_aload_n (pc := 206) (i := 0) dX12_init_206 rfl rfl ?_
  refine T_getR (pc := 207) (c := 12) (j := 1) (i := 573) fl_X12_29 rfl (show KT 572 = (0, 12) by decide) (by rw [b49.n]; omega) (by rw [b49.r]; rfl) dX12_init_207 ?_
  refine T_bipush (pc := 210) (v := nI 9) dX12_init_210 (by decide) ?_
  refine T_iload_n (pc := 212) (i := 1) dX12_init_212 rfl rfl ?_
  refine T_iadd (pc := 213) dX12_init_213 ?_
  refine T_topi (v := nI 14) (by decide) ?_
  refine T_iconst (pc := 214) (v := nI 1) dX12_init_214 (by decide) ?_
  refine T_iast (pc := 215) (n := 1989) (show KT 573 = (1, 1989) by decide) (by rw [b49.n]; omega) (vp_in_nI (e := 14) (by omega) (by omega)) dX12_init_215 ?_
  rw [nI_clamp (n := 14) (by omega)]
  have b50 : Bd 572 572 594 (upr (upr (upr (upr (upr (upr (upr (upr (upr (upr (upr (upr (upr (upr (upr (upr (upr (upr (upr (upr (upr z0 1 (573 + 1)) 2 (574 + 1)) 3 (575 + 1)) 4 (576 + 1)) 7 (577 + 1)) 14 (578 + 1)) 18 (579 + 1)) 23 (580 + 1)) 25 (581 + 1)) 26 (582 + 1)) 27 (583 + 1)) 28 (584 + 1)) 30 (585 + 1)) 31 (586 + 1)) 41 (587 + 1)) 42 (588 + 1)) 44 (589 + 1)) 45 (590 + 1)) 46 (591 + 1)) 48 (592 + 1)) 49 (593 + 1)) z0 (upr zi 13 (-1)) μ (mI μ49 573 14 (nI 1)) := b49.ist (by omega)
  have jt_50 : (mI μ49 573 14 (nI 1)).2.2.1 573 = (upr (upr (upr (upr (upr (upr (upr zi 8 (nI 1)) 9 (nI 1)) 10 (nI 1)) 11 (nI 1)) 12 (nI 1)) 13 (nI 1)) 14 (nI 1)) := (up2_row.trans (by rw [jt_49]))
  generalize mI μ49 573 14 (nI 1) = μ50 at b50 jt_50 ⊢
  refine T_iinc (pc := 216) (i := 1) (v := nI 6) (ls' := [some (.ref 572), some (.int (nI 6))]) dX12_init_216 rfl (by decide) rfl ?_
  refine T_goto (pc := 219) (tgt := 200) dX12_init_219 (by decide) ?_
  refine T_iload_n (pc := 200) (i := 1) dX12_init_200 rfl rfl ?_
  refine T_bipush (pc := 201) (v := nI 8) dX12_init_201 (by decide) ?_
  refine T_icmp_ge (pc := 203) (tgt := 222) dX12_init_203 (by decide) (fun h => absurd h (by decide)) (fun _ => ?_)
  refine T_aload_n (pc := 206) (i := 0) dX12_init_206 rfl rfl ?_
  refine T_getR (pc := 207) (c := 12) (j := 1) (i := 573) fl_X12_29 rfl (show KT 572 = (0, 12) by decide) (by rw [b50.n]; omega) (by rw [b50.r]; rfl) dX12_init_207 ?_
  refine T_bipush (pc := 210) (v := nI 9) dX12_init_210 (by decide) ?_
  refine T_iload_n (pc := 212) (i := 1) dX12_init_212 rfl rfl ?_
  refine T_iadd (pc := 213) dX12_init_213 ?_
  refine T_topi (v := nI 15) (by decide) ?_
  refine T_iconst (pc := 214) (v := nI 1) dX12_init_214 (by decide) ?_
  refine T_iast (pc := 215) (n := 1989) (show KT 573 = (1, 1989) by decide) (by rw [b50.n]; omega) (vp_in_nI (e := 15) (by omega) (by omega)) dX12_init_215 ?_
  rw [nI_clamp (n := 15) (by omega)]
  have b51 : Bd 572 572 594 (upr (upr (upr (upr (upr (upr (upr (upr (upr (upr (upr (upr (upr (upr (upr (upr (upr (upr (upr (upr (upr z0 1 (573 + 1)) 2 (574 + 1)) 3 (575 + 1)) 4 (576 + 1)) 7 (577 + 1)) 14 (578 + 1)) 18 (579 + 1)) 23 (580 + 1)) 25 (581 + 1)) 26 (582 + 1)) 27 (583 + 1)) 28 (584 + 1)) 30 (585 + 1)) 31 (586 + 1)) 41 (587 + 1)) 42 (588 + 1)) 44 (589 + 1)) 45 (590 + 1)) 46 (591 + 1)) 48 (592 + 1)) 49 (593 + 1)) z0 (upr zi 13 (-1)) μ (mI μ50 573 15 (nI 1)) := b50.ist (by omega)
  have jt_51 : (mI μ50 573 15 (nI 1)).2.2.1 573 = (upr (upr (upr (upr (upr (upr (upr (upr zi 8 (nI 1)) 9 (nI 1)) 10 (nI 1)) 11 (nI 1)) 12 (nI 1)) 13 (nI 1)) 14 (nI 1)) 15 (nI 1)) := (up2_row.trans (by rw [jt_50]))
  generalize mI μ50 573 15 (nI 1) = μ51 at b51 jt_51 ⊢
  refine T_iinc (pc := 216) (i := 1) (v := nI 7) (ls' := [some (.ref 572), some (.int (nI 7))]) dX12_init_216 rfl (by decide) rfl ?_
  refine T_goto (pc := 219) (tgt := 200) dX12_init_219 (by decide) ?_
  refine T_iload_n (pc := 200) (i := 1) dX12_init_200 rfl rfl ?_
  refine T_bipush (pc := 201) (v := nI 8) dX12_init_201 (by decide) ?_
  refine T_icmp_ge (pc := 203) (tgt := 222) dX12_init_203 (by decide) (fun h => absurd h (by decide)) (fun _ => ?_)
  refine T_aload_n (pc := 206) (i := 0) dX12_init_206 rfl rfl ?_
  refine T_getR (pc := 207) (c := 12) (j := 1) (i := 573) fl_X12_29 rfl (show KT 572 = (0, 12) by decide) (by rw [b51.n]; omega) (by rw [b51.r]; rfl) dX12_init_207 ?_
  refine T_bipush (pc := 210) (v := nI 9) dX12_init_210 (by decide) ?_
  refine T_iload_n (pc := 212) (i := 1) dX12_init_212 rfl rfl ?_
  refine T_iadd (pc := 213) dX12_init_213 ?_
  refine T_topi (v := nI 16) (by decide) ?_
  refine T_iconst (pc := 214) (v := nI 1) dX12_init_214 (by decide) ?_
  refine T_iast (pc := 215) (n := 1989) (show KT 573 = (1, 1989) by decide) (by rw [b51.n]; omega) (vp_in_nI (e := 16) (by omega) (by omega)) dX12_init_215 ?_
  rw [nI_clamp (n := 16) (by omega)]
  have b52 : Bd 572 572 594 (upr (upr (upr (upr (upr (upr (upr (upr (upr (upr (upr (upr (upr (upr (upr (upr (upr (upr (upr (upr (upr z0 1 (573 + 1)) 2 (574 + 1)) 3 (575 + 1)) 4 (576 + 1)) 7 (577 + 1)) 14 (578 + 1)) 18 (579 + 1)) 23 (580 + 1)) 25 (581 + 1)) 26 (582 + 1)) 27 (583 + 1)) 28 (584 + 1)) 30 (585 + 1)) 31 (586 + 1)) 41 (587 + 1)) 42 (588 + 1)) 44 (589 + 1)) 45 (590 + 1)) 46 (591 + 1)) 48 (592 + 1)) 49 (593 + 1)) z0 (upr zi 13 (-1)) μ (mI μ51 573 16 (nI 1)) := b51.ist (by omega)
  have jt_52 : (mI μ51 573 16 (nI 1)).2.2.1 573 = (upr (upr (upr (upr (upr (upr (upr (upr (upr zi 8 (nI 1)) 9 (nI 1)) 10 (nI 1)) 11 (nI 1)) 12 (nI 1)) 13 (nI 1)) 14 (nI 1)) 15 (nI 1)) 16 (nI 1)) := (up2_row.trans (by rw [jt_51]))
  generalize mI μ51 573 16 (nI 1) = μ52 at b52 jt_52 ⊢
  refine T_iinc (pc := 216) (i := 1) (v := nI 8) (ls' := [some (.ref 572), some (.int (nI 8))]) dX12_init_216 rfl (by decide) rfl ?_
  refine T_goto (pc := 219) (tgt := 200) dX12_init_219 (by decide) ?_
  refine T_iload_n (pc := 200) (i := 1) dX12_init_200 rfl rfl ?_
  refine T_bipush (pc := 201) (v := nI 8) dX12_init_201 (by decide) ?_
  refine T_icmp_ge (pc := 203) (tgt := 222) dX12_init_203 (by decide) (fun _ => ?_) (fun h => absurd (by decide) h)
  have hr : R0 572 = (upr (upr (upr (upr (upr (upr (upr (upr (upr (upr (upr (upr (upr (upr (upr (upr (upr (upr (upr (upr (upr z0 1 (573 + 1)) 2 (574 + 1)) 3 (575 + 1)) 4 (576 + 1)) 7 (577 + 1)) 14 (578 + 1)) 18 (579 + 1)) 23 (580 + 1)) 25 (581 + 1)) 26 (582 + 1)) 27 (583 + 1)) 28 (584 + 1)) 30 (585 + 1)) 31 (586 + 1)) 41 (587 + 1)) 42 (588 + 1)) 44 (589 + 1)) 45 (590 + 1)) 46 (591 + 1)) 48 (592 + 1)) 49 (593 + 1)) := by
    funext j
    show rt (KT 572) 572 j = _
    rw [(show KT 572 = (0, 12) by decide)]
    match j with
    | 0 => rfl
    | 1 => rfl
    | 2 => rfl
    | 3 => rfl
    | 4 => rfl
    | 5 => rfl
    | 6 => rfl
    | 7 => rfl
    | 8 => rfl
    | 9 => rfl
    | 10 => rfl
    | 11 => rfl
    | 12 => rfl
    | 13 => rfl
    | 14 => rfl
    | 15 => rfl
    | 16 => rfl
    | 17 => rfl
    | 18 => rfl
    | 19 => rfl
    | 20 => rfl
    | 21 => rfl
    | 22 => rfl
    | 23 => rfl
    | 24 => rfl
    | 25 => rfl
    | 26 => rfl
    | 27 => rfl
    | 28 => rfl
    | 29 => rfl
    | 30 => rfl
    | 31 => rfl
    | 32 => rfl
    | 33 => rfl
    | 34 => rfl
    | 35 => rfl
    | 36 => rfl
    | 37 => rfl
    | 38 => rfl
    | 39 => rfl
    | 40 => rfl
    | 41 => rfl
    | 42 => rfl
    | 43 => rfl
    | 44 => rfl
    | 45 => rfl
    | 46 => rfl
    | 47 => rfl
    | 48 => rfl
    | 49 => rfl
    | 50 => rfl
    | q + 51 => (simp only [upr]; rw [if_neg (by omega), if_neg (by omega), if_neg (by omega), if_neg (by omega), if_neg (by omega), if_neg (by omega), if_neg (by omega), if_neg (by omega), if_neg (by omega), if_neg (by omega), if_neg (by omega), if_neg (by omega), if_neg (by omega), if_neg (by omega), if_neg (by omega), if_neg (by omega), if_neg (by omega), if_neg (by omega), if_neg (by omega), if_neg (by omega), if_neg (by omega)] <;> rfl)
  exact T_vret (pc := 222) dX12_init_222 rfl (Nat.le_of_ble_eq_true rfl) (Nat.le_of_ble_eq_true rfl) ⟨rfl, b52.done hr (fun h => absurd h (Nat.lt_irrefl _)) ⟨b52.i, jt_52⟩⟩
end CT9

