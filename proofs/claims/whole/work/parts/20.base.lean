/-! the class's own: CODES -/
section B1
variable {γ : Ga} {μ : SM2}
theorem c_sizeOf {c : Nat} (hc : c < 2 ^ 63) : Ex γ 1 0 0 M_X11_sizeOf [.long (lN c)] (rm μ) (Fn (some (.int (nI (sz c)))) μ) := by
  refine Ex.of (by decide +kernel) rfl (Nat.le_of_ble_eq_true rfl) ?_
  show T _ _ _ _ _ _ _ _ _ [some (.long (lN c)), none, none] [] (rm μ)
  refine T_iconst (pc := 0) (v := nI 0) dX11_sizeOf_0 (by decide) ?_
  refine T_istore_n (pc := 1) (i := 2) (ls' := [some (.long (lN c)), none, some (.int (nI 0))]) dX11_sizeOf_1 rfl (by decide) rfl ?_
  suffices loop : ∀ f k, k + f = 20 → T γ 1 0 0 M_X11_sizeOf (Fn (some (.int (nI (szF c f k)))) μ) 0 0 2 [some (.long (lN c)), none, some (.int (nI k))] [] (rm μ) from loop 20 0 rfl
  intro f
  induction f with
  | zero =>
    intro k hk
    refine T_iload_n (pc := 2) (i := 2) dX11_sizeOf_2 rfl rfl ?_
    refine T_bipush (pc := 3) (v := nI 20) dX11_sizeOf_3 (by decide) ?_
    refine R_icmp_ge (pc := 5) (tgt := 26) (by omega) (by omega) dX11_sizeOf_5 (by decide) (fun h => ?_) (fun h => ?_)
    · skip
      refine T_iload_n (pc := 26) (i := 2) dX11_sizeOf_26 rfl rfl ?_
      exact T_iret (pc := 27) (ty := .int) dX11_sizeOf_27 rfl rfl (Nat.le_refl _) (Nat.le_refl _) ⟨rfl, rfl⟩
    · skip
      exact absurd h (by omega)
  | succ f ih =>
    intro k hk
    refine T_iload_n (pc := 2) (i := 2) dX11_sizeOf_2 rfl rfl ?_
    refine T_bipush (pc := 3) (v := nI 20) dX11_sizeOf_3 (by decide) ?_
    refine R_icmp_ge (pc := 5) (tgt := 26) (by omega) (by omega) dX11_sizeOf_5 (by decide) (fun h => ?_) (fun h => ?_)
    · exact absurd h (by omega)
    · skip
      refine T_lload_n (pc := 8) (i := 0) dX11_sizeOf_8 rfl rfl ?_
      refine T_iconst (pc := 9) (v := nI 3) dX11_sizeOf_9 (by decide) ?_
      refine T_iload_n (pc := 10) (i := 2) dX11_sizeOf_10 rfl rfl ?_
      refine R_imul (pc := 11) dX11_sizeOf_11 ?_
      refine T_iconst (pc := 12) (v := nI 3) dX11_sizeOf_12 (by decide) ?_
      refine R_iadd (pc := 13) dX11_sizeOf_13 ?_
      refine R_lushr (pc := 14) ⟨by omega, by omega⟩ dX11_sizeOf_14 ?_
      refine T_lconst (pc := 15) (v := lN 0) dX11_sizeOf_15 rfl ?_
      refine T_lcmp (pc := 16) dX11_sizeOf_16 ?_
      have hb : c / 2 ^ (3 * k + 3) ≤ c := Nat.div_le_self _ _
      refine R_ln_eq (pc := 17) (tgt := 26) (by omega) (by omega) dX11_sizeOf_17 (by decide) (fun h3 => ?_) (fun h3 => ?_)
      · skip
        refine T_iload_n (pc := 26) (i := 2) dX11_sizeOf_26 rfl rfl ?_
        unfold szF
        rw [if_pos h3]
        exact T_iret (pc := 27) (ty := .int) dX11_sizeOf_27 rfl rfl (Nat.le_refl _) (Nat.le_refl _) ⟨rfl, rfl⟩
      · skip
        refine R_iinc (pc := 20) (i := 2) (n := 1) (ls' := [some (.long (lN c)), none, some (.int (nI (k + 1)))]) dX11_sizeOf_20 rfl rfl ?_
        refine T_goto (pc := 23) (tgt := 2) dX11_sizeOf_23 (by decide) ?_
        unfold szF
        rw [if_neg h3]
        exact ih (k + 1) (by omega)
theorem c_sizeOf_cd {l : List Nat} (hl : Mw l) : Ex γ 1 0 0 M_X11_sizeOf [.long (lN (cd l))] (rm μ) (Fn (some (.int (nI l.length))) μ) := by
  rw [← sz_cd hl]
  exact c_sizeOf (Nat.lt_of_lt_of_le (cd_lt hl) (by decide))
theorem c_figures {n : Nat} (h : n ≤ 20) : Ex γ 1 0 0 M_X11_figures [.int (nI n)] (rm μ) (Fn (some (.long (lN (8 ^ n - 1)))) μ) := by
  refine Ex.of (by decide +kernel) rfl (Nat.le_of_ble_eq_true rfl) ?_
  show T _ _ _ _ _ _ _ _ _ [some (.int (nI n))] [] (rm μ)
  have h1 : 1 ≤ 1 * 2 ^ (3 * n) := by rw [Nat.one_mul]; exact Nat.pow_pos (by decide)
  refine T_lconst (pc := 0) (v := lN 1) dX11_figures_0 rfl ?_
  refine T_iconst (pc := 1) (v := nI 3) dX11_figures_1 (by decide) ?_
  refine T_iload_n (pc := 2) (i := 0) dX11_figures_2 rfl rfl ?_
  refine R_imul (pc := 3) dX11_figures_3 ?_
  refine R_lshl (pc := 4) (by omega) dX11_figures_4 ?_
  refine T_lconst (pc := 5) (v := lN 1) dX11_figures_5 rfl ?_
  refine R_lsub (pc := 6) h1 dX11_figures_6 ?_
  exact T_lret dX11_figures_7 rfl (Nat.le_refl _) (Nat.le_refl _) ⟨by rw [Nat.one_mul, p8], rfl⟩
theorem c_beastAt {l : List Nat} (hl : Mw l) {i : Nat} (hi : i < l.length) : Ex γ 1 0 0 M_X11_beastAt [.long (lN (cd l)), .int (nI l.length), .int (nI i)] (rm μ) (Fn (some (.int (nI (l.getD i 0)))) μ) := by
  have hc := cd_lt hl
  have hn := hl.1
  refine Ex.of (by decide +kernel) rfl (Nat.le_of_ble_eq_true rfl) ?_
  show T _ _ _ _ _ _ _ _ _ [some (.long (lN (cd l))), none, some (.int (nI l.length)), some (.int (nI i))] [] (rm μ)
  refine T_lload_n (pc := 0) (i := 0) dX11_beastAt_0 rfl rfl ?_
  refine T_iconst (pc := 1) (v := nI 3) dX11_beastAt_1 (by decide) ?_
  refine T_iload_n (pc := 2) (i := 2) dX11_beastAt_2 rfl rfl ?_
  refine T_iconst (pc := 3) (v := nI 1) dX11_beastAt_3 (by decide) ?_
  refine R_isub (pc := 4) (by omega) dX11_beastAt_4 ?_
  refine T_iload_n (pc := 5) (i := 3) dX11_beastAt_5 rfl rfl ?_
  refine R_isub (pc := 6) (by omega) dX11_beastAt_6 ?_
  refine R_imul (pc := 7) dX11_beastAt_7 ?_
  refine R_lushr (pc := 8) ⟨by omega, by omega⟩ dX11_beastAt_8 ?_
  refine T_ldc2 (pc := 9) dX11_beastAt_9 cn_X11_477 ?_
  refine T_topl (v := lN 7) (by decide) ?_
  refine R_land (pc := 12) dX11_beastAt_12 ?_
  refine R_l2i (pc := 13) dX11_beastAt_13 ?_
  exact T_iret (pc := 14) (ty := .int) dX11_beastAt_14 rfl rfl (Nat.le_refl _) (Nat.le_refl _) ⟨by rw [show (7 : Nat) = 8 ^ 1 - 1 by decide, and_mask, p8, Nat.pow_one, cd_digD hl.2 hi], rfl⟩
theorem c_kindsIn {l : List Nat} (hl : Mw l) : Ex γ 2 0 0 M_X11_kindsIn [.long (lN (cd l))] (rm μ) (Fn (some (.int (nI (kd l)))) μ) := by
  have hn := hl.1
  refine Ex.of (by decide +kernel) rfl (Nat.le_of_ble_eq_true rfl) ?_
  show T _ _ _ _ _ _ _ _ _ [some (.long (lN (cd l))), none, none, none, none] [] (rm μ)
  refine T_lload_n (pc := 0) (i := 0) dX11_kindsIn_0 rfl rfl ?_
  refine R_callS1 (pc := 1) (av := [.long (lN (cd l))]) (rest := []) (Or.inl lk_X11_173) mk_X11_sizeOf (c_sizeOf_cd hl) dX11_kindsIn_1 rfl rfl (Nat.le_of_ble_eq_true rfl) (by decide) rfl (Nat.le_refl _) (Nat.le_refl _) ?_
  refine T_istore_n (pc := 4) (i := 2) (ls' := [some (.long (lN (cd l))), none, some (.int (nI l.length)), none, none]) dX11_kindsIn_4 rfl (by decide) rfl ?_
  refine T_iconst (pc := 5) (v := nI 0) dX11_kindsIn_5 (by decide) ?_
  refine T_istore_n (pc := 6) (i := 3) (ls' := [some (.long (lN (cd l))), none, some (.int (nI l.length)), some (.int (nI 0)), none]) dX11_kindsIn_6 rfl (by decide) rfl ?_
  refine T_iconst (pc := 7) (v := nI 0) dX11_kindsIn_7 (by decide) ?_
  refine T_istore (pc := 8) (i := 4) (ls' := [some (.long (lN (cd l))), none, some (.int (nI l.length)), some (.int (nI 0)), some (.int (nI 0))]) dX11_kindsIn_8 (by decide) rfl ?_
  suffices loop : ∀ f i, i + f = l.length → T γ 2 0 0 M_X11_kindsIn (Fn (some (.int (nI (kd l)))) μ) 0 0 10 [some (.long (lN (cd l))), none, some (.int (nI l.length)), some (.int (nI (kd (l.take i)))), some (.int (nI i))] [] (rm μ) from loop l.length 0 (by omega)
  intro f
  induction f with
  | zero =>
    intro i hi
    refine T_iload (pc := 10) (i := 4) dX11_kindsIn_10 rfl ?_
    refine T_iload_n (pc := 12) (i := 2) dX11_kindsIn_12 rfl rfl ?_
    refine R_icmp_ge (pc := 13) (tgt := 34) (by omega) (by omega) dX11_kindsIn_13 (by decide) (fun h => ?_) (fun h => ?_)
    · skip
      refine T_iload_n (pc := 34) (i := 3) dX11_kindsIn_34 rfl rfl ?_
      rw [List.take_of_length_le (by omega)]
      exact T_iret (pc := 35) (ty := .int) dX11_kindsIn_35 rfl rfl (Nat.le_refl _) (Nat.le_refl _) ⟨rfl, rfl⟩
    · exact absurd h (by omega)
  | succ f ih =>
    intro i hi
    have hk : kd (l.take i) < 2 ^ 8 := kd_lt (okb_take hl.2)
    have hd := getD_lt hl.2 i
    refine T_iload (pc := 10) (i := 4) dX11_kindsIn_10 rfl ?_
    refine T_iload_n (pc := 12) (i := 2) dX11_kindsIn_12 rfl rfl ?_
    refine R_icmp_ge (pc := 13) (tgt := 34) (by omega) (by omega) dX11_kindsIn_13 (by decide) (fun h => ?_) (fun h => ?_)
    · exact absurd h (by omega)
    · skip
      refine T_iload_n (pc := 16) (i := 3) dX11_kindsIn_16 rfl rfl ?_
      refine T_iconst (pc := 17) (v := nI 1) dX11_kindsIn_17 (by decide) ?_
      refine T_lload_n (pc := 18) (i := 0) dX11_kindsIn_18 rfl rfl ?_
      refine T_iload_n (pc := 19) (i := 2) dX11_kindsIn_19 rfl rfl ?_
      refine T_iload (pc := 20) (i := 4) dX11_kindsIn_20 rfl ?_
      refine R_callS1 (pc := 22) (av := [.long (lN (cd l)), .int (nI l.length), .int (nI i)]) (rest := [.int (nI 1), .int (nI (kd (l.take i)))]) (Or.inl lk_X11_177) mk_X11_beastAt (c_beastAt hl h) dX11_kindsIn_22 rfl rfl (Nat.le_of_ble_eq_true rfl) (by decide) rfl (Nat.le_refl _) (Nat.le_refl _) ?_
      refine R_ishl (pc := 25) (by omega) dX11_kindsIn_25 ?_
      refine R_ior (pc := 26) dX11_kindsIn_26 ?_
      refine T_istore_n (pc := 27) (i := 3) (ls' := [some (.long (lN (cd l))), none, some (.int (nI l.length)), some (.int (nI ((kd (l.take i)) ||| (1 * 2 ^ (l.getD i 0))))), some (.int (nI i))]) dX11_kindsIn_27 rfl (by decide) rfl ?_
      refine R_iinc (pc := 28) (i := 4) (n := 1) (ls' := [some (.long (lN (cd l))), none, some (.int (nI l.length)), some (.int (nI ((kd (l.take i)) ||| (1 * 2 ^ (l.getD i 0))))), some (.int (nI (i + 1)))]) dX11_kindsIn_28 rfl rfl ?_
      refine T_goto (pc := 31) (tgt := 10) dX11_kindsIn_31 (by decide) ?_
      have h9 := ih (i + 1) (by omega)
      rw [take_s 0 h, kd_snoc] at h9
      rw [Nat.one_mul]
      exact h9
theorem c_withBeasts {l : List Nat} {b n : Nat} (hb : b < 8) (hn : n ≤ 100) : Ex γ 1 0 0 M_X11_withBeasts [.long (lN (cd l)), .int (nI b), .int (nI n)] (rm μ) (Fn (some (.long (lN (cd (l ++ List.replicate n b))))) μ) := by
  refine Ex.of (by decide +kernel) rfl (Nat.le_of_ble_eq_true rfl) ?_
  show T _ _ _ _ _ _ _ _ _ [some (.long (lN (cd l))), none, some (.int (nI b)), some (.int (nI n)), none, none, none] [] (rm μ)
  refine T_lload_n (pc := 0) (i := 0) dX11_withBeasts_0 rfl rfl ?_
  refine T_lstore (pc := 1) (i := 4) (ls' := [some (.long (lN (cd l))), none, some (.int (nI b)), some (.int (nI n)), some (.long (lN (cd l))), none, none]) dX11_withBeasts_1 (by decide) rfl ?_
  refine T_iconst (pc := 3) (v := nI 0) dX11_withBeasts_3 (by decide) ?_
  refine T_istore (pc := 4) (i := 6) (ls' := [some (.long (lN (cd l))), none, some (.int (nI b)), some (.int (nI n)), some (.long (lN (cd l))), none, some (.int (nI 0))]) dX11_withBeasts_4 (by decide) rfl ?_
  suffices loop : ∀ f i, i + f = n → T γ 1 0 0 M_X11_withBeasts (Fn (some (.long (lN (cd (l ++ List.replicate n b))))) μ) 0 0 6 [some (.long (lN (cd l))), none, some (.int (nI b)), some (.int (nI n)), some (.long (lN (cd (l ++ List.replicate i b)))), none, some (.int (nI i))] [] (rm μ) from by
    have h9 := loop n 0 (by omega)
    rw [show l ++ List.replicate 0 b = l from List.append_nil l] at h9
    exact h9
  intro f
  induction f with
  | zero =>
    intro i hi
    refine T_iload (pc := 6) (i := 6) dX11_withBeasts_6 rfl ?_
    refine T_iload_n (pc := 8) (i := 3) dX11_withBeasts_8 rfl rfl ?_
    refine R_icmp_ge (pc := 9) (tgt := 27) (by omega) (by omega) dX11_withBeasts_9 (by decide) (fun h => ?_) (fun h => ?_)
    · skip
      refine T_lload (pc := 27) (i := 4) dX11_withBeasts_27 rfl ?_
      rw [show i = n by omega]
      exact T_lret dX11_withBeasts_29 rfl (Nat.le_refl _) (Nat.le_refl _) ⟨rfl, rfl⟩
    · exact absurd h (by omega)
  | succ f ih =>
    intro i hi
    refine T_iload (pc := 6) (i := 6) dX11_withBeasts_6 rfl ?_
    refine T_iload_n (pc := 8) (i := 3) dX11_withBeasts_8 rfl rfl ?_
    refine R_icmp_ge (pc := 9) (tgt := 27) (by omega) (by omega) dX11_withBeasts_9 (by decide) (fun h => ?_) (fun h => ?_)
    · exact absurd h (by omega)
    · skip
      refine T_lload (pc := 12) (i := 4) dX11_withBeasts_12 rfl ?_
      refine T_iconst (pc := 14) (v := nI 3) dX11_withBeasts_14 (by decide) ?_
      refine R_lshl (pc := 15) (by omega) dX11_withBeasts_15 ?_
      refine T_iload_n (pc := 16) (i := 2) dX11_withBeasts_16 rfl rfl ?_
      refine R_i2l (pc := 17) (by omega) dX11_withBeasts_17 ?_
      refine R_lor (pc := 18) dX11_withBeasts_18 ?_
      refine T_lstore (pc := 19) (i := 4) (ls' := [some (.long (lN (cd l))), none, some (.int (nI b)), some (.int (nI n)), some (.long (lN (((cd (l ++ List.replicate i b)) * 2 ^ 3) ||| b))), none, some (.int (nI i))]) dX11_withBeasts_19 (by decide) rfl ?_
      refine R_iinc (pc := 21) (i := 6) (n := 1) (ls' := [some (.long (lN (cd l))), none, some (.int (nI b)), some (.int (nI n)), some (.long (lN (((cd (l ++ List.replicate i b)) * 2 ^ 3) ||| b))), none, some (.int (nI (i + 1)))]) dX11_withBeasts_21 rfl rfl ?_
      refine T_goto (pc := 24) (tgt := 6) dX11_withBeasts_24 (by decide) ?_
      have h9 := ih (i + 1) (by omega)
      rw [List.replicate_succ', ← List.append_assoc, cd_snoc] at h9
      rw [show (2 : Nat) ^ 3 = 8 ^ 1 by decide, or_add _ (by omega), Nat.pow_one]
      exact h9
theorem c_withPart {l o : List Nat} (ho : Mw o) {a b : Nat} (hab : a ≤ b) (hb : b ≤ o.length) : Ex γ 2 0 0 M_X11_withPart [.long (lN (cd l)), .long (lN (cd o)), .int (nI o.length), .int (nI a), .int (nI b)] (rm μ) (Fn (some (.long (lN (cd (l ++ (o.take b).drop a))))) μ) := by
  have hn := ho.1
  have hc := cd_lt ho
  refine Ex.of (by decide +kernel) rfl (Nat.le_of_ble_eq_true rfl) ?_
  show T _ _ _ _ _ _ _ _ _ [some (.long (lN (cd l))), none, some (.long (lN (cd o))), none, some (.int (nI o.length)), some (.int (nI a)), some (.int (nI b)), none] [] (rm μ)
  refine T_iload (pc := 0) (i := 6) dX11_withPart_0 rfl ?_
  refine T_iload (pc := 2) (i := 5) dX11_withPart_2 rfl ?_
  refine R_isub (pc := 4) (by omega) dX11_withPart_4 ?_
  refine T_istore (pc := 5) (i := 7) (ls' := [some (.long (lN (cd l))), none, some (.long (lN (cd o))), none, some (.int (nI o.length)), some (.int (nI a)), some (.int (nI b)), some (.int (nI (b - a)))]) dX11_withPart_5 (by decide) rfl ?_
  refine T_lload_n (pc := 7) (i := 0) dX11_withPart_7 rfl rfl ?_
  refine T_iconst (pc := 8) (v := nI 3) dX11_withPart_8 (by decide) ?_
  refine T_iload (pc := 9) (i := 7) dX11_withPart_9 rfl ?_
  refine R_imul (pc := 11) dX11_withPart_11 ?_
  refine R_lshl (pc := 12) (by omega) dX11_withPart_12 ?_
  refine T_lload_n (pc := 13) (i := 2) dX11_withPart_13 rfl rfl ?_
  refine T_iconst (pc := 14) (v := nI 3) dX11_withPart_14 (by decide) ?_
  refine T_iload (pc := 15) (i := 4) dX11_withPart_15 rfl ?_
  refine T_iload (pc := 17) (i := 6) dX11_withPart_17 rfl ?_
  refine R_isub (pc := 19) (by omega) dX11_withPart_19 ?_
  refine R_imul (pc := 20) dX11_withPart_20 ?_
  refine R_lushr (pc := 21) ⟨by omega, by omega⟩ dX11_withPart_21 ?_
  refine T_iload (pc := 22) (i := 7) dX11_withPart_22 rfl ?_
  refine R_callS1 (pc := 24) (av := [.int (nI (b - a))]) (rest := [.long (lN ((cd o) / 2 ^ (3 * (o.length - b)))), .long (lN ((cd l) * 2 ^ (3 * (b - a))))]) (Or.inl lk_X11_279) mk_X11_figures (c_figures (by omega)) dX11_withPart_24 rfl rfl (Nat.le_of_ble_eq_true rfl) (by decide) rfl (Nat.le_refl _) (Nat.le_refl _) ?_
  refine R_land (pc := 27) dX11_withPart_27 ?_
  refine R_lor (pc := 28) dX11_withPart_28 ?_
  have e1 := cd_div ho.2 (k := o.length - b) (by omega)
  rw [show o.length - (o.length - b) = b by omega] at e1
  have e2 := cd_mod (okb_take (n := b) ho.2) (k := b - a) (by rw [List.length_take]; omega)
  rw [List.length_take, show min b o.length - (b - a) = a by omega] at e2
  have e3 : vl ((o.take b).drop a) < 8 ^ (b - a) := by
    have := vl_lt (okb_drop (n := a) (okb_take (n := b) ho.2))
    rwa [List.length_drop, List.length_take, show min b o.length - a = b - a by omega] at this
  have e4 := cd_app l ((o.take b).drop a)
  rw [List.length_drop, List.length_take, show min b o.length - a = b - a by omega] at e4
  exact T_lret dX11_withPart_29 rfl (Nat.le_refl _) (Nat.le_refl _) ⟨by rw [p8, p8, e1, and_mask, e2, or_add _ e3, e4], rfl⟩
theorem c_standsIn {l L : List Nat} (hl : Mw l) (hL : okb L) (hLn : L.length ≤ 20) {p : Nat} (hp : p < 2 ^ 31) : Ex γ 2 0 0 M_X11_standsIn [.long (lN (cd l)), .int (nI l.length), .int (nI p), .long (lN (cd L)), .int (nI L.length)] (rm μ) (Fn (some (.int (bI (stB l p L)))) μ) := by
  have hn := hl.1
  have hc := cd_lt hl
  have hc2 : cd L < 2 ^ 61 := cd_lt ⟨hLn, hL⟩
  refine Ex.of (by decide +kernel) rfl (Nat.le_of_ble_eq_true rfl) ?_
  show T _ _ _ _ _ _ _ _ _ [some (.long (lN (cd l))), none, some (.int (nI l.length)), some (.int (nI p)), some (.long (lN (cd L))), none, some (.int (nI L.length)), none] [] (rm μ)
  refine T_iload_n (pc := 0) (i := 3) dX11_standsIn_0 rfl rfl ?_
  refine R_if_lt (pc := 1) (tgt := 17) (by omega) dX11_standsIn_1 (by decide) (fun h0 => ?_) (fun h0 => ?_)
  · exact h0.elim
  · skip
    refine T_iload_n (pc := 4) (i := 3) dX11_standsIn_4 rfl rfl ?_
    refine T_iload_n (pc := 5) (i := 2) dX11_standsIn_5 rfl rfl ?_
    refine R_icmp_ge (pc := 6) (tgt := 17) (by omega) (by omega) dX11_standsIn_6 (by decide) (fun h1 => ?_) (fun h1 => ?_)
    · skip
      refine T_iconst (pc := 17) (v := nI 0) dX11_standsIn_17 (by decide) ?_
      have hb : stB l p L = false := by unfold stB; rw [decide_eq_false (by omega)]; rfl
      exact T_iret (pc := 18) (ty := .boolean) dX11_standsIn_18 rfl (by decide) (Nat.le_refl _) (Nat.le_refl _) ⟨by rw [hb]; rfl, rfl⟩
    · skip
      refine T_iload (pc := 9) (i := 6) dX11_standsIn_9 rfl ?_
      refine T_iload_n (pc := 11) (i := 2) dX11_standsIn_11 rfl rfl ?_
      refine T_iload_n (pc := 12) (i := 3) dX11_standsIn_12 rfl rfl ?_
      refine R_isub (pc := 13) (by omega) dX11_standsIn_13 ?_
      refine R_icmp_le (pc := 14) (tgt := 19) (by omega) (by omega) dX11_standsIn_14 (by decide) (fun h2 => ?_) (fun h2 => ?_)
      · skip
        refine T_iload_n (pc := 19) (i := 2) dX11_standsIn_19 rfl rfl ?_
        refine T_iload_n (pc := 20) (i := 3) dX11_standsIn_20 rfl rfl ?_
        refine R_isub (pc := 21) (by omega) dX11_standsIn_21 ?_
        refine T_iload (pc := 22) (i := 6) dX11_standsIn_22 rfl ?_
        refine R_isub (pc := 24) (by omega) dX11_standsIn_24 ?_
        refine T_istore (pc := 25) (i := 7) (ls' := [some (.long (lN (cd l))), none, some (.int (nI l.length)), some (.int (nI p)), some (.long (lN (cd L))), none, some (.int (nI L.length)), some (.int (nI ((l.length - p) - L.length)))]) dX11_standsIn_25 (by decide) rfl ?_
        refine T_lload_n (pc := 27) (i := 0) dX11_standsIn_27 rfl rfl ?_
        refine T_iconst (pc := 28) (v := nI 3) dX11_standsIn_28 (by decide) ?_
        refine T_iload (pc := 29) (i := 7) dX11_standsIn_29 rfl ?_
        refine R_imul (pc := 31) dX11_standsIn_31 ?_
        refine R_lushr (pc := 32) ⟨by omega, by omega⟩ dX11_standsIn_32 ?_
        refine T_lload (pc := 33) (i := 4) dX11_standsIn_33 rfl ?_
        refine R_lxor (pc := 35) dX11_standsIn_35 ?_
        refine T_iload (pc := 36) (i := 6) dX11_standsIn_36 rfl ?_
        refine R_callS1 (pc := 38) (av := [.int (nI L.length)]) (rest := [.long (lN (((cd l) / 2 ^ (3 * ((l.length - p) - L.length))) ^^^ (cd L)))]) (Or.inl lk_X11_279) mk_X11_figures (c_figures hLn) dX11_standsIn_38 rfl rfl (Nat.le_of_ble_eq_true rfl) (by decide) rfl (Nat.le_refl _) (Nat.le_refl _) ?_
        refine R_land (pc := 41) dX11_standsIn_41 ?_
        refine T_lconst (pc := 42) (v := lN 0) dX11_standsIn_42 rfl ?_
        refine T_lcmp (pc := 43) dX11_standsIn_43 ?_
        rw [p8]
        have hx : (cd l / 8 ^ (l.length - p - L.length) ^^^ cd L) &&& (8 ^ L.length - 1) < 2 ^ 63 := Nat.lt_of_le_of_lt Nat.and_le_right (by have := nI8 hLn; omega)
        have hk := stB_code hl.2 hL h1 h2
        refine R_ln_ne (tgt := 51) hx (by omega) dX11_standsIn_44 (by decide) (fun h3 => ?_) (fun h3 => ?_)
        · have hb : stB l p L = false := by unfold stB; rw [decide_eq_false (p := List.take L.length (List.drop p l) = L) (fun z => h3 (hk.mpr z))]; simp
          refine T_iconst (pc := 51) (v := nI 0) dX11_standsIn_51 (by decide) ?_
          exact T_iret (pc := 52) (ty := .boolean) dX11_standsIn_52 rfl (by decide) (Nat.le_refl _) (Nat.le_refl _) ⟨by rw [hb]; rfl, rfl⟩
        · have hb : stB l p L = true := by unfold stB; rw [decide_eq_true (p := List.take L.length (List.drop p l) = L) (hk.mp h3), decide_eq_true h1, decide_eq_true h2]; rfl
          refine T_iconst (pc := 47) (v := nI 1) dX11_standsIn_47 (by decide) ?_
          refine T_goto (pc := 48) (tgt := 52) dX11_standsIn_48 (by decide) ?_
          exact T_iret (pc := 52) (ty := .boolean) dX11_standsIn_52 rfl (by decide) (Nat.le_refl _) (Nat.le_refl _) ⟨by rw [hb]; rfl, rfl⟩
      · skip
        refine T_iconst (pc := 17) (v := nI 0) dX11_standsIn_17 (by decide) ?_
        have hb : stB l p L = false := by unfold stB; rw [decide_eq_false (p := L.length ≤ l.length - p) (by omega)]; simp
        exact T_iret (pc := 18) (ty := .boolean) dX11_standsIn_18 rfl (by decide) (Nat.le_refl _) (Nat.le_refl _) ⟨by rw [hb]; rfl, rfl⟩
theorem c_standsIn_neg {l L : List Nat} {x : Int32} (hx : x < 0) : Ex γ 2 0 0 M_X11_standsIn [.long (lN (cd l)), .int (nI l.length), .int x, .long (lN (cd L)), .int (nI L.length)] (rm μ) (Fn (some (.int (bI false))) μ) := by
  refine Ex.of (by decide +kernel) rfl (Nat.le_of_ble_eq_true rfl) ?_
  show T _ _ _ _ _ _ _ _ _ [some (.long (lN (cd l))), none, some (.int (nI l.length)), some (.int (x)), some (.long (lN (cd L))), none, some (.int (nI L.length)), none] [] (rm μ)
  refine T_iload_n (pc := 0) (i := 3) dX11_standsIn_0 rfl rfl ?_
  refine T_if_lt (pc := 1) (tgt := 17) dX11_standsIn_1 (by decide) (fun h0 => ?_) (fun h0 => ?_)
  · skip
    refine T_iconst (pc := 17) (v := nI 0) dX11_standsIn_17 (by decide) ?_
    exact T_iret (pc := 18) (ty := .boolean) dX11_standsIn_18 rfl (by decide) (Nat.le_refl _) (Nat.le_refl _) ⟨rfl, rfl⟩
  · exact absurd hx h0
theorem c_replaced {l L R : List Nat} (hl : Mw l) (hR : Mw R) {p : Nat} (hp : p + L.length ≤ l.length) : Ex γ 3 0 0 M_X11_replaced [.long (lN (cd l)), .int (nI l.length), .int (nI p), .int (nI L.length), .long (lN (cd R)), .int (nI R.length)] (rm μ) (Fn (some (.long (lN (cd (usd l p L R))))) μ) := by
  have hn := hl.1
  have hc := cd_lt hl
  have hRn := hR.1
  refine Ex.of (by decide +kernel) rfl (Nat.le_of_ble_eq_true rfl) ?_
  show T _ _ _ _ _ _ _ _ _ [some (.long (lN (cd l))), none, some (.int (nI l.length)), some (.int (nI p)), some (.int (nI L.length)), some (.long (lN (cd R))), none, some (.int (nI R.length)), none, none, none, none] [] (rm μ)
  refine T_lload_n (pc := 0) (i := 0) dX11_replaced_0 rfl rfl ?_
  refine T_iconst (pc := 1) (v := nI 3) dX11_replaced_1 (by decide) ?_
  refine T_iload_n (pc := 2) (i := 2) dX11_replaced_2 rfl rfl ?_
  refine T_iload_n (pc := 3) (i := 3) dX11_replaced_3 rfl rfl ?_
  refine R_isub (pc := 4) (by omega) dX11_replaced_4 ?_
  refine R_imul (pc := 5) dX11_replaced_5 ?_
  refine R_lushr (pc := 6) ⟨by omega, by omega⟩ dX11_replaced_6 ?_
  refine T_lstore (pc := 7) (i := 8) (ls' := [some (.long (lN (cd l))), none, some (.int (nI l.length)), some (.int (nI p)), some (.int (nI L.length)), some (.long (lN (cd R))), none, some (.int (nI R.length)), some (.long (lN ((cd l) / 2 ^ (3 * (l.length - p))))), none, none, none]) dX11_replaced_7 (by decide) rfl ?_
  refine T_lload (pc := 9) (i := 8) dX11_replaced_9 rfl ?_
  refine T_iconst (pc := 11) (v := nI 3) dX11_replaced_11 (by decide) ?_
  refine T_iload (pc := 12) (i := 7) dX11_replaced_12 rfl ?_
  refine R_imul (pc := 14) dX11_replaced_14 ?_
  refine R_lshl (pc := 15) (by omega) dX11_replaced_15 ?_
  refine T_lload (pc := 16) (i := 5) dX11_replaced_16 rfl ?_
  refine T_iload (pc := 18) (i := 7) dX11_replaced_18 rfl ?_
  refine R_callS1 (pc := 20) (av := [.int (nI R.length)]) (rest := [.long (lN (cd R)), .long (lN (((cd l) / 2 ^ (3 * (l.length - p))) * 2 ^ (3 * R.length)))]) (Or.inl lk_X11_279) mk_X11_figures (c_figures hRn) dX11_replaced_20 rfl rfl (Nat.le_of_ble_eq_true rfl) (by decide) rfl (Nat.le_refl _) (Nat.le_refl _) ?_
  refine R_land (pc := 23) dX11_replaced_23 ?_
  refine R_lor (pc := 24) dX11_replaced_24 ?_
  refine T_lstore (pc := 25) (i := 10) (ls' := [some (.long (lN (cd l))), none, some (.int (nI l.length)), some (.int (nI p)), some (.int (nI L.length)), some (.long (lN (cd R))), none, some (.int (nI R.length)), some (.long (lN ((cd l) / 2 ^ (3 * (l.length - p))))), none, some (.long (lN ((((cd l) / 2 ^ (3 * (l.length - p))) * 2 ^ (3 * R.length)) ||| ((cd R) &&& (8 ^ R.length - 1))))), none]) dX11_replaced_25 (by decide) rfl ?_
  refine T_lload (pc := 27) (i := 10) dX11_replaced_27 rfl ?_
  refine T_lload_n (pc := 29) (i := 0) dX11_replaced_29 rfl rfl ?_
  refine T_iload_n (pc := 30) (i := 2) dX11_replaced_30 rfl rfl ?_
  refine T_iload_n (pc := 31) (i := 3) dX11_replaced_31 rfl rfl ?_
  refine T_iload (pc := 32) (i := 4) dX11_replaced_32 rfl ?_
  refine R_iadd (pc := 34) dX11_replaced_34 ?_
  refine T_iload_n (pc := 35) (i := 2) dX11_replaced_35 rfl rfl ?_
  have e1 := cd_div hl.2 (k := l.length - p) (by omega)
  rw [show l.length - (l.length - p) = p by omega] at e1
  have e2 := cd_mod hR.2 (Nat.le_refl R.length)
  rw [Nat.sub_self, List.drop_zero] at e2
  have e3 := vl_lt hR.2
  have e4 := cd_app (l.take p) R
  have e5 : cd l / 2 ^ (3 * (l.length - p)) * 2 ^ (3 * R.length) ||| cd R &&& 8 ^ R.length - 1 = cd (l.take p ++ R) := by rw [p8, p8, e1, and_mask, e2, or_add _ e3, e4]
  rw [e5]
  refine R_callS1 (pc := 36) (av := [.long (lN (cd (l.take p ++ R))), .long (lN (cd l)), .int (nI l.length), .int (nI (p + L.length)), .int (nI l.length)]) (rest := []) (Or.inl lk_X11_479) mk_X11_withPart (c_withPart hl hp (Nat.le_refl _)) dX11_replaced_36 rfl rfl (Nat.le_of_ble_eq_true rfl) (by decide) rfl (Nat.le_refl _) (Nat.le_refl _) ?_
  exact T_lret dX11_replaced_39 rfl (Nat.le_refl _) (Nat.le_refl _) ⟨by rw [List.take_length]; rfl, rfl⟩
end B1

