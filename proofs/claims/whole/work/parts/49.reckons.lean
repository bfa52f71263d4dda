/-! reckons, dropped -/
theorem mw_rep {l : List Nat} {b n : Nat} (hl : okb l) (hb : b < 8) (h : l.length + n ≤ 20) : Mw (l ++ List.replicate n b) :=
  ⟨by rw [List.length_append, List.length_replicate]; exact h, okb_app.mpr ⟨hl, fun d hd => by rw [(List.mem_replicate.mp hd).2]; exact hb⟩⟩
/-- so many a, b, so many a -/
def rkA (i j : Nat) : List Nat := [] ++ List.replicate i 0 ++ List.replicate 1 1 ++ List.replicate j 0
def rkS (nx : List Nat → Option (List Nat)) (N : Nat) : Option (List Nat) := ff (fun i => ff (fun j => if stT nx 200 (rkA i j) ([] ++ List.replicate (i + j) 0) = true then none else some (rkA i j)) 0 (N + 1)) 0 (N + 1)
/-- the first k of n, by the bits of c from the highest on -/
def ordL (c n k : Nat) : List Nat := (List.range k).map (fun i => c / 2 ^ (n - 1 - i) &&& 1)
def rkO (nx : List Nat → Option (List Nat)) (N : Nat) : Option (List Nat) := ff (fun c => if stT nx 200 (ordL c N N) ([] ++ List.replicate (N - pcn c 12) 0 ++ List.replicate (pcn c 12) 1) = true then none else some (ordL c N N)) 0 (2 ^ N)
def rkEa (k i : Nat) : List Nat := if k = 2 then [] ++ List.replicate i 0 ++ List.replicate 1 2 else [] ++ List.replicate i 0 ++ List.replicate i 0 ++ List.replicate 1 3
def rkEd (k i : Nat) : List Nat := if k = 2 then [] ++ List.replicate i 0 ++ List.replicate 1 2 ++ List.replicate i 0 else [] ++ List.replicate i 0
def rkE (nx : List Nat → Option (List Nat)) (k N : Nat) : Option (List Nat) := ff (fun i => if stT nx 200 (rkEa k i) (rkEd k i) = true then none else some (rkEa k i)) 0 (N + 1)
def rkV (nx : List Nat → Option (List Nat)) (k N : Nat) : Option (List Nat) := if k = 0 then rkS nx N else if k = 1 then rkO nx N else rkE nx k N
theorem rkA_mw {i j : Nat} (hi : i ≤ 4) (hj : j ≤ 4) : Mw (rkA i j) := by
  have h1 : Mw ([] ++ List.replicate i 0) := mw_rep okb_nil (by decide) (by show 0 + i ≤ 20; omega)
  have h2 : Mw ([] ++ List.replicate i 0 ++ List.replicate 1 1) := mw_rep h1.2 (by decide) (by rw [List.length_append, List.length_replicate]; show 0 + i + 1 ≤ 20; omega)
  exact mw_rep h2.2 (by decide) (by rw [List.length_append, List.length_append, List.length_replicate, List.length_replicate]; show 0 + i + 1 + j ≤ 20; omega)
theorem ordL_s {c n k : Nat} : ordL c n (k + 1) = ordL c n k ++ [c / 2 ^ (n - 1 - k) &&& 1] := by
  unfold ordL
  rw [List.range_succ, List.map_append]
  rfl
theorem ordL_mw {c n k : Nat} (h : k ≤ 20) : Mw (ordL c n k) := by
  refine ⟨by unfold ordL; rw [List.length_map, List.length_range]; exact h, fun d hd => ?_⟩
  obtain ⟨i, -, rfl⟩ := List.mem_map.mp hd
  have : c / 2 ^ (n - 1 - i) &&& 1 ≤ 1 := Nat.and_le_right
  omega
theorem pcn_le4 : ∀ n, n ≤ 4 → ∀ c, c < 2 ^ n → pcn c 12 ≤ n := by decide
section RK
variable {γ : Ga} {μ : SM2}
theorem c_reckonsSums {R : List Ru} {LL : List (List Int32)} {w : Wk} {N : Nat} (hE : EnvW μ R LL w) (hN : N ≤ 4) : Ex γ 7 0 0 M_X11_reckonsSums [.ref 0, .int (nI N)] (rm μ) (Rm (some (.long (vO (rkS (nxR R w) N)))) (fun m => OfS SW μ m)) := by
  suffices outer : ∀ (g i : Nat) (m : SM2), i + g = N + 1 → EnvW m R LL w → OfS SW μ m → T γ 7 0 0 M_X11_reckonsSums (Rm (some (.long (vO (ff (fun i => ff (fun j => if stT (nxR R w) 200 (rkA i j) ([] ++ List.replicate (i + j) 0) = true then none else some (rkA i j)) 0 (N + 1)) i g)))) (fun m => OfS SW μ m)) 0 0 2 [some (.ref 0), some (.int (nI N)), some (.int (nI i)), none, none, none] [] (rm m) by
    refine Ex.of (by decide +kernel) rfl (Nat.le_of_ble_eq_true rfl) ?_
    show T _ _ _ _ _ _ _ _ _ [some (.ref 0), some (.int (nI N)), none, none, none, none] [] (rm μ)
    refine T_iconst (pc := 0) (v := nI 0) dX11_reckonsSums_0 (by decide) ?_
    refine T_istore_n (pc := 1) (i := 2) (ls' := [some (.ref 0), some (.int (nI N)), some (.int (nI 0)), none, none, none]) dX11_reckonsSums_1 rfl (by decide) rfl ?_
    exact outer (N + 1) 0 μ (Nat.zero_add _) hE (OfS.refl _ _)
  intro g
  induction g with
  | zero =>
    intro i m hi iE iO
    refine T_iload_n (pc := 2) (i := 2) dX11_reckonsSums_2 rfl rfl ?_
    refine T_iload_n (pc := 3) (i := 1) dX11_reckonsSums_3 rfl rfl ?_
    refine R_icmp_gt (pc := 4) (tgt := 64) (by omega) (by omega) dX11_reckonsSums_4 (by decide) (fun h1 => ?_) (fun h1 => ?_)
    · skip
      refine T_ldc2 (pc := 64) dX11_reckonsSums_64 cn_X11_260 ?_
      exact T_lret dX11_reckonsSums_67 rfl (Nat.le_refl _) (Nat.le_refl _) ⟨_, rfl, rfl, iO⟩
    · exact absurd h1 (by omega)
  | succ g ih =>
    intro i m hi iE iO
    rw [ff_e]
    refine T_iload_n (pc := 2) (i := 2) dX11_reckonsSums_2 rfl rfl ?_
    refine T_iload_n (pc := 3) (i := 1) dX11_reckonsSums_3 rfl rfl ?_
    refine R_icmp_gt (pc := 4) (tgt := 64) (by omega) (by omega) dX11_reckonsSums_4 (by decide) (fun h1 => ?_) (fun h1 => ?_)
    · exact absurd h1 (by omega)
    · skip
      refine T_iconst (pc := 7) (v := nI 0) dX11_reckonsSums_7 (by decide) ?_
      refine T_istore_n (pc := 8) (i := 3) (ls' := [some (.ref 0), some (.int (nI N)), some (.int (nI i)), some (.int (nI 0)), none, none]) dX11_reckonsSums_8 rfl (by decide) rfl ?_
      suffices inner : ∀ (f j : Nat) (m : SM2), j + f = N + 1 → EnvW m R LL w → OfS SW μ m → T γ 7 0 0 M_X11_reckonsSums (Rm (some (.long (vO (orE (ff (fun j => if stT (nxR R w) 200 (rkA i j) ([] ++ List.replicate (i + j) 0) = true then none else some (rkA i j)) j f) (ff (fun i => ff (fun j => if stT (nxR R w) 200 (rkA i j) ([] ++ List.replicate (i + j) 0) = true then none else some (rkA i j)) 0 (N + 1)) (i + 1) g))))) (fun m => OfS SW μ m)) 0 0 9 [some (.ref 0), some (.int (nI N)), some (.int (nI i)), some (.int (nI j)), none, none] [] (rm m) by
        exact inner (N + 1) 0 m (Nat.zero_add _) iE iO
      intro f
      induction f with
      | zero =>
        intro j m2 hj jE jO
        refine T_iload_n (pc := 9) (i := 3) dX11_reckonsSums_9 rfl rfl ?_
        refine T_iload_n (pc := 10) (i := 1) dX11_reckonsSums_10 rfl rfl ?_
        refine R_icmp_gt (pc := 11) (tgt := 58) (by omega) (by omega) dX11_reckonsSums_11 (by decide) (fun h2 => ?_) (fun h2 => ?_)
        · skip
          refine R_iinc (pc := 58) (i := 2) (n := 1) (ls' := [some (.ref 0), some (.int (nI N)), some (.int (nI (i + 1))), some (.int (nI j)), none, none]) dX11_reckonsSums_58 rfl rfl ?_
          refine T_goto (pc := 61) (tgt := 2) dX11_reckonsSums_61 (by decide) ?_
          refine T_ls (ls' := [some (.ref 0), some (.int (nI N)), some (.int (nI (i + 1))), none, none, none]) (And.intro rfl (And.intro rfl (And.intro rfl True.intro))) ?_
          exact ih (i + 1) m2 (by omega) jE jO
        · exact absurd h2 (by omega)
      | succ f ihf =>
        intro j m2 hj jE jO
        have hA := rkA_mw (i := i) (j := j) (by omega) (by omega)
        have hD : Mw ([] ++ List.replicate (i + j) 0) := mw_rep okb_nil (by decide) (by show 0 + (i + j) ≤ 20; omega)
        refine T_iload_n (pc := 9) (i := 3) dX11_reckonsSums_9 rfl rfl ?_
        refine T_iload_n (pc := 10) (i := 1) dX11_reckonsSums_10 rfl rfl ?_
        refine R_icmp_gt (pc := 11) (tgt := 58) (by omega) (by omega) dX11_reckonsSums_11 (by decide) (fun h2 => ?_) (fun h2 => ?_)
        · exact absurd h2 (by omega)
        · skip
          refine T_lconst (pc := 14) (v := lN 1) dX11_reckonsSums_14 rfl ?_
          refine T_iconst (pc := 15) (v := nI 0) dX11_reckonsSums_15 (by decide) ?_
          refine T_iload_n (pc := 16) (i := 2) dX11_reckonsSums_16 rfl rfl ?_
          refine R_callS1 (pc := 17) (av := [.long (lN 1), .int (nI 0), .int (nI i)]) (rest := []) (Or.inl lk_X11_296) mk_X11_withBeasts (c_withBeasts (l := []) (by decide) (by omega)) dX11_reckonsSums_17 rfl rfl (Nat.le_of_ble_eq_true rfl) (by decide) rfl (Nat.le_refl _) (Nat.le_refl _) ?_
          refine T_iconst (pc := 20) (v := nI 1) dX11_reckonsSums_20 (by decide) ?_
          refine T_iconst (pc := 21) (v := nI 1) dX11_reckonsSums_21 (by decide) ?_
          refine R_callS1 (pc := 22) (av := [.long (lN (cd ([] ++ List.replicate i 0))), .int (nI 1), .int (nI 1)]) (rest := []) (Or.inl lk_X11_296) mk_X11_withBeasts (c_withBeasts (by decide) (by decide)) dX11_reckonsSums_22 rfl rfl (Nat.le_of_ble_eq_true rfl) (by decide) rfl (Nat.le_refl _) (Nat.le_refl _) ?_
          refine T_iconst (pc := 25) (v := nI 0) dX11_reckonsSums_25 (by decide) ?_
          refine T_iload_n (pc := 26) (i := 3) dX11_reckonsSums_26 rfl rfl ?_
          refine R_callS1 (pc := 27) (av := [.long (lN (cd ([] ++ List.replicate i 0 ++ List.replicate 1 1))), .int (nI 0), .int (nI j)]) (rest := []) (Or.inl lk_X11_296) mk_X11_withBeasts (c_withBeasts (by decide) (by omega)) dX11_reckonsSums_27 rfl rfl (Nat.le_of_ble_eq_true rfl) (by decide) rfl (Nat.le_refl _) (Nat.le_refl _) ?_
          refine T_lstore (pc := 30) (i := 4) (ls' := [some (.ref 0), some (.int (nI N)), some (.int (nI i)), some (.int (nI j)), some (.long (lN (cd (rkA i j)))), none]) dX11_reckonsSums_30 (by decide) rfl ?_
          refine T_aload_n (pc := 32) (i := 0) dX11_reckonsSums_32 rfl rfl ?_
          refine T_lload (pc := 33) (i := 4) dX11_reckonsSums_33 rfl ?_
          refine T_lconst (pc := 35) (v := lN 1) dX11_reckonsSums_35 rfl ?_
          refine T_iconst (pc := 36) (v := nI 0) dX11_reckonsSums_36 (by decide) ?_
          refine T_iload_n (pc := 37) (i := 2) dX11_reckonsSums_37 rfl rfl ?_
          refine T_iload_n (pc := 38) (i := 3) dX11_reckonsSums_38 rfl rfl ?_
          refine R_iadd (pc := 39) dX11_reckonsSums_39 ?_
          refine R_callS1 (pc := 40) (av := [.long (lN 1), .int (nI 0), .int (nI (i + j))]) (rest := [.long (lN (cd (rkA i j))), .ref 0]) (Or.inl lk_X11_296) mk_X11_withBeasts (c_withBeasts (l := []) (by decide) (by omega)) dX11_reckonsSums_40 rfl rfl (Nat.le_of_ble_eq_true rfl) (by decide) rfl (Nat.le_refl _) (Nat.le_refl _) ?_
          refine R_callVm1 (pc := 43) (As := [.long (lN (cd (rkA i j))), .long (lN (cd ([] ++ List.replicate (i + j) 0)))]) (rest := []) (Or.inl lk_X11_300) mk_X11_settlesTo (c_settlesTo jE hA hD) kc_0 ⟨by decide, rfl⟩ lc_0 dX11_reckonsSums_43 rfl rfl (Nat.le_of_ble_eq_true rfl) (by decide) rfl (Nat.le_refl _) (Nat.le_refl _) (fun m3 h3 => ?_)
          obtain ⟨kE, kO⟩ := h3
          refine R_ifb_ne (pc := 46) (tgt := 52) dX11_reckonsSums_46 (by decide) (fun h4 => ?_) (fun h4 => ?_)
          · skip
            rw [ff_s (by rw [if_pos h4])]
            refine R_iinc (pc := 52) (i := 3) (n := 1) (ls' := [some (.ref 0), some (.int (nI N)), some (.int (nI i)), some (.int (nI (j + 1))), some (.long (lN (cd (rkA i j)))), none]) dX11_reckonsSums_52 rfl rfl ?_
            refine T_goto (pc := 55) (tgt := 9) dX11_reckonsSums_55 (by decide) ?_
            refine T_ls (ls' := [some (.ref 0), some (.int (nI N)), some (.int (nI i)), some (.int (nI (j + 1))), none, none]) (And.intro rfl (And.intro rfl (And.intro rfl (And.intro rfl True.intro)))) ?_
            exact ihf (j + 1) m3 (by omega) kE (jO.trans kO)
          · skip
            rw [ff_y (a := rkA i j) (by rw [if_neg (by rw [h4]; decide)])]
            refine T_lload (pc := 49) (i := 4) dX11_reckonsSums_49 rfl ?_
            exact T_lret dX11_reckonsSums_51 rfl (Nat.le_refl _) (Nat.le_refl _) ⟨_, rfl, rfl, jO.trans kO⟩
theorem c_reckonsOrder {R : List Ru} {LL : List (List Int32)} {w : Wk} {N : Nat} (hE : EnvW μ R LL w) (hN : N ≤ 4) : Ex γ 7 0 0 M_X11_reckonsOrder [.ref 0, .int (nI N)] (rm μ) (Rm (some (.long (vO (rkO (nxR R w) N)))) (fun m => OfS SW μ m)) := by
  have hp : 2 ^ N ≤ 2 ^ 4 := Nat.pow_le_pow_right (by decide) hN
  suffices outer : ∀ (g c : Nat) (m : SM2), c + g = 2 ^ N → EnvW m R LL w → OfS SW μ m → T γ 7 0 0 M_X11_reckonsOrder (Rm (some (.long (vO (ff (fun c => if stT (nxR R w) 200 (ordL c N N) ([] ++ List.replicate (N - pcn c 12) 0 ++ List.replicate (pcn c 12) 1) = true then none else some (ordL c N N)) c g)))) (fun m => OfS SW μ m)) 0 0 2 [some (.ref 0), some (.int (nI N)), some (.int (nI c)), none, none, none] [] (rm m) by
    refine Ex.of (by decide +kernel) rfl (Nat.le_of_ble_eq_true rfl) ?_
    show T _ _ _ _ _ _ _ _ _ [some (.ref 0), some (.int (nI N)), none, none, none, none] [] (rm μ)
    refine T_iconst (pc := 0) (v := nI 0) dX11_reckonsOrder_0 (by decide) ?_
    refine T_istore_n (pc := 1) (i := 2) (ls' := [some (.ref 0), some (.int (nI N)), some (.int (nI 0)), none, none, none]) dX11_reckonsOrder_1 rfl (by decide) rfl ?_
    exact outer (2 ^ N) 0 μ (Nat.zero_add _) hE (OfS.refl _ _)
  intro g
  induction g with
  | zero =>
    intro c m hc iE iO
    refine T_iload_n (pc := 2) (i := 2) dX11_reckonsOrder_2 rfl rfl ?_
    refine T_iconst (pc := 3) (v := nI 1) dX11_reckonsOrder_3 (by decide) ?_
    refine T_iload_n (pc := 4) (i := 1) dX11_reckonsOrder_4 rfl rfl ?_
    refine R_ishl (pc := 5) (by omega) dX11_reckonsOrder_5 ?_
    refine R_icmp_ge (pc := 6) (tgt := 76) (by omega) (by omega) dX11_reckonsOrder_6 (by decide) (fun h1 => ?_) (fun h1 => ?_)
    · skip
      refine T_ldc2 (pc := 76) dX11_reckonsOrder_76 cn_X11_260 ?_
      exact T_lret dX11_reckonsOrder_79 rfl (Nat.le_refl _) (Nat.le_refl _) ⟨_, rfl, rfl, iO⟩
    · exact absurd h1 (by omega)
  | succ g ih =>
    intro c m hc iE iO
    have hpc := pcn_le4 N hN c (by omega)
    refine T_iload_n (pc := 2) (i := 2) dX11_reckonsOrder_2 rfl rfl ?_
    refine T_iconst (pc := 3) (v := nI 1) dX11_reckonsOrder_3 (by decide) ?_
    refine T_iload_n (pc := 4) (i := 1) dX11_reckonsOrder_4 rfl rfl ?_
    refine R_ishl (pc := 5) (by omega) dX11_reckonsOrder_5 ?_
    refine R_icmp_ge (pc := 6) (tgt := 76) (by omega) (by omega) dX11_reckonsOrder_6 (by decide) (fun h1 => ?_) (fun h1 => ?_)
    · exact absurd h1 (by omega)
    · skip
      refine T_lconst (pc := 9) (v := lN 1) dX11_reckonsOrder_9 rfl ?_
      refine T_lstore_n (pc := 10) (i := 3) (ls' := [some (.ref 0), some (.int (nI N)), some (.int (nI c)), some (.long (lN 1)), none, none]) dX11_reckonsOrder_10 rfl (by decide) rfl ?_
      refine T_iload_n (pc := 11) (i := 1) dX11_reckonsOrder_11 rfl rfl ?_
      refine T_iconst (pc := 12) (v := nI 1) dX11_reckonsOrder_12 (by decide) ?_
      refine T_isub (pc := 13) dX11_reckonsOrder_13 ?_
      refine T_istore (pc := 14) (i := 5) (ls' := [some (.ref 0), some (.int (nI N)), some (.int (nI c)), some (.long (lN 1)), none, some (.int (((nI N) - (nI 1))))]) dX11_reckonsOrder_14 (by decide) rfl ?_
      suffices inner : ∀ (k r : Nat), k + r = N → T γ 7 0 0 M_X11_reckonsOrder (Rm (some (.long (vO (ff (fun c => if stT (nxR R w) 200 (ordL c N N) ([] ++ List.replicate (N - pcn c 12) 0 ++ List.replicate (pcn c 12) 1) = true then none else some (ordL c N N)) c (g + 1))))) (fun m => OfS SW μ m)) 0 0 16 [some (.ref 0), some (.int (nI N)), some (.int (nI c)), some (.long (lN (cd (ordL c N k)))), none, some (.int (nI r - nI 1))] [] (rm m) by
        exact inner 0 N (Nat.zero_add _)
      intro k r
      induction r generalizing k with
      | zero =>
        intro hk
        obtain rfl : k = N := by omega
        refine T_iload (pc := 16) (i := 5) dX11_reckonsOrder_16 rfl ?_
        refine T_if_lt (pc := 18) (tgt := 39) dX11_reckonsOrder_18 (by decide) (fun h2 => ?_) (fun h2 => ?_)
        · skip
          refine T_iload_n (pc := 39) (i := 2) dX11_reckonsOrder_39 rfl rfl ?_
          refine R_callS1 (pc := 40) (av := [.int (nI c)]) (rest := []) (Or.inl lk_X11_304) mk_J6_bitCount_0f7a4 (c_bitCount (by omega)) dX11_reckonsOrder_40 rfl rfl (Nat.le_of_ble_eq_true rfl) (by decide) rfl (Nat.le_refl _) (Nat.le_refl _) ?_
          refine T_istore (pc := 43) (i := 5) (ls' := [some (.ref 0), some (.int (nI k)), some (.int (nI c)), some (.long (lN (cd (ordL c k k)))), none, some (.int (nI (pcn c 12)))]) dX11_reckonsOrder_43 (by decide) rfl ?_
          refine T_aload_n (pc := 45) (i := 0) dX11_reckonsOrder_45 rfl rfl ?_
          refine T_lload_n (pc := 46) (i := 3) dX11_reckonsOrder_46 rfl rfl ?_
          refine T_lconst (pc := 47) (v := lN 1) dX11_reckonsOrder_47 rfl ?_
          refine T_iconst (pc := 48) (v := nI 0) dX11_reckonsOrder_48 (by decide) ?_
          refine T_iload_n (pc := 49) (i := 1) dX11_reckonsOrder_49 rfl rfl ?_
          refine T_iload (pc := 50) (i := 5) dX11_reckonsOrder_50 rfl ?_
          refine R_isub (pc := 52) (by omega) dX11_reckonsOrder_52 ?_
          refine R_callS1 (pc := 53) (av := [.long (lN 1), .int (nI 0), .int (nI (k - (pcn c 12)))]) (rest := [.long (lN (cd (ordL c k k))), .ref 0]) (Or.inl lk_X11_296) mk_X11_withBeasts (c_withBeasts (l := []) (by decide) (by omega)) dX11_reckonsOrder_53 rfl rfl (Nat.le_of_ble_eq_true rfl) (by decide) rfl (Nat.le_refl _) (Nat.le_refl _) ?_
          refine T_iconst (pc := 56) (v := nI 1) dX11_reckonsOrder_56 (by decide) ?_
          refine T_iload (pc := 57) (i := 5) dX11_reckonsOrder_57 rfl ?_
          refine R_callS1 (pc := 59) (av := [.long (lN (cd ([] ++ List.replicate (k - pcn c 12) 0))), .int (nI 1), .int (nI (pcn c 12))]) (rest := [.long (lN (cd (ordL c k k))), .ref 0]) (Or.inl lk_X11_296) mk_X11_withBeasts (c_withBeasts (by decide) (by omega)) dX11_reckonsOrder_59 rfl rfl (Nat.le_of_ble_eq_true rfl) (by decide) rfl (Nat.le_refl _) (Nat.le_refl _) ?_
          have hD1 : Mw ([] ++ List.replicate (k - pcn c 12) 0) := mw_rep okb_nil (by decide) (by show 0 + (k - pcn c 12) ≤ 20; omega)
          have hD : Mw ([] ++ List.replicate (k - pcn c 12) 0 ++ List.replicate (pcn c 12) 1) := mw_rep hD1.2 (by decide) (by rw [List.length_append, List.length_replicate]; show 0 + (k - pcn c 12) + _ ≤ 20; omega)
          refine R_callVm1 (pc := 62) (As := [.long (lN (cd (ordL c k k))), .long (lN (cd ([] ++ List.replicate (k - pcn c 12) 0 ++ List.replicate (pcn c 12) 1)))]) (rest := []) (Or.inl lk_X11_300) mk_X11_settlesTo (c_settlesTo iE (ordL_mw (by omega)) hD) kc_0 ⟨by decide, rfl⟩ lc_0 dX11_reckonsOrder_62 rfl rfl (Nat.le_of_ble_eq_true rfl) (by decide) rfl (Nat.le_refl _) (Nat.le_refl _) (fun m3 h3 => ?_)
          obtain ⟨kE, kO⟩ := h3
          refine R_ifb_ne (pc := 65) (tgt := 70) dX11_reckonsOrder_65 (by decide) (fun h4 => ?_) (fun h4 => ?_)
          · skip
            rw [ff_s (by rw [if_pos h4])]
            refine R_iinc (pc := 70) (i := 2) (n := 1) (ls' := [some (.ref 0), some (.int (nI k)), some (.int (nI (c + 1))), some (.long (lN (cd (ordL c k k)))), none, some (.int (nI (pcn c 12)))]) dX11_reckonsOrder_70 rfl rfl ?_
            refine T_goto (pc := 73) (tgt := 2) dX11_reckonsOrder_73 (by decide) ?_
            refine T_ls (ls' := [some (.ref 0), some (.int (nI k)), some (.int (nI (c + 1))), none, none, none]) (And.intro rfl (And.intro rfl (And.intro rfl True.intro))) ?_
            exact ih (c + 1) m3 (by omega) kE (iO.trans kO)
          · skip
            rw [ff_y (a := ordL c k k) (by rw [if_neg (by rw [h4]; decide)])]
            refine T_lload_n (pc := 68) (i := 3) dX11_reckonsOrder_68 rfl rfl ?_
            exact T_lret dX11_reckonsOrder_69 rfl (Nat.le_refl _) (Nat.le_refl _) ⟨_, rfl, rfl, iO.trans kO⟩
        · exact absurd (show nI 0 - nI 1 < 0 by decide) h2
      | succ r ihr =>
        intro hk
        rw [pk_sub (show 1 ≤ r + 1 by omega), Nat.add_sub_cancel]
        have hbit : c / 2 ^ r &&& 1 ≤ 1 := Nat.and_le_right
        refine T_iload (pc := 16) (i := 5) dX11_reckonsOrder_16 rfl ?_
        refine R_if_lt (pc := 18) (tgt := 39) (by omega) dX11_reckonsOrder_18 (by decide) (fun h2 => ?_) (fun h2 => ?_)
        · exact h2.elim
        · skip
          refine T_lload_n (pc := 21) (i := 3) dX11_reckonsOrder_21 rfl rfl ?_
          refine T_iload_n (pc := 22) (i := 2) dX11_reckonsOrder_22 rfl rfl ?_
          refine T_iload (pc := 23) (i := 5) dX11_reckonsOrder_23 rfl ?_
          refine R_ishr (pc := 25) ⟨by omega, by omega⟩ dX11_reckonsOrder_25 ?_
          refine T_iconst (pc := 26) (v := nI 1) dX11_reckonsOrder_26 (by decide) ?_
          refine R_iand (pc := 27) dX11_reckonsOrder_27 ?_
          refine T_iconst (pc := 28) (v := nI 1) dX11_reckonsOrder_28 (by decide) ?_
          refine R_callS1 (pc := 29) (av := [.long (lN (cd (ordL c N k))), .int (nI ((c / 2 ^ r) &&& 1)), .int (nI 1)]) (rest := []) (Or.inl lk_X11_296) mk_X11_withBeasts (c_withBeasts (by omega) (by decide)) dX11_reckonsOrder_29 rfl rfl (Nat.le_of_ble_eq_true rfl) (by decide) rfl (Nat.le_refl _) (Nat.le_refl _) ?_
          refine T_lstore_n (pc := 32) (i := 3) (ls' := [some (.ref 0), some (.int (nI N)), some (.int (nI c)), some (.long (lN (cd (ordL c N k ++ List.replicate 1 (c / 2 ^ r &&& 1))))), none, some (.int (nI r))]) dX11_reckonsOrder_32 rfl (by decide) rfl ?_
          refine T_iinc (pc := 33) (i := 5) (v := (nI r + (-1))) (ls' := [some (.ref 0), some (.int (nI N)), some (.int (nI c)), some (.long (lN (cd (ordL c N k ++ List.replicate 1 (c / 2 ^ r &&& 1))))), none, some (.int ((nI r + (-1))))]) dX11_reckonsOrder_33 rfl rfl rfl ?_
          refine T_goto (pc := 36) (tgt := 16) dX11_reckonsOrder_36 (by decide) ?_
          have h9 := ihr (k + 1) (by omega)
          rw [ordL_s, show N - 1 - k = r by omega, Int32.sub_eq_add_neg] at h9
          exact h9
theorem c_reckonsEach {R : List Ru} {LL : List (List Int32)} {w : Wk} {K N : Nat} (hE : EnvW μ R LL w) (hN : N ≤ 4) (hK : K < 4) : Ex γ 7 0 0 M_X11_reckonsEach [.ref 0, .int (nI K), .int (nI N)] (rm μ) (Rm (some (.long (vO (rkE (nxR R w) K N)))) (fun m => OfS SW μ m)) := by
  suffices outer : ∀ (g i : Nat) (m : SM2), i + g = N + 1 → EnvW m R LL w → OfS SW μ m → T γ 7 0 0 M_X11_reckonsEach (Rm (some (.long (vO (ff (fun i => if stT (nxR R w) 200 (rkEa K i) (rkEd K i) = true then none else some (rkEa K i)) i g)))) (fun m => OfS SW μ m)) 0 0 2 [some (.ref 0), some (.int (nI K)), some (.int (nI N)), some (.int (nI i)), none, none, none, none, none, none, none, none] [] (rm m) by
    refine Ex.of (by decide +kernel) rfl (Nat.le_of_ble_eq_true rfl) ?_
    show T _ _ _ _ _ _ _ _ _ [some (.ref 0), some (.int (nI K)), some (.int (nI N)), none, none, none, none, none, none, none, none, none] [] (rm μ)
    refine T_iconst (pc := 0) (v := nI 0) dX11_reckonsEach_0 (by decide) ?_
    refine T_istore_n (pc := 1) (i := 3) (ls' := [some (.ref 0), some (.int (nI K)), some (.int (nI N)), some (.int (nI 0)), none, none, none, none, none, none, none, none]) dX11_reckonsEach_1 rfl (by decide) rfl ?_
    exact outer (N + 1) 0 μ (Nat.zero_add _) hE (OfS.refl _ _)
  intro g
  induction g with
  | zero =>
    intro i m hi iE iO
    refine T_iload_n (pc := 2) (i := 3) dX11_reckonsEach_2 rfl rfl ?_
    refine T_iload_n (pc := 3) (i := 2) dX11_reckonsEach_3 rfl rfl ?_
    refine R_icmp_gt (pc := 4) (tgt := 87) (by omega) (by omega) dX11_reckonsEach_4 (by decide) (fun h1 => ?_) (fun h1 => ?_)
    · skip
      refine T_ldc2 (pc := 87) dX11_reckonsEach_87 cn_X11_260 ?_
      exact T_lret dX11_reckonsEach_90 rfl (Nat.le_refl _) (Nat.le_refl _) ⟨_, rfl, rfl, iO⟩
    · exact absurd h1 (by omega)
  | succ g ih =>
    intro i m hi iE iO
    have h1w : Mw ([] ++ List.replicate i 0) := mw_rep okb_nil (by decide) (by show 0 + i ≤ 20; omega)
    have h2w : Mw ([] ++ List.replicate i 0 ++ List.replicate 1 2) := mw_rep h1w.2 (by decide) (by rw [List.length_append, List.length_replicate]; show 0 + i + 1 ≤ 20; omega)
    have h3w : Mw ([] ++ List.replicate i 0 ++ List.replicate i 0) := mw_rep h1w.2 (by decide) (by rw [List.length_append, List.length_replicate]; show 0 + i + i ≤ 20; omega)
    have h4w : Mw ([] ++ List.replicate i 0 ++ List.replicate i 0 ++ List.replicate 1 3) := mw_rep h3w.2 (by decide) (by rw [List.length_append, List.length_append, List.length_replicate]; show 0 + i + i + 1 ≤ 20; omega)
    have h5w : Mw ([] ++ List.replicate i 0 ++ List.replicate 1 2 ++ List.replicate i 0) := mw_rep h2w.2 (by decide) (by rw [List.length_append, List.length_append, List.length_replicate]; show 0 + i + 1 + i ≤ 20; omega)
    have tail : ∀ (l6 : List Nat), T γ 7 0 0 M_X11_reckonsEach (Rm (some (.long (vO (ff (fun i => if stT (nxR R w) 200 (rkEa K i) (rkEd K i) = true then none else some (rkEa K i)) i (g + 1))))) (fun m => OfS SW μ m)) 0 0 67 [some (.ref 0), some (.int (nI K)), some (.int (nI N)), some (.int (nI i)), none, none, none, none, some (.long (lN (cd (rkEa K i)))), none, some (.long (lN (cd (rkEd K i)))), none] [] (rm m) := fun l6 => by
      have wa : Mw (rkEa K i) := by unfold rkEa; split; exact h2w; exact h4w
      have wd : Mw (rkEd K i) := by unfold rkEd; split; exact h5w; exact h1w
      refine T_aload_n (pc := 67) (i := 0) dX11_reckonsEach_67 rfl rfl ?_
      refine T_lload (pc := 68) (i := 8) dX11_reckonsEach_68 rfl ?_
      refine T_lload (pc := 70) (i := 10) dX11_reckonsEach_70 rfl ?_
      refine R_callVm1 (pc := 72) (As := [.long (lN (cd (rkEa K i))), .long (lN (cd (rkEd K i)))]) (rest := []) (Or.inl lk_X11_300) mk_X11_settlesTo (c_settlesTo iE wa wd) kc_0 ⟨by decide, rfl⟩ lc_0 dX11_reckonsEach_72 rfl rfl (Nat.le_of_ble_eq_true rfl) (by decide) rfl (Nat.le_refl _) (Nat.le_refl _) (fun m3 h3 => ?_)
      obtain ⟨kE, kO⟩ := h3
      refine R_ifb_ne (pc := 75) (tgt := 81) dX11_reckonsEach_75 (by decide) (fun h4 => ?_) (fun h4 => ?_)
      · skip
        rw [ff_s (by rw [if_pos h4])]
        refine R_iinc (pc := 81) (i := 3) (n := 1) (ls' := [some (.ref 0), some (.int (nI K)), some (.int (nI N)), some (.int (nI (i + 1))), none, none, none, none, some (.long (lN (cd (rkEa K i)))), none, some (.long (lN (cd (rkEd K i)))), none]) dX11_reckonsEach_81 rfl rfl ?_
        refine T_goto (pc := 84) (tgt := 2) dX11_reckonsEach_84 (by decide) ?_
        refine T_ls (ls' := [some (.ref 0), some (.int (nI K)), some (.int (nI N)), some (.int (nI (i + 1))), none, none, none, none, none, none, none, none]) (And.intro rfl (And.intro rfl (And.intro rfl (And.intro rfl True.intro)))) ?_
        exact ih (i + 1) m3 (by omega) kE (iO.trans kO)
      · skip
        rw [ff_y (a := rkEa K i) (by rw [if_neg (by rw [h4]; decide)])]
        refine T_lload (pc := 78) (i := 8) dX11_reckonsEach_78 rfl ?_
        exact T_lret dX11_reckonsEach_80 rfl (Nat.le_refl _) (Nat.le_refl _) ⟨_, rfl, rfl, iO.trans kO⟩
    refine T_iload_n (pc := 2) (i := 3) dX11_reckonsEach_2 rfl rfl ?_
    refine T_iload_n (pc := 3) (i := 2) dX11_reckonsEach_3 rfl rfl ?_
    refine R_icmp_gt (pc := 4) (tgt := 87) (by omega) (by omega) dX11_reckonsEach_4 (by decide) (fun h1 => ?_) (fun h1 => ?_)
    · exact absurd h1 (by omega)
    · skip
      refine T_lconst (pc := 7) (v := lN 1) dX11_reckonsEach_7 rfl ?_
      refine T_iconst (pc := 8) (v := nI 0) dX11_reckonsEach_8 (by decide) ?_
      refine T_iload_n (pc := 9) (i := 3) dX11_reckonsEach_9 rfl rfl ?_
      refine R_callS1 (pc := 10) (av := [.long (lN 1), .int (nI 0), .int (nI i)]) (rest := []) (Or.inl lk_X11_296) mk_X11_withBeasts (c_withBeasts (l := []) (by decide) (by omega)) dX11_reckonsEach_10 rfl rfl (Nat.le_of_ble_eq_true rfl) (by decide) rfl (Nat.le_refl _) (Nat.le_refl _) ?_
      refine T_lstore (pc := 13) (i := 4) (ls' := [some (.ref 0), some (.int (nI K)), some (.int (nI N)), some (.int (nI i)), some (.long (lN (cd ([] ++ List.replicate i 0)))), none, none, none, none, none, none, none]) dX11_reckonsEach_13 (by decide) rfl ?_
      refine T_lload (pc := 15) (i := 4) dX11_reckonsEach_15 rfl ?_
      refine T_iconst (pc := 17) (v := nI 2) dX11_reckonsEach_17 (by decide) ?_
      refine T_iconst (pc := 18) (v := nI 1) dX11_reckonsEach_18 (by decide) ?_
      refine R_callS1 (pc := 19) (av := [.long (lN (cd ([] ++ List.replicate i 0))), .int (nI 2), .int (nI 1)]) (rest := []) (Or.inl lk_X11_296) mk_X11_withBeasts (c_withBeasts (by decide) (by decide)) dX11_reckonsEach_19 rfl rfl (Nat.le_of_ble_eq_true rfl) (by decide) rfl (Nat.le_refl _) (Nat.le_refl _) ?_
      refine T_lstore (pc := 22) (i := 6) (ls' := [some (.ref 0), some (.int (nI K)), some (.int (nI N)), some (.int (nI i)), some (.long (lN (cd ([] ++ List.replicate i 0)))), none, some (.long (lN (cd ([] ++ List.replicate i 0 ++ List.replicate 1 2)))), none, none, none, none, none]) dX11_reckonsEach_22 (by decide) rfl ?_
      refine T_iload_n (pc := 24) (i := 1) dX11_reckonsEach_24 rfl rfl ?_
      refine T_iconst (pc := 25) (v := nI 2) dX11_reckonsEach_25 (by decide) ?_
      refine R_icmp_ne (pc := 26) (tgt := 34) (by omega) (by omega) dX11_reckonsEach_26 (by decide) (fun h2 => ?_) (fun h2 => ?_)
      · skip
        have ea : rkEa K i = [] ++ List.replicate i 0 ++ List.replicate i 0 ++ List.replicate 1 3 := by unfold rkEa; rw [if_neg h2]
        have ed : rkEd K i = [] ++ List.replicate i 0 := by unfold rkEd; rw [if_neg h2]
        rw [ea, ed] at tail
        refine T_lload (pc := 34) (i := 4) dX11_reckonsEach_34 rfl ?_
        refine T_iconst (pc := 36) (v := nI 0) dX11_reckonsEach_36 (by decide) ?_
        refine T_iload_n (pc := 37) (i := 3) dX11_reckonsEach_37 rfl rfl ?_
        refine R_callS1 (pc := 38) (av := [.long (lN (cd ([] ++ List.replicate i 0))), .int (nI 0), .int (nI i)]) (rest := []) (Or.inl lk_X11_296) mk_X11_withBeasts (c_withBeasts (by decide) (by omega)) dX11_reckonsEach_38 rfl rfl (Nat.le_of_ble_eq_true rfl) (by decide) rfl (Nat.le_refl _) (Nat.le_refl _) ?_
        refine T_iconst (pc := 41) (v := nI 3) dX11_reckonsEach_41 (by decide) ?_
        refine T_iconst (pc := 42) (v := nI 1) dX11_reckonsEach_42 (by decide) ?_
        refine R_callS1 (pc := 43) (av := [.long (lN (cd ([] ++ List.replicate i 0 ++ List.replicate i 0))), .int (nI 3), .int (nI 1)]) (rest := []) (Or.inl lk_X11_296) mk_X11_withBeasts (c_withBeasts (by decide) (by decide)) dX11_reckonsEach_43 rfl rfl (Nat.le_of_ble_eq_true rfl) (by decide) rfl (Nat.le_refl _) (Nat.le_refl _) ?_
        refine T_lstore (pc := 46) (i := 8) (ls' := [some (.ref 0), some (.int (nI K)), some (.int (nI N)), some (.int (nI i)), some (.long (lN (cd ([] ++ List.replicate i 0)))), none, some (.long (lN (cd ([] ++ List.replicate i 0 ++ List.replicate 1 2)))), none, some (.long (lN (cd ([] ++ List.replicate i 0 ++ List.replicate i 0 ++ List.replicate 1 3)))), none, none, none]) dX11_reckonsEach_46 (by decide) rfl ?_
        refine T_iload_n (pc := 48) (i := 1) dX11_reckonsEach_48 rfl rfl ?_
        refine T_iconst (pc := 49) (v := nI 2) dX11_reckonsEach_49 (by decide) ?_
        refine R_icmp_ne (pc := 50) (tgt := 63) (by omega) (by omega) dX11_reckonsEach_50 (by decide) (fun h3 => ?_) (fun h3 => ?_)
        · skip
          refine T_lload (pc := 63) (i := 4) dX11_reckonsEach_63 rfl ?_
          refine T_lstore (pc := 65) (i := 10) (ls' := [some (.ref 0), some (.int (nI K)), some (.int (nI N)), some (.int (nI i)), some (.long (lN (cd ([] ++ List.replicate i 0)))), none, some (.long (lN (cd ([] ++ List.replicate i 0 ++ List.replicate 1 2)))), none, some (.long (lN (cd ([] ++ List.replicate i 0 ++ List.replicate i 0 ++ List.replicate 1 3)))), none, some (.long (lN (cd ([] ++ List.replicate i 0)))), none]) dX11_reckonsEach_65 (by decide) rfl ?_
          refine T_ls (ls' := [some (.ref 0), some (.int (nI K)), some (.int (nI N)), some (.int (nI i)), none, none, none, none, some (.long (lN (cd ([] ++ List.replicate i 0 ++ List.replicate i 0 ++ List.replicate 1 3)))), none, some (.long (lN (cd ([] ++ List.replicate i 0)))), none]) (And.intro rfl (And.intro rfl (And.intro rfl (And.intro rfl (And.intro rfl (And.intro rfl True.intro)))))) ?_
          exact tail []
        · exact absurd h3 h2
      · skip
        have ea : rkEa K i = [] ++ List.replicate i 0 ++ List.replicate 1 2 := by unfold rkEa; rw [if_pos h2]
        have ed : rkEd K i = [] ++ List.replicate i 0 ++ List.replicate 1 2 ++ List.replicate i 0 := by unfold rkEd; rw [if_pos h2]
        rw [ea, ed] at tail
        refine T_lload (pc := 29) (i := 6) dX11_reckonsEach_29 rfl ?_
        refine T_goto (pc := 31) (tgt := 46) dX11_reckonsEach_31 (by decide) ?_
        refine T_lstore (pc := 46) (i := 8) (ls' := [some (.ref 0), some (.int (nI K)), some (.int (nI N)), some (.int (nI i)), some (.long (lN (cd ([] ++ List.replicate i 0)))), none, some (.long (lN (cd ([] ++ List.replicate i 0 ++ List.replicate 1 2)))), none, some (.long (lN (cd ([] ++ List.replicate i 0 ++ List.replicate 1 2)))), none, none, none]) dX11_reckonsEach_46 (by decide) rfl ?_
        refine T_iload_n (pc := 48) (i := 1) dX11_reckonsEach_48 rfl rfl ?_
        refine T_iconst (pc := 49) (v := nI 2) dX11_reckonsEach_49 (by decide) ?_
        refine R_icmp_ne (pc := 50) (tgt := 63) (by omega) (by omega) dX11_reckonsEach_50 (by decide) (fun h3 => ?_) (fun h3 => ?_)
        · exact absurd h2 h3
        · skip
          refine T_lload (pc := 53) (i := 6) dX11_reckonsEach_53 rfl ?_
          refine T_iconst (pc := 55) (v := nI 0) dX11_reckonsEach_55 (by decide) ?_
          refine T_iload_n (pc := 56) (i := 3) dX11_reckonsEach_56 rfl rfl ?_
          refine R_callS1 (pc := 57) (av := [.long (lN (cd ([] ++ List.replicate i 0 ++ List.replicate 1 2))), .int (nI 0), .int (nI i)]) (rest := []) (Or.inl lk_X11_296) mk_X11_withBeasts (c_withBeasts (by decide) (by omega)) dX11_reckonsEach_57 rfl rfl (Nat.le_of_ble_eq_true rfl) (by decide) rfl (Nat.le_refl _) (Nat.le_refl _) ?_
          refine T_goto (pc := 60) (tgt := 65) dX11_reckonsEach_60 (by decide) ?_
          refine T_lstore (pc := 65) (i := 10) (ls' := [some (.ref 0), some (.int (nI K)), some (.int (nI N)), some (.int (nI i)), some (.long (lN (cd ([] ++ List.replicate i 0)))), none, some (.long (lN (cd ([] ++ List.replicate i 0 ++ List.replicate 1 2)))), none, some (.long (lN (cd ([] ++ List.replicate i 0 ++ List.replicate 1 2)))), none, some (.long (lN (cd ([] ++ List.replicate i 0 ++ List.replicate 1 2 ++ List.replicate i 0)))), none]) dX11_reckonsEach_65 (by decide) rfl ?_
          refine T_ls (ls' := [some (.ref 0), some (.int (nI K)), some (.int (nI N)), some (.int (nI i)), none, none, none, none, some (.long (lN (cd ([] ++ List.replicate i 0 ++ List.replicate 1 2)))), none, some (.long (lN (cd ([] ++ List.replicate i 0 ++ List.replicate 1 2 ++ List.replicate i 0)))), none]) (And.intro rfl (And.intro rfl (And.intro rfl (And.intro rfl (And.intro rfl (And.intro rfl True.intro)))))) ?_
          exact tail []
theorem c_reckons {x y : Int32} {X : Td} {LL : List (List Int32)} (hX : ToldAt μ 3 X) (hL : LawL μ LL) : Ex γ 8 2 12 M_X11_reckons [.ref 0, .int x, .int y] (rm μ) (Ax (if chkN y 0 4 = true then (if chkN x 0 3 = true then none else some "java/lang/IllegalArgumentException") else some "java/lang/IllegalArgumentException") (.long (vO (rkV (nxR X.R (wOf X LL)) x.toNatClampNeg y.toNatClampNeg))) μ (fun m => OfS SW μ m)) := by
  refine Ex.of (by decide +kernel) rfl (Nat.le_of_ble_eq_true rfl) ?_
  show T _ _ _ _ _ _ _ _ _ [some (.ref 0), some (.int (x)), some (.int (y))] [] (rm μ)
  refine T_iload_n (pc := 0) (i := 2) dX11_reckons_0 rfl rfl ?_
  refine T_iconst (pc := 1) (v := nI 0) dX11_reckons_1 (by decide) ?_
  refine T_iconst (pc := 2) (v := nI 4) dX11_reckons_2 (by decide) ?_
  refine R_chkS (pc := 3) (av := [.int (y), .int (nI 0), .int (nI 4)]) (rest := []) (Or.inl lk_X11_215) mk_X11_checkNumber c_checkNumber dX11_reckons_3 rfl rfl (Nat.le_of_ble_eq_true rfl) (by decide) rfl (by decide) (by decide) (fun z => by rw [if_neg (by unfold chkN; rw [z]; decide)]; exact ⟨rfl, rfl⟩) (fun hB => ?_)
  rw [if_pos (c := chkN y 0 4 = true) hB]
  refine T_iload_n (pc := 6) (i := 1) dX11_reckons_6 rfl rfl ?_
  refine T_iconst (pc := 7) (v := nI 0) dX11_reckons_7 (by decide) ?_
  refine T_iconst (pc := 8) (v := nI 3) dX11_reckons_8 (by decide) ?_
  refine R_chkS (pc := 9) (av := [.int (x), .int (nI 0), .int (nI 3)]) (rest := []) (Or.inl lk_X11_215) mk_X11_checkNumber c_checkNumber dX11_reckons_9 rfl rfl (Nat.le_of_ble_eq_true rfl) (by decide) rfl (by decide) (by decide) (fun z => Ax_e (by unfold chkN; rw [z]; decide)) (fun hC => ?_)
  rw [if_pos (c := chkN x 0 3 = true) hC]
  obtain ⟨N, -, hN, rfl⟩ := chk_of (by decide) (by decide) hB
  obtain ⟨K, -, hK, rfl⟩ := chk_of (by decide) (by decide) hC
  rw [nI_clamp (n := N) (by omega), nI_clamp (n := K) (by omega)]
  refine T_aload_n (pc := 12) (i := 0) dX11_reckons_12 rfl rfl ?_
  refine R_getR (pc := 13) (i := 97) fl_X11_55 rfl kc_0 lc_0 rc_0_11 dX11_reckons_13 ?_
  refine T_aload_n (pc := 16) (i := 0) dX11_reckons_16 rfl rfl ?_
  refine R_getR (pc := 17) (i := 3) fl_X11_19 rfl kc_0 lc_0 rc_0_1 dX11_reckons_17 ?_
  refine R_callVm0 (pc := 20) (As := [.ref 3]) (rest := []) (Or.inl lk_X11_198) mk_X10_begin (c_Walk_begin hX hL) kc_97 ⟨by decide, rfl⟩ lc_97 dX11_reckons_20 rfl rfl (Nat.le_of_ble_eq_true rfl) (by decide) rfl (by decide) (by decide) (fun m h => ?_)
  obtain ⟨hE0, hO⟩ := h
  have hE : EnvW m X.R LL (wOf X LL) := hE0
  refine T_iload_n (pc := 23) (i := 1) dX11_reckons_23 rfl rfl ?_
  refine R_if_ne (pc := 24) (tgt := 35) (by omega) dX11_reckons_24 (by decide) (fun h1 => ?_) (fun h1 => ?_)
  · skip
    refine T_iload_n (pc := 35) (i := 1) dX11_reckons_35 rfl rfl ?_
    refine T_iconst (pc := 36) (v := nI 1) dX11_reckons_36 (by decide) ?_
    refine R_icmp_ne (pc := 37) (tgt := 48) (by omega) (by omega) dX11_reckons_37 (by decide) (fun h2 => ?_) (fun h2 => ?_)
    · skip
      refine T_aload_n (pc := 48) (i := 0) dX11_reckons_48 rfl rfl ?_
      refine T_iload_n (pc := 49) (i := 1) dX11_reckons_49 rfl rfl ?_
      refine T_iload_n (pc := 50) (i := 2) dX11_reckons_50 rfl rfl ?_
      have e : rkV (nxR X.R (wOf X LL)) K N = rkE (nxR X.R (wOf X LL)) K N := by unfold rkV; rw [if_neg h1, if_neg h2]
      rw [e]
      refine R_callVm1 (pc := 51) (As := [.int (nI K), .int (nI N)]) (rest := []) (Or.inl lk_X11_292) mk_X11_reckonsEach (c_reckonsEach hE hN (by omega)) kc_0 ⟨by decide, rfl⟩ lc_0 dX11_reckons_51 rfl rfl (Nat.le_of_ble_eq_true rfl) (by decide) rfl (by decide) (by decide) (fun m2 h3 => ?_)
      exact T_lret dX11_reckons_54 rfl (by decide) (by decide) ⟨m2, rfl, rfl, hO.trans h3⟩
    · skip
      refine T_aload_n (pc := 40) (i := 0) dX11_reckons_40 rfl rfl ?_
      refine T_iload_n (pc := 41) (i := 2) dX11_reckons_41 rfl rfl ?_
      have e : rkV (nxR X.R (wOf X LL)) K N = rkO (nxR X.R (wOf X LL)) N := by unfold rkV; rw [if_neg h1, if_pos h2]
      rw [e]
      refine R_callVm1 (pc := 42) (As := [.int (nI N)]) (rest := []) (Or.inl lk_X11_289) mk_X11_reckonsOrder (c_reckonsOrder hE hN) kc_0 ⟨by decide, rfl⟩ lc_0 dX11_reckons_42 rfl rfl (Nat.le_of_ble_eq_true rfl) (by decide) rfl (by decide) (by decide) (fun m2 h3 => ?_)
      refine T_goto (pc := 45) (tgt := 54) dX11_reckons_45 (by decide) ?_
      exact T_lret dX11_reckons_54 rfl (by decide) (by decide) ⟨m2, rfl, rfl, hO.trans h3⟩
  · skip
    refine T_aload_n (pc := 27) (i := 0) dX11_reckons_27 rfl rfl ?_
    refine T_iload_n (pc := 28) (i := 2) dX11_reckons_28 rfl rfl ?_
    have e : rkV (nxR X.R (wOf X LL)) K N = rkS (nxR X.R (wOf X LL)) N := by unfold rkV; rw [if_pos h1]
    rw [e]
    refine R_callVm1 (pc := 29) (As := [.int (nI N)]) (rest := []) (Or.inl lk_X11_286) mk_X11_reckonsSums (c_reckonsSums hE hN) kc_0 ⟨by decide, rfl⟩ lc_0 dX11_reckons_29 rfl rfl (Nat.le_of_ble_eq_true rfl) (by decide) rfl (by decide) (by decide) (fun m2 h3 => ?_)
    refine T_goto (pc := 32) (tgt := 54) dX11_reckons_32 (by decide) ?_
    exact T_lret dX11_reckons_54 rfl (by decide) (by decide) ⟨m2, rfl, rfl, hO.trans h3⟩
end RK

