/-! dropped -/
theorem bt_sh {x : Int32} {i : Nat} (hi : i < 31) : (ishr x (nI i) &&& nI 1) = 0 ↔ bt x i = false := by
  have h := bt_z (x := ishr x (nI i)) (p := 0) (by decide)
  rw [show nI (1 * 2 ^ 0) = nI 1 from rfl] at h
  rw [h]
  unfold ishr
  rw [b_sshr i (by omega) x (by decide), if_pos (by omega), Nat.add_zero]
def oN : Option Nat → Int32
  | none => -1
  | some n => nI n
/-- all FIELDS of a set settle, without some RULES -/
def dsP (R : List Ru) (w : Wk) (F : List Fld) (y : Int32) (set i : Nat) : Bool := !bt y i || (stl (nxR R (w.1, set, w.2.2)) 100 (fAt F i).1).isSome
def dsB (R : List Ru) (w : Wk) (F : List Fld) (y : Int32) (set : Nat) : Bool := alN (dsP R w F y set) F.length
def drG (R : List Ru) (w : Wk) (F : List Fld) (y : Int32) (many set : Nat) : Option Nat := if pcn set 12 = many ∧ dsB R w F y set = true then some set else none
def drS (R : List Ru) (w : Wk) (F : List Fld) (y : Int32) : Option Nat := ff (fun many => ff (drG R w F y many) 0 (2 ^ min 8 R.length)) 0 (min 8 R.length + 1)
theorem pcn_le (n : Nat) : ∀ k, pcn n k ≤ k
  | 0 => Nat.le_refl _
  | k + 1 => by
    have h := pcn_le n k
    show pcn n k + n / 2 ^ k % 2 ≤ k + 1
    omega
theorem EnvW.without {μ : SM2} {R : List Ru} {LL : List (List Int32)} {w : Wk} {set : Nat} (h : EnvW μ R LL w) (hs : set < 2 ^ 12) : EnvW (wI μ 97 5 (nI set)) R LL (w.1, set, w.2.2) := by
  obtain ⟨a1, a2, ⟨a3, a4, a5⟩⟩ := h
  have o9 : OfS (fun k => k = 97) μ (wI μ 97 5 (nI set)) := OfS.sI (OfS.refl _ _) rfl
  refine ⟨a1.ofs o9 (fun k _ _ => by omega), a2.ofs o9 (by omega) (by omega), ⟨(n_wI (by omega)).trans a3.1, a3.2⟩, ⟨e_wI ⟨rfl, rfl⟩, hs⟩, ?_⟩
  rcases a5 with ⟨x1, x2⟩ | ⟨x1, ⟨y, x2, x3⟩, x4⟩
  · exact Or.inl ⟨(n_wI (by omega)).trans x1, x2⟩
  · refine Or.inr ⟨(n_wI (by omega)).trans x1, ⟨y, (n_wI (by omega)).trans x2, x3⟩, fun r p n hr hp hn h => ?_⟩
    rw [n_wI (by omega)] at h ⊢
    exact x4 r p n hr hp hn h
section DP
variable {γ : Ga} {μ : SM2}
theorem c_settlesWithout {X : Td} {LL : List (List Int32)} {w : Wk} {set : Nat} {y : Int32} (hX : ToldAt μ 3 X) (hE : EnvW μ X.R LL w) (hs : set < 2 ^ 12) : Ex γ 6 0 0 M_X11_settlesWithout [.ref 0, .int (nI set), .int y] (rm μ) (Rm (some (.int (bI (dsB X.R w X.F y set)))) (fun m => (ToldAt m 3 X ∧ EnvW m X.R LL (w.1, set, w.2.2)) ∧ OfS SW μ m)) := by
  have h6 := hX.2.1.2.1
  suffices loop : ∀ (g i : Nat) (m : SM2), i + g = X.F.length → alN (dsP X.R w X.F y set) i = true → EnvW m X.R LL (w.1, set, w.2.2) → OfS SW μ m → T γ 6 0 0 M_X11_settlesWithout (Rm (some (.int (bI (dsB X.R w X.F y set)))) (fun m => (ToldAt m 3 X ∧ EnvW m X.R LL (w.1, set, w.2.2)) ∧ OfS SW μ m)) 0 0 10 [some (.ref 0), some (.int (nI set)), some (.int y), some (.int (nI i))] [] (rm m) by
    refine Ex.of (by decide +kernel) rfl (Nat.le_of_ble_eq_true rfl) ?_
    show T _ _ _ _ _ _ _ _ _ [some (.ref 0), some (.int (nI set)), some (.int (y)), none] [] (rm μ)
    refine T_aload_n (pc := 0) (i := 0) dX11_settlesWithout_0 rfl rfl ?_
    refine R_getR (pc := 1) (i := 97) fl_X11_55 rfl kc_0 lc_0 rc_0_11 dX11_settlesWithout_1 ?_
    refine T_iload_n (pc := 4) (i := 1) dX11_settlesWithout_4 rfl rfl ?_
    refine R_putI (pc := 5) fl_X11_320 ⟨rfl, rfl⟩ (Or.inl rfl) kc_97 lc_97 dX11_settlesWithout_5 ?_
    refine T_iconst (pc := 8) (v := nI 0) dX11_settlesWithout_8 (by decide) ?_
    refine T_istore_n (pc := 9) (i := 3) (ls' := [some (.ref 0), some (.int (nI set)), some (.int (y)), some (.int (nI 0))]) dX11_settlesWithout_9 rfl (by decide) rfl ?_
    exact loop X.F.length 0 _ (Nat.zero_add _) rfl (hE.without hs) (OfS.sI (OfS.refl _ _) (by unfold SW; omega))
  intro g
  induction g with
  | zero =>
    intro i m hi ha iE iO
    obtain rfl : i = X.F.length := by omega
    have iX := hX.ofs iO (fun k h1 h2 => by unfold SW; omega)
    refine T_iload_n (pc := 10) (i := 3) dX11_settlesWithout_10 rfl rfl ?_
    refine T_aload_n (pc := 11) (i := 0) dX11_settlesWithout_11 rfl rfl ?_
    refine R_getR (pc := 12) (i := 3) fl_X11_19 rfl kc_0 lc_0 rc_0_1 dX11_settlesWithout_12 ?_
    refine R_getI (pc := 15) (x := nI X.F.length) fl_X11_323 rfl (kt_told told3) (lt_told told3) iX.2.1.1 dX11_settlesWithout_15 ?_
    refine R_icmp_ge (pc := 18) (tgt := 65) (by omega) (by omega) dX11_settlesWithout_18 (by decide) (fun h1 => ?_) (fun h1 => ?_)
    · skip
      refine T_iconst (pc := 65) (v := nI 1) dX11_settlesWithout_65 (by decide) ?_
      have e : dsB X.R w X.F y set = true := ha
      rw [e]
      exact T_iret (pc := 66) (ty := .boolean) dX11_settlesWithout_66 rfl (by decide) (Nat.le_refl _) (Nat.le_refl _) ⟨_, rfl, rfl, ⟨iX, iE⟩, iO⟩
    · exact absurd h1 (by omega)
  | succ g ih =>
    intro i m hi ha iE iO
    have iX := hX.ofs iO (fun k h1 h2 => by unfold SW; omega)
    have hf := iX.2.1.2.2 i (by omega)
    refine T_iload_n (pc := 10) (i := 3) dX11_settlesWithout_10 rfl rfl ?_
    refine T_aload_n (pc := 11) (i := 0) dX11_settlesWithout_11 rfl rfl ?_
    refine R_getR (pc := 12) (i := 3) fl_X11_19 rfl kc_0 lc_0 rc_0_1 dX11_settlesWithout_12 ?_
    refine R_getI (pc := 15) (x := nI X.F.length) fl_X11_323 rfl (kt_told told3) (lt_told told3) iX.2.1.1 dX11_settlesWithout_15 ?_
    refine R_icmp_ge (pc := 18) (tgt := 65) (by omega) (by omega) dX11_settlesWithout_18 (by decide) (fun h1 => ?_) (fun h1 => ?_)
    · exact absurd h1 (by omega)
    · skip
      refine T_iload_n (pc := 21) (i := 2) dX11_settlesWithout_21 rfl rfl ?_
      refine T_iload_n (pc := 22) (i := 3) dX11_settlesWithout_22 rfl rfl ?_
      refine T_ishr (pc := 23) dX11_settlesWithout_23 ?_
      refine T_iconst (pc := 24) (v := nI 1) dX11_settlesWithout_24 (by decide) ?_
      refine T_iand (pc := 25) dX11_settlesWithout_25 ?_
      refine T_if_eq (pc := 26) (tgt := 59) dX11_settlesWithout_26 (by decide) (fun h2 => ?_) (fun h2 => ?_)
      · skip
        have hb := (bt_sh (by omega)).mp h2
        have hp : dsP X.R w X.F y set i = true := by unfold dsP; rw [hb]; rfl
        refine R_iinc (pc := 59) (i := 3) (n := 1) (ls' := [some (.ref 0), some (.int (nI set)), some (.int (y)), some (.int (nI (i + 1)))]) dX11_settlesWithout_59 rfl rfl ?_
        refine T_goto (pc := 62) (tgt := 10) dX11_settlesWithout_62 (by decide) ?_
        exact ih (i + 1) m (by omega) (by show (alN _ i && dsP X.R w X.F y set i) = true; rw [ha, hp]; rfl) iE iO
      · skip
        have hb : bt y i = true := by
          cases e : bt y i with
          | true => rfl
          | false => exact absurd ((bt_sh (by omega)).mpr e) h2
        refine T_aload_n (pc := 29) (i := 0) dX11_settlesWithout_29 rfl rfl ?_
        refine R_getR (pc := 30) (i := 97) fl_X11_55 rfl kc_0 lc_0 rc_0_11 dX11_settlesWithout_30 ?_
        refine T_aload_n (pc := 33) (i := 0) dX11_settlesWithout_33 rfl rfl ?_
        refine R_getR (pc := 34) (i := 3) fl_X11_19 rfl kc_0 lc_0 rc_0_1 dX11_settlesWithout_34 ?_
        refine R_getR (pc := 37) (i := 9) fl_X11_150 rfl (kt_told told3) (lt_told told3) (rt_told_fields told3) dX11_settlesWithout_37 ?_
        refine T_iload_n (pc := 40) (i := 3) dX11_settlesWithout_40 rfl rfl ?_
        refine R_aald (pc := 41) (t := 0) (j := (3 + 10 + 3 * i)) (kt_told_fields told3) (by decide) (lt_told_fields told3) (by omega) (by decide) (rt_told_el told3 (by omega)) dX11_settlesWithout_41 ?_
        refine R_getL (pc := 42) (x := lN (cd (fAt X.F i).1)) fl_X11_154 rfl (kt_field (told_field told3 (by omega))) (lt_field (told_field told3 (by omega))) hf.code dX11_settlesWithout_42 ?_
        refine T_bipush (pc := 45) (v := nI 100) dX11_settlesWithout_45 (by decide) ?_
        refine R_callVm1 (pc := 47) (As := [.long (lN (cd (fAt X.F i).1)), .int (nI 100)]) (rest := []) (Or.inl lk_X11_256) mk_X10_settle (c_settle iE hf.mw (by decide)) kc_97 ⟨by decide, rfl⟩ lc_97 dX11_settlesWithout_47 rfl rfl (Nat.le_of_ble_eq_true rfl) (by decide) rfl (Nat.le_refl _) (Nat.le_refl _) (fun m3 h4 => ?_)
        obtain ⟨⟨kE, kO⟩, -⟩ := h4
        cases e : stl (nxR X.R (w.1, set, w.2.2)) 100 (fAt X.F i).1 with
        | none =>
          have hp : dsP X.R w X.F y set i = false := by unfold dsP; rw [hb, e]; rfl
          have e2 : dsB X.R w X.F y set = false := alN_no hp (by omega)
          rw [e2]
          refine T_topl (v := (-1)) (rfl) ?_
          refine T_ldc2 (pc := 50) dX11_settlesWithout_50 cn_X11_260 ?_
          refine T_lcmp (pc := 53) dX11_settlesWithout_53 ?_
          refine R_lx_ne (pc := 54) (tgt := 59) dX11_settlesWithout_54 (by decide) (fun h5 => ?_) (fun h5 => ?_)
          · exact absurd rfl h5
          · skip
            refine T_iconst (pc := 57) (v := nI 0) dX11_settlesWithout_57 (by decide) ?_
            exact T_iret (pc := 58) (ty := .boolean) dX11_settlesWithout_58 rfl (by decide) (Nat.le_refl _) (Nat.le_refl _) ⟨_, rfl, rfl, ⟨iX.ofs kO (fun k h1 h2 => by unfold SW; omega), kE⟩, iO.trans kO⟩
        | some q =>
          have hq := stl_mw hX.1.ok hf.mw e
          have bq := cd_lt hq.1
          have hp : dsP X.R w X.F y set i = true := by unfold dsP; rw [e]; simp
          refine T_topl (v := lN (cd q.2)) (rfl) ?_
          refine T_ldc2 (pc := 50) dX11_settlesWithout_50 cn_X11_260 ?_
          refine T_lcmp (pc := 53) dX11_settlesWithout_53 ?_
          refine R_lx_ne (pc := 54) (tgt := 59) dX11_settlesWithout_54 (by decide) (fun h5 => ?_) (fun h5 => ?_)
          · skip
            refine R_iinc (pc := 59) (i := 3) (n := 1) (ls' := [some (.ref 0), some (.int (nI set)), some (.int (y)), some (.int (nI (i + 1)))]) dX11_settlesWithout_59 rfl rfl ?_
            refine T_goto (pc := 62) (tgt := 10) dX11_settlesWithout_62 (by decide) ?_
            exact ih (i + 1) m3 (by omega) (by show (alN _ i && dsP X.R w X.F y set i) = true; rw [ha, hp]; rfl) kE (iO.trans kO)
          · exact absurd h5 (lN_ne (by omega))
theorem c_dropped {y : Int32} {X : Td} {LL : List (List Int32)} (hX : ToldAt μ 3 X) (hL : LawL μ LL) : Ex γ 7 0 0 M_X11_dropped [.ref 0, .int y] (rm μ) (Rm (some (.int (oN (drS X.R (wOf X LL) X.F y)))) (fun m => OfS SW μ m)) := by
  have h12 := hX.1.len
  have hp8 : 2 ^ min 8 X.R.length ≤ 2 ^ 8 := Nat.pow_le_pow_right (by decide) (Nat.min_le_left _ _)
  have hm8 : min 8 X.R.length ≤ 8 := Nat.min_le_left _ _
  refine Ex.of (by decide +kernel) rfl (Nat.le_of_ble_eq_true rfl) ?_
  show T _ _ _ _ _ _ _ _ _ [some (.ref 0), some (.int (y)), none, none, none] [] (rm μ)
  refine T_aload_n (pc := 0) (i := 0) dX11_dropped_0 rfl rfl ?_
  refine R_getR (pc := 1) (i := 97) fl_X11_55 rfl kc_0 lc_0 rc_0_11 dX11_dropped_1 ?_
  refine T_aload_n (pc := 4) (i := 0) dX11_dropped_4 rfl rfl ?_
  refine R_getR (pc := 5) (i := 3) fl_X11_19 rfl kc_0 lc_0 rc_0_1 dX11_dropped_5 ?_
  refine R_callVm0 (pc := 8) (As := [.ref 3]) (rest := []) (Or.inl lk_X11_198) mk_X10_begin (c_Walk_begin hX hL) kc_97 ⟨by decide, rfl⟩ lc_97 dX11_dropped_8 rfl rfl (Nat.le_of_ble_eq_true rfl) (by decide) rfl (Nat.le_refl _) (Nat.le_refl _) (fun m h => ?_)
  obtain ⟨hE0, hO⟩ := h
  have hE : EnvW m X.R LL (wOf X LL) := hE0
  have hX1 := hX.ofs hO (fun k h1 h2 => by unfold SW; omega)
  refine T_bipush (pc := 11) (v := nI 8) dX11_dropped_11 (by decide) ?_
  refine T_aload_n (pc := 13) (i := 0) dX11_dropped_13 rfl rfl ?_
  refine R_getR (pc := 14) (i := 3) fl_X11_19 rfl kc_0 lc_0 rc_0_1 dX11_dropped_14 ?_
  refine R_getR (pc := 17) (i := 4) fl_X11_48 rfl (kt_told told3) (lt_told told3) (rt_told_rules told3) dX11_dropped_17 ?_
  refine R_getI (pc := 20) (x := nI X.R.length) fl_X11_230 rfl (kt_rules rules4) (lt_rules rules4) hE.1.size dX11_dropped_20 ?_
  refine R_mmin (pc := 23) lk_X11_310 (by omega) (by omega) (by decide) (Nat.le_refl _) (Nat.le_refl _) dX11_dropped_23 ?_
  refine T_istore_n (pc := 26) (i := 2) (ls' := [some (.ref 0), some (.int (y)), some (.int (nI (min 8 X.R.length))), none, none]) dX11_dropped_26 rfl (by decide) rfl ?_
  refine T_iconst (pc := 27) (v := nI 0) dX11_dropped_27 (by decide) ?_
  refine T_istore_n (pc := 28) (i := 3) (ls' := [some (.ref 0), some (.int (y)), some (.int (nI (min 8 X.R.length))), some (.int (nI 0)), none]) dX11_dropped_28 rfl (by decide) rfl ?_
  suffices outer : ∀ (g many wo : Nat) (m : SM2), many + g = min 8 X.R.length + 1 → ToldAt m 3 X → EnvW m X.R LL ((wOf X LL).1, wo, (wOf X LL).2.2) → OfS SW μ m → T γ 7 0 0 M_X11_dropped (Rm (some (.int (oN (ff (fun many => ff (drG X.R (wOf X LL) X.F y many) 0 (2 ^ min 8 X.R.length)) many g)))) (fun m => OfS SW μ m)) 0 0 29 [some (.ref 0), some (.int y), some (.int (nI (min 8 X.R.length))), some (.int (nI many)), none] [] (rm m) by
    exact outer (min 8 X.R.length + 1) 0 0 m (Nat.zero_add _) hX1 hE hO
  intro g
  induction g with
  | zero =>
    intro many wo m hi iX iE iO
    refine T_iload_n (pc := 29) (i := 3) dX11_dropped_29 rfl rfl ?_
    refine T_iload_n (pc := 30) (i := 2) dX11_dropped_30 rfl rfl ?_
    refine R_icmp_gt (pc := 31) (tgt := 79) (by omega) (by omega) dX11_dropped_31 (by decide) (fun h1 => ?_) (fun h1 => ?_)
    · skip
      refine T_iconst (pc := 79) (v := (-1)) dX11_dropped_79 (by decide) ?_
      exact T_iret (pc := 80) (ty := .int) dX11_dropped_80 rfl rfl (Nat.le_refl _) (Nat.le_refl _) ⟨_, rfl, rfl, iO⟩
    · exact absurd h1 (by omega)
  | succ g ih =>
    intro many wo m hi iX iE iO
    rw [ff_e]
    refine T_iload_n (pc := 29) (i := 3) dX11_dropped_29 rfl rfl ?_
    refine T_iload_n (pc := 30) (i := 2) dX11_dropped_30 rfl rfl ?_
    refine R_icmp_gt (pc := 31) (tgt := 79) (by omega) (by omega) dX11_dropped_31 (by decide) (fun h1 => ?_) (fun h1 => ?_)
    · exact absurd h1 (by omega)
    · skip
      refine T_iconst (pc := 34) (v := nI 0) dX11_dropped_34 (by decide) ?_
      refine T_istore (pc := 35) (i := 4) (ls' := [some (.ref 0), some (.int (y)), some (.int (nI (min 8 X.R.length))), some (.int (nI many)), some (.int (nI 0))]) dX11_dropped_35 (by decide) rfl ?_
      suffices inner : ∀ (f set wo : Nat) (m : SM2), set + f = 2 ^ min 8 X.R.length → ToldAt m 3 X → EnvW m X.R LL ((wOf X LL).1, wo, (wOf X LL).2.2) → OfS SW μ m → T γ 7 0 0 M_X11_dropped (Rm (some (.int (oN (orE (ff (drG X.R (wOf X LL) X.F y many) set f) (ff (fun many => ff (drG X.R (wOf X LL) X.F y many) 0 (2 ^ min 8 X.R.length)) (many + 1) g))))) (fun m => OfS SW μ m)) 0 0 37 [some (.ref 0), some (.int y), some (.int (nI (min 8 X.R.length))), some (.int (nI many)), some (.int (nI set))] [] (rm m) by
        exact inner _ 0 wo m (Nat.zero_add _) iX iE iO
      intro f
      induction f with
      | zero =>
        intro set wo m2 hj jX jE jO
        refine T_iload (pc := 37) (i := 4) dX11_dropped_37 rfl ?_
        refine T_iconst (pc := 39) (v := nI 1) dX11_dropped_39 (by decide) ?_
        refine T_iload_n (pc := 40) (i := 2) dX11_dropped_40 rfl rfl ?_
        refine R_ishl (pc := 41) (by omega) dX11_dropped_41 ?_
        refine R_icmp_ge (pc := 42) (tgt := 73) (by omega) (by omega) dX11_dropped_42 (by decide) (fun h2 => ?_) (fun h2 => ?_)
        · skip
          refine R_iinc (pc := 73) (i := 3) (n := 1) (ls' := [some (.ref 0), some (.int (y)), some (.int (nI (min 8 X.R.length))), some (.int (nI (many + 1))), some (.int (nI set))]) dX11_dropped_73 rfl rfl ?_
          refine T_goto (pc := 76) (tgt := 29) dX11_dropped_76 (by decide) ?_
          refine T_ls (ls' := [some (.ref 0), some (.int (y)), some (.int (nI (min 8 X.R.length))), some (.int (nI (many + 1))), none]) (And.intro rfl (And.intro rfl (And.intro rfl (And.intro rfl True.intro)))) ?_
          exact ih (many + 1) wo m2 (by omega) jX jE jO
        · exact absurd h2 (by omega)
      | succ f ihf =>
        intro set wo m2 hj jX jE jO
        have hpc := pcn_le set 12
        have nxt : drG X.R (wOf X LL) X.F y many set = none → ∀ (wo : Nat) (m3 : SM2), ToldAt m3 3 X → EnvW m3 X.R LL ((wOf X LL).1, wo, (wOf X LL).2.2) → OfS SW μ m3 → T γ 7 0 0 M_X11_dropped (Rm (some (.int (oN (orE (ff (drG X.R (wOf X LL) X.F y many) set (f + 1)) (ff (fun many => ff (drG X.R (wOf X LL) X.F y many) 0 (2 ^ min 8 X.R.length)) (many + 1) g))))) (fun m => OfS SW μ m)) 0 0 67 [some (.ref 0), some (.int y), some (.int (nI (min 8 X.R.length))), some (.int (nI many)), some (.int (nI set))] [] (rm m3) := fun e wo m3 kX kE kO => by
          rw [ff_s e]
          refine R_iinc (pc := 67) (i := 4) (n := 1) (ls' := [some (.ref 0), some (.int (y)), some (.int (nI (min 8 X.R.length))), some (.int (nI many)), some (.int (nI (set + 1)))]) dX11_dropped_67 rfl rfl ?_
          refine T_goto (pc := 70) (tgt := 37) dX11_dropped_70 (by decide) ?_
          exact ihf (set + 1) wo m3 (by omega) kX kE kO
        refine T_iload (pc := 37) (i := 4) dX11_dropped_37 rfl ?_
        refine T_iconst (pc := 39) (v := nI 1) dX11_dropped_39 (by decide) ?_
        refine T_iload_n (pc := 40) (i := 2) dX11_dropped_40 rfl rfl ?_
        refine R_ishl (pc := 41) (by omega) dX11_dropped_41 ?_
        refine R_icmp_ge (pc := 42) (tgt := 73) (by omega) (by omega) dX11_dropped_42 (by decide) (fun h2 => ?_) (fun h2 => ?_)
        · exact absurd h2 (by omega)
        · skip
          refine T_iload (pc := 45) (i := 4) dX11_dropped_45 rfl ?_
          refine R_callS1 (pc := 47) (av := [.int (nI set)]) (rest := []) (Or.inl lk_X11_304) mk_J6_bitCount_0f7a4 (c_bitCount (by omega)) dX11_dropped_47 rfl rfl (Nat.le_of_ble_eq_true rfl) (by decide) rfl (Nat.le_refl _) (Nat.le_refl _) ?_
          refine T_iload_n (pc := 50) (i := 3) dX11_dropped_50 rfl rfl ?_
          refine R_icmp_ne (pc := 51) (tgt := 67) (by omega) (by omega) dX11_dropped_51 (by decide) (fun h3 => ?_) (fun h3 => ?_)
          · exact nxt (by unfold drG; rw [if_neg (fun z => h3 z.1)]) wo m2 jX jE jO
          · skip
            refine T_aload_n (pc := 54) (i := 0) dX11_dropped_54 rfl rfl ?_
            refine T_iload (pc := 55) (i := 4) dX11_dropped_55 rfl ?_
            refine T_iload_n (pc := 57) (i := 1) dX11_dropped_57 rfl rfl ?_
            refine R_callVm1 (pc := 58) (As := [.int (nI set), .int (y)]) (rest := []) (Or.inl lk_X11_316) mk_X11_settlesWithout (c_settlesWithout jX jE (by omega)) kc_0 ⟨by decide, rfl⟩ lc_0 dX11_dropped_58 rfl rfl (Nat.le_of_ble_eq_true rfl) (by decide) rfl (Nat.le_refl _) (Nat.le_refl _) (fun m3 h4 => ?_)
            obtain ⟨⟨kX, kE⟩, kO⟩ := h4
            refine R_ifb_eq (pc := 61) (tgt := 67) dX11_dropped_61 (by decide) (fun h5 => ?_) (fun h5 => ?_)
            · have h5' : dsB X.R (wOf X LL) X.F y set = false := h5
              exact nxt (by unfold drG; rw [if_neg (fun z => by rw [h5'] at z; exact absurd z.2 (by decide))]) set m3 kX kE (jO.trans kO)
            · skip
              have h5' : dsB X.R (wOf X LL) X.F y set = true := h5
              rw [ff_y (a := set) (by unfold drG; rw [if_pos ⟨h3, h5'⟩])]
              refine T_iload (pc := 64) (i := 4) dX11_dropped_64 rfl ?_
              exact T_iret (pc := 66) (ty := .int) dX11_dropped_66 rfl rfl (Nat.le_refl _) (Nat.le_refl _) ⟨_, rfl, rfl, jO.trans kO⟩
end DP

