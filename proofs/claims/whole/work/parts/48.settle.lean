/-! settles, alike, endless, reckons, dropped -/
/-- the first that is found, from i on, f of them -/
def ff {α : Type} (g : Nat → Option α) (i : Nat) : Nat → Option α
  | 0 => none
  | f + 1 => match g i with
    | some a => some a
    | none => ff g (i + 1) f
theorem ff_s {α : Type} {g : Nat → Option α} {i f : Nat} (h : g i = none) : ff g i (f + 1) = ff g (i + 1) f := by
  rw [ff, h]
theorem ff_y {α : Type} {g : Nat → Option α} {i f : Nat} {a : α} (h : g i = some a) : ff g i (f + 1) = some a := by
  rw [ff, h]
def orE {α : Type} (a b : Option α) : Option α := match a with
  | some x => some x
  | none => b
theorem ff_e {α : Type} {g : Nat → Option α} {i f : Nat} : ff g i (f + 1) = orE (g i) (ff g (i + 1) f) := rfl
def alN (P : Nat → Bool) : Nat → Bool
  | 0 => true
  | n + 1 => alN P n && P n
theorem alN_no {P : Nat → Bool} {i : Nat} (h : P i = false) : ∀ {n}, i < n → alN P n = false
  | 0, hi => absurd hi (Nat.not_lt_zero _)
  | n + 1, hi => by
    show (alN P n && P n) = false
    by_cases e : i = n
    · rw [← e, h, Bool.and_false]
    · rw [alN_no h (n := n) (by omega), Bool.false_and]
theorem lN_ne {a : Nat} (h : a < 2 ^ 63) : ¬ lN a = -1 := by
  rw [fa_eq64, pf_lI h]
  have e : (-1 : Int64).toInt = -1 := rfl
  omega
theorem stl_mw {R : List Ru} {w : Wk} (hR : ∀ i, i < R.length → okR (rAt R i)) : ∀ {n : Nat} {l : List Nat} {q : Nat × List Nat}, Mw l → stl (nxR R w) n l = some q → Mw q.2 ∧ q.1 ≤ n
  | 0, l, q, hl, h => by
    cases e : nxR R w l with
    | none =>
      rw [stl_stop e] at h
      cases h
      exact ⟨hl, Nat.le_refl _⟩
    | some t =>
      rw [stl_0 e] at h
      cases h
  | n + 1, l, q, hl, h => by
    cases e : nxR R w l with
    | none =>
      rw [stl_stop e] at h
      cases h
      exact ⟨hl, Nat.zero_le _⟩
    | some t =>
      rw [stl_s e] at h
      cases e2 : stl (nxR R w) n t with
      | none =>
        rw [e2] at h
        cases h
      | some q2 =>
        rw [e2] at h
        cases h
        have h3 := stl_mw hR (nxR_mw hl hR e) e2
        exact ⟨h3.1, by show q2.1 + 1 ≤ _; omega⟩
def stT (nx : List Nat → Option (List Nat)) (n : Nat) (a d : List Nat) : Bool := decide ((stl nx n a).map (fun q => q.2) = some d)
def vS (o : Option (Nat × List Nat)) : Int64 := vO (o.map (fun q => q.2))
def setV (o : Option (Nat × List Nat)) (b : Bool) : Int64 := match o with
  | none => -1
  | some q => if b = true then lN (cd q.2) else lN q.1
/-- a MEADOW by its CODE -/
def mN (c : Nat) : List Nat := ml (lN c)
theorem mN_at {n v : Nat} (hn : n ≤ 20) (hv : v < 8 ^ n) : Mw (mN (8 ^ n + v)) ∧ cd (mN (8 ^ n + v)) = 8 ^ n + v ∧ (mN (8 ^ n + v)).length = n := by
  obtain ⟨l, h1, h2, h3⟩ := cd_ex n (8 ^ n + v) (by omega) (by omega)
  have hm : Mw l := ⟨by omega, h1⟩
  have e : mN (8 ^ n + v) = l := by
    unfold mN
    rw [← h3, ml_cd hm]
  rw [e]
  exact ⟨hm, h3, h2⟩
/-- only BEASTS of a set -/
def onlyB (a b : Nat) : Bool := decide (nI a &&& (nI b ^^^ (-1)) = 0)
def enG (R : List Ru) (w : Wk) (n v : Nat) : Option (List Nat) := if (onlyB (kd (mN (8 ^ n + v))) (kLN R R.length) && (stl (nxR R w) 100 (mN (8 ^ n + v))).isNone) = true then some (mN (8 ^ n + v)) else none
def enS (R : List Ru) (w : Wk) : Option (List Nat) := ff (fun n => ff (enG R w n) 0 (8 ^ n)) 1 3
section SE
variable {γ : Ga} {μ : SM2}
theorem c_settlesTo {R : List Ru} {LL : List (List Int32)} {w : Wk} {a d : List Nat} (hE : EnvW μ R LL w) (ha : Mw a) (hd : Mw d) : Ex γ 6 0 0 M_X11_settlesTo [.ref 0, .long (lN (cd a)), .long (lN (cd d))] (rm μ) (Rm (some (.int (bI (stT (nxR R w) 200 a d)))) (fun m => EnvW m R LL w ∧ OfS SW μ m)) := by
  have bd := cd_lt hd
  refine Ex.of (by decide +kernel) rfl (Nat.le_of_ble_eq_true rfl) ?_
  show T _ _ _ _ _ _ _ _ _ [some (.ref 0), some (.long (lN (cd a))), none, some (.long (lN (cd d))), none] [] (rm μ)
  refine T_aload_n (pc := 0) (i := 0) dX11_settlesTo_0 rfl rfl ?_
  refine R_getR (pc := 1) (i := 97) fl_X11_55 rfl kc_0 lc_0 rc_0_11 dX11_settlesTo_1 ?_
  refine T_lload_n (pc := 4) (i := 1) dX11_settlesTo_4 rfl rfl ?_
  refine T_sipush (pc := 5) (v := nI 200) dX11_settlesTo_5 (by decide) ?_
  refine R_callVm1 (pc := 8) (As := [.long (lN (cd a)), .int (nI 200)]) (rest := []) (Or.inl lk_X11_256) mk_X10_settle (c_settle hE ha (by decide)) kc_97 ⟨by decide, rfl⟩ lc_97 dX11_settlesTo_8 rfl rfl (Nat.le_of_ble_eq_true rfl) (by decide) rfl (Nat.le_refl _) (Nat.le_refl _) (fun m h => ?_)
  obtain ⟨⟨hE1, hO⟩, -⟩ := h
  cases e : stl (nxR R w) 200 a with
  | none =>
    have e2 : stT (nxR R w) 200 a d = false := by unfold stT; rw [e]; exact decide_eq_false (fun z => by cases z)
    rw [e2]
    refine T_topl (v := (-1)) (rfl) ?_
    refine T_lload_n (pc := 11) (i := 3) dX11_settlesTo_11 rfl rfl ?_
    refine T_lcmp (pc := 12) dX11_settlesTo_12 ?_
    refine R_lx_ne (pc := 13) (tgt := 20) dX11_settlesTo_13 (by decide) (fun h1 => ?_) (fun h1 => ?_)
    · skip
      refine T_iconst (pc := 20) (v := nI 0) dX11_settlesTo_20 (by decide) ?_
      exact T_iret (pc := 21) (ty := .boolean) dX11_settlesTo_21 rfl (by decide) (Nat.le_refl _) (Nat.le_refl _) ⟨_, rfl, rfl, hE1, hO⟩
    · exact absurd h1.symm (lN_ne (by omega))
  | some q =>
    have hq := stl_mw hE.1.ok ha e
    have bq := cd_lt hq.1
    refine T_topl (v := lN (cd q.2)) (rfl) ?_
    refine T_lload_n (pc := 11) (i := 3) dX11_settlesTo_11 rfl rfl ?_
    refine T_lcmp (pc := 12) dX11_settlesTo_12 ?_
    refine R_ln_ne (pc := 13) (tgt := 20) (by omega) (by omega) dX11_settlesTo_13 (by decide) (fun h1 => ?_) (fun h1 => ?_)
    · skip
      have e2 : stT (nxR R w) 200 a d = false := by unfold stT; rw [e]; exact decide_eq_false (fun z => h1 (by cases z; rfl))
      rw [e2]
      refine T_iconst (pc := 20) (v := nI 0) dX11_settlesTo_20 (by decide) ?_
      exact T_iret (pc := 21) (ty := .boolean) dX11_settlesTo_21 rfl (by decide) (Nat.le_refl _) (Nat.le_refl _) ⟨_, rfl, rfl, hE1, hO⟩
    · skip
      have e2 : stT (nxR R w) 200 a d = true := by unfold stT; rw [e]; exact decide_eq_true (by show some q.2 = some d; rw [cd_inj hq.1.2 hd.2 h1])
      rw [e2]
      refine T_iconst (pc := 16) (v := nI 1) dX11_settlesTo_16 (by decide) ?_
      refine T_goto (pc := 17) (tgt := 21) dX11_settlesTo_17 (by decide) ?_
      exact T_iret (pc := 21) (ty := .boolean) dX11_settlesTo_21 rfl (by decide) (Nat.le_refl _) (Nat.le_refl _) ⟨_, rfl, rfl, hE1, hO⟩
theorem c_settles {x : Int64} {y : Int32} {b : Bool} {X : Td} {LL : List (List Int32)} (hX : ToldAt μ 3 X) (hL : LawL μ LL) : Ex γ 6 2 12 M_X11_settles [.ref 0, .long x, .int y, .int (bI b)] (rm μ) (Ax (if codeB x = true then (if chkN y 0 500 = true then none else some "java/lang/IllegalArgumentException") else some "java/lang/IllegalArgumentException") (.long (setV (stl (nxR X.R (wOf X LL)) y.toNatClampNeg (ml x)) b)) μ (fun m => OfS SW μ m)) := by
  refine Ex.of (by decide +kernel) rfl (Nat.le_of_ble_eq_true rfl) ?_
  show T _ _ _ _ _ _ _ _ _ [some (.ref 0), some (.long (x)), none, some (.int (y)), some (.int (bI b)), none, none] [] (rm μ)
  refine T_lload_n (pc := 0) (i := 1) dX11_settles_0 rfl rfl ?_
  refine R_chkS (pc := 1) (av := [.long (x)]) (rest := []) (Or.inl lk_X11_169) mk_X11_checkCode c_checkCode dX11_settles_1 rfl rfl (Nat.le_of_ble_eq_true rfl) (by decide) rfl (by decide) (by decide) (fun z => by rw [if_neg (by rw [z]; decide)]; exact ⟨rfl, rfl⟩) (fun hB => ?_)
  rw [if_pos hB]
  refine T_iload_n (pc := 4) (i := 3) dX11_settles_4 rfl rfl ?_
  refine T_iconst (pc := 5) (v := nI 0) dX11_settles_5 (by decide) ?_
  refine T_sipush (pc := 6) (v := nI 500) dX11_settles_6 (by decide) ?_
  refine R_chkS (pc := 9) (av := [.int (y), .int (nI 0), .int (nI 500)]) (rest := []) (Or.inl lk_X11_215) mk_X11_checkNumber c_checkNumber dX11_settles_9 rfl rfl (Nat.le_of_ble_eq_true rfl) (by decide) rfl (by decide) (by decide) (fun z => Ax_e (by unfold chkN; rw [z]; decide)) (fun hC => ?_)
  rw [if_pos (c := chkN y 0 500 = true) hC]
  obtain ⟨N, -, hN2, rfl⟩ := chk_of (by decide) (by decide) hC
  obtain ⟨l, hl, rfl⟩ := codeB_iff.mp hB
  rw [ml_cd hl, nI_clamp (n := N) (by omega)]
  refine T_aload_n (pc := 12) (i := 0) dX11_settles_12 rfl rfl ?_
  refine R_getR (pc := 13) (i := 97) fl_X11_55 rfl kc_0 lc_0 rc_0_11 dX11_settles_13 ?_
  refine T_aload_n (pc := 16) (i := 0) dX11_settles_16 rfl rfl ?_
  refine R_getR (pc := 17) (i := 3) fl_X11_19 rfl kc_0 lc_0 rc_0_1 dX11_settles_17 ?_
  refine R_callVm0 (pc := 20) (As := [.ref 3]) (rest := []) (Or.inl lk_X11_198) mk_X10_begin (c_Walk_begin hX hL) kc_97 ⟨by decide, rfl⟩ lc_97 dX11_settles_20 rfl rfl (Nat.le_of_ble_eq_true rfl) (by decide) rfl (by decide) (by decide) (fun m h => ?_)
  obtain ⟨hE0, hO⟩ := h
  have hE : EnvW m X.R LL (wOf X LL) := hE0
  refine T_aload_n (pc := 23) (i := 0) dX11_settles_23 rfl rfl ?_
  refine R_getR (pc := 24) (i := 97) fl_X11_55 rfl kc_0 lc_0 rc_0_11 dX11_settles_24 ?_
  refine T_lload_n (pc := 27) (i := 1) dX11_settles_27 rfl rfl ?_
  refine T_iload_n (pc := 28) (i := 3) dX11_settles_28 rfl rfl ?_
  refine R_callVm1 (pc := 29) (As := [.long (lN (cd l)), .int (nI N)]) (rest := []) (Or.inl lk_X11_256) mk_X10_settle (c_settle hE hl hN2) kc_97 ⟨by decide, rfl⟩ lc_97 dX11_settles_29 rfl rfl (Nat.le_of_ble_eq_true rfl) (by decide) rfl (by decide) (by decide) (fun m2 h2 => ?_)
  obtain ⟨⟨hE2, hO2⟩, hg⟩ := h2
  have hO3 := hO.trans hO2
  cases e : stl (nxR X.R (wOf X LL)) N l with
  | none =>
    refine T_topl (v := (-1)) (rfl) ?_
    refine T_lstore (pc := 32) (i := 5) (ls' := [some (.ref 0), some (.long (lN (cd l))), none, some (.int (nI N)), some (.int (bI b)), some (.long ((-1))), none]) dX11_settles_32 (by decide) rfl ?_
    refine T_lload (pc := 34) (i := 5) dX11_settles_34 rfl ?_
    refine T_ldc2 (pc := 36) dX11_settles_36 cn_X11_260 ?_
    refine T_lcmp (pc := 39) dX11_settles_39 ?_
    refine R_lx_eq (pc := 40) (tgt := 48) dX11_settles_40 (by decide) (fun h1 => ?_) (fun h1 => ?_)
    · skip
      refine T_lload (pc := 48) (i := 5) dX11_settles_48 rfl ?_
      refine T_goto (pc := 50) (tgt := 61) dX11_settles_50 (by decide) ?_
      exact T_lret dX11_settles_61 rfl (by decide) (by decide) ⟨m2, rfl, rfl, hO3⟩
    · exact absurd rfl h1
  | some q =>
    have hq := stl_mw hX.1.ok hl e
    have bq := cd_lt hq.1
    have bq2 := hq.2
    refine T_topl (v := lN (cd q.2)) (rfl) ?_
    refine T_lstore (pc := 32) (i := 5) (ls' := [some (.ref 0), some (.long (lN (cd l))), none, some (.int (nI N)), some (.int (bI b)), some (.long (lN (cd q.2))), none]) dX11_settles_32 (by decide) rfl ?_
    refine T_lload (pc := 34) (i := 5) dX11_settles_34 rfl ?_
    refine T_ldc2 (pc := 36) dX11_settles_36 cn_X11_260 ?_
    refine T_lcmp (pc := 39) dX11_settles_39 ?_
    refine R_lx_eq (pc := 40) (tgt := 48) dX11_settles_40 (by decide) (fun h1 => ?_) (fun h1 => ?_)
    · exact absurd h1 (lN_ne (by omega))
    · skip
      refine T_iload (pc := 43) (i := 4) dX11_settles_43 rfl ?_
      refine R_ifb_eq (pc := 45) (tgt := 53) dX11_settles_45 (by decide) (fun h2 => ?_) (fun h2 => ?_)
      · skip
        refine T_aload_n (pc := 53) (i := 0) dX11_settles_53 rfl rfl ?_
        refine R_getR (pc := 54) (i := 97) fl_X11_55 rfl kc_0 lc_0 rc_0_11 dX11_settles_54 ?_
        refine R_getI (pc := 57) (x := nI q.1) fl_X11_262 rfl kc_97 lc_97 (hg q e) dX11_settles_57 ?_
        refine R_i2l (pc := 60) (by omega) dX11_settles_60 ?_
        subst h2
        exact T_lret dX11_settles_61 rfl (by decide) (by decide) ⟨m2, rfl, rfl, hO3⟩
      · skip
        refine T_lload (pc := 48) (i := 5) dX11_settles_48 rfl ?_
        refine T_goto (pc := 50) (tgt := 61) dX11_settles_50 (by decide) ?_
        subst h2
        exact T_lret dX11_settles_61 rfl (by decide) (by decide) ⟨m2, rfl, rfl, hO3⟩
def alkB (R : List Ru) (w : Wk) (a d : List Nat) : Bool := match stl (nxR R w) 200 a with
  | none => false
  | some q => stT (nxR R w) 200 d q.2
theorem c_alike {x y : Int64} {X : Td} {LL : List (List Int32)} (hX : ToldAt μ 3 X) (hL : LawL μ LL) : Ex γ 6 2 12 M_X11_alike [.ref 0, .long x, .long y] (rm μ) (Ax (if codeB x = true then (if codeB y = true then none else some "java/lang/IllegalArgumentException") else some "java/lang/IllegalArgumentException") (.int (bI (alkB X.R (wOf X LL) (ml x) (ml y)))) μ (fun m => OfS SW μ m)) := by
  refine Ex.of (by decide +kernel) rfl (Nat.le_of_ble_eq_true rfl) ?_
  show T _ _ _ _ _ _ _ _ _ [some (.ref 0), some (.long (x)), none, some (.long (y)), none, none, none] [] (rm μ)
  refine T_lload_n (pc := 0) (i := 1) dX11_alike_0 rfl rfl ?_
  refine R_chkS (pc := 1) (av := [.long (x)]) (rest := []) (Or.inl lk_X11_169) mk_X11_checkCode c_checkCode dX11_alike_1 rfl rfl (Nat.le_of_ble_eq_true rfl) (by decide) rfl (by decide) (by decide) (fun z => by rw [if_neg (by rw [z]; decide)]; exact ⟨rfl, rfl⟩) (fun hB => ?_)
  rw [if_pos hB]
  refine T_lload_n (pc := 4) (i := 3) dX11_alike_4 rfl rfl ?_
  refine R_chkS (pc := 5) (av := [.long (y)]) (rest := []) (Or.inl lk_X11_169) mk_X11_checkCode c_checkCode dX11_alike_5 rfl rfl (Nat.le_of_ble_eq_true rfl) (by decide) rfl (by decide) (by decide) (fun z => Ax_e (by rw [z]; decide)) (fun hC => ?_)
  rw [if_pos (c := codeB y = true) hC]
  obtain ⟨a, ha, rfl⟩ := codeB_iff.mp hB
  obtain ⟨d, hd, rfl⟩ := codeB_iff.mp hC
  rw [ml_cd ha, ml_cd hd]
  refine T_aload_n (pc := 8) (i := 0) dX11_alike_8 rfl rfl ?_
  refine R_getR (pc := 9) (i := 97) fl_X11_55 rfl kc_0 lc_0 rc_0_11 dX11_alike_9 ?_
  refine T_aload_n (pc := 12) (i := 0) dX11_alike_12 rfl rfl ?_
  refine R_getR (pc := 13) (i := 3) fl_X11_19 rfl kc_0 lc_0 rc_0_1 dX11_alike_13 ?_
  refine R_callVm0 (pc := 16) (As := [.ref 3]) (rest := []) (Or.inl lk_X11_198) mk_X10_begin (c_Walk_begin hX hL) kc_97 ⟨by decide, rfl⟩ lc_97 dX11_alike_16 rfl rfl (Nat.le_of_ble_eq_true rfl) (by decide) rfl (by decide) (by decide) (fun m h => ?_)
  obtain ⟨hE0, hO⟩ := h
  have hE : EnvW m X.R LL (wOf X LL) := hE0
  refine T_aload_n (pc := 19) (i := 0) dX11_alike_19 rfl rfl ?_
  refine R_getR (pc := 20) (i := 97) fl_X11_55 rfl kc_0 lc_0 rc_0_11 dX11_alike_20 ?_
  refine T_lload_n (pc := 23) (i := 1) dX11_alike_23 rfl rfl ?_
  refine T_sipush (pc := 24) (v := nI 200) dX11_alike_24 (by decide) ?_
  refine R_callVm1 (pc := 27) (As := [.long (lN (cd a)), .int (nI 200)]) (rest := []) (Or.inl lk_X11_256) mk_X10_settle (c_settle hE ha (by decide)) kc_97 ⟨by decide, rfl⟩ lc_97 dX11_alike_27 rfl rfl (Nat.le_of_ble_eq_true rfl) (by decide) rfl (by decide) (by decide) (fun m2 h2 => ?_)
  obtain ⟨⟨hE2, hO2⟩, -⟩ := h2
  have hO3 := hO.trans hO2
  cases e : stl (nxR X.R (wOf X LL)) 200 a with
  | none =>
    have e2 : alkB X.R (wOf X LL) a d = false := by unfold alkB; rw [e]
    rw [e2]
    refine T_topl (v := (-1)) (rfl) ?_
    refine T_lstore (pc := 30) (i := 5) (ls' := [some (.ref 0), some (.long (lN (cd a))), none, some (.long (lN (cd d))), none, some (.long ((-1))), none]) dX11_alike_30 (by decide) rfl ?_
    refine T_lload (pc := 32) (i := 5) dX11_alike_32 rfl ?_
    refine T_ldc2 (pc := 34) dX11_alike_34 cn_X11_260 ?_
    refine T_lcmp (pc := 37) dX11_alike_37 ?_
    refine R_lx_eq (pc := 38) (tgt := 62) dX11_alike_38 (by decide) (fun h1 => ?_) (fun h1 => ?_)
    · skip
      refine T_iconst (pc := 62) (v := nI 0) dX11_alike_62 (by decide) ?_
      exact T_iret (pc := 63) (ty := .boolean) dX11_alike_63 rfl (by decide) (by decide) (by decide) ⟨m2, rfl, rfl, hO3⟩
    · exact absurd rfl h1
  | some q =>
    have hq := stl_mw hX.1.ok ha e
    have bq := cd_lt hq.1
    have e2 : alkB X.R (wOf X LL) a d = stT (nxR X.R (wOf X LL)) 200 d q.2 := by unfold alkB; rw [e]
    rw [e2]
    refine T_topl (v := lN (cd q.2)) (rfl) ?_
    refine T_lstore (pc := 30) (i := 5) (ls' := [some (.ref 0), some (.long (lN (cd a))), none, some (.long (lN (cd d))), none, some (.long (lN (cd q.2))), none]) dX11_alike_30 (by decide) rfl ?_
    refine T_lload (pc := 32) (i := 5) dX11_alike_32 rfl ?_
    refine T_ldc2 (pc := 34) dX11_alike_34 cn_X11_260 ?_
    refine T_lcmp (pc := 37) dX11_alike_37 ?_
    refine R_lx_eq (pc := 38) (tgt := 62) dX11_alike_38 (by decide) (fun h1 => ?_) (fun h1 => ?_)
    · exact absurd h1 (lN_ne (by omega))
    · skip
      refine T_lload (pc := 41) (i := 5) dX11_alike_41 rfl ?_
      refine T_aload_n (pc := 43) (i := 0) dX11_alike_43 rfl rfl ?_
      refine R_getR (pc := 44) (i := 97) fl_X11_55 rfl kc_0 lc_0 rc_0_11 dX11_alike_44 ?_
      refine T_lload_n (pc := 47) (i := 3) dX11_alike_47 rfl rfl ?_
      refine T_sipush (pc := 48) (v := nI 200) dX11_alike_48 (by decide) ?_
      refine R_callVm1 (pc := 51) (As := [.long (lN (cd d)), .int (nI 200)]) (rest := [.long (lN (cd q.2))]) (Or.inl lk_X11_256) mk_X10_settle (c_settle hE2 hd (by decide)) kc_97 ⟨by decide, rfl⟩ lc_97 dX11_alike_51 rfl rfl (Nat.le_of_ble_eq_true rfl) (by decide) rfl (by decide) (by decide) (fun m3 h3 => ?_)
      obtain ⟨⟨hE3, hO4⟩, -⟩ := h3
      have hO5 := hO3.trans hO4
      cases e3 : stl (nxR X.R (wOf X LL)) 200 d with
      | none =>
        have e4 : stT (nxR X.R (wOf X LL)) 200 d q.2 = false := by unfold stT; rw [e3]; exact decide_eq_false (fun z => by cases z)
        rw [e4]
        refine T_topl (v := (-1)) (rfl) ?_
        refine T_lcmp (pc := 54) dX11_alike_54 ?_
        refine R_lx_ne (pc := 55) (tgt := 62) dX11_alike_55 (by decide) (fun h5 => ?_) (fun h5 => ?_)
        · skip
          refine T_iconst (pc := 62) (v := nI 0) dX11_alike_62 (by decide) ?_
          exact T_iret (pc := 63) (ty := .boolean) dX11_alike_63 rfl (by decide) (by decide) (by decide) ⟨m3, rfl, rfl, hO5⟩
        · exact absurd h5 (lN_ne (by omega))
      | some p =>
        have hp := stl_mw hX.1.ok hd e3
        have bp := cd_lt hp.1
        refine T_topl (v := lN (cd p.2)) (rfl) ?_
        refine T_lcmp (pc := 54) dX11_alike_54 ?_
        refine R_ln_ne (pc := 55) (tgt := 62) (by omega) (by omega) dX11_alike_55 (by decide) (fun h5 => ?_) (fun h5 => ?_)
        · skip
          have e4 : stT (nxR X.R (wOf X LL)) 200 d q.2 = false := by unfold stT; rw [e3]; exact decide_eq_false (fun z => h5 (by have z2 : p.2 = q.2 := Option.some.inj z; rw [z2]))
          rw [e4]
          refine T_iconst (pc := 62) (v := nI 0) dX11_alike_62 (by decide) ?_
          exact T_iret (pc := 63) (ty := .boolean) dX11_alike_63 rfl (by decide) (by decide) (by decide) ⟨m3, rfl, rfl, hO5⟩
        · skip
          have e4 : stT (nxR X.R (wOf X LL)) 200 d q.2 = true := by unfold stT; rw [e3]; exact decide_eq_true (by show some p.2 = some q.2; rw [cd_inj hq.1.2 hp.1.2 h5])
          rw [e4]
          refine T_iconst (pc := 58) (v := nI 1) dX11_alike_58 (by decide) ?_
          refine T_goto (pc := 59) (tgt := 63) dX11_alike_59 (by decide) ?_
          exact T_iret (pc := 63) (ty := .boolean) dX11_alike_63 rfl (by decide) (by decide) (by decide) ⟨m3, rfl, rfl, hO5⟩
theorem c_endless {X : Td} {LL : List (List Int32)} (hX : ToldAt μ 3 X) (hL : LawL μ LL) : Ex γ 6 0 0 M_X11_endless [.ref 0] (rm μ) (Rm (some (.long (vO (enS X.R (wOf X LL))))) (fun m => OfS SW μ m)) := by
  refine Ex.of (by decide +kernel) rfl (Nat.le_of_ble_eq_true rfl) ?_
  show T _ _ _ _ _ _ _ _ _ [some (.ref 0), none, none, none, none, none, none] [] (rm μ)
  refine T_aload_n (pc := 0) (i := 0) dX11_endless_0 rfl rfl ?_
  refine R_getR (pc := 1) (i := 97) fl_X11_55 rfl kc_0 lc_0 rc_0_11 dX11_endless_1 ?_
  refine T_aload_n (pc := 4) (i := 0) dX11_endless_4 rfl rfl ?_
  refine R_getR (pc := 5) (i := 3) fl_X11_19 rfl kc_0 lc_0 rc_0_1 dX11_endless_5 ?_
  refine R_callVm0 (pc := 8) (As := [.ref 3]) (rest := []) (Or.inl lk_X11_198) mk_X10_begin (c_Walk_begin hX hL) kc_97 ⟨by decide, rfl⟩ lc_97 dX11_endless_8 rfl rfl (Nat.le_of_ble_eq_true rfl) (by decide) rfl (Nat.le_refl _) (Nat.le_refl _) (fun m h => ?_)
  obtain ⟨hE0, hO⟩ := h
  have hE : EnvW m X.R LL (wOf X LL) := hE0
  have hk8 := kLN_lt hE.1 (Nat.le_refl _)
  refine T_aload_n (pc := 11) (i := 0) dX11_endless_11 rfl rfl ?_
  refine R_getR (pc := 12) (i := 3) fl_X11_19 rfl kc_0 lc_0 rc_0_1 dX11_endless_12 ?_
  refine R_getR (pc := 15) (i := 4) fl_X11_48 rfl (kt_told told3) (lt_told told3) (rt_told_rules told3) dX11_endless_15 ?_
  refine R_callV1 (pc := 18) (As := []) (rest := []) (Or.inl lk_X11_276) mk_X6_kindsOfLefts (c_Rules_kindsOfLefts rules4 hE.1) (kt_rules rules4) ⟨by decide, rfl⟩ (lt_rules rules4) dX11_endless_18 rfl rfl (Nat.le_of_ble_eq_true rfl) (by decide) rfl (Nat.le_refl _) (Nat.le_refl _) ?_
  refine T_istore_n (pc := 21) (i := 1) (ls' := [some (.ref 0), some (.int (nI (kLN X.R X.R.length))), none, none, none, none, none]) dX11_endless_21 rfl (by decide) rfl ?_
  refine T_iconst (pc := 22) (v := nI 1) dX11_endless_22 (by decide) ?_
  refine T_istore_n (pc := 23) (i := 2) (ls' := [some (.ref 0), some (.int (nI (kLN X.R X.R.length))), some (.int (nI 1)), none, none, none, none]) dX11_endless_23 rfl (by decide) rfl ?_
  suffices outer : ∀ (g n : Nat) (m : SM2), n + g = 4 → 1 ≤ n → EnvW m X.R LL (wOf X LL) → OfS SW μ m → T γ 6 0 0 M_X11_endless (Rm (some (.long (vO (ff (fun n => ff (enG X.R (wOf X LL) n) 0 (8 ^ n)) n g)))) (fun m => OfS SW μ m)) 0 0 24 [some (.ref 0), some (.int (nI (kLN X.R X.R.length))), some (.int (nI n)), none, none, none, none] [] (rm m) by
    exact outer 3 1 m rfl (Nat.le_refl _) hE hO
  intro g
  induction g with
  | zero =>
    intro n m hn hn1 iE iO
    refine T_iload_n (pc := 24) (i := 2) dX11_endless_24 rfl rfl ?_
    refine T_iconst (pc := 25) (v := nI 3) dX11_endless_25 (by decide) ?_
    refine R_icmp_gt (pc := 26) (tgt := 102) (by omega) (by omega) dX11_endless_26 (by decide) (fun h1 => ?_) (fun h1 => ?_)
    · skip
      refine T_ldc2 (pc := 102) dX11_endless_102 cn_X11_260 ?_
      exact T_lret dX11_endless_105 rfl (Nat.le_refl _) (Nat.le_refl _) ⟨_, rfl, rfl, iO⟩
    · exact absurd h1 (by omega)
  | succ g ih =>
    intro n m hn hn1 iE iO
    have p83 : 8 ^ n ≤ 8 ^ 3 := Nat.pow_le_pow_right (by decide) (by omega)
    have p80 : 0 < 8 ^ n := Nat.pow_pos (by decide)
    refine T_iload_n (pc := 24) (i := 2) dX11_endless_24 rfl rfl ?_
    refine T_iconst (pc := 25) (v := nI 3) dX11_endless_25 (by decide) ?_
    refine R_icmp_gt (pc := 26) (tgt := 102) (by omega) (by omega) dX11_endless_26 (by decide) (fun h1 => ?_) (fun h1 => ?_)
    · exact absurd h1 (by omega)
    · skip
      refine T_lconst (pc := 29) (v := lN 1) dX11_endless_29 rfl ?_
      refine T_iconst (pc := 30) (v := nI 3) dX11_endless_30 (by decide) ?_
      refine T_iload_n (pc := 31) (i := 2) dX11_endless_31 rfl rfl ?_
      refine R_imul (pc := 32) dX11_endless_32 ?_
      refine R_lshl (pc := 33) (by omega) dX11_endless_33 ?_
      refine T_iload_n (pc := 34) (i := 2) dX11_endless_34 rfl rfl ?_
      refine R_callS1 (pc := 35) (av := [.int (nI n)]) (rest := [.long (lN (1 * 2 ^ (3 * n)))]) (Or.inl lk_X11_279) mk_X11_figures (c_figures (by omega)) dX11_endless_35 rfl rfl (Nat.le_of_ble_eq_true rfl) (by decide) rfl (Nat.le_refl _) (Nat.le_refl _) ?_
      refine R_lor (pc := 38) dX11_endless_38 ?_
      refine T_topl (v := lN (2 * 8 ^ n - 1)) ((by rw [p8, or_add _ (by omega), Nat.one_mul, show 8 ^ n + (8 ^ n - 1) = 2 * 8 ^ n - 1 by omega])) ?_
      refine T_lstore_n (pc := 39) (i := 3) (ls' := [some (.ref 0), some (.int (nI (kLN X.R X.R.length))), some (.int (nI n)), some (.long (lN (2 * 8 ^ n - 1))), none, none, none]) dX11_endless_39 rfl (by decide) rfl ?_
      refine T_lconst (pc := 40) (v := lN 1) dX11_endless_40 rfl ?_
      refine T_iconst (pc := 41) (v := nI 3) dX11_endless_41 (by decide) ?_
      refine T_iload_n (pc := 42) (i := 2) dX11_endless_42 rfl rfl ?_
      refine R_imul (pc := 43) dX11_endless_43 ?_
      refine R_lshl (pc := 44) (by omega) dX11_endless_44 ?_
      refine T_topl (v := lN (8 ^ n + 0)) ((by rw [p8, Nat.one_mul, Nat.add_zero])) ?_
      refine T_lstore (pc := 45) (i := 5) (ls' := [some (.ref 0), some (.int (nI (kLN X.R X.R.length))), some (.int (nI n)), some (.long (lN (2 * 8 ^ n - 1))), none, some (.long (lN (8 ^ n + 0))), none]) dX11_endless_45 (by decide) rfl ?_
      suffices inner : ∀ (f v : Nat) (m : SM2), v + f = 8 ^ n → EnvW m X.R LL (wOf X LL) → OfS SW μ m → T γ 6 0 0 M_X11_endless (Rm (some (.long (vO (orE (ff (enG X.R (wOf X LL) n) v f) (ff (fun n => ff (enG X.R (wOf X LL) n) 0 (8 ^ n)) (n + 1) g))))) (fun m => OfS SW μ m)) 0 0 47 [some (.ref 0), some (.int (nI (kLN X.R X.R.length))), some (.int (nI n)), some (.long (lN (2 * 8 ^ n - 1))), none, some (.long (lN (8 ^ n + v))), none] [] (rm m) by
        rw [ff_e]
        exact inner (8 ^ n) 0 m (Nat.zero_add _) iE iO
      intro f
      induction f with
      | zero =>
        intro v m2 hv jE jO
        refine T_lload (pc := 47) (i := 5) dX11_endless_47 rfl ?_
        refine T_lload_n (pc := 49) (i := 3) dX11_endless_49 rfl rfl ?_
        refine T_lcmp (pc := 50) dX11_endless_50 ?_
        refine R_ln_gt (pc := 51) (tgt := 96) (by omega) (by omega) dX11_endless_51 (by decide) (fun h2 => ?_) (fun h2 => ?_)
        · skip
          refine R_iinc (pc := 96) (i := 2) (n := 1) (ls' := [some (.ref 0), some (.int (nI (kLN X.R X.R.length))), some (.int (nI (n + 1))), some (.long (lN (2 * 8 ^ n - 1))), none, some (.long (lN (8 ^ n + v))), none]) dX11_endless_96 rfl rfl ?_
          refine T_goto (pc := 99) (tgt := 24) dX11_endless_99 (by decide) ?_
          refine T_ls (ls' := [some (.ref 0), some (.int (nI (kLN X.R X.R.length))), some (.int (nI (n + 1))), none, none, none, none]) (And.intro rfl (And.intro rfl (And.intro rfl True.intro))) ?_
          exact ih (n + 1) m2 (by omega) (by omega) jE jO
        · exact absurd h2 (by omega)
      | succ f ihf =>
        intro v m2 hv jE jO
        obtain ⟨hm, hc, hlen⟩ := mN_at (n := n) (v := v) (by omega) (by omega)
        have bc := cd_lt hm
        rw [← hc]
        refine T_lload (pc := 47) (i := 5) dX11_endless_47 rfl ?_
        refine T_lload_n (pc := 49) (i := 3) dX11_endless_49 rfl rfl ?_
        refine T_lcmp (pc := 50) dX11_endless_50 ?_
        refine R_ln_gt (pc := 51) (tgt := 96) (by omega) (by omega) dX11_endless_51 (by decide) (fun h2 => ?_) (fun h2 => ?_)
        · exact absurd h2 (by omega)
        · skip
          refine T_lload (pc := 54) (i := 5) dX11_endless_54 rfl ?_
          refine R_callS1 (pc := 56) (av := [.long (lN (cd (mN (8 ^ n + v))))]) (rest := []) (Or.inl lk_X11_283) mk_X11_kindsIn (c_kindsIn hm) dX11_endless_56 rfl rfl (Nat.le_of_ble_eq_true rfl) (by decide) rfl (Nat.le_refl _) (Nat.le_refl _) ?_
          refine T_iload_n (pc := 59) (i := 1) dX11_endless_59 rfl rfl ?_
          refine T_iconst (pc := 60) (v := (-1)) dX11_endless_60 (by decide) ?_
          refine T_ixor (pc := 61) dX11_endless_61 ?_
          refine T_iand (pc := 62) dX11_endless_62 ?_
          have nxt : enG X.R (wOf X LL) n v = none → ∀ m3 : SM2, EnvW m3 X.R LL (wOf X LL) → OfS SW μ m3 → T γ 6 0 0 M_X11_endless (Rm (some (.long (vO (orE (ff (enG X.R (wOf X LL) n) v (f + 1)) (ff (fun n => ff (enG X.R (wOf X LL) n) 0 (8 ^ n)) (n + 1) g))))) (fun m => OfS SW μ m)) 0 0 87 [some (.ref 0), some (.int (nI (kLN X.R X.R.length))), some (.int (nI n)), some (.long (lN (2 * 8 ^ n - 1))), none, some (.long (lN (cd (mN (8 ^ n + v))))), none] [] (rm m3) := fun e m3 kE kO => by
            rw [ff_s e]
            have h9 := ihf (v + 1) m3 (by omega) kE kO
            rw [show 8 ^ n + (v + 1) = cd (mN (8 ^ n + v)) + 1 by omega] at h9
            refine T_lload (pc := 87) (i := 5) dX11_endless_87 rfl ?_
            refine T_lconst (pc := 89) (v := lN 1) dX11_endless_89 rfl ?_
            refine R_ladd (pc := 90) dX11_endless_90 ?_
            refine T_lstore (pc := 91) (i := 5) (ls' := [some (.ref 0), some (.int (nI (kLN X.R X.R.length))), some (.int (nI n)), some (.long (lN (2 * 8 ^ n - 1))), none, some (.long (lN ((cd (mN (8 ^ n + v))) + 1))), none]) dX11_endless_91 (by decide) rfl ?_
            refine T_goto (pc := 93) (tgt := 47) dX11_endless_93 (by decide) ?_
            exact h9
          refine T_if_ne (pc := 63) (tgt := 87) dX11_endless_63 (by decide) (fun h3 => ?_) (fun h3 => ?_)
          · refine nxt ?_ m2 jE jO
            unfold enG onlyB
            rw [decide_eq_false h3]
            rfl
          · skip
            refine T_aload_n (pc := 66) (i := 0) dX11_endless_66 rfl rfl ?_
            refine R_getR (pc := 67) (i := 97) fl_X11_55 rfl kc_0 lc_0 rc_0_11 dX11_endless_67 ?_
            refine T_lload (pc := 70) (i := 5) dX11_endless_70 rfl ?_
            refine T_bipush (pc := 72) (v := nI 100) dX11_endless_72 (by decide) ?_
            refine R_callVm1 (pc := 74) (As := [.long (lN (cd (mN (8 ^ n + v)))), .int (nI 100)]) (rest := []) (Or.inl lk_X11_256) mk_X10_settle (c_settle jE hm (by decide)) kc_97 ⟨by decide, rfl⟩ lc_97 dX11_endless_74 rfl rfl (Nat.le_of_ble_eq_true rfl) (by decide) rfl (Nat.le_refl _) (Nat.le_refl _) (fun m3 h4 => ?_)
            obtain ⟨⟨kE, kO⟩, -⟩ := h4
            cases e : stl (nxR X.R (wOf X LL)) 100 (mN (8 ^ n + v)) with
            | none =>
              have eg : enG X.R (wOf X LL) n v = some (mN (8 ^ n + v)) := by unfold enG onlyB; rw [decide_eq_true h3, e]; rfl
              rw [ff_y eg]
              refine T_topl (v := (-1)) (rfl) ?_
              refine T_ldc2 (pc := 77) dX11_endless_77 cn_X11_260 ?_
              refine T_lcmp (pc := 80) dX11_endless_80 ?_
              refine R_lx_ne (pc := 81) (tgt := 87) dX11_endless_81 (by decide) (fun h5 => ?_) (fun h5 => ?_)
              · exact absurd rfl h5
              · skip
                refine T_lload (pc := 84) (i := 5) dX11_endless_84 rfl ?_
                exact T_lret dX11_endless_86 rfl (Nat.le_refl _) (Nat.le_refl _) ⟨_, rfl, rfl, jO.trans kO⟩
            | some q =>
              have hq := stl_mw hX.1.ok hm e
              have bq := cd_lt hq.1
              refine T_topl (v := lN (cd q.2)) (rfl) ?_
              refine T_ldc2 (pc := 77) dX11_endless_77 cn_X11_260 ?_
              refine T_lcmp (pc := 80) dX11_endless_80 ?_
              refine R_lx_ne (pc := 81) (tgt := 87) dX11_endless_81 (by decide) (fun h5 => ?_) (fun h5 => ?_)
              · refine nxt ?_ m3 kE (jO.trans kO)
                unfold enG
                rw [e, if_neg (by simp)]
              · exact absurd h5 (lN_ne (by omega))
end SE

