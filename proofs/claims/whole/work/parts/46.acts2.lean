/-! fits, use, run -/
theorem chk_of {y : Int32} {a b : Nat} (ha : a < 2 ^ 31) (hb : b < 2 ^ 31) (h : (!decide (y < nI a) && !decide (nI b < y)) = true) : ∃ k, a ≤ k ∧ k ≤ b ∧ y = nI k := by
  simp only [Bool.and_eq_true, Bool.not_eq_true', decide_eq_false_iff_not] at h
  have h1 := h.1
  have h2 := h.2
  rw [fa_lt, nI_toInt ha] at h1
  rw [fa_lt, nI_toInt hb] at h2
  refine ⟨y.toInt.toNat, by omega, by omega, ?_⟩
  rw [fa_eq, nI_toInt (by omega)]
  omega
/-- of a call that may throw behind writes -/
def Ay (r : String ⊕ Value) (P : SM2 → Prop) : Out → SMem → Prop := fun o m => ∃ μ', m = rm μ' ∧ P μ' ∧ o = (match r with | .inr v => Sum.inl (some v) | .inl e => Sum.inr e)
def SU (k : Nat) : Prop := k = 0 ∨ SW k ∨ (3 ≤ k ∧ k < 31) ∨ (124 ≤ k ∧ k < 572)
def OfU (μ m : SM2) : Prop := OfS SU μ m ∧ m.1 0 7 = μ.1 0 7
theorem OfU.refl (μ : SM2) : OfU μ μ := ⟨OfS.refl _ _, rfl⟩
theorem OfU.trans {μ m m' : SM2} (h : OfU μ m) (g : OfU m m') : OfU μ m' := ⟨h.1.trans g.1, g.2.trans h.2⟩
theorem OfS.u {S : Nat → Prop} {μ m : SM2} (h : OfS S μ m) (g : ∀ k, S k → 0 < k ∧ SU k) : OfU μ m := ⟨h.mono (fun k hk => (g k hk).2), h.i (fun z => absurd (g 0 z).1 (Nat.lt_irrefl 0)) 7⟩
theorem OffA.ofs {μ m : SM2} (h : OffA μ m) : OfS (fun k => k = 0 ∨ (124 ≤ k ∧ k < 572)) μ m := fun k hk => h.1 k (by omega) (by omega)
theorem OffA.u {μ m : SM2} (h : OffA μ m) : OfU μ m := ⟨h.ofs.mono (fun k hk => by unfold SU; omega), h.2⟩
theorem ToldAt.fieldS {S : Nat → Prop} {μ m : SM2} {b k : Nat} {X : Td} {f : Fld} (h : ToldAt μ b X) (hk : k < X.F.length) (g : OfS S μ m) (hs : ∀ c, b ≤ c → c < b + 28 → S c → b + 10 + 3 * k ≤ c ∧ c < b + 10 + 3 * k + 3) (hf : FieldAt m (b + 10 + 3 * k) f) : ToldAt m b (X.1, X.2.1.set k f, X.2.2) := by
  have h6 := h.2.1.2.1
  have g1 : Off (b + 10 + 3 * k) 3 μ (fun c => if b + 10 + 3 * k ≤ c ∧ c < b + 10 + 3 * k + 3 then m.1 c else μ.1 c, fun c => if b + 10 + 3 * k ≤ c ∧ c < b + 10 + 3 * k + 3 then m.2 c else μ.2 c) := fun c hc => ⟨if_neg (by omega), if_neg (by omega)⟩
  have g2 : OfS (fun c => S c ∧ ¬ (b + 10 + 3 * k ≤ c ∧ c < b + 10 + 3 * k + 3)) (fun c => if b + 10 + 3 * k ≤ c ∧ c < b + 10 + 3 * k + 3 then m.1 c else μ.1 c, fun c => if b + 10 + 3 * k ≤ c ∧ c < b + 10 + 3 * k + 3 then m.2 c else μ.2 c) m := fun c hc => by
    by_cases e : b + 10 + 3 * k ≤ c ∧ c < b + 10 + 3 * k + 3
    · exact ⟨(if_pos e).symm, (if_pos e).symm⟩
    · have := g c (fun z => hc ⟨z, e⟩)
      exact ⟨this.1.trans (if_neg e).symm, this.2.trans (if_neg e).symm⟩
  have hf1 : FieldAt (fun c => if b + 10 + 3 * k ≤ c ∧ c < b + 10 + 3 * k + 3 then m.1 c else μ.1 c, fun c => if b + 10 + 3 * k ≤ c ∧ c < b + 10 + 3 * k + 3 then m.2 c else μ.2 c) (b + 10 + 3 * k) f := hf.same (by dsimp only; rw [if_pos (by omega)]) (by dsimp only; rw [if_pos (by omega)]) (fun j => by dsimp only; rw [if_pos (by omega)]) (fun j => by dsimp only; rw [if_pos (by omega)])
  exact (h.field hk g1 hf1).ofs g2 (fun c h1 h2 h3 => h3.2 (hs c h1 h2 h3.1))
def wOf (X : Td) (LL : List (List Int32)) : Wk := (X.way, 0, brQ X.R LL X.year)
def fitZ (R : List Ru) (w : Wk) (l : List Nat) (r : Nat) (z : Int32) : Bool := !decide (z < 0) && fitB R w l r z.toNatClampNeg
theorem i_nn {z : Int32} (h : ¬ z < 0) : ∃ p, p < 2 ^ 31 ∧ z = nI p := by
  rw [fa_lt, show (0 : Int32).toInt = 0 from rfl] at h
  have := fb_rng z
  refine ⟨z.toInt.toNat, by omega, ?_⟩
  rw [fa_eq, nI_toInt (by omega)]
  omega
section A2
variable {γ : Ga} {μ : SM2}
theorem c_mayUse_neg2 {R : List Ru} {LL : List (List Int32)} {w : Wk} {l : List Nat} {r : Nat} {x : Int32} (hE : EnvW μ R LL w) (hr : r < R.length) (hx : x < 0) : Ex γ 3 0 0 M_X10_mayUse [.ref 97, .int (nI r), .int x, .long (lN (cd l)), .int (nI l.length)] (rm μ) (Rm (some (.int (bI false))) (fun m => EnvW m R LL w ∧ OfS Sm μ m)) := by
  have hR := hE.1
  have h12 := hR.len
  have row := hR.row r hr
  refine Ex.of (by decide +kernel) rfl (Nat.le_of_ble_eq_true rfl) ?_
  show T _ _ _ _ _ _ _ _ _ [some (.ref 97), some (.int (nI r)), some (.int (x)), some (.long (lN (cd l))), none, some (.int (nI l.length)), none, none, none, none] [] (rm μ)
  refine T_aload_n (pc := 0) (i := 0) dX10_mayUse_0 rfl rfl ?_
  refine R_getR (pc := 1) (i := 4) fl_X10_33 rfl kc_97 lc_97 rc_97_0 dX10_mayUse_1 ?_
  refine R_getR (pc := 4) (i := 7) fl_X10_71 rfl (kt_rules rules4) (lt_rules rules4) (rt_rules_leftSize rules4) dX10_mayUse_4 ?_
  refine T_iload_n (pc := 7) (i := 1) dX10_mayUse_7 rfl rfl ?_
  refine R_iald (pc := 8) (x := nI ((rAt R r).1.length)) (kt_rules_leftSize rules4) (lt_rules_leftSize rules4) (by omega) (by first | decide | assumption) row.leftSize dX10_mayUse_8 ?_
  refine T_istore (pc := 9) (i := 6) (ls' := [some (.ref 97), some (.int (nI r)), some (.int (x)), some (.long (lN (cd l))), none, some (.int (nI l.length)), some (.int (nI ((rAt R r).1.length))), none, none, none]) dX10_mayUse_9 (by decide) rfl ?_
  refine T_lload_n (pc := 11) (i := 3) dX10_mayUse_11 rfl rfl ?_
  refine T_iload (pc := 12) (i := 5) dX10_mayUse_12 rfl ?_
  refine T_iload_n (pc := 14) (i := 2) dX10_mayUse_14 rfl rfl ?_
  refine T_aload_n (pc := 15) (i := 0) dX10_mayUse_15 rfl rfl ?_
  refine R_getR (pc := 16) (i := 4) fl_X10_33 rfl kc_97 lc_97 rc_97_0 dX10_mayUse_16 ?_
  refine R_getR (pc := 19) (i := 5) fl_X10_76 rfl (kt_rules rules4) (lt_rules rules4) (rt_rules_left rules4) dX10_mayUse_19 ?_
  refine T_iload_n (pc := 22) (i := 1) dX10_mayUse_22 rfl rfl ?_
  refine R_lald (pc := 23) (x := lN (cd (rAt R r).1)) (kt_rules_left rules4) (lt_rules_left rules4) (by omega) (by first | decide | assumption) row.left dX10_mayUse_23 ?_
  refine T_iload (pc := 24) (i := 6) dX10_mayUse_24 rfl ?_
  refine R_callS1 (pc := 26) (av := [.long (lN (cd l)), .int (nI l.length), .int (x), .long (lN (cd (rAt R r).1)), .int (nI ((rAt R r).1.length))]) (rest := []) (Or.inr lk_X10_80) mk_X11_standsIn (c_standsIn_neg hx) dX10_mayUse_26 rfl rfl (Nat.le_of_ble_eq_true rfl) (by decide) rfl (Nat.le_refl _) (Nat.le_refl _) ?_
  refine R_ifb_eq (pc := 29) (tgt := 63) dX10_mayUse_29 (by decide) (fun h1 => ?_) (fun h1 => ?_)
  · skip
    refine T_iconst (pc := 63) (v := nI 0) dX10_mayUse_63 (by decide) ?_
    exact T_iret (pc := 64) (ty := .boolean) dX10_mayUse_64 rfl (by decide) (Nat.le_refl _) (Nat.le_refl _) ⟨_, rfl, rfl, hE, OfS.refl _ _⟩
  · cases h1
theorem c_mayUseZ {R : List Ru} {LL : List (List Int32)} {w : Wk} {l : List Nat} {r : Nat} {z : Int32} (hE : EnvW μ R LL w) (hl : Mw l) (hr : r < R.length) : Ex γ 3 0 0 M_X10_mayUse [.ref 97, .int (nI r), .int z, .long (lN (cd l)), .int (nI l.length)] (rm μ) (Rm (some (.int (bI (fitZ R w l r z)))) (fun m => EnvW m R LL w ∧ OfS Sm μ m)) := by
  by_cases h : z < 0
  · have e : fitZ R w l r z = false := by unfold fitZ; rw [decide_eq_true h]; rfl
    rw [e]
    exact c_mayUse_neg2 hE hr h
  · obtain ⟨p, hp, rfl⟩ := i_nn h
    have e : fitZ R w l r (nI p) = fitB R w l r p := by unfold fitZ; rw [decide_eq_false h, nI_clamp hp]; rfl
    rw [e]
    exact c_mayUse hE hl hr hp
theorem c_fits {x : Int64} {y z : Int32} {X : Td} {LL : List (List Int32)} (hX : ToldAt μ 3 X) (hL : LawL μ LL) : Ex γ 6 2 12 M_X11_fits [.ref 0, .long x, .int y, .int z] (rm μ) (Ax (if inB y X.R.length = true then (if codeB x = true then none else some "java/lang/IllegalArgumentException") else some "java/lang/IndexOutOfBoundsException") (.int (bI (fitZ X.R (wOf X LL) (ml x) y.toNatClampNeg z))) μ (fun m => OfS SW μ m)) := by
  have h12 := hX.1.len
  refine Ex.of (by decide +kernel) rfl (Nat.le_of_ble_eq_true rfl) ?_
  show T _ _ _ _ _ _ _ _ _ [some (.ref 0), some (.long (x)), none, some (.int (y)), some (.int (z))] [] (rm μ)
  refine T_aload_n (pc := 0) (i := 0) dX11_fits_0 rfl rfl ?_
  refine T_iload_n (pc := 1) (i := 3) dX11_fits_1 rfl rfl ?_
  refine R_chkV (pc := 2) (As := [.int (y)]) (rest := []) (Or.inl lk_X11_135) mk_X11_checkRule (c_checkRule hX.1) kc_0 ⟨by decide, rfl⟩ lc_0 dX11_fits_2 rfl rfl (Nat.le_of_ble_eq_true rfl) (by decide) rfl (by decide) (by decide) (fun z => by rw [if_neg (by rw [z]; decide)]; exact ⟨rfl, rfl⟩) (fun hB => ?_)
  rw [if_pos hB]
  obtain ⟨k, hk, rfl⟩ := inB_of (by omega) hB
  rw [nI_clamp (n := k) (by omega)]
  refine T_lload_n (pc := 5) (i := 1) dX11_fits_5 rfl rfl ?_
  refine R_chkS (pc := 6) (av := [.long (x)]) (rest := []) (Or.inl lk_X11_169) mk_X11_checkCode c_checkCode dX11_fits_6 rfl rfl (Nat.le_of_ble_eq_true rfl) (by decide) rfl (by decide) (by decide) (fun z => Ax_e (by rw [z]; decide)) (fun hC => ?_)
  obtain ⟨l, hm, rfl⟩ := codeB_iff.mp hC
  rw [ml_cd hm]
  refine T_aload_n (pc := 9) (i := 0) dX11_fits_9 rfl rfl ?_
  refine R_getR (pc := 10) (i := 97) fl_X11_55 rfl kc_0 lc_0 rc_0_11 dX11_fits_10 ?_
  refine T_aload_n (pc := 13) (i := 0) dX11_fits_13 rfl rfl ?_
  refine R_getR (pc := 14) (i := 3) fl_X11_19 rfl kc_0 lc_0 rc_0_1 dX11_fits_14 ?_
  refine R_callVm0 (pc := 17) (As := [.ref 3]) (rest := []) (Or.inl lk_X11_198) mk_X10_begin (c_Walk_begin hX hL) kc_97 ⟨by decide, rfl⟩ lc_97 dX11_fits_17 rfl rfl (Nat.le_of_ble_eq_true rfl) (by decide) rfl (by decide) (by decide) (fun m h => ?_)
  obtain ⟨hE, hO⟩ := h
  refine T_aload_n (pc := 20) (i := 0) dX11_fits_20 rfl rfl ?_
  refine R_getR (pc := 21) (i := 97) fl_X11_55 rfl kc_0 lc_0 rc_0_11 dX11_fits_21 ?_
  refine T_iload_n (pc := 24) (i := 3) dX11_fits_24 rfl rfl ?_
  refine T_iload (pc := 25) (i := 4) dX11_fits_25 rfl ?_
  refine T_lload_n (pc := 27) (i := 1) dX11_fits_27 rfl rfl ?_
  refine T_lload_n (pc := 28) (i := 1) dX11_fits_28 rfl rfl ?_
  refine R_callS1 (pc := 29) (av := [.long (lN (cd l))]) (rest := [.long (lN (cd l)), .int (z), .int (nI k), .ref 97]) (Or.inl lk_X11_173) mk_X11_sizeOf (c_sizeOf_cd hm) dX11_fits_29 rfl rfl (Nat.le_of_ble_eq_true rfl) (by decide) rfl (by decide) (by decide) ?_
  refine R_callVm1 (pc := 32) (As := [.int (nI k), .int (z), .long (lN (cd l)), .int (nI l.length)]) (rest := []) (Or.inl lk_X11_201) mk_X10_mayUse (c_mayUseZ hE hm hk) kc_97 ⟨by decide, rfl⟩ lc_97 dX11_fits_32 rfl rfl (Nat.le_of_ble_eq_true rfl) (by decide) rfl (by decide) (by decide) (fun m2 h2 => ?_)
  exact T_iret (pc := 35) (ty := .boolean) dX11_fits_35 rfl (nar_b _) (by decide) (by decide) (Ax_v hC (hO.trans (h2.2.mono (fun k => Sm_SW))))
def useC (X : Td) (LL : List (List Int32)) (x y z : Int32) : Bool := (inB x X.F.length && inB y X.R.length) && fitZ X.R (wOf X LL) (fAt X.F x.toNatClampNeg).1 y.toNatClampNeg z
def useF (X : Td) (x y z : Int32) : Fld := chF X.R (fAt X.F x.toNatClampNeg) [(z.toNatClampNeg, y.toNatClampNeg)]
def useE (X : Td) (LL : List (List Int32)) (x y z : Int32) : String ⊕ Value := if (inB x X.F.length && inB y X.R.length) = true then (if useC X LL x y z = true then .inr (.long (lN (cd (useF X x y z).1))) else .inl "java/lang/IllegalStateException") else .inl "java/lang/IndexOutOfBoundsException"
def useX (X : Td) (LL : List (List Int32)) (x y z : Int32) : Td := if useC X LL x y z = true then (X.1, X.2.1.set x.toNatClampNeg (useF X x y z), X.2.2) else X
def useU (X : Td) (U : List Td) (LL : List (List Int32)) (x y z : Int32) : List Td := if useC X LL x y z = true then (X :: U).take 16 else U
theorem c_use {x y z : Int32} {X : Td} {U : List Td} {LL : List (List Int32)} (hX : ToldAt μ 3 X) (hU : ActsAt μ U) (hL : LawL μ LL) : Ex γ 6 3 18 M_X11_use [.ref 0, .int x, .int y, .int z] (rm μ) (Ay (useE X LL x y z) (fun m => (ToldAt m 3 (useX X LL x y z) ∧ ActsAt m (useU X U LL x y z)) ∧ OfU μ m)) := by
  have h12 := hX.1.len
  have h6 := hX.2.1.2.1
  have hno : ∀ m : SM2, OfS SW μ m → useC X LL x y z = false → (ToldAt m 3 (useX X LL x y z) ∧ ActsAt m (useU X U LL x y z)) ∧ OfU μ m := fun m g e => by
    have e1 : useX X LL x y z = X := by unfold useX; rw [e]; rfl
    have e2 : useU X U LL x y z = U := by unfold useU; rw [e]; rfl
    rw [e1, e2]
    exact ⟨⟨hX.ofs g (fun k h1 h2 => by unfold SW; omega), hU.ofs g (fun k h => by unfold SW; omega)⟩, g.u (fun k h => ⟨by unfold SW at h; omega, Or.inr (Or.inl h)⟩)⟩
  refine Ex.of (by decide +kernel) rfl (Nat.le_of_ble_eq_true rfl) ?_
  show T _ _ _ _ _ _ _ _ _ [some (.ref 0), some (.int (x)), some (.int (y)), some (.int (z)), none] [] (rm μ)
  refine T_aload_n (pc := 0) (i := 0) dX11_use_0 rfl rfl ?_
  refine T_iload_n (pc := 1) (i := 1) dX11_use_1 rfl rfl ?_
  refine R_chkV (pc := 2) (As := [.int (x)]) (rest := []) (Or.inl lk_X11_147) mk_X11_checkField (c_checkField hX.2.1) kc_0 ⟨by decide, rfl⟩ lc_0 dX11_use_2 rfl rfl (Nat.le_of_ble_eq_true rfl) (by decide) rfl (by decide) (by decide) (fun e => by have e0 : useC X LL x y z = false := by { unfold useC; rw [e]; rfl }; unfold useE; rw [if_neg (by rw [e]; exact fun z => Bool.false_ne_true z)]; exact ⟨_, rfl, hno μ (OfS.refl _ _) e0, rfl⟩) (fun hA => ?_)
  refine T_aload_n (pc := 5) (i := 0) dX11_use_5 rfl rfl ?_
  refine T_iload_n (pc := 6) (i := 2) dX11_use_6 rfl rfl ?_
  refine R_chkV (pc := 7) (As := [.int (y)]) (rest := []) (Or.inl lk_X11_135) mk_X11_checkRule (c_checkRule hX.1) kc_0 ⟨by decide, rfl⟩ lc_0 dX11_use_7 rfl rfl (Nat.le_of_ble_eq_true rfl) (by decide) rfl (by decide) (by decide) (fun e => by have e0 : useC X LL x y z = false := by { unfold useC; rw [hA, e]; rfl }; unfold useE; rw [if_neg (by rw [hA, e]; decide)]; exact ⟨_, rfl, hno μ (OfS.refl _ _) e0, rfl⟩) (fun hB => ?_)
  have hc0 : useC X LL x y z = fitZ X.R (wOf X LL) (fAt X.F x.toNatClampNeg).1 y.toNatClampNeg z := by unfold useC; rw [hA, hB]; rfl
  have he0 : useE X LL x y z = if useC X LL x y z = true then .inr (.long (lN (cd (useF X x y z).1))) else .inl "java/lang/IllegalStateException" := by unfold useE; rw [if_pos (by rw [hA, hB]; rfl)]
  rw [he0]
  obtain ⟨k, hk, rfl⟩ := inB_of (by omega) hA
  obtain ⟨r, hr, rfl⟩ := inB_of (by omega) hB
  rw [nI_clamp (n := k) (by omega), nI_clamp (n := r) (by omega)] at hc0
  have hf := hX.2.1.2.2 k hk
  have hq := told_field told3 (i := k) (by omega)
  refine T_aload_n (pc := 10) (i := 0) dX11_use_10 rfl rfl ?_
  refine R_getR (pc := 11) (i := 3) fl_X11_19 rfl kc_0 lc_0 rc_0_1 dX11_use_11 ?_
  refine R_getR (pc := 14) (i := 9) fl_X11_150 rfl (kt_told told3) (lt_told told3) (rt_told_fields told3) dX11_use_14 ?_
  refine T_iload_n (pc := 17) (i := 1) dX11_use_17 rfl rfl ?_
  refine R_aald (pc := 18) (t := 0) (j := (3 + 10 + 3 * k)) (kt_told_fields told3) (by decide) (lt_told_fields told3) (by omega) (by decide) (rt_told_el told3 (by omega)) dX11_use_18 ?_
  refine T_astore (pc := 19) (i := 4) (ls' := [some (.ref 0), some (.int (nI k)), some (.int (nI r)), some (.int (z)), some (.ref (3 + 10 + 3 * k))]) dX11_use_19 (by decide) rfl ?_
  refine T_aload_n (pc := 21) (i := 0) dX11_use_21 rfl rfl ?_
  refine R_getR (pc := 22) (i := 97) fl_X11_55 rfl kc_0 lc_0 rc_0_11 dX11_use_22 ?_
  refine T_aload_n (pc := 25) (i := 0) dX11_use_25 rfl rfl ?_
  refine R_getR (pc := 26) (i := 3) fl_X11_19 rfl kc_0 lc_0 rc_0_1 dX11_use_26 ?_
  refine R_callVm0 (pc := 29) (As := [.ref 3]) (rest := []) (Or.inl lk_X11_198) mk_X10_begin (c_Walk_begin hX hL) kc_97 ⟨by decide, rfl⟩ lc_97 dX11_use_29 rfl rfl (Nat.le_of_ble_eq_true rfl) (by decide) rfl (by decide) (by decide) (fun m h => ?_)
  obtain ⟨hE0, hO⟩ := h
  have hE : EnvW m X.R LL (wOf X LL) := hE0
  have hf1 := hf.ofs hO (fun k h1 h2 => by unfold SW; omega)
  refine T_aload_n (pc := 32) (i := 0) dX11_use_32 rfl rfl ?_
  refine R_getR (pc := 33) (i := 97) fl_X11_55 rfl kc_0 lc_0 rc_0_11 dX11_use_33 ?_
  refine T_iload_n (pc := 36) (i := 2) dX11_use_36 rfl rfl ?_
  refine T_iload_n (pc := 37) (i := 3) dX11_use_37 rfl rfl ?_
  refine T_aload (pc := 38) (i := 4) dX11_use_38 rfl ?_
  refine R_getL (pc := 40) (x := lN (cd (fAt X.F k).1)) fl_X11_154 rfl (kt_field (told_field told3 (by omega))) (lt_field (told_field told3 (by omega))) hf1.code dX11_use_40 ?_
  refine T_aload (pc := 43) (i := 4) dX11_use_43 rfl ?_
  refine R_getL (pc := 45) (x := lN (cd (fAt X.F k).1)) fl_X11_154 rfl (kt_field (told_field told3 (by omega))) (lt_field (told_field told3 (by omega))) hf1.code dX11_use_45 ?_
  refine R_callS1 (pc := 48) (av := [.long (lN (cd (fAt X.F k).1))]) (rest := [.long (lN (cd (fAt X.F k).1)), .int (z), .int (nI r), .ref 97]) (Or.inl lk_X11_173) mk_X11_sizeOf (c_sizeOf_cd hf.mw) dX11_use_48 rfl rfl (Nat.le_of_ble_eq_true rfl) (by decide) rfl (by decide) (by decide) ?_
  refine R_callVm1 (pc := 51) (As := [.int (nI r), .int (z), .long (lN (cd (fAt X.F k).1)), .int (nI ((fAt X.F k).1.length))]) (rest := []) (Or.inl lk_X11_201) mk_X10_mayUse (c_mayUseZ hE hf.mw hr) kc_97 ⟨by decide, rfl⟩ lc_97 dX11_use_51 rfl rfl (Nat.le_of_ble_eq_true rfl) (by decide) rfl (by decide) (by decide) (fun m2 h2 => ?_)
  obtain ⟨hE2, hO2⟩ := h2
  have hO3 := hO.trans (hO2.mono (fun k => Sm_SW))
  rw [← hc0]
  refine R_ifb_ne (pc := 54) (tgt := 65) dX11_use_54 (by decide) (fun h3 => ?_) (fun h3 => ?_)
  · skip
    have h3z := h3
    rw [hc0] at h3z
    unfold fitZ at h3z
    simp only [Bool.and_eq_true, Bool.not_eq_true', decide_eq_false_iff_not] at h3z
    obtain ⟨p, hp, rfl⟩ := i_nn h3z.1
    have hfit := h3z.2
    rw [nI_clamp hp] at hfit
    have hget := fitB_get hfit
    have hf2 := hf.ofs hO3 (fun k h1 h2 => by unfold SW; omega)
    have hX2 := hX.ofs hO3 (fun k h1 h2 => by unfold SW; omega)
    have hU2 := hU.ofs hO3 (fun k h => by unfold SW; omega)
    rw [if_pos h3]
    refine T_aload_n (pc := 65) (i := 0) dX11_use_65 rfl rfl ?_
    refine R_callVm0 (pc := 66) (As := []) (rest := []) (Or.inl lk_X11_208) mk_X11_remember (c_remember hX2 hU2) kc_0 ⟨by decide, rfl⟩ lc_0 dX11_use_66 rfl rfl (Nat.le_of_ble_eq_true rfl) (by decide) rfl (by decide) (by decide) (fun m3 h4 => ?_)
    obtain ⟨hA3, hO4⟩ := h4
    have hX3 := hX2.offA hO4 (by omega)
    refine T_aload_n (pc := 69) (i := 0) dX11_use_69 rfl rfl ?_
    refine R_getR (pc := 70) (i := 97) fl_X11_55 rfl kc_0 lc_0 rc_0_11 dX11_use_70 ?_
    refine T_aload (pc := 73) (i := 4) dX11_use_73 rfl ?_
    refine T_bipush (pc := 75) (v := nI 100) dX11_use_75 (by decide) ?_
    refine T_iload_n (pc := 77) (i := 3) dX11_use_77 rfl rfl ?_
    refine R_imul (pc := 78) dX11_use_78 ?_
    refine T_iload_n (pc := 79) (i := 2) dX11_use_79 rfl rfl ?_
    refine R_iadd (pc := 80) dX11_use_80 ?_
    have e1 : (100 * p + r) % 100 = r := by omega
    have e2 : (100 * p + r) / 100 = p := by have := hf.mw.1; omega
    have hn20 := hf.mw.1
    refine R_callVm0 (pc := 81) (As := [.ref (3+10+3*k), .int (nI ((100 * p) + r))]) (rest := []) (Or.inl lk_X11_211) mk_X10_turn (c_turn hq (by omega) (hX3.2.1.2.2 k hk) hX3.1 (by omega) (by rw [e1]; exact hr) (by rw [e1, e2]; exact hget.2.1) (by rw [e1]; exact hget.2.2)) kc_97 ⟨by decide, rfl⟩ lc_97 dX11_use_81 rfl rfl (Nat.le_of_ble_eq_true rfl) (by decide) rfl (by decide) (by decide) (fun m4 h5 => ?_)
    rw [e1, e2] at h5
    obtain ⟨hf5, hO5⟩ := h5
    have hX5 := hX3.fieldS hk hO5 (fun c a1 a2 a3 => by unfold SW at a3; omega) hf5
    have hA5 := hA3.ofs hO5 (fun c a3 => by unfold SW; omega)
    refine T_aload (pc := 84) (i := 4) dX11_use_84 rfl ?_
    refine R_getL (pc := 86) (x := lN (cd (chF X.R (fAt X.F k) [(p, r)]).1)) fl_X11_154 rfl (kt_field hq) (lt_field hq) hf5.code dX11_use_86 ?_
    have ef : useF X (nI k) (nI r) (nI p) = chF X.R (fAt X.F k) [(p, r)] := by unfold useF; rw [nI_clamp (n := k) (by omega), nI_clamp (n := r) (by omega), nI_clamp hp]
    have ex : useX X LL (nI k) (nI r) (nI p) = (X.1, X.2.1.set k (chF X.R (fAt X.F k) [(p, r)]), X.2.2) := by unfold useX; rw [if_pos h3, ef, nI_clamp (n := k) (by omega)]
    have eu : useU X U LL (nI k) (nI r) (nI p) = (X :: U).take 16 := by unfold useU; rw [if_pos h3]
    rw [ef, ex, eu]
    exact T_lret dX11_use_89 rfl (by decide) (by decide) ⟨_, rfl, ⟨⟨hX5, hA5⟩, (hO3.u (fun k h => ⟨by unfold SW at h; omega, Or.inr (Or.inl h)⟩)).trans (hO4.u.trans (hO5.u (fun c a3 => ⟨by unfold SW at a3; omega, by unfold SW at a3; unfold SU SW; omega⟩)))⟩, rfl⟩
  · skip
    rw [if_neg (by rw [h3]; decide)]
    exact T_throw (pc := 57) (ik := 205) (ic := 207) thr_X11_205 thw_X11_205 dX11_use_57 dX11_use_60 dX11_use_61 dX11_use_64 rfl (Nat.le_of_ble_eq_true rfl) (by decide) (by decide) rfl (⟨_, rfl, hno m2 hO3 h3, rfl⟩)
end A2

