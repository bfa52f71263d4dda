/-! run, years -/
def chkN (y : Int32) (a b : Nat) : Bool := !decide (y < nI a) && !decide (nI b < y)
def tdF (X : Td) (k : Nat) (f : Fld) : Td := (X.1, X.2.1.set k f, X.2.2)
def tdY (X : Td) (y s : Int32) : Td := (X.1, X.2.1, X.2.2.1, X.2.2.2.1, X.2.2.2.2.1, (y, s))
theorem ToldAt.ys {μ m : SM2} {b : Nat} {X : Td} {y s : Int32} (h : ToldAt μ b X) (hb : ∀ k, k ≠ b → m.1 k = μ.1 k) (h2 : m.2 = μ.2) (hj : ∀ j, j ≠ 10 → j ≠ 11 → m.1 b j = μ.1 b j) (e10 : m.1 b 10 = y) (e11 : m.1 b 11 = s) : ToldAt m b (tdY X y s) := by
  obtain ⟨hR, hF, hS, hW, hZ⟩ := h
  have g : ∀ k, k ≠ b → ∀ j, m.1 k j = μ.1 k j := fun k hk j => congrFun (hb k hk) j
  refine ⟨hR.same (g _ (by omega) 0) (fun j => by rw [h2]) (fun j => by rw [h2]) (g _ (by omega)) (g _ (by omega)), ⟨(hj 2 (by decide) (by decide)).trans hF.1, hF.2.1, fun i hi => (hF.2.2 i hi).same (by rw [h2]) (g _ (by omega) 1) (g _ (by omega)) (g _ (by omega))⟩, ⟨(hj 5 (by decide) (by decide)).trans hS.1, hS.2.1, fun i hi => by rw [h2]; exact hS.2.2 i hi⟩, ⟨hW.1, fun i hi => ⟨(hW.2 i hi).1, (g _ (by omega) i).trans (hW.2 i hi).2⟩⟩, hZ.1, (hj 7 (by decide) (by decide)).trans hZ.2.1, (hj 8 (by decide) (by decide)).trans hZ.2.2.1, (hj 9 (by decide) (by decide)).trans hZ.2.2.2.1, e10, e11⟩
theorem ToldAt.seedW {μ : SM2} {b : Nat} {X : Td} {s : Int32} (h : ToldAt μ b X) : ToldAt (wI μ b 11 s) b (tdY X X.year s) :=
  h.ys (fun k hk => up2_ne hk) rfl (fun j _ h11 => n_wI (by omega)) ((n_wI (by omega)).trans h.2.2.2.2.2.2.2.2.1) (e_wI ⟨rfl, rfl⟩)
theorem ToldAt.yearW {μ : SM2} {b : Nat} {X : Td} {y : Int32} (h : ToldAt μ b X) : ToldAt (wI μ b 10 y) b (tdY X y X.seed) :=
  h.ys (fun k hk => up2_ne hk) rfl (fun j h10 _ => n_wI (by omega)) (e_wI ⟨rfl, rfl⟩) ((n_wI (by omega)).trans h.2.2.2.2.2.2.2.2.2)
theorem tdY_2 {X : Td} {y s : Int32} : tdY (tdY X y s) ((tdY X y s).year + 1) (tdY X y s).seed = tdY X (y + 1) s := rfl
theorem tdYF_2 {X : Td} {s : Int32} {k : Nat} {f : Fld} : tdY (tdF (tdY X X.year s) k f) ((tdF (tdY X X.year s) k f).year + 1) (tdF (tdY X X.year s) k f).seed = tdY (tdF X k f) (X.year + 1) s := rfl
theorem tdYY {X : Td} {y z s t : Int32} : tdY (tdY X y s) z t = tdY X z t := rfl
theorem EnvW.ys {m : SM2} {X : Td} {LL : List (List Int32)} {s : Int32} (h : EnvW m (tdY X X.year s).R LL ((tdY X X.year s).way, 0, brQ (tdY X X.year s).R LL (tdY X X.year s).year)) : EnvW m X.R LL (wOf X LL) := h
theorem ToldAt.yy {m : SM2} {X : Td} {s t : Int32} (h : ToldAt m 3 (tdY (tdY X X.year s) (tdY X X.year s).year t)) : ToldAt m 3 (tdY X X.year t) := h
theorem ToldAt.fieldY {m : SM2} {X : Td} {y s : Int32} (h : ToldAt m 3 (tdY X y s)) {k : Nat} (hk : k < X.F.length) : FieldAt m (3 + 10 + 3 * k) (fAt X.F k) := h.2.1.2.2 k hk
theorem ToldAt.rulesY {m : SM2} {X : Td} {y s : Int32} (h : ToldAt m 3 (tdY X y s)) : RulesAt m 4 X.R := h.1
theorem ToldAt.seedY {m : SM2} {X : Td} {y s : Int32} (h : ToldAt m 3 (tdY X y s)) : m.1 3 11 = s := h.2.2.2.2.2.2.2.2.2
theorem ToldAt.fogY {m : SM2} {X : Td} {y s : Int32} (h : ToldAt m 3 (tdY X y s)) : m.1 3 9 = nI X.fog := h.2.2.2.2.2.2.2.1
theorem ToldAt.fieldYS {m : SM2} {X : Td} {y s : Int32} {k : Nat} {f : Fld} {S : Nat → Prop} {μ : SM2} (h : ToldAt μ 3 (tdY X y s)) (hk : k < X.F.length) (g : OfS S μ m) (hs : ∀ c, 3 ≤ c → c < 3 + 28 → S c → 3 + 10 + 3 * k ≤ c ∧ c < 3 + 10 + 3 * k + 3) (hf : FieldAt m (3 + 10 + 3 * k) f) : ToldAt m 3 (tdF (tdY X y s) k f) := h.fieldS hk g hs hf
theorem fAt_at {X : Td} {k : Nat} {f : Fld} (hk : k < X.F.length) : fAt (tdF X k f).F k = f := by
  show fAt (X.F.set k f) k = f
  rw [fAt_set hk, if_pos rfl]
theorem tdF_len {X : Td} {k : Nat} {f : Fld} : (tdF X k f).F.length = X.F.length := List.length_set
theorem tdF_2 {X : Td} {k : Nat} {f g : Fld} : tdF (tdF X k f) k g = tdF X k g := by
  show (X.1, (X.2.1.set k f).set k g, X.2.2) = _
  rw [List.set_set]
  rfl
theorem tdF_id {X : Td} {k : Nat} (hk : k < X.F.length) : tdF X k (fAt X.F k) = X := by
  show (X.1, X.F.set k (X.F.getD k ([], 0, [])), X.2.2) = X
  have e : X.F.set k (X.F.getD k ([], 0, [])) = X.F := by
    rw [List.getD_eq_getElem?_getD, List.getElem?_eq_getElem hk]
    exact List.set_getElem_self hk
  rw [e]
/-- so many STEPS of a FIELD: how many could be gone, the FIELD then -/
def runF (R : List Ru) (w : Wk) : Nat → Fld → Nat × Fld
  | 0, f => (0, f)
  | n + 1, f => if (gaR R w f.1).length = 0 then (0, f) else ((runF R w n (chF R f (gaR R w f.1))).1 + 1, (runF R w n (chF R f (gaR R w f.1))).2)
def runN (X : Td) (LL : List (List Int32)) (x y : Int32) : Nat × Fld := runF X.R (wOf X LL) y.toNatClampNeg (fAt X.F x.toNatClampNeg)
/-- what is drawn -/
def dvN (s : Int32) : Nat := (drI s).toBitVec.toNat / 65536 % 32768
theorem dvI_n (s : Int32) : dvI s = nI (dvN s) := by
  have e : drI s = nI (drI s).toBitVec.toNat := by
    apply Int32.toBitVec_inj.1
    show (drI s).toBitVec = BitVec.ofNat 32 (drI s).toBitVec.toNat
    simp
  have hk : (drI s).toBitVec.toNat < 2 ^ 32 := (drI s).toBitVec.isLt
  unfold dvI dvN
  generalize (drI s).toBitVec.toNat = k at *
  rw [e]
  have hs : k >>> 16 ≤ k := by
    rw [Nat.shiftRight_eq_div_pow]
    exact Nat.div_le_self _ _
  have e2 : iushr (nI k) (nI 16) = nI (k >>> 16) := by
    have e3 : UInt32.ofNat k >>> (UInt32.ofNat 16 &&& Int32.toUInt32 31) = UInt32.ofNat (k >>> 16) := by
      apply UInt32.toNat_inj.1
      have h1 : (UInt32.ofNat k).toNat = k := Nat.mod_eq_of_lt (by omega)
      have h2 : (UInt32.ofNat (k >>> 16)).toNat = k >>> 16 := Nat.mod_eq_of_lt (by omega)
      rw [UInt32.toNat_shiftRight, nx_cnt ⟨16, by decide⟩, h1, h2]
    show (UInt32.ofNat k >>> (UInt32.ofNat 16 &&& Int32.toUInt32 31)).toInt32 = _
    rw [e3]
    rfl
  rw [e2, show (32767 : Nat) = 2 ^ 15 - 1 by decide, fa_mask, Nat.shiftRight_eq_div_pow]
theorem dvN_lt (s : Int32) : dvN s < 32768 := Nat.mod_lt _ (by decide)
def yrT (X : Td) (LL : List (List Int32)) (k : Nat) : List Nat := tuW X.R (wOf X LL) (fAt X.F k).1
def yrA (X : Td) (LL : List (List Int32)) (k : Nat) : Nat := (yrT X LL k).getD (dvN (drI X.seed) % (yrT X LL k).length) 0
/-- a YEAR of a FIELD: whether a RULE was used; all then -/
def yrB (X : Td) (LL : List (List Int32)) (k : Nat) : Bool := !decide (dvN X.seed % 100 < X.fog) && !decide ((yrT X LL k).length = 0)
def yrX (X : Td) (LL : List (List Int32)) (k : Nat) : Td := if yrB X LL k = true then tdY (tdF X k (chF X.R (fAt X.F k) [(yrA X LL k / 100, yrA X LL k % 100)])) (X.year + 1) (drI (drI X.seed)) else tdY X (X.year + 1) (drI X.seed)
def yrsN (LL : List (List Int32)) (k : Nat) : Nat → Td → Nat × Td
  | 0, X => (0, X)
  | n + 1, X => ((if yrB X LL k = true then 1 else 0) + (yrsN LL k n (yrX X LL k)).1, (yrsN LL k n (yrX X LL k)).2)
theorem yrX_len {X : Td} {LL : List (List Int32)} {k : Nat} : (yrX X LL k).F.length = X.F.length ∧ (yrX X LL k).R = X.R := by
  unfold yrX
  split
  · exact ⟨tdF_len, rfl⟩
  · exact ⟨rfl, rfl⟩
theorem getD_mem {α : Type} {l : List α} {i : Nat} {z : α} (h : i < l.length) : l.getD i z ∈ l := by
  rw [List.getD_eq_getElem?_getD, List.getElem?_eq_getElem h]
  exact List.getElem_mem h
def SY (k : Nat) : Prop := SW k ∨ (3 ≤ k ∧ k < 31)
section RN
variable {γ : Ga} {μ : SM2}
theorem c_run {x y : Int32} {X : Td} {U : List Td} {LL : List (List Int32)} (hX : ToldAt μ 3 X) (hU : ActsAt μ U) (hL : LawL μ LL) : Ex γ 6 2 12 M_X11_run [.ref 0, .int x, .int y] (rm μ) (Ax (if inB x X.F.length = true then (if chkN y 1 200 = true then none else some "java/lang/IllegalArgumentException") else some "java/lang/IndexOutOfBoundsException") (.int (nI (runN X LL x y).1)) μ (fun m => (ToldAt m 3 (tdF X x.toNatClampNeg (runN X LL x y).2) ∧ ActsAt m ((X :: U).take 16)) ∧ OfU μ m)) := by
  have h6 := hX.2.1.2.1
  refine Ex.of (by decide +kernel) rfl (Nat.le_of_ble_eq_true rfl) ?_
  show T _ _ _ _ _ _ _ _ _ [some (.ref 0), some (.int (x)), some (.int (y)), none] [] (rm μ)
  refine T_aload_n (pc := 0) (i := 0) dX11_run_0 rfl rfl ?_
  refine T_iload_n (pc := 1) (i := 1) dX11_run_1 rfl rfl ?_
  refine R_chkV (pc := 2) (As := [.int (x)]) (rest := []) (Or.inl lk_X11_147) mk_X11_checkField (c_checkField hX.2.1) kc_0 ⟨by decide, rfl⟩ lc_0 dX11_run_2 rfl rfl (Nat.le_of_ble_eq_true rfl) (by decide) rfl (by decide) (by decide) (fun z => by rw [if_neg (by rw [z]; decide)]; exact ⟨rfl, rfl⟩) (fun hB => ?_)
  rw [if_pos hB]
  obtain ⟨k, hk, rfl⟩ := inB_of (by omega) hB
  refine T_iload_n (pc := 5) (i := 2) dX11_run_5 rfl rfl ?_
  refine T_iconst (pc := 6) (v := nI 1) dX11_run_6 (by decide) ?_
  refine T_sipush (pc := 7) (v := nI 200) dX11_run_7 (by decide) ?_
  refine R_chkS (pc := 10) (av := [.int (y), .int (nI 1), .int (nI 200)]) (rest := []) (Or.inl lk_X11_215) mk_X11_checkNumber c_checkNumber dX11_run_10 rfl rfl (Nat.le_of_ble_eq_true rfl) (by decide) rfl (by decide) (by decide) (fun z => Ax_e (by unfold chkN; rw [z]; decide)) (fun hC => ?_)
  rw [if_pos (c := chkN y 1 200 = true) hC]
  obtain ⟨N, hN1, hN2, rfl⟩ := chk_of (by decide) (by decide) hC
  unfold runN
  rw [nI_clamp (n := k) (by omega), nI_clamp (n := N) (by omega)]
  have hq := told_field told3 (i := k) (by omega)
  refine T_aload_n (pc := 13) (i := 0) dX11_run_13 rfl rfl ?_
  refine R_callVm0 (pc := 14) (As := []) (rest := []) (Or.inl lk_X11_208) mk_X11_remember (c_remember hX hU) kc_0 ⟨by decide, rfl⟩ lc_0 dX11_run_14 rfl rfl (Nat.le_of_ble_eq_true rfl) (by decide) rfl (by decide) (by decide) (fun m h => ?_)
  obtain ⟨hA, hO⟩ := h
  have hX1 := hX.offA hO (by omega)
  have hL1 : LawL m LL := hL.ofs hO.ofs (by omega) (by omega)
  refine T_aload_n (pc := 17) (i := 0) dX11_run_17 rfl rfl ?_
  refine R_getR (pc := 18) (i := 97) fl_X11_55 rfl kc_0 lc_0 rc_0_11 dX11_run_18 ?_
  refine T_aload_n (pc := 21) (i := 0) dX11_run_21 rfl rfl ?_
  refine R_getR (pc := 22) (i := 3) fl_X11_19 rfl kc_0 lc_0 rc_0_1 dX11_run_22 ?_
  refine R_callVm0 (pc := 25) (As := [.ref 3]) (rest := []) (Or.inl lk_X11_198) mk_X10_begin (c_Walk_begin hX1 hL1) kc_97 ⟨by decide, rfl⟩ lc_97 dX11_run_25 rfl rfl (Nat.le_of_ble_eq_true rfl) (by decide) rfl (by decide) (by decide) (fun m2 h2 => ?_)
  obtain ⟨hE0, hO2⟩ := h2
  have hE : EnvW m2 X.R LL (wOf X LL) := hE0
  have hX2 := hX1.ofs hO2 (fun k h1 h2 => by unfold SW; omega)
  have hA2 := hA.ofs hO2 (fun k h => by unfold SW; omega)
  have hU2 : OfU μ m2 := hO.u.trans (hO2.u (fun k h => ⟨by unfold SW at h; omega, Or.inr (Or.inl h)⟩))
  refine T_iconst (pc := 28) (v := nI 0) dX11_run_28 (by decide) ?_
  refine T_istore_n (pc := 29) (i := 3) (ls' := [some (.ref 0), some (.int (nI k)), some (.int (nI N)), some (.int (nI 0))]) dX11_run_29 rfl (by decide) rfl ?_
  suffices loop : ∀ (g i : Nat) (f : Fld) (m : SM2), i + g = N → ToldAt m 3 (tdF X k f) → EnvW m X.R LL (wOf X LL) → ActsAt m ((X :: U).take 16) → OfU μ m → T γ 6 2 12 M_X11_run (Ax none (.int (nI (i + (runF X.R (wOf X LL) g f).1))) μ (fun m => (ToldAt m 3 (tdF X k (runF X.R (wOf X LL) g f).2) ∧ ActsAt m ((X :: U).take 16)) ∧ OfU μ m)) (0 + 1 + 1) (0 + 6 + 6) 30 [some (.ref 0), some (.int (nI k)), some (.int (nI N)), some (.int (nI i))] [] (rm m) by
    have h9 := loop N 0 (fAt X.F k) m2 (Nat.zero_add _) (by rw [tdF_id hk]; exact hX2) hE hA2 hU2
    rw [Nat.zero_add] at h9
    exact h9
  intro g
  induction g with
  | zero =>
    intro i f m hi iX iE iA iU
    refine T_iload_n (pc := 30) (i := 3) dX11_run_30 rfl rfl ?_
    refine T_iload_n (pc := 31) (i := 2) dX11_run_31 rfl rfl ?_
    refine R_icmp_ge (pc := 32) (tgt := 60) (by omega) (by omega) dX11_run_32 (by decide) (fun h1 => ?_) (fun h1 => ?_)
    · skip
      refine T_iload_n (pc := 60) (i := 3) dX11_run_60 rfl rfl ?_
      exact T_iret (pc := 61) (ty := .int) dX11_run_61 rfl rfl (by decide) (by decide) ⟨m, rfl, rfl, ⟨iX, iA⟩, iU⟩
    · exact absurd h1 (by omega)
  | succ g ih =>
    intro i f m hi iX iE iA iU
    have hf := iX.2.1.2.2 k (by rw [tdF_len]; exact hk)
    rw [fAt_at hk] at hf
    have hk6 : k < 6 := by omega
    refine T_iload_n (pc := 30) (i := 3) dX11_run_30 rfl rfl ?_
    refine T_iload_n (pc := 31) (i := 2) dX11_run_31 rfl rfl ?_
    refine R_icmp_ge (pc := 32) (tgt := 60) (by omega) (by omega) dX11_run_32 (by decide) (fun h1 => ?_) (fun h1 => ?_)
    · exact absurd h1 (by omega)
    · skip
      refine T_aload_n (pc := 35) (i := 0) dX11_run_35 rfl rfl ?_
      refine R_getR (pc := 36) (i := 97) fl_X11_55 rfl kc_0 lc_0 rc_0_11 dX11_run_36 ?_
      refine T_aload_n (pc := 39) (i := 0) dX11_run_39 rfl rfl ?_
      refine R_getR (pc := 40) (i := 3) fl_X11_19 rfl kc_0 lc_0 rc_0_1 dX11_run_40 ?_
      refine R_getR (pc := 43) (i := 9) fl_X11_150 rfl (kt_told told3) (lt_told told3) (rt_told_fields told3) dX11_run_43 ?_
      refine T_iload_n (pc := 46) (i := 1) dX11_run_46 rfl rfl ?_
      refine R_aald (pc := 47) (t := 0) (j := (3 + 10 + 3 * k)) (kt_told_fields told3) (by decide) (lt_told_fields told3) (by omega) (by decide) (rt_told_el told3 (by omega)) dX11_run_47 ?_
      refine R_callVm1 (pc := 48) (As := [.ref (3 + 10 + 3 * k)]) (rest := []) (Or.inl lk_X11_219) mk_X10_goOn (c_goOn hq (by omega) hf iE) kc_97 ⟨by decide, rfl⟩ lc_97 dX11_run_48 rfl rfl (Nat.le_of_ble_eq_true rfl) (by decide) rfl (by decide) (by decide) (fun m3 h3 => ?_)
      obtain ⟨⟨jE, jf⟩, jO⟩ := h3
      have jX := iX.fieldS (f := if (gaR X.R (wOf X LL) f.1).length = 0 then f else chF X.R f (gaR X.R (wOf X LL) f.1)) (by rw [tdF_len]; exact hk) jO (fun c a1 a2 a3 => by unfold SW at a3; omega) jf
      have jX2 : ToldAt m3 3 (tdF X k (if (gaR X.R (wOf X LL) f.1).length = 0 then f else chF X.R f (gaR X.R (wOf X LL) f.1))) := by rw [← tdF_2]; exact jX
      have jA := iA.ofs jO (fun c a3 => by unfold SW; omega)
      have jU : OfU μ m3 := iU.trans (jO.u (fun c a3 => ⟨by unfold SW at a3; omega, by unfold SW at a3; unfold SU SW; omega⟩))
      refine R_ifb_eq (pc := 51) (tgt := 60) dX11_run_51 (by decide) (fun h4 => ?_) (fun h4 => ?_)
      · skip
        have h5 : (gaR X.R (wOf X LL) f.1).length = 0 := Classical.byContradiction fun z => by rw [decide_eq_true z] at h4; cases h4
        rw [if_pos h5] at jX2
        have e1 : runF X.R (wOf X LL) (g + 1) f = (0, f) := if_pos h5
        rw [e1]
        refine T_iload_n (pc := 60) (i := 3) dX11_run_60 rfl rfl ?_
        exact T_iret (pc := 61) (ty := .int) dX11_run_61 rfl rfl (by decide) (by decide) ⟨m3, rfl, rfl, ⟨jX2, jA⟩, jU⟩
      · skip
        have h5 : ¬ (gaR X.R (wOf X LL) f.1).length = 0 := of_decide_eq_true h4
        rw [if_neg h5] at jX2
        have e1 : runF X.R (wOf X LL) (g + 1) f = ((runF X.R (wOf X LL) g (chF X.R f (gaR X.R (wOf X LL) f.1))).1 + 1, (runF X.R (wOf X LL) g (chF X.R f (gaR X.R (wOf X LL) f.1))).2) := if_neg h5
        rw [e1]
        refine R_iinc (pc := 54) (i := 3) (n := 1) (ls' := [some (.ref 0), some (.int (nI k)), some (.int (nI N)), some (.int (nI (i + 1)))]) dX11_run_54 rfl rfl ?_
        refine T_goto (pc := 57) (tgt := 30) dX11_run_57 (by decide) ?_
        have h9 := ih (i + 1) _ m3 (by omega) jX2 jE jA jU
        rw [show i + ((runF X.R (wOf X LL) g (chF X.R f (gaR X.R (wOf X LL) f.1))).1 + 1, (runF X.R (wOf X LL) g (chF X.R f (gaR X.R (wOf X LL) f.1))).2).1 = i + 1 + (runF X.R (wOf X LL) g (chF X.R f (gaR X.R (wOf X LL) f.1))).1 by show i + ((runF X.R (wOf X LL) g (chF X.R f (gaR X.R (wOf X LL) f.1))).1 + 1) = _; omega]
        exact h9
theorem c_goYear {k : Nat} {X : Td} {LL : List (List Int32)} (hk : k < X.F.length) (hX : ToldAt μ 3 X) (hL : LawL μ LL) : Ex γ 6 0 0 M_X11_goYear [.ref 0, .ref (3 + 10 + 3 * k)] (rm μ) (Rm (some (.int (bI (yrB X LL k)))) (fun m => ToldAt m 3 (yrX X LL k) ∧ OfS SY μ m)) := by
  have h6 := hX.2.1.2.1
  have hq := told_field told3 (i := k) (by omega)
  have fin : ∀ (u : Bool) (Y : Td) (m : SM2) (l3 : Option Value), ToldAt m 3 Y → OfS SY μ m → T γ 6 0 0 M_X11_goYear (Rm (some (.int (bI u))) (fun m => ToldAt m 3 (tdY Y (Y.year + 1) Y.seed) ∧ OfS SY μ m)) 0 0 76 [some (.ref 0), some (.ref (3 + 10 + 3 * k)), some (.int (bI u)), none] [] (rm m) := fun u Y m l3 iX iO => by
    refine T_aload_n (pc := 76) (i := 0) dX11_goYear_76 rfl rfl ?_
    refine R_getR (pc := 77) (i := 3) fl_X11_19 rfl kc_0 lc_0 rc_0_1 dX11_goYear_77 ?_
    refine T_dup (pc := 80) dX11_goYear_80 rfl ?_
    refine R_getI (pc := 81) (x := Y.year) fl_X11_253 rfl (kt_told told3) (lt_told told3) iX.2.2.2.2.2.2.2.2.1 dX11_goYear_81 ?_
    refine T_iconst (pc := 84) (v := nI 1) dX11_goYear_84 (by decide) ?_
    refine T_iadd (pc := 85) dX11_goYear_85 ?_
    refine R_putI (pc := 86) fl_X11_253 ⟨rfl, rfl⟩ (Or.inl rfl) (kt_told told3) (lt_told told3) dX11_goYear_86 ?_
    refine T_iload_n (pc := 89) (i := 2) dX11_goYear_89 rfl rfl ?_
    exact T_iret (pc := 90) (ty := .boolean) dX11_goYear_90 rfl (nar_b _) (Nat.le_refl _) (Nat.le_refl _) ⟨_, rfl, rfl, iX.yearW, OfS.sI iO (by unfold SY; omega)⟩
  have hf100 := hX.2.2.2.2.1.2.2
  have hd1 := dvN_lt X.seed
  refine Ex.of (by decide +kernel) rfl (Nat.le_of_ble_eq_true rfl) ?_
  show T _ _ _ _ _ _ _ _ _ [some (.ref 0), some (.ref (3+10+3*k)), none, none] [] (rm μ)
  refine T_iconst (pc := 0) (v := nI 0) dX11_goYear_0 (by decide) ?_
  refine T_istore_n (pc := 1) (i := 2) (ls' := [some (.ref 0), some (.ref (3+10+3*k)), some (.int (nI 0)), none]) dX11_goYear_1 rfl (by decide) rfl ?_
  refine T_aload_n (pc := 2) (i := 0) dX11_goYear_2 rfl rfl ?_
  refine R_getR (pc := 3) (i := 3) fl_X11_19 rfl kc_0 lc_0 rc_0_1 dX11_goYear_3 ?_
  refine R_callV1 (pc := 6) (As := []) (rest := []) (Or.inl lk_X11_240) mk_X9_draw (c_Told_draw told3 hX.2.2.2.2.2.2.2.2.2) (kt_told told3) ⟨by decide, rfl⟩ (lt_told told3) dX11_goYear_6 rfl rfl (Nat.le_of_ble_eq_true rfl) (by decide) rfl (Nat.le_refl _) (Nat.le_refl _) ?_
  refine T_topi (v := nI (dvN X.seed)) (dvI_n X.seed) ?_
  have o1 : OfS SY μ (wI μ 3 11 (drI X.seed)) := OfS.sI (OfS.refl _ _) (by unfold SY; omega)
  have o1b : OfS (fun c => c = 3) μ (wI μ 3 11 (drI X.seed)) := OfS.sI (OfS.refl _ _) rfl
  have hX1 := hX.seedW (s := drI X.seed)
  have hL1 : LawL (wI μ 3 11 (drI X.seed)) LL := hL.ofs o1b (by omega) (by omega)
  refine T_mem (μ' := rm (wI μ 3 11 (drI X.seed))) (rfl) ?_
  generalize e2 : wI μ 3 11 (drI X.seed) = m1 at *
  refine T_bipush (pc := 9) (v := nI 100) dX11_goYear_9 (by decide) ?_
  refine R_irem (pc := 11) ⟨by decide, by decide, by omega⟩ dX11_goYear_11 ?_
  refine T_aload_n (pc := 12) (i := 0) dX11_goYear_12 rfl rfl ?_
  refine R_getR (pc := 13) (i := 3) fl_X11_19 rfl kc_0 lc_0 rc_0_1 dX11_goYear_13 ?_
  refine R_getI (pc := 16) (x := nI X.fog) fl_X11_244 rfl (kt_told told3) (lt_told told3) (ToldAt.fogY hX1) dX11_goYear_16 ?_
  refine R_icmp_lt (pc := 19) (tgt := 76) (by omega) (by omega) dX11_goYear_19 (by decide) (fun h1 => ?_) (fun h1 => ?_)
  · have eb : yrB X LL k = false := by unfold yrB; rw [decide_eq_true h1]; rfl
    have ex : yrX X LL k = tdY X (X.year + 1) (drI X.seed) := by unfold yrX; rw [eb]; rfl
    rw [eb, ex]
    have h9 := fin false _ m1 none hX1 o1
    rw [tdY_2] at h9
    exact h9
  · skip
    refine T_aload_n (pc := 22) (i := 0) dX11_goYear_22 rfl rfl ?_
    refine R_getR (pc := 23) (i := 97) fl_X11_55 rfl kc_0 lc_0 rc_0_11 dX11_goYear_23 ?_
    refine T_aload_n (pc := 26) (i := 0) dX11_goYear_26 rfl rfl ?_
    refine R_getR (pc := 27) (i := 3) fl_X11_19 rfl kc_0 lc_0 rc_0_1 dX11_goYear_27 ?_
    refine R_callVm0 (pc := 30) (As := [.ref 3]) (rest := []) (Or.inl lk_X11_198) mk_X10_begin (c_Walk_begin hX1 hL1) kc_97 ⟨by decide, rfl⟩ lc_97 dX11_goYear_30 rfl rfl (Nat.le_of_ble_eq_true rfl) (by decide) rfl (Nat.le_refl _) (Nat.le_refl _) (fun m2 h2 => ?_)
    obtain ⟨hE0, hO2⟩ := h2
    have hE := EnvW.ys hE0
    have hX2 := hX1.ofs hO2 (fun k h1 h2 => by unfold SW; omega)
    have hf2 := ToldAt.fieldY hX2 hk
    refine T_aload_n (pc := 33) (i := 0) dX11_goYear_33 rfl rfl ?_
    refine R_getR (pc := 34) (i := 97) fl_X11_55 rfl kc_0 lc_0 rc_0_11 dX11_goYear_34 ?_
    refine T_aload_n (pc := 37) (i := 1) dX11_goYear_37 rfl rfl ?_
    refine R_getL (pc := 38) (x := lN (cd (fAt X.F k).1)) fl_X11_154 rfl (kt_field hq) (lt_field hq) hf2.code dX11_goYear_38 ?_
    have hTl := tuP_len (R := X.R) (w := wOf X LL) (l := (fAt X.F k).1) hX.1.len (fAt X.F k).1.length
    have hn20 := hf2.mw.1
    have eT : yrT X LL k = tuP X.R (wOf X LL) (fAt X.F k).1 (fAt X.F k).1.length := rfl
    have hn20' : (fAt X.F k).1.length ≤ 20 := hn20
    refine R_callVm1 (pc := 41) (As := [.long (lN (cd (fAt X.F k).1))]) (rest := []) (Or.inl lk_X11_247) mk_X10_listTurns (c_listTurns hE hf2.mw) kc_97 ⟨by decide, rfl⟩ lc_97 dX11_goYear_41 rfl rfl (Nat.le_of_ble_eq_true rfl) (by decide) rfl (Nat.le_refl _) (Nat.le_refl _) (fun m3 h3 => ?_)
    obtain ⟨hE3, hO3, hT3⟩ := h3
    have o3 : OfS SY μ m3 := o1.trans ((hO2.trans hO3).mono (fun k h => Or.inl h))
    have hX3 := hX2.ofs hO3 (fun k h1 h2 => by unfold SW; omega)
    rw [← eT] at hTl
    refine T_istore_n (pc := 44) (i := 3) (ls' := [some (.ref 0), some (.ref (3+10+3*k)), some (.int (nI 0)), some (.int (nI ((yrT X LL k).length)))]) dX11_goYear_44 rfl (by decide) rfl ?_
    refine T_iload_n (pc := 45) (i := 3) dX11_goYear_45 rfl rfl ?_
    refine R_if_le (pc := 46) (tgt := 76) (by omega) dX11_goYear_46 (by decide) (fun h4 => ?_) (fun h4 => ?_)
    · skip
      have h4' : (yrT X LL k).length = 0 := h4
      have eb : yrB X LL k = false := by unfold yrB; rw [decide_eq_true h4']; simp
      have ex : yrX X LL k = tdY X (X.year + 1) (drI X.seed) := by unfold yrX; rw [eb]; rfl
      rw [eb, ex]
      refine T_ls (ls' := [some (.ref 0), some (.ref (3+10+3*k)), some (.int (nI 0)), none]) (And.intro rfl (And.intro rfl (And.intro rfl True.intro))) ?_
      have h9 := fin false _ m3 none hX3 o3
      rw [tdY_2] at h9
      exact h9
    · skip
      have eb : yrB X LL k = true := by unfold yrB; rw [decide_eq_false (by omega), decide_eq_false (by omega)]; rfl
      have ex : yrX X LL k = tdY (tdF X k (chF X.R (fAt X.F k) [(yrA X LL k / 100, yrA X LL k % 100)])) (X.year + 1) (drI (drI X.seed)) := by unfold yrX; rw [eb]; rfl
      have hpos : 0 < (yrT X LL k).length := h4
      have hd2 := dvN_lt (drI X.seed)
      have hidx : dvN (drI X.seed) % (yrT X LL k).length < (yrT X LL k).length := Nat.mod_lt _ hpos
      have hmem : yrA X LL k ∈ tuW X.R (wOf X LL) (fAt X.F k).1 := getD_mem hidx
      obtain ⟨t1, t2, t3⟩ := tuW_mem hX.1.len hmem
      have t4 := fitB_get t3
      refine T_aload_n (pc := 49) (i := 0) dX11_goYear_49 rfl rfl ?_
      refine R_getR (pc := 50) (i := 97) fl_X11_55 rfl kc_0 lc_0 rc_0_11 dX11_goYear_50 ?_
      refine T_aload_n (pc := 53) (i := 1) dX11_goYear_53 rfl rfl ?_
      refine T_aload_n (pc := 54) (i := 0) dX11_goYear_54 rfl rfl ?_
      refine R_getR (pc := 55) (i := 97) fl_X11_55 rfl kc_0 lc_0 rc_0_11 dX11_goYear_55 ?_
      refine R_getR (pc := 58) (i := 98) fl_X11_250 rfl kc_97 lc_97 rc_97_7 dX11_goYear_58 ?_
      refine T_aload_n (pc := 61) (i := 0) dX11_goYear_61 rfl rfl ?_
      refine R_getR (pc := 62) (i := 3) fl_X11_19 rfl kc_0 lc_0 rc_0_1 dX11_goYear_62 ?_
      refine R_callV1 (pc := 65) (As := []) (rest := [.ref 98, .ref (3+10+3*k), .ref 97]) (Or.inl lk_X11_240) mk_X9_draw (c_Told_draw told3 (ToldAt.seedY hX3)) (kt_told told3) ⟨by decide, rfl⟩ (lt_told told3) dX11_goYear_65 rfl rfl (Nat.le_of_ble_eq_true rfl) (by decide) rfl (Nat.le_refl _) (Nat.le_refl _) ?_
      refine T_topi (v := nI (dvN (drI X.seed))) (dvI_n (drI X.seed)) ?_
      have o4 : OfS SY μ (wI m3 3 11 (drI (drI X.seed))) := OfS.sI o3 (by unfold SY; omega)
      have o4b : OfS (fun c => c = 3) m3 (wI m3 3 11 (drI (drI X.seed))) := OfS.sI (OfS.refl _ _) rfl
      have hX4 := ToldAt.yy (hX3.seedW (s := drI (drI X.seed)))
      have hT4 := hT3.ofs o4b (by omega)
      refine T_mem (μ' := rm (wI m3 3 11 (drI (drI X.seed)))) (rfl) ?_
      generalize e5 : wI m3 3 11 (drI (drI X.seed)) = m4 at *
      refine T_iload_n (pc := 68) (i := 3) dX11_goYear_68 rfl rfl ?_
      refine R_irem (pc := 69) ⟨hpos, by omega, by omega⟩ dX11_goYear_69 ?_
      refine R_iald (pc := 70) (x := nI (yrA X LL k)) kc_98 lc_98 (by omega) (by first | decide | assumption) (hT4 _ hidx) dX11_goYear_70 ?_
      refine R_callVm0 (pc := 71) (As := [.ref (3+10+3*k), .int (nI (yrA X LL k))]) (rest := []) (Or.inl lk_X11_211) mk_X10_turn (c_turn hq (by omega) (ToldAt.fieldY hX4 hk) (ToldAt.rulesY hX4) (by omega) t1 t4.2.1 t4.2.2) kc_97 ⟨by decide, rfl⟩ lc_97 dX11_goYear_71 rfl rfl (Nat.le_of_ble_eq_true rfl) (by decide) rfl (Nat.le_refl _) (Nat.le_refl _) (fun m5 h5 => ?_)
      obtain ⟨hf5, hO5⟩ := h5
      have hX5 := ToldAt.fieldYS hX4 hk hO5 (fun c a1 a2 a3 => by unfold SW at a3; omega) hf5
      have o5 : OfS SY μ m5 := o4.trans (hO5.mono (fun c h => by unfold SW at h; unfold SY SW; omega))
      refine T_iconst (pc := 74) (v := nI 1) dX11_goYear_74 (by decide) ?_
      refine T_istore_n (pc := 75) (i := 2) (ls' := [some (.ref 0), some (.ref (3+10+3*k)), some (.int (nI 1)), some (.int (nI ((yrT X LL k).length)))]) dX11_goYear_75 rfl (by decide) rfl ?_
      rw [eb, ex]
      refine T_ls (ls' := [some (.ref 0), some (.ref (3+10+3*k)), some (.int (nI 1)), none]) (And.intro rfl (And.intro rfl (And.intro rfl True.intro))) ?_
      have h9 := fin true _ m5 none hX5 o5
      have e9 := tdYF_2 (X := X) (s := drI (drI X.seed)) (k := k) (f := chF X.R (fAt X.F k) [(yrA X LL k / 100, yrA X LL k % 100)])
      rw [← e9]
      exact h9
theorem c_years {x y : Int32} {X : Td} {U : List Td} {LL : List (List Int32)} (hX : ToldAt μ 3 X) (hU : ActsAt μ U) (hL : LawL μ LL) : Ex γ 7 2 12 M_X11_years [.ref 0, .int x, .int y] (rm μ) (Ax (if inB x X.F.length = true then (if chkN y 1 200 = true then none else some "java/lang/IllegalArgumentException") else some "java/lang/IndexOutOfBoundsException") (.int (nI (yrsN LL x.toNatClampNeg y.toNatClampNeg X).1)) μ (fun m => (ToldAt m 3 (yrsN LL x.toNatClampNeg y.toNatClampNeg X).2 ∧ ActsAt m ((X :: U).take 16)) ∧ OfU μ m)) := by
  have h6 := hX.2.1.2.1
  refine Ex.of (by decide +kernel) rfl (Nat.le_of_ble_eq_true rfl) ?_
  show T _ _ _ _ _ _ _ _ _ [some (.ref 0), some (.int (x)), some (.int (y)), none, none] [] (rm μ)
  refine T_aload_n (pc := 0) (i := 0) dX11_years_0 rfl rfl ?_
  refine T_iload_n (pc := 1) (i := 1) dX11_years_1 rfl rfl ?_
  refine R_chkV (pc := 2) (As := [.int (x)]) (rest := []) (Or.inl lk_X11_147) mk_X11_checkField (c_checkField hX.2.1) kc_0 ⟨by decide, rfl⟩ lc_0 dX11_years_2 rfl rfl (Nat.le_of_ble_eq_true rfl) (by decide) rfl (by decide) (by decide) (fun z => by rw [if_neg (by rw [z]; decide)]; exact ⟨rfl, rfl⟩) (fun hB => ?_)
  rw [if_pos hB]
  obtain ⟨k, hk, rfl⟩ := inB_of (by omega) hB
  refine T_iload_n (pc := 5) (i := 2) dX11_years_5 rfl rfl ?_
  refine T_iconst (pc := 6) (v := nI 1) dX11_years_6 (by decide) ?_
  refine T_sipush (pc := 7) (v := nI 200) dX11_years_7 (by decide) ?_
  refine R_chkS (pc := 10) (av := [.int (y), .int (nI 1), .int (nI 200)]) (rest := []) (Or.inl lk_X11_215) mk_X11_checkNumber c_checkNumber dX11_years_10 rfl rfl (Nat.le_of_ble_eq_true rfl) (by decide) rfl (by decide) (by decide) (fun z => Ax_e (by unfold chkN; rw [z]; decide)) (fun hC => ?_)
  rw [if_pos (c := chkN y 1 200 = true) hC]
  obtain ⟨N, hN1, hN2, rfl⟩ := chk_of (by decide) (by decide) hC
  rw [nI_clamp (n := k) (by omega), nI_clamp (n := N) (by omega)]
  refine T_aload_n (pc := 13) (i := 0) dX11_years_13 rfl rfl ?_
  refine R_callVm0 (pc := 14) (As := []) (rest := []) (Or.inl lk_X11_208) mk_X11_remember (c_remember hX hU) kc_0 ⟨by decide, rfl⟩ lc_0 dX11_years_14 rfl rfl (Nat.le_of_ble_eq_true rfl) (by decide) rfl (by decide) (by decide) (fun m h => ?_)
  obtain ⟨hA, hO⟩ := h
  have hX1 := hX.offA hO (by omega)
  have hL1 : LawL m LL := hL.ofs hO.ofs (by omega) (by omega)
  refine T_iconst (pc := 17) (v := nI 0) dX11_years_17 (by decide) ?_
  refine T_istore_n (pc := 18) (i := 3) (ls' := [some (.ref 0), some (.int (nI k)), some (.int (nI N)), some (.int (nI 0)), none]) dX11_years_18 rfl (by decide) rfl ?_
  refine T_iconst (pc := 19) (v := nI 0) dX11_years_19 (by decide) ?_
  refine T_istore (pc := 20) (i := 4) (ls' := [some (.ref 0), some (.int (nI k)), some (.int (nI N)), some (.int (nI 0)), some (.int (nI 0))]) dX11_years_20 (by decide) rfl ?_
  suffices loop : ∀ (g i u : Nat) (Y : Td) (m : SM2), i + g = N → u ≤ i → Y.F.length = X.F.length → ToldAt m 3 Y → LawL m LL → ActsAt m ((X :: U).take 16) → OfU μ m → T γ 7 2 12 M_X11_years (Ax none (.int (nI (u + (yrsN LL k g Y).1))) μ (fun m => (ToldAt m 3 (yrsN LL k g Y).2 ∧ ActsAt m ((X :: U).take 16)) ∧ OfU μ m)) (0 + 1 + 1) (0 + 6 + 6) 22 [some (.ref 0), some (.int (nI k)), some (.int (nI N)), some (.int (nI u)), some (.int (nI i))] [] (rm m) by
    have h9 := loop N 0 0 X m (Nat.zero_add _) (Nat.le_refl _) rfl hX1 hL1 hA hO.u
    rw [Nat.zero_add] at h9
    exact h9
  intro g
  induction g with
  | zero =>
    intro i u Y m hi hu hl iX iL iA iU
    refine T_iload (pc := 22) (i := 4) dX11_years_22 rfl ?_
    refine T_iload_n (pc := 24) (i := 2) dX11_years_24 rfl rfl ?_
    refine R_icmp_ge (pc := 25) (tgt := 53) (by omega) (by omega) dX11_years_25 (by decide) (fun h1 => ?_) (fun h1 => ?_)
    · skip
      refine T_iload_n (pc := 53) (i := 3) dX11_years_53 rfl rfl ?_
      exact T_iret (pc := 54) (ty := .int) dX11_years_54 rfl rfl (by decide) (by decide) ⟨m, rfl, rfl, ⟨iX, iA⟩, iU⟩
    · exact absurd h1 (by omega)
  | succ g ih =>
    intro i u Y m hi hu hl iX iL iA iU
    have hk6 : k < 6 := by omega
    have e1 : yrsN LL k (g + 1) Y = ((if yrB Y LL k = true then 1 else 0) + (yrsN LL k g (yrX Y LL k)).1, (yrsN LL k g (yrX Y LL k)).2) := rfl
    rw [e1]
    refine T_iload (pc := 22) (i := 4) dX11_years_22 rfl ?_
    refine T_iload_n (pc := 24) (i := 2) dX11_years_24 rfl rfl ?_
    refine R_icmp_ge (pc := 25) (tgt := 53) (by omega) (by omega) dX11_years_25 (by decide) (fun h1 => ?_) (fun h1 => ?_)
    · exact absurd h1 (by omega)
    · skip
      refine T_aload_n (pc := 28) (i := 0) dX11_years_28 rfl rfl ?_
      refine T_aload_n (pc := 29) (i := 0) dX11_years_29 rfl rfl ?_
      refine R_getR (pc := 30) (i := 3) fl_X11_19 rfl kc_0 lc_0 rc_0_1 dX11_years_30 ?_
      refine R_getR (pc := 33) (i := 9) fl_X11_150 rfl (kt_told told3) (lt_told told3) (rt_told_fields told3) dX11_years_33 ?_
      refine T_iload_n (pc := 36) (i := 1) dX11_years_36 rfl rfl ?_
      refine R_aald (pc := 37) (t := 0) (j := (3 + 10 + 3 * k)) (kt_told_fields told3) (by decide) (lt_told_fields told3) (by omega) (by decide) (rt_told_el told3 (by omega)) dX11_years_37 ?_
      refine R_callVm1 (pc := 38) (As := [.ref (3 + 10 + 3 * k)]) (rest := []) (Or.inl lk_X11_237) mk_X11_goYear (c_goYear (by omega) iX iL) kc_0 ⟨by decide, rfl⟩ lc_0 dX11_years_38 rfl rfl (Nat.le_of_ble_eq_true rfl) (by decide) rfl (by decide) (by decide) (fun m2 h2 => ?_)
      obtain ⟨jX, jO⟩ := h2
      have jL : LawL m2 LL := iL.ofs jO (by unfold SY SW; omega) (by unfold SY SW; omega)
      have jA := iA.ofs jO (fun c h => by unfold SY SW; omega)
      have jU : OfU μ m2 := iU.trans (jO.u (fun c h => by unfold SY SW at h; unfold SU SW; omega))
      have jl : (yrX Y LL k).F.length = X.F.length := yrX_len.1.trans hl
      refine R_ifb_eq (pc := 41) (tgt := 47) dX11_years_41 (by decide) (fun h3 => ?_) (fun h3 => ?_)
      · skip
        refine R_iinc (pc := 47) (i := 4) (n := 1) (ls' := [some (.ref 0), some (.int (nI k)), some (.int (nI N)), some (.int (nI u)), some (.int (nI (i + 1)))]) dX11_years_47 rfl rfl ?_
        refine T_goto (pc := 50) (tgt := 22) dX11_years_50 (by decide) ?_
        rw [if_neg (by rw [h3]; decide)]
        have h9 := ih (i + 1) u (yrX Y LL k) m2 (by omega) (by omega) jl jX jL jA jU
        rw [show u + (0 + (yrsN LL k g (yrX Y LL k)).1, (yrsN LL k g (yrX Y LL k)).2).1 = u + (yrsN LL k g (yrX Y LL k)).1 by show u + (0 + (yrsN LL k g (yrX Y LL k)).1) = _; omega]
        exact h9
      · skip
        refine R_iinc (pc := 44) (i := 3) (n := 1) (ls' := [some (.ref 0), some (.int (nI k)), some (.int (nI N)), some (.int (nI (u + 1))), some (.int (nI i))]) dX11_years_44 rfl rfl ?_
        refine R_iinc (pc := 47) (i := 4) (n := 1) (ls' := [some (.ref 0), some (.int (nI k)), some (.int (nI N)), some (.int (nI (u + 1))), some (.int (nI (i + 1)))]) dX11_years_47 rfl rfl ?_
        refine T_goto (pc := 50) (tgt := 22) dX11_years_50 (by decide) ?_
        rw [if_pos h3]
        have h9 := ih (i + 1) (u + 1) (yrX Y LL k) m2 (by omega) (by omega) jl jX jL jA jU
        rw [show u + (1 + (yrsN LL k g (yrX Y LL k)).1, (yrsN LL k g (yrX Y LL k)).2).1 = u + 1 + (yrsN LL k g (yrX Y LL k)).1 by show u + (1 + (yrsN LL k g (yrX Y LL k)).1) = _; omega]
        exact h9
end RN

