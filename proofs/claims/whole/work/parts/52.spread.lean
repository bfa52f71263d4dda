/-! searches -/
def tkL (d : Nat) : Hd → List (List Nat) → Option Hd
  | H, [] => some H
  | H, l :: t => (tk1 H d l).bind (fun H' => tkL d H' t)
def sucW (R : List Ru) (w : Wk) (l : List Nat) : List (List Nat) := (tuW R w l).map (trn R l)
/-- from f of them, from the i-th on -/
def spI (R : List Ru) (w : Wk) (d : Nat) (H : Hd) (i : Nat) : Nat → Option Hd
  | 0 => some H
  | f + 1 => (tkL d H (sucW R w (hA H i).1)).bind (fun H' => spI R w d H' (i + 1) f)
def lvR (R : List Ru) (w : Wk) : Nat → Hd → Nat → Nat → Option Hd
  | 0, H, _, _ => some H
  | n + 1, H, lb, ls => if lb < H.length then (spI R w (ls + 1) H lb (H.length - lb)).bind (fun H' => lvR R w n H' H.length (ls + 1)) else some H
/-- all that is come to within n STEPS; none, if these are too many -/
def spd (R : List Ru) (w : Wk) (l : List Nat) (n : Nat) : Option Hd := lvR R w n [(l, 0)] 0 0
theorem tk1_get {H H' : Hd} {d : Nat} {l : List Nat} (h : tk1 H d l = some H') : H.length ≤ H'.length ∧ ∀ i, i < H.length → hA H' i = hA H i := by
  unfold tk1 at h
  cases e : inK (hKs H) l with
  | some i =>
    rw [e] at h
    cases h
    exact ⟨Nat.le_refl _, fun _ _ => rfl⟩
  | none =>
    rw [e] at h
    have h2 : (if H.length < 1500 then some (H ++ [(l, d)]) else none) = some H' := h
    by_cases e2 : H.length < 1500
    · rw [if_pos e2] at h2
      cases h2
      refine ⟨by rw [List.length_append]; omega, fun i hi => ?_⟩
      rw [show hA (H ++ [(l, d)]) i = if i < H.length then hA H i else (l, d) from getD_snoc (by omega), if_pos hi]
    · rw [if_neg e2] at h2
      cases h2
theorem tkL_get {d : Nat} : ∀ {V : List (List Nat)} {H H' : Hd}, tkL d H V = some H' → H.length ≤ H'.length ∧ ∀ i, i < H.length → hA H' i = hA H i
  | [], H, H', h => by
    cases h
    exact ⟨Nat.le_refl _, fun _ _ => rfl⟩
  | l :: t, H, H', h => by
    have h2 : (tk1 H d l).bind (fun H' => tkL d H' t) = some H' := h
    cases e : tk1 H d l with
    | none =>
      rw [e] at h2
      cases h2
    | some H1 =>
      rw [e] at h2
      have g1 := tk1_get e
      have g2 := tkL_get (V := t) (H := H1) h2
      exact ⟨by omega, fun i hi => (g2.2 i (by omega)).trans (g1.2 i hi)⟩
theorem spI_get {R : List Ru} {w : Wk} {d : Nat} : ∀ {f i : Nat} {H H' : Hd}, spI R w d H i f = some H' → H.length ≤ H'.length ∧ ∀ i, i < H.length → hA H' i = hA H i
  | 0, i, H, H', h => by
    cases h
    exact ⟨Nat.le_refl _, fun _ _ => rfl⟩
  | f + 1, i, H, H', h => by
    have h2 : (tkL d H (sucW R w (hA H i).1)).bind (fun H' => spI R w d H' (i + 1) f) = some H' := h
    cases e : tkL d H (sucW R w (hA H i).1) with
    | none =>
      rw [e] at h2
      cases h2
    | some H1 =>
      rw [e] at h2
      have g1 := tkL_get e
      have g2 := spI_get (f := f) (i := i + 1) (H := H1) h2
      exact ⟨by omega, fun i hi => (g2.2 i (by omega)).trans (g1.2 i hi)⟩
def SH (h k : Nat) : Prop := SW k ∨ Sh h k
/-- of a search: whether it is not too many, and what was come to -/
def Spq (R : List Ru) (LL : List (List Int32)) (w : Wk) (h d E : Nat) (μ : SM2) (o : Option Hd) : Out → SMem → Prop := Rm (some (.int (bI o.isSome))) (fun m => (∀ H', o = some H' → HerdAt m h H' ∧ m.1 h 4 = nI d ∧ m.1 h 5 = nI E) ∧ EnvW m R LL w ∧ OfS (SH h) μ m)
theorem EnvW.ofSh {h : Nat} (hh : isHerd h) {μ m : SM2} {R : List Ru} {LL : List (List Int32)} {w : Wk} (e : EnvW μ R LL w) (g : OfS (Sh h) μ m) : EnvW m R LL w := e.ofs g (fun k hk => by unfold Sh; rcases hh with rfl | rfl <;> omega)
theorem sh_sw {h : Nat} (hh : isHerd h) {k : Nat} (h1 : h ≤ k) (h2 : k < h + 4) : ¬ SW k := by
  unfold SW
  rcases hh with rfl | rfl <;> omega
theorem map_drop_c {α β : Type} {l t : List α} {s : α} {f : α → β} {i : Nat} (h : l.drop i = s :: t) : (l.map f).drop i = f s :: t.map f := by
  rw [← List.map_drop, h]
  rfl
section SP
variable {γ : Ga} {μ : SM2}
theorem c_Herd_begin {h : Nat} {l : List Nat} (hh : isHerd h) (hl : Mw l) : Ex γ 3 0 0 M_X4_begin [.ref h, .long (lN (cd l))] (rm μ) (Rm none (fun m => (HerdAt m h [(l, 0)] ∧ m.1 h 4 = nI 0 ∧ m.1 h 5 = nI 0) ∧ OfS (Sh h) μ m)) := by
  refine Ex.of (by decide +kernel) rfl (Nat.le_of_ble_eq_true rfl) ?_
  show T _ _ _ _ _ _ _ _ _ [some (.ref h), some (.long (lN (cd l))), none] [] (rm μ)
  refine T_aload_n (pc := 0) (i := 0) dX4_begin_0 rfl rfl ?_
  refine R_getR (pc := 1) (i := (h + 3)) fl_X4_19 rfl (kt_herd hh) (lt_herd hh) (rt_herd_slots hh) dX4_begin_1 ?_
  refine T_iconst (pc := 4) (v := nI 0) dX4_begin_4 (by decide) ?_
  refine R_callS0 (pc := 5) (av := [.ref (h + 3), .int (nI 0)]) (rest := []) (Or.inl lk_X4_22) mk_J7_fill_53178 (c_fill (kt_herd_slots hh) (lt_herd_slots hh) (by decide)) dX4_begin_5 rfl rfl (Nat.le_of_ble_eq_true rfl) (by decide) rfl (Nat.le_refl _) (Nat.le_refl _) ?_
  refine T_aload_n (pc := 8) (i := 0) dX4_begin_8 rfl rfl ?_
  refine T_iconst (pc := 9) (v := nI 0) dX4_begin_9 (by decide) ?_
  refine R_putI (pc := 10) fl_X4_28 ⟨rfl, rfl⟩ (Or.inl rfl) (kt_herd hh) (lt_herd hh) dX4_begin_10 ?_
  refine T_aload_n (pc := 13) (i := 0) dX4_begin_13 rfl rfl ?_
  refine T_iconst (pc := 14) (v := nI 0) dX4_begin_14 (by decide) ?_
  refine R_putI (pc := 15) fl_X4_32 ⟨rfl, rfl⟩ (Or.inl rfl) (kt_herd hh) (lt_herd hh) dX4_begin_15 ?_
  refine T_aload_n (pc := 18) (i := 0) dX4_begin_18 rfl rfl ?_
  refine T_iconst (pc := 19) (v := nI 0) dX4_begin_19 (by decide) ?_
  refine R_putI (pc := 20) fl_X4_35 ⟨rfl, rfl⟩ (Or.inl rfl) (kt_herd hh) (lt_herd hh) dX4_begin_20 ?_
  refine T_aload_n (pc := 23) (i := 0) dX4_begin_23 rfl rfl ?_
  refine T_lload_n (pc := 24) (i := 1) dX4_begin_24 rfl rfl ?_
  refine T_iconst (pc := 25) (v := nI 0) dX4_begin_25 (by decide) ?_
  have o1 : OfS (Sh h) μ (wI (wI (wI (wF μ (h + 3) 4096 (nI 0)) h 0 (nI 0)) h 4 (nI 0)) h 5 (nI 0)) := OfS.sI (OfS.sI (OfS.sI (OfS.sF (OfS.refl _ _) (by unfold Sh; omega)) (by unfold Sh; omega)) (by unfold Sh; omega)) (by unfold Sh; omega)
  have hT : HerdAt (wI (wI (wI (wF μ (h + 3) 4096 (nI 0)) h 0 (nI 0)) h 4 (nI 0)) h 5 (nI 0)) h [] := by
    refine ⟨fun _ => 0, ⟨?_, by decide⟩, fun i hi => absurd hi (Nat.not_lt_zero _), fun j hj => ?_, fun j hj => Nat.le_refl _, fun i j _ _ h1 _ => absurd rfl h1, fun i hi => absurd hi (Nat.not_lt_zero _), fun i j hi => absurd hi (Nat.not_lt_zero _)⟩
    · skip
      simp (disch := omega) only [n_wI, e_wI, n_wL, e_wL, m_wI2, m_wL1, n_wCI, e_wCI, n_wCL, e_wCL, m_wCI2, m_wCL1, n_wF, e_wF, m_wF2]
      rfl
    · skip
      simp (disch := omega) only [n_wI, e_wI, n_wL, e_wL, m_wI2, m_wL1, n_wCI, e_wCI, n_wCL, e_wCL, m_wCI2, m_wCL1, n_wF, e_wF, m_wF2]
  refine R_callVm1 (pc := 26) (As := [.long (lN (cd l)), .int (nI 0)]) (rest := []) (Or.inl lk_X4_38) mk_X4_take (c_take hh hT hl) (kt_herd hh) ⟨by decide, rfl⟩ (lt_herd hh) dX4_begin_26 rfl rfl (Nat.le_of_ble_eq_true rfl) (by decide) rfl (Nat.le_refl _) (Nat.le_refl _) (fun m k => ?_)
  obtain ⟨⟨k1, k2, k3⟩, k4⟩ := k
  refine T_pop (pc := 29) dX4_begin_29 rfl ?_
  refine T_vret dX4_begin_30 rfl (Nat.le_refl _) (Nat.le_refl _) ⟨_, rfl, rfl, ⟨k1, k2.trans ?_, k3.trans ?_⟩, o1.trans k4⟩
  · skip
    simp (disch := omega) only [n_wI, e_wI, n_wL, e_wL, m_wI2, m_wL1, n_wCI, e_wCI, n_wCL, e_wCL, m_wCI2, m_wCL1, n_wF, e_wF, m_wF2]
  · skip
    simp (disch := omega) only [n_wI, e_wI, n_wL, e_wL, m_wI2, m_wL1, n_wCI, e_wCI, n_wCL, e_wCL, m_wCI2, m_wCL1, n_wF, e_wF, m_wF2]
theorem c_goesOn {h lb : Nat} {H : Hd} (hh : isHerd h) (hT : HerdAt μ h H) (e5 : μ.1 h 5 = nI lb) (hlb : lb < 2 ^ 31) : Ex γ 1 0 0 M_X4_goesOn [.ref h] (rm μ) (Fn (some (.int (bI (decide (lb < H.length))))) μ) := by
  have h15 := hT.len
  refine Ex.of (by decide +kernel) rfl (Nat.le_of_ble_eq_true rfl) ?_
  show T _ _ _ _ _ _ _ _ _ [some (.ref h)] [] (rm μ)
  refine T_aload_n (pc := 0) (i := 0) dX4_goesOn_0 rfl rfl ?_
  refine R_getI (pc := 1) (x := nI lb) fl_X4_35 rfl (kt_herd hh) (lt_herd hh) e5 dX4_goesOn_1 ?_
  refine T_aload_n (pc := 4) (i := 0) dX4_goesOn_4 rfl rfl ?_
  refine R_getI (pc := 5) (x := nI H.length) fl_X4_28 rfl (kt_herd hh) (lt_herd hh) hT.size dX4_goesOn_5 ?_
  refine R_icmp_ge (pc := 8) (tgt := 15) (by omega) (by omega) dX4_goesOn_8 (by decide) (fun h1 => ?_) (fun h1 => ?_)
  · skip
    refine T_iconst (pc := 15) (v := nI 0) dX4_goesOn_15 (by decide) ?_
    rw [decide_eq_false (by omega)]
    exact T_iret (pc := 16) (ty := .boolean) dX4_goesOn_16 rfl (by decide) (Nat.le_refl _) (Nat.le_refl _) ⟨rfl, rfl⟩
  · skip
    refine T_iconst (pc := 11) (v := nI 1) dX4_goesOn_11 (by decide) ?_
    refine T_goto (pc := 12) (tgt := 16) dX4_goesOn_12 (by decide) ?_
    rw [decide_eq_true h1]
    exact T_iret (pc := 16) (ty := .boolean) dX4_goesOn_16 rfl (by decide) (Nat.le_refl _) (Nat.le_refl _) ⟨rfl, rfl⟩
theorem c_spreadOnce {h lb ls : Nat} {H : Hd} {R : List Ru} {LL : List (List Int32)} {w : Wk} (hh : isHerd h) (hT : HerdAt μ h H) (e4 : μ.1 h 4 = nI ls) (e5 : μ.1 h 5 = nI lb) (hlb : lb ≤ H.length) (hls : ls < 2 ^ 30) (hE : EnvW μ R LL w) : Ex γ 5 0 0 M_X4_spreadOnce [.ref h, .ref 97] (rm μ) (Spq R LL w h (ls + 1) H.length μ (spI R w (ls + 1) H lb (H.length - lb))) := by
  have h15 := hT.len
  suffices outer : ∀ (g i : Nat) (H1 : Hd) (m : SM2), i + g = H.length → H.length ≤ H1.length → HerdAt m h H1 → m.1 h 4 = nI (ls + 1) → EnvW m R LL w → OfS (SH h) μ m → T γ 5 0 0 M_X4_spreadOnce (Spq R LL w h (ls + 1) H.length μ (spI R w (ls + 1) H1 i g)) 0 0 20 [some (.ref h), some (.ref 97), some (.int (nI H.length)), some (.int (nI i)), none, none] [] (rm m) by
    refine Ex.of (by decide +kernel) rfl (Nat.le_of_ble_eq_true rfl) ?_
    show T _ _ _ _ _ _ _ _ _ [some (.ref h), some (.ref 97), none, none, none, none] [] (rm μ)
    refine T_aload_n (pc := 0) (i := 0) dX4_spreadOnce_0 rfl rfl ?_
    refine R_getI (pc := 1) (x := nI H.length) fl_X4_28 rfl (kt_herd hh) (lt_herd hh) hT.size dX4_spreadOnce_1 ?_
    refine T_istore_n (pc := 4) (i := 2) (ls' := [some (.ref h), some (.ref 97), some (.int (nI H.length)), none, none, none]) dX4_spreadOnce_4 rfl (by decide) rfl ?_
    refine T_aload_n (pc := 5) (i := 0) dX4_spreadOnce_5 rfl rfl ?_
    refine T_dup (pc := 6) dX4_spreadOnce_6 rfl ?_
    refine R_getI (pc := 7) (x := nI ls) fl_X4_32 rfl (kt_herd hh) (lt_herd hh) e4 dX4_spreadOnce_7 ?_
    refine T_iconst (pc := 10) (v := nI 1) dX4_spreadOnce_10 (by decide) ?_
    refine R_iadd (pc := 11) dX4_spreadOnce_11 ?_
    refine R_putI (pc := 12) fl_X4_32 ⟨rfl, rfl⟩ (Or.inl rfl) (kt_herd hh) (lt_herd hh) dX4_spreadOnce_12 ?_
    refine T_aload_n (pc := 15) (i := 0) dX4_spreadOnce_15 rfl rfl ?_
    refine R_getI (pc := 16) (x := nI lb) fl_X4_35 rfl (kt_herd hh) (lt_herd hh) ((wI_ne (by first | omega | simp)).trans e5) dX4_spreadOnce_16 ?_
    refine T_istore_n (pc := 19) (i := 3) (ls' := [some (.ref h), some (.ref 97), some (.int (nI H.length)), some (.int (nI lb)), none, none]) dX4_spreadOnce_19 rfl (by decide) rfl ?_
    have o1 : OfS (Sh h) μ (wI μ h 4 (nI (ls + 1))) := OfS.sI (OfS.refl _ _) (by unfold Sh; omega)
    obtain ⟨tb, hT2⟩ := hT
    have hT3 : HerdAt (wI μ h 4 (nI (ls + 1))) h H := ⟨tb, ⟨(n_wI (by omega)).trans hT2.1.1, hT2.1.2⟩, fun i hi => ⟨(hT2.2.1 i hi).1, (hT2.2.1 i hi).2.1, (n_wI (by omega)).trans (hT2.2.1 i hi).2.2⟩, fun j hj => (n_wI (by omega)).trans (hT2.2.2.1 j hj), hT2.2.2.2⟩
    exact outer (H.length - lb) lb H _ (by omega) (Nat.le_refl _) hT3 (e_wI ⟨rfl, rfl⟩) (hE.ofSh hh o1) (o1.mono (fun k hk => Or.inr hk))
  intro g
  induction g with
  | zero =>
    intro i H1 m hi hle iT i4 iE iO
    refine T_iload_n (pc := 20) (i := 3) dX4_spreadOnce_20 rfl rfl ?_
    refine T_iload_n (pc := 21) (i := 2) dX4_spreadOnce_21 rfl rfl ?_
    refine R_icmp_ge (pc := 22) (tgt := 89) (by omega) (by omega) dX4_spreadOnce_22 (by decide) (fun h1 => ?_) (fun h1 => ?_)
    · skip
      refine T_aload_n (pc := 89) (i := 0) dX4_spreadOnce_89 rfl rfl ?_
      refine T_iload_n (pc := 90) (i := 2) dX4_spreadOnce_90 rfl rfl ?_
      refine R_putI (pc := 91) fl_X4_35 ⟨rfl, rfl⟩ (Or.inl rfl) (kt_herd hh) (lt_herd hh) dX4_spreadOnce_91 ?_
      refine T_iconst (pc := 94) (v := nI 1) dX4_spreadOnce_94 (by decide) ?_
      have o1 : OfS (Sh h) m (wI m h 5 (nI H.length)) := OfS.sI (OfS.refl _ _) (by unfold Sh; omega)
      obtain ⟨tb, hT2⟩ := iT
      have hT3 : HerdAt (wI m h 5 (nI H.length)) h H1 := ⟨tb, ⟨(n_wI (by omega)).trans hT2.1.1, hT2.1.2⟩, fun i hi => ⟨(hT2.2.1 i hi).1, (hT2.2.1 i hi).2.1, (n_wI (by omega)).trans (hT2.2.1 i hi).2.2⟩, fun j hj => (n_wI (by omega)).trans (hT2.2.2.1 j hj), hT2.2.2.2⟩
      exact T_iret (pc := 95) (ty := .boolean) dX4_spreadOnce_95 rfl (by decide) (Nat.le_refl _) (Nat.le_refl _) ⟨_, rfl, rfl, fun H' e => by cases e; exact ⟨hT3, (n_wI (by omega)).trans i4, e_wI ⟨rfl, rfl⟩⟩, iE.ofSh hh o1, iO.trans (o1.mono (fun k hk => Or.inr hk))⟩
    · exact absurd h1 (by omega)
  | succ g ih =>
    intro i H1 m hi hle iT i4 iE iO
    have iL := iT.len
    have irow := iT.row i (by omega)
    obtain ⟨l, el⟩ : ∃ l, (hA H1 i).1 = l := ⟨_, rfl⟩
    have eS : spI R w (ls + 1) H1 i (g + 1) = (tkL (ls + 1) H1 (sucW R w l)).bind (fun H' => spI R w (ls + 1) H' (i + 1) g) := by rw [← el]; rfl
    rw [eS]
    rw [el] at irow
    refine T_iload_n (pc := 20) (i := 3) dX4_spreadOnce_20 rfl rfl ?_
    refine T_iload_n (pc := 21) (i := 2) dX4_spreadOnce_21 rfl rfl ?_
    refine R_icmp_ge (pc := 22) (tgt := 89) (by omega) (by omega) dX4_spreadOnce_22 (by decide) (fun h1 => ?_) (fun h1 => ?_)
    · exact absurd h1 (by omega)
    · skip
      refine T_aload_n (pc := 25) (i := 1) dX4_spreadOnce_25 rfl rfl ?_
      refine T_aload_n (pc := 26) (i := 0) dX4_spreadOnce_26 rfl rfl ?_
      refine R_getR (pc := 27) (i := (h + 1)) fl_X4_11 rfl (kt_herd hh) (lt_herd hh) (rt_herd_codes hh) dX4_spreadOnce_27 ?_
      refine T_iload_n (pc := 30) (i := 3) dX4_spreadOnce_30 rfl rfl ?_
      refine R_lald (pc := 31) (x := lN (cd l)) (kt_herd_codes hh) (lt_herd_codes hh) (by omega) (by first | decide | assumption) irow.2.1 dX4_spreadOnce_31 ?_
      have hTl := tuP_len (R := R) (w := w) (l := l) iE.1.len l.length
      have hl20 := irow.1.1
      refine R_callVm1 (pc := 32) (As := [.long (lN (cd l))]) (rest := []) (Or.inl lk_X4_60) mk_X10_listTurns (c_listTurns iE irow.1) kc_97 ⟨by decide, rfl⟩ lc_97 dX4_spreadOnce_32 rfl rfl (Nat.le_of_ble_eq_true rfl) (by decide) rfl (Nat.le_refl _) (Nat.le_refl _) (fun m1 k => ?_)
      obtain ⟨kE, kO, kT⟩ := k
      have kH : HerdAt m1 h H1 := iT.ofs kO (fun c h1 h2 => sh_sw hh h1 h2)
      have k4 : m1.1 h 4 = nI (ls + 1) := (kO.i (sh_sw hh (Nat.le_refl _) (by omega)) 4).trans i4
      refine T_istore (pc := 35) (i := 4) (ls' := [some (.ref h), some (.ref 97), some (.int (nI H.length)), some (.int (nI i)), some (.int (nI ((tuW R w l).length))), none]) dX4_spreadOnce_35 (by decide) rfl ?_
      refine T_iconst (pc := 37) (v := nI 0) dX4_spreadOnce_37 (by decide) ?_
      refine T_istore (pc := 38) (i := 5) (ls' := [some (.ref h), some (.ref 97), some (.int (nI H.length)), some (.int (nI i)), some (.int (nI ((tuW R w l).length))), some (.int (nI 0))]) dX4_spreadOnce_38 (by decide) rfl ?_
      have hTl2 : (tuW R w l).length ≤ 240 := by unfold tuW; omega
      suffices inner : ∀ (V : List Nat) (k : Nat) (H2 : Hd) (m : SM2), (tuW R w l).drop k = V → k ≤ (tuW R w l).length → H.length ≤ H2.length → (hA H2 i).1 = l → HerdAt m h H2 → m.1 h 4 = nI (ls + 1) → EnvW m R LL w → TurnsAt m (tuW R w l) → OfS (SH h) μ m → T γ 5 0 0 M_X4_spreadOnce (Spq R LL w h (ls + 1) H.length μ ((tkL (ls + 1) H2 (V.map (trn R l))).bind (fun H' => spI R w (ls + 1) H' (i + 1) g))) 0 0 40 [some (.ref h), some (.ref 97), some (.int (nI H.length)), some (.int (nI i)), some (.int (nI (tuW R w l).length)), some (.int (nI k))] [] (rm m) by
        exact inner _ 0 H1 m1 rfl (Nat.zero_le _) hle el kH k4 kE kT (iO.trans (kO.mono (fun c hc => Or.inl hc)))
      intro V
      induction V with
      | nil =>
        intro k H2 m2 hd hk hle2 el2 jH j4 jE jT jO
        have hk2 := List.drop_eq_nil_iff.mp hd
        refine T_iload (pc := 40) (i := 5) dX4_spreadOnce_40 rfl ?_
        refine T_iload (pc := 42) (i := 4) dX4_spreadOnce_42 rfl ?_
        refine R_icmp_ge (pc := 44) (tgt := 83) (by omega) (by omega) dX4_spreadOnce_44 (by decide) (fun h2 => ?_) (fun h2 => ?_)
        · skip
          refine R_iinc (pc := 83) (i := 3) (n := 1) (ls' := [some (.ref h), some (.ref 97), some (.int (nI H.length)), some (.int (nI (i + 1))), some (.int (nI ((tuW R w l).length))), some (.int (nI k))]) dX4_spreadOnce_83 rfl rfl ?_
          refine T_goto (pc := 86) (tgt := 20) dX4_spreadOnce_86 (by decide) ?_
          refine T_ls (ls' := [some (.ref h), some (.ref 97), some (.int (nI H.length)), some (.int (nI (i + 1))), none, none]) (And.intro rfl (And.intro rfl (And.intro rfl (And.intro rfl True.intro)))) ?_
          exact ih (i + 1) H2 m2 (by omega) hle2 jH j4 jE jO
        · exact absurd h2 (by omega)
      | cons t V ihV =>
        intro k H2 m2 hd hk hle2 el2 jH j4 jE jT jO
        obtain ⟨hk1, ht, hd2⟩ := drop_g 0 hd
        have jrow := jH.row i (by omega)
        rw [el2] at jrow
        have jL := jH.len
        have hmem : t ∈ tuW R w l := by rw [← ht]; exact getD_mem hk1
        obtain ⟨t1, t2, t3⟩ := tuW_mem jE.1.len hmem
        have t4 := fitB_get t3
        have htr := trn_mw jrow.1 jE.1.ok t1 t3
        have hj := jT k hk1
        rw [ht] at hj
        refine T_iload (pc := 40) (i := 5) dX4_spreadOnce_40 rfl ?_
        refine T_iload (pc := 42) (i := 4) dX4_spreadOnce_42 rfl ?_
        refine R_icmp_ge (pc := 44) (tgt := 83) (by omega) (by omega) dX4_spreadOnce_44 (by decide) (fun h2 => ?_) (fun h2 => ?_)
        · exact absurd h2 (by omega)
        · skip
          refine T_aload_n (pc := 47) (i := 0) dX4_spreadOnce_47 rfl rfl ?_
          refine T_aload_n (pc := 48) (i := 1) dX4_spreadOnce_48 rfl rfl ?_
          refine T_aload_n (pc := 49) (i := 0) dX4_spreadOnce_49 rfl rfl ?_
          refine R_getR (pc := 50) (i := (h + 1)) fl_X4_11 rfl (kt_herd hh) (lt_herd hh) (rt_herd_codes hh) dX4_spreadOnce_50 ?_
          refine T_iload_n (pc := 53) (i := 3) dX4_spreadOnce_53 rfl rfl ?_
          refine R_lald (pc := 54) (x := lN (cd l)) (kt_herd_codes hh) (lt_herd_codes hh) (by omega) (by first | decide | assumption) jrow.2.1 dX4_spreadOnce_54 ?_
          refine T_aload_n (pc := 55) (i := 1) dX4_spreadOnce_55 rfl rfl ?_
          refine R_getR (pc := 56) (i := 98) fl_X4_65 rfl kc_97 lc_97 rc_97_7 dX4_spreadOnce_56 ?_
          refine T_iload (pc := 59) (i := 5) dX4_spreadOnce_59 rfl ?_
          refine R_iald (pc := 61) (x := nI t) kc_98 lc_98 (by omega) (by first | decide | assumption) hj dX4_spreadOnce_61 ?_
          have ht31 : t < 2 ^ 31 := by omega
          refine R_callV1 (pc := 62) (As := [.long (lN (cd l)), .int (nI t)]) (rest := [.ref h]) (Or.inl lk_X4_68) mk_X10_afterTurn (c_afterTurn jE.1 jrow.1 ht31 t1 t4.2.1) kc_97 ⟨by decide, rfl⟩ lc_97 dX4_spreadOnce_62 rfl rfl (Nat.le_of_ble_eq_true rfl) (by decide) rfl (Nat.le_refl _) (Nat.le_refl _) ?_
          refine T_aload_n (pc := 65) (i := 0) dX4_spreadOnce_65 rfl rfl ?_
          refine R_getI (pc := 66) (x := nI (ls + 1)) fl_X4_32 rfl (kt_herd hh) (lt_herd hh) j4 dX4_spreadOnce_66 ?_
          refine R_callVm1 (pc := 69) (As := [.long (lN (cd (trn R l t))), .int (nI (ls + 1))]) (rest := []) (Or.inl lk_X4_38) mk_X4_take (c_take hh jH htr) (kt_herd hh) ⟨by decide, rfl⟩ (lt_herd hh) dX4_spreadOnce_69 rfl rfl (Nat.le_of_ble_eq_true rfl) (by decide) rfl (Nat.le_refl _) (Nat.le_refl _) (fun m3 q => ?_)
          obtain ⟨⟨q1, q2, q3⟩, q4⟩ := q
          have qE := jE.ofSh hh q4
          have qO : OfS (SH h) μ m3 := jO.trans (q4.mono (fun c hc => Or.inr hc))
          have eb : tkL (ls + 1) H2 ((t :: V).map (trn R l)) = (tk1 H2 (ls + 1) (trn R l t)).bind (fun H' => tkL (ls + 1) H' (V.map (trn R l))) := rfl
          rw [eb]
          cases e : tk1 H2 (ls + 1) (trn R l t) with
          | none =>
            refine R_ifb_ne (pc := 72) (tgt := 77) dX4_spreadOnce_72 (by decide) (fun h3 => ?_) (fun h3 => ?_)
            · exact absurd h3 (by decide)
            · skip
              refine T_iconst (pc := 75) (v := nI 0) dX4_spreadOnce_75 (by decide) ?_
              exact T_iret (pc := 76) (ty := .boolean) dX4_spreadOnce_76 rfl (by decide) (Nat.le_refl _) (Nat.le_refl _) ⟨_, rfl, rfl, fun H' e => (by cases e), qE, qO⟩
          | some H3 =>
            rw [e] at q1
            have g3 := tk1_get e
            refine R_ifb_ne (pc := 72) (tgt := 77) dX4_spreadOnce_72 (by decide) (fun h3 => ?_) (fun h3 => ?_)
            · skip
              refine R_iinc (pc := 77) (i := 5) (n := 1) (ls' := [some (.ref h), some (.ref 97), some (.int (nI H.length)), some (.int (nI i)), some (.int (nI ((tuW R w l).length))), some (.int (nI (k + 1)))]) dX4_spreadOnce_77 rfl rfl ?_
              refine T_goto (pc := 80) (tgt := 40) dX4_spreadOnce_80 (by decide) ?_
              exact ihV (k + 1) H3 m3 hd2 (by omega) (by omega) (by rw [g3.2 i (by omega)]; exact el2) q1 (q2.trans j4) qE (jT.ofs q4 (by unfold Sh; rcases hh with rfl | rfl <;> omega)) qO
            · exact absurd h3 (fun z => by cases z)
theorem c_spread {h n : Nat} {l : List Nat} {R : List Ru} {LL : List (List Int32)} {w : Wk} (hh : isHerd h) (hE : EnvW μ R LL w) (hl : Mw l) (hn : n ≤ 100) : Ex γ 6 0 0 M_X4_spread [.ref h, .ref 97, .long (lN (cd l)), .int (nI n)] (rm μ) (Rm (some (.int (bI (spd R w l n).isSome))) (fun m => (∀ H', spd R w l n = some H' → HerdAt m h H') ∧ EnvW m R LL w ∧ OfS (SH h) μ m)) := by
  suffices loop : ∀ (g i lb : Nat) (H : Hd) (m : SM2), i + g = n → lb ≤ H.length → HerdAt m h H → m.1 h 4 = nI i → m.1 h 5 = nI lb → EnvW m R LL w → OfS (SH h) μ m → T γ 6 0 0 M_X4_spread (Rm (some (.int (bI (lvR R w g H lb i).isSome))) (fun m => (∀ H', lvR R w g H lb i = some H' → HerdAt m h H') ∧ EnvW m R LL w ∧ OfS (SH h) μ m)) 0 0 8 [some (.ref h), some (.ref 97), some (.long (lN (cd l))), none, some (.int (nI n)), some (.int (nI i))] [] (rm m) by
    refine Ex.of (by decide +kernel) rfl (Nat.le_of_ble_eq_true rfl) ?_
    show T _ _ _ _ _ _ _ _ _ [some (.ref h), some (.ref 97), some (.long (lN (cd l))), none, some (.int (nI n)), none] [] (rm μ)
    refine T_aload_n (pc := 0) (i := 0) dX4_spread_0 rfl rfl ?_
    refine T_lload_n (pc := 1) (i := 2) dX4_spread_1 rfl rfl ?_
    refine R_callVm0 (pc := 2) (As := [.long (lN (cd l))]) (rest := []) (Or.inl lk_X4_48) mk_X4_begin (c_Herd_begin hh hl) (kt_herd hh) ⟨by decide, rfl⟩ (lt_herd hh) dX4_spread_2 rfl rfl (Nat.le_of_ble_eq_true rfl) (by decide) rfl (Nat.le_refl _) (Nat.le_refl _) (fun m k => ?_)
    obtain ⟨⟨k1, k2, k3⟩, k4⟩ := k
    refine T_iconst (pc := 5) (v := nI 0) dX4_spread_5 (by decide) ?_
    refine T_istore (pc := 6) (i := 5) (ls' := [some (.ref h), some (.ref 97), some (.long (lN (cd l))), none, some (.int (nI n)), some (.int (nI 0))]) dX4_spread_6 (by decide) rfl ?_
    exact loop n 0 0 [(l, 0)] m (Nat.zero_add _) (Nat.zero_le _) k1 k2 k3 (hE.ofSh hh k4) (k4.mono (fun c hc => Or.inr hc))
  intro g
  induction g with
  | zero =>
    intro i lb H m hi hlb iT i4 i5 iE iO
    refine T_iload (pc := 8) (i := 5) dX4_spread_8 rfl ?_
    refine T_iload (pc := 10) (i := 4) dX4_spread_10 rfl ?_
    refine R_icmp_ge (pc := 12) (tgt := 38) (by omega) (by omega) dX4_spread_12 (by decide) (fun h1 => ?_) (fun h1 => ?_)
    · skip
      refine T_iconst (pc := 38) (v := nI 1) dX4_spread_38 (by decide) ?_
      exact T_iret (pc := 39) (ty := .boolean) dX4_spread_39 rfl (by decide) (Nat.le_refl _) (Nat.le_refl _) ⟨_, rfl, rfl, fun H' e => by cases e; exact iT, iE, iO⟩
    · exact absurd h1 (by omega)
  | succ g ih =>
    intro i lb H m hi hlb iT i4 i5 iE iO
    have iL := iT.len
    refine T_iload (pc := 8) (i := 5) dX4_spread_8 rfl ?_
    refine T_iload (pc := 10) (i := 4) dX4_spread_10 rfl ?_
    refine R_icmp_ge (pc := 12) (tgt := 38) (by omega) (by omega) dX4_spread_12 (by decide) (fun h1 => ?_) (fun h1 => ?_)
    · exact absurd h1 (by omega)
    · skip
      refine T_aload_n (pc := 15) (i := 0) dX4_spread_15 rfl rfl ?_
      refine R_callV1 (pc := 16) (As := []) (rest := []) (Or.inl lk_X4_52) mk_X4_goesOn (c_goesOn hh iT i5 (by omega)) (kt_herd hh) ⟨by decide, rfl⟩ (lt_herd hh) dX4_spread_16 rfl rfl (Nat.le_of_ble_eq_true rfl) (by decide) rfl (Nat.le_refl _) (Nat.le_refl _) ?_
      refine R_ifb_eq (pc := 19) (tgt := 38) dX4_spread_19 (by decide) (fun h2 => ?_) (fun h2 => ?_)
      · skip
        have e : lvR R w (g + 1) H lb i = some H := if_neg (of_decide_eq_false h2)
        rw [e]
        refine T_iconst (pc := 38) (v := nI 1) dX4_spread_38 (by decide) ?_
        exact T_iret (pc := 39) (ty := .boolean) dX4_spread_39 rfl (by decide) (Nat.le_refl _) (Nat.le_refl _) ⟨_, rfl, rfl, fun H' e => by cases e; exact iT, iE, iO⟩
      · skip
        have e : lvR R w (g + 1) H lb i = (spI R w (i + 1) H lb (H.length - lb)).bind (fun H' => lvR R w g H' H.length (i + 1)) := if_pos (of_decide_eq_true h2)
        rw [e]
        refine T_aload_n (pc := 22) (i := 0) dX4_spread_22 rfl rfl ?_
        refine T_aload_n (pc := 23) (i := 1) dX4_spread_23 rfl rfl ?_
        refine R_callVm1 (pc := 24) (As := [.ref 97]) (rest := []) (Or.inl lk_X4_56) mk_X4_spreadOnce (c_spreadOnce hh iT i4 i5 hlb (by omega) iE) (kt_herd hh) ⟨by decide, rfl⟩ (lt_herd hh) dX4_spread_24 rfl rfl (Nat.le_of_ble_eq_true rfl) (by decide) rfl (Nat.le_refl _) (Nat.le_refl _) (fun m1 k => ?_)
        obtain ⟨k1, k2, k3⟩ := k
        cases e2 : spI R w (i + 1) H lb (H.length - lb) with
        | none =>
          refine R_ifb_ne (pc := 27) (tgt := 32) dX4_spread_27 (by decide) (fun h3 => ?_) (fun h3 => ?_)
          · exact absurd h3 (by decide)
          · skip
            refine T_iconst (pc := 30) (v := nI 0) dX4_spread_30 (by decide) ?_
            exact T_iret (pc := 31) (ty := .boolean) dX4_spread_31 rfl (by decide) (Nat.le_refl _) (Nat.le_refl _) ⟨_, rfl, rfl, fun H' e => (by cases e), k2, iO.trans k3⟩
        | some H1 =>
          obtain ⟨q1, q2, q3⟩ := k1 H1 e2
          have g1 := spI_get e2
          refine R_ifb_ne (pc := 27) (tgt := 32) dX4_spread_27 (by decide) (fun h3 => ?_) (fun h3 => ?_)
          · skip
            refine R_iinc (pc := 32) (i := 5) (n := 1) (ls' := [some (.ref h), some (.ref 97), some (.long (lN (cd l))), none, some (.int (nI n)), some (.int (nI (i + 1)))]) dX4_spread_32 rfl rfl ?_
            refine T_goto (pc := 35) (tgt := 8) dX4_spread_35 (by decide) ?_
            exact ih (i + 1) H.length H1 m1 (by omega) g1.1 q1 q2 q3 k2 (iO.trans k3)
          · exact absurd h3 (fun z => by cases z)
def mxN (H : Hd) : Nat → Nat
  | 0 => 0
  | i + 1 => max (mxN H i) (hA H i).1.length
def csN (R : List Ru) (w : Wk) (H : Hd) : Nat → Nat
  | 0 => 0
  | i + 1 => csN R w H i + (if (nxR R w (hA H i).1).isNone = true then 1 else 0)
def ltO (l : List Nat) (o : Option (List Nat)) : Bool := match o with
  | none => true
  | some t => decide (cd l < cd t)
def lsN (R : List Ru) (w : Wk) (H : Hd) : Nat → Option (List Nat)
  | 0 => none
  | i + 1 => if (ltO (hA H i).1 (lsN R w H i) && (nxR R w (hA H i).1).isNone) = true then some (hA H i).1 else lsN R w H i
theorem mxN_le {h : Nat} {H : Hd} {m : SM2} (hT : HerdAt m h H) : ∀ i, i ≤ H.length → mxN H i ≤ 20
  | 0, _ => Nat.zero_le _
  | i + 1, hi => by
    have h1 := mxN_le hT i (by omega)
    have h2 := (hT.row i (by omega)).1.1
    show max (mxN H i) (hA H i).1.length ≤ 20
    omega
theorem c_mostBeasts {h : Nat} {H : Hd} (hh : isHerd h) (hT : HerdAt μ h H) : Ex γ 3 0 0 M_X4_mostBeasts [.ref h] (rm μ) (Fn (some (.int (nI (mxN H H.length)))) μ) := by
  have h15 := hT.len
  refine Ex.of (by decide +kernel) rfl (Nat.le_of_ble_eq_true rfl) ?_
  show T _ _ _ _ _ _ _ _ _ [some (.ref h), none, none] [] (rm μ)
  refine T_iconst (pc := 0) (v := nI 0) dX4_mostBeasts_0 (by decide) ?_
  refine T_istore_n (pc := 1) (i := 1) (ls' := [some (.ref h), some (.int (nI 0)), none]) dX4_mostBeasts_1 rfl (by decide) rfl ?_
  refine T_iconst (pc := 2) (v := nI 0) dX4_mostBeasts_2 (by decide) ?_
  refine T_istore_n (pc := 3) (i := 2) (ls' := [some (.ref h), some (.int (nI 0)), some (.int (nI 0))]) dX4_mostBeasts_3 rfl (by decide) rfl ?_
  refine T_for (pc := 4) H.length (fun i => [some (.ref h), some (.int (nI (mxN H i))), some (.int (nI i))]) (fun _ => rm μ) (fun i hle ih => ?_) 0 (Nat.zero_le _)
  show T _ _ _ _ _ _ _ _ 4 [some (.ref h), some (.int (nI (mxN H i))), some (.int (nI i))] [] (rm μ)
  have h20 := mxN_le hT i hle
  refine T_iload_n (pc := 4) (i := 2) dX4_mostBeasts_4 rfl rfl ?_
  refine T_aload_n (pc := 5) (i := 0) dX4_mostBeasts_5 rfl rfl ?_
  refine R_getI (pc := 6) (x := nI H.length) fl_X4_28 rfl (kt_herd hh) (lt_herd hh) hT.size dX4_mostBeasts_6 ?_
  refine R_icmp_ge (pc := 9) (tgt := 32) (by omega) (by omega) dX4_mostBeasts_9 (by decide) (fun h1 => ?_) (fun h1 => ?_)
  · skip
    refine T_iload_n (pc := 32) (i := 1) dX4_mostBeasts_32 rfl rfl ?_
    rw [show i = H.length by omega]
    exact T_iret (pc := 33) (ty := .int) dX4_mostBeasts_33 rfl rfl (Nat.le_refl _) (Nat.le_refl _) ⟨rfl, rfl⟩
  · skip
    have row := hT.row i h1
    have hr20 := row.1.1
    refine T_iload_n (pc := 12) (i := 1) dX4_mostBeasts_12 rfl rfl ?_
    refine T_aload_n (pc := 13) (i := 0) dX4_mostBeasts_13 rfl rfl ?_
    refine R_getR (pc := 14) (i := (h + 1)) fl_X4_11 rfl (kt_herd hh) (lt_herd hh) (rt_herd_codes hh) dX4_mostBeasts_14 ?_
    refine T_iload_n (pc := 17) (i := 2) dX4_mostBeasts_17 rfl rfl ?_
    refine R_lald (pc := 18) (x := lN (cd (hA H i).1)) (kt_herd_codes hh) (lt_herd_codes hh) (by omega) (by first | decide | assumption) row.2.1 dX4_mostBeasts_18 ?_
    refine R_callS1 (pc := 19) (av := [.long (lN (cd (hA H i).1))]) (rest := [.int (nI (mxN H i))]) (Or.inr lk_X4_72) mk_X11_sizeOf (c_sizeOf_cd row.1) dX4_mostBeasts_19 rfl rfl (Nat.le_of_ble_eq_true rfl) (by decide) rfl (Nat.le_refl _) (Nat.le_refl _) ?_
    refine R_mmax (pc := 22) lk_X4_75 (by omega) (by omega) (by decide) (Nat.le_refl _) (Nat.le_refl _) dX4_mostBeasts_22 ?_
    refine T_istore_n (pc := 25) (i := 1) (ls' := [some (.ref h), some (.int (nI (max (mxN H i) ((hA H i).1.length)))), some (.int (nI i))]) dX4_mostBeasts_25 rfl (by decide) rfl ?_
    refine R_iinc (pc := 26) (i := 2) (n := 1) (ls' := [some (.ref h), some (.int (nI (max (mxN H i) ((hA H i).1.length)))), some (.int (nI (i + 1)))]) dX4_mostBeasts_26 rfl rfl ?_
    refine T_goto (pc := 29) (tgt := 4) dX4_mostBeasts_29 (by decide) ?_
    exact ih h1
theorem csN_le {R : List Ru} {w : Wk} {H : Hd} : ∀ i, csN R w H i ≤ i
  | 0 => Nat.le_refl _
  | i + 1 => by
    have h1 := csN_le (R := R) (w := w) (H := H) i
    show csN R w H i + (if (nxR R w (hA H i).1).isNone = true then 1 else 0) ≤ i + 1
    split <;> omega
theorem c_countSettled {h : Nat} {H : Hd} {R : List Ru} {LL : List (List Int32)} {w : Wk} (hh : isHerd h) (hT : HerdAt μ h H) (hE : EnvW μ R LL w) : Ex γ 6 0 0 M_X4_countSettled [.ref h, .ref 97] (rm μ) (Rm (some (.int (nI (csN R w H H.length)))) (fun m => EnvW m R LL w ∧ OfS SW μ m)) := by
  have h15 := hT.len
  refine Ex.of (by decide +kernel) rfl (Nat.le_of_ble_eq_true rfl) ?_
  show T _ _ _ _ _ _ _ _ _ [some (.ref h), some (.ref 97), none, none] [] (rm μ)
  refine T_iconst (pc := 0) (v := nI 0) dX4_countSettled_0 (by decide) ?_
  refine T_istore_n (pc := 1) (i := 2) (ls' := [some (.ref h), some (.ref 97), some (.int (nI 0)), none]) dX4_countSettled_1 rfl (by decide) rfl ?_
  refine T_iconst (pc := 2) (v := nI 0) dX4_countSettled_2 (by decide) ?_
  refine T_istore_n (pc := 3) (i := 3) (ls' := [some (.ref h), some (.ref 97), some (.int (nI 0)), some (.int (nI 0))]) dX4_countSettled_3 rfl (by decide) rfl ?_
  refine T_forI (pc := 4) H.length (fun i => [some (.ref h), some (.ref 97), some (.int (nI (csN R w H i))), some (.int (nI i))]) (fun i m => EnvW m R LL w ∧ OfS SW μ m) (fun i m hle hI ih => ?_) 0 (Nat.zero_le _) (⟨hE, OfS.refl _ _⟩)
  show T _ _ _ _ _ _ _ _ 4 [some (.ref h), some (.ref 97), some (.int (nI (csN R w H i))), some (.int (nI i))] [] (rm m)
  obtain ⟨iE, iO⟩ := hI
  have iT := hT.ofs iO (fun c h1 h2 => sh_sw hh h1 h2)
  have hcl := csN_le (R := R) (w := w) (H := H) i
  refine T_iload_n (pc := 4) (i := 3) dX4_countSettled_4 rfl rfl ?_
  refine T_aload_n (pc := 5) (i := 0) dX4_countSettled_5 rfl rfl ?_
  refine R_getI (pc := 6) (x := nI H.length) fl_X4_28 rfl (kt_herd hh) (lt_herd hh) iT.size dX4_countSettled_6 ?_
  refine R_icmp_ge (pc := 9) (tgt := 34) (by omega) (by omega) dX4_countSettled_9 (by decide) (fun h1 => ?_) (fun h1 => ?_)
  · skip
    refine T_iload_n (pc := 34) (i := 2) dX4_countSettled_34 rfl rfl ?_
    rw [show i = H.length by omega]
    exact T_iret (pc := 35) (ty := .int) dX4_countSettled_35 rfl rfl (Nat.le_refl _) (Nat.le_refl _) ⟨_, rfl, rfl, iE, iO⟩
  · skip
    have row := iT.row i h1
    refine T_aload_n (pc := 12) (i := 1) dX4_countSettled_12 rfl rfl ?_
    refine T_aload_n (pc := 13) (i := 0) dX4_countSettled_13 rfl rfl ?_
    refine R_getR (pc := 14) (i := (h + 1)) fl_X4_11 rfl (kt_herd hh) (lt_herd hh) (rt_herd_codes hh) dX4_countSettled_14 ?_
    refine T_iload_n (pc := 17) (i := 3) dX4_countSettled_17 rfl rfl ?_
    refine R_lald (pc := 18) (x := lN (cd (hA H i).1)) (kt_herd_codes hh) (lt_herd_codes hh) (by omega) (by first | decide | assumption) row.2.1 dX4_countSettled_18 ?_
    refine R_callVm1 (pc := 19) (As := [.long (lN (cd (hA H i).1))]) (rest := []) (Or.inl lk_X4_81) mk_X10_isSettled (c_isSettled iE row.1) kc_97 ⟨by decide, rfl⟩ lc_97 dX4_countSettled_19 rfl rfl (Nat.le_of_ble_eq_true rfl) (by decide) rfl (Nat.le_refl _) (Nat.le_refl _) (fun m1 k => ?_)
    have h9 := ih h1 m1 ⟨k.1, iO.trans k.2⟩
    have e : csN R w H (i + 1) = csN R w H i + (if (nxR R w (hA H i).1).isNone = true then 1 else 0) := rfl
    rw [e] at h9
    refine R_ifb_eq (pc := 22) (tgt := 28) dX4_countSettled_22 (by decide) (fun h2 => ?_) (fun h2 => ?_)
    · skip
      rw [if_neg (by rw [h2]; decide)] at h9
      refine R_iinc (pc := 28) (i := 3) (n := 1) (ls' := [some (.ref h), some (.ref 97), some (.int (nI (csN R w H i))), some (.int (nI (i + 1)))]) dX4_countSettled_28 rfl rfl ?_
      refine T_goto (pc := 31) (tgt := 4) dX4_countSettled_31 (by decide) ?_
      exact h9
    · skip
      rw [if_pos h2] at h9
      refine R_iinc (pc := 25) (i := 2) (n := 1) (ls' := [some (.ref h), some (.ref 97), some (.int (nI (csN R w H i + 1))), some (.int (nI i))]) dX4_countSettled_25 rfl rfl ?_
      refine R_iinc (pc := 28) (i := 3) (n := 1) (ls' := [some (.ref h), some (.ref 97), some (.int (nI (csN R w H i + 1))), some (.int (nI (i + 1)))]) dX4_countSettled_28 rfl rfl ?_
      refine T_goto (pc := 31) (tgt := 4) dX4_countSettled_31 (by decide) ?_
      exact h9
theorem lsN_mw {h : Nat} {H : Hd} {m : SM2} {R : List Ru} {w : Wk} (hT : HerdAt m h H) : ∀ i, i ≤ H.length → ∀ t, lsN R w H i = some t → Mw t
  | 0, _, t, e => by cases e
  | i + 1, hi, t, e => by
    have e2 : (if (ltO (hA H i).1 (lsN R w H i) && (nxR R w (hA H i).1).isNone) = true then some (hA H i).1 else lsN R w H i) = some t := e
    split at e2
    · cases e2
      exact (hT.row i (by omega)).1
    · exact lsN_mw hT i (by omega) t e2
theorem c_leastSettled {h : Nat} {H : Hd} {R : List Ru} {LL : List (List Int32)} {w : Wk} (hh : isHerd h) (hT : HerdAt μ h H) (hE : EnvW μ R LL w) : Ex γ 6 0 0 M_X4_leastSettled [.ref h, .ref 97] (rm μ) (Rm (some (.long (vO (lsN R w H H.length)))) (fun m => EnvW m R LL w ∧ OfS SW μ m)) := by
  have h15 := hT.len
  suffices loop : ∀ (g i : Nat) (m : SM2), i + g = H.length → EnvW m R LL w → OfS SW μ m → T γ 6 0 0 M_X4_leastSettled (Rm (some (.long (vO (lsN R w H H.length)))) (fun m => EnvW m R LL w ∧ OfS SW μ m)) 0 0 7 [some (.ref h), some (.ref 97), some (.long (vO (lsN R w H i))), none, some (.int (nI i))] [] (rm m) by
    refine Ex.of (by decide +kernel) rfl (Nat.le_of_ble_eq_true rfl) ?_
    show T _ _ _ _ _ _ _ _ _ [some (.ref h), some (.ref 97), none, none, none] [] (rm μ)
    refine T_ldc2 (pc := 0) dX4_leastSettled_0 cn_X4_85 ?_
    refine T_lstore_n (pc := 3) (i := 2) (ls' := [some (.ref h), some (.ref 97), some (.long ((-1))), none, none]) dX4_leastSettled_3 rfl (by decide) rfl ?_
    refine T_iconst (pc := 4) (v := nI 0) dX4_leastSettled_4 (by decide) ?_
    refine T_istore (pc := 5) (i := 4) (ls' := [some (.ref h), some (.ref 97), some (.long ((-1))), none, some (.int (nI 0))]) dX4_leastSettled_5 (by decide) rfl ?_
    exact loop H.length 0 μ (Nat.zero_add _) hE (OfS.refl _ _)
  intro g
  induction g with
  | zero =>
    intro i m hi iE iO
    obtain rfl : i = H.length := by omega
    have iT := hT.ofs iO (fun c h1 h2 => sh_sw hh h1 h2)
    refine T_iload (pc := 7) (i := 4) dX4_leastSettled_7 rfl ?_
    refine T_aload_n (pc := 9) (i := 0) dX4_leastSettled_9 rfl rfl ?_
    refine R_getI (pc := 10) (x := nI H.length) fl_X4_28 rfl (kt_herd hh) (lt_herd hh) iT.size dX4_leastSettled_10 ?_
    refine R_icmp_ge (pc := 13) (tgt := 64) (by omega) (by omega) dX4_leastSettled_13 (by decide) (fun h1 => ?_) (fun h1 => ?_)
    · skip
      refine T_lload_n (pc := 64) (i := 2) dX4_leastSettled_64 rfl rfl ?_
      exact T_lret dX4_leastSettled_65 rfl (Nat.le_refl _) (Nat.le_refl _) ⟨_, rfl, rfl, iE, iO⟩
    · exact absurd h1 (by omega)
  | succ g ih =>
    intro i m hi iE iO
    have iT := hT.ofs iO (fun c h1 h2 => sh_sw hh h1 h2)
    have row := iT.row i (by omega)
    have b1 := cd_lt row.1
    have eS : lsN R w H (i + 1) = if (ltO (hA H i).1 (lsN R w H i) && (nxR R w (hA H i).1).isNone) = true then some (hA H i).1 else lsN R w H i := rfl
    have hmw := lsN_mw (R := R) (w := w) hT i (by omega)
    have nxt : ∀ m1 : SM2, EnvW m1 R LL w → OfS SW μ m1 → lsN R w H (i + 1) = lsN R w H i → T γ 6 0 0 M_X4_leastSettled (Rm (some (.long (vO (lsN R w H H.length)))) (fun m => EnvW m R LL w ∧ OfS SW μ m)) 0 0 58 [some (.ref h), some (.ref 97), some (.long (vO (lsN R w H i))), none, some (.int (nI i))] [] (rm m1) := fun m1 a b e => by
      have h9 := ih (i + 1) m1 (by omega) a b
      rw [e] at h9
      refine R_iinc (pc := 58) (i := 4) (n := 1) (ls' := [some (.ref h), some (.ref 97), some (.long ((vO (lsN R w H i)))), none, some (.int (nI (i + 1)))]) dX4_leastSettled_58 rfl rfl ?_
      refine T_goto (pc := 61) (tgt := 7) dX4_leastSettled_61 (by decide) ?_
      exact h9
    have ask : ltO (hA H i).1 (lsN R w H i) = true → T γ 6 0 0 M_X4_leastSettled (Rm (some (.long (vO (lsN R w H H.length)))) (fun m => EnvW m R LL w ∧ OfS SW μ m)) 0 0 36 [some (.ref h), some (.ref 97), some (.long (vO (lsN R w H i))), none, some (.int (nI i))] [] (rm m) := fun el => by
      refine T_aload_n (pc := 36) (i := 1) dX4_leastSettled_36 rfl rfl ?_
      refine T_aload_n (pc := 37) (i := 0) dX4_leastSettled_37 rfl rfl ?_
      refine R_getR (pc := 38) (i := (h + 1)) fl_X4_11 rfl (kt_herd hh) (lt_herd hh) (rt_herd_codes hh) dX4_leastSettled_38 ?_
      refine T_iload (pc := 41) (i := 4) dX4_leastSettled_41 rfl ?_
      refine R_lald (pc := 43) (x := lN (cd (hA H i).1)) (kt_herd_codes hh) (lt_herd_codes hh) (by omega) (by first | decide | assumption) row.2.1 dX4_leastSettled_43 ?_
      refine R_callVm1 (pc := 44) (As := [.long (lN (cd (hA H i).1))]) (rest := []) (Or.inl lk_X4_81) mk_X10_isSettled (c_isSettled iE row.1) kc_97 ⟨by decide, rfl⟩ lc_97 dX4_leastSettled_44 rfl rfl (Nat.le_of_ble_eq_true rfl) (by decide) rfl (Nat.le_refl _) (Nat.le_refl _) (fun m1 k => ?_)
      have kT := iT.ofs k.2 (fun c h1 h2 => sh_sw hh h1 h2)
      refine R_ifb_eq (pc := 47) (tgt := 58) dX4_leastSettled_47 (by decide) (fun h2 => ?_) (fun h2 => ?_)
      · skip
        exact nxt m1 k.1 (iO.trans k.2) (by rw [eS, if_neg (by rw [h2, Bool.and_false]; decide)])
      · skip
        refine T_aload_n (pc := 50) (i := 0) dX4_leastSettled_50 rfl rfl ?_
        refine R_getR (pc := 51) (i := (h + 1)) fl_X4_11 rfl (kt_herd hh) (lt_herd hh) (rt_herd_codes hh) dX4_leastSettled_51 ?_
        refine T_iload (pc := 54) (i := 4) dX4_leastSettled_54 rfl ?_
        refine R_lald (pc := 56) (x := lN (cd (hA H i).1)) (kt_herd_codes hh) (lt_herd_codes hh) (by omega) (by first | decide | assumption) ((kT.row i (by omega)).2.1) dX4_leastSettled_56 ?_
        refine T_lstore_n (pc := 57) (i := 2) (ls' := [some (.ref h), some (.ref 97), some (.long (lN (cd (hA H i).1))), none, some (.int (nI i))]) dX4_leastSettled_57 rfl (by decide) rfl ?_
        refine R_iinc (pc := 58) (i := 4) (n := 1) (ls' := [some (.ref h), some (.ref 97), some (.long (lN (cd (hA H i).1))), none, some (.int (nI (i + 1)))]) dX4_leastSettled_58 rfl rfl ?_
        refine T_goto (pc := 61) (tgt := 7) dX4_leastSettled_61 (by decide) ?_
        have h9 := ih (i + 1) m1 (by omega) k.1 (iO.trans k.2)
        rw [eS, if_pos (by rw [el, h2]; rfl)] at h9
        exact h9
    cases e : lsN R w H i with
    | none =>
      rw [e] at ask nxt
      refine T_iload (pc := 7) (i := 4) dX4_leastSettled_7 rfl ?_
      refine T_aload_n (pc := 9) (i := 0) dX4_leastSettled_9 rfl rfl ?_
      refine R_getI (pc := 10) (x := nI H.length) fl_X4_28 rfl (kt_herd hh) (lt_herd hh) iT.size dX4_leastSettled_10 ?_
      refine R_icmp_ge (pc := 13) (tgt := 64) (by omega) (by omega) dX4_leastSettled_13 (by decide) (fun h1 => ?_) (fun h1 => ?_)
      · exact absurd h1 (by omega)
      · skip
        refine T_lload_n (pc := 16) (i := 2) dX4_leastSettled_16 rfl rfl ?_
        refine T_ldc2 (pc := 17) dX4_leastSettled_17 cn_X4_85 ?_
        refine T_lcmp (pc := 20) dX4_leastSettled_20 ?_
        refine R_lx_eq (pc := 21) (tgt := 36) dX4_leastSettled_21 (by decide) (fun h2 => ?_) (fun h2 => ?_)
        · exact ask rfl
        · exact absurd rfl h2
    | some t =>
      rw [e] at ask nxt
      have b2 := cd_lt (hmw t e)
      refine T_iload (pc := 7) (i := 4) dX4_leastSettled_7 rfl ?_
      refine T_aload_n (pc := 9) (i := 0) dX4_leastSettled_9 rfl rfl ?_
      refine R_getI (pc := 10) (x := nI H.length) fl_X4_28 rfl (kt_herd hh) (lt_herd hh) iT.size dX4_leastSettled_10 ?_
      refine R_icmp_ge (pc := 13) (tgt := 64) (by omega) (by omega) dX4_leastSettled_13 (by decide) (fun h1 => ?_) (fun h1 => ?_)
      · exact absurd h1 (by omega)
      · skip
        refine T_lload_n (pc := 16) (i := 2) dX4_leastSettled_16 rfl rfl ?_
        refine T_ldc2 (pc := 17) dX4_leastSettled_17 cn_X4_85 ?_
        refine T_lcmp (pc := 20) dX4_leastSettled_20 ?_
        refine R_lx_eq (pc := 21) (tgt := 36) dX4_leastSettled_21 (by decide) (fun h2 => ?_) (fun h2 => ?_)
        · exact absurd h2 (lN_ne (by omega))
        · skip
          refine T_aload_n (pc := 24) (i := 0) dX4_leastSettled_24 rfl rfl ?_
          refine R_getR (pc := 25) (i := (h + 1)) fl_X4_11 rfl (kt_herd hh) (lt_herd hh) (rt_herd_codes hh) dX4_leastSettled_25 ?_
          refine T_iload (pc := 28) (i := 4) dX4_leastSettled_28 rfl ?_
          refine R_lald (pc := 30) (x := lN (cd (hA H i).1)) (kt_herd_codes hh) (lt_herd_codes hh) (by omega) (by first | decide | assumption) row.2.1 dX4_leastSettled_30 ?_
          refine T_lload_n (pc := 31) (i := 2) dX4_leastSettled_31 rfl rfl ?_
          refine T_lcmp (pc := 32) dX4_leastSettled_32 ?_
          refine R_ln_ge (pc := 33) (tgt := 58) (by omega) (by omega) dX4_leastSettled_33 (by decide) (fun h3 => ?_) (fun h3 => ?_)
          · exact nxt m iE iO (by have e9 : ltO (hA H i).1 (some t) = false := decide_eq_false (by omega); rw [eS, e, if_neg (by rw [e9]; simp)])
          · exact ask (decide_eq_true h3)
end SP

