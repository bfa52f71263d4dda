/-! again, becomes, fewest, meets -/
def SQ (k : Nat) : Prop := k = 61 ∨ (97 ≤ k ∧ k < 124)
theorem SW_SQ {k : Nat} (h : SW k) : SQ k := by unfold SW at h; unfold SQ; omega
theorem SH_SQ {h : Nat} (hh : isHerd h) {k : Nat} (g : SH h k) : SQ k := by
  unfold SH Sh SW at g
  unfold SQ
  rcases hh with rfl | rfl <;> omega
def agN (nx : List Nat → Option (List Nat)) : Nat → List (List Nat) → List Nat → Option (Nat × Nat)
  | 0, _, _ => none
  | f + 1, K, l => match nx l with
    | none => none
    | some t => match inK K t with
      | some e => some (e, K.length)
      | none => agN nx f (K ++ [t]) t
def agV (o : Option (Nat × Nat)) (b : Bool) : Int32 := match o with
  | none => -1
  | some q => if b = true then nI q.1 else nI q.2
theorem inK_lt {K : List (List Nat)} {l : List Nat} {i : Nat} (h : inK K l = some i) : i < K.length ∧ hK K i = l := by
  rcases inK_of (K := K) (l := l) with ⟨j, h1, h2, h3⟩ | ⟨h1, h2⟩
  · rw [h3] at h
    cases h
    exact ⟨h1, h2⟩
  · rw [h2] at h
    cases h
theorem nI_ne {a : Nat} (h : a < 2 ^ 31) : ¬ nI a = -1 := by
  rw [fa_eq, nI_toInt h]
  have e : (-1 : Int32).toInt = -1 := rfl
  omega
def becV (R : List Ru) (w : Wk) (l : List Nat) (n k : Nat) : Int64 := match spd R w l n with
  | none => -3
  | some H => if k = 0 then lN H.length else if k = 1 then lN (mxN H H.length) else if k = 2 then lN (csN R w H H.length) else vO (lsN R w H H.length)
def fwN (R : List Ru) (w : Wk) (to : List Nat) : Nat → Hd → Nat → Nat → Int32
  | 0, _, _, _ => -1
  | f + 1, H, lb, ls => if (inK (hKs H) to).isSome = true then nI ls else if lb < H.length then (match spI R w (ls + 1) H lb (H.length - lb) with
      | none => -3
      | some H' => fwN R w to f H' H.length (ls + 1)) else -1
/-- both are met: in how many STEPS together, where -/
def mtL (o : Option (Nat × List Nat)) (b : Nat) (l : List Nat) : Bool := match o with
  | none => true
  | some q => decide (b < q.1) || (decide (b = q.1) && decide (cd l < cd q.2))
def mtN (H1 H2 : Hd) : Nat → Option (Nat × List Nat)
  | 0 => none
  | i + 1 => match inK (hKs H2) (hA H1 i).1 with
    | none => mtN H1 H2 i
    | some j => if mtL (mtN H1 H2 i) ((hA H1 i).2 + (hA H2 j).2) (hA H1 i).1 = true then some ((hA H1 i).2 + (hA H2 j).2, (hA H1 i).1) else mtN H1 H2 i
def mtV (o : Option (Nat × List Nat)) (b : Bool) : Int64 := match o with
  | none => -1
  | some q => if b = true then lN (cd q.2) else lN q.1
def mtF : Option (Nat × List Nat) → Int32
  | none => -1
  | some q => nI q.1
def meV (R : List Ru) (w : Wk) (a d : List Nat) (n : Nat) (b : Bool) : Int64 := match spd R w a n with
  | none => -3
  | some H1 => match spd R w d n with
    | none => -3
    | some H2 => mtV (mtN H1 H2 H1.length) b
theorem tk1_far {H H' : Hd} {d n : Nat} {l : List Nat} (h : tk1 H d l = some H') (hd : d ≤ n) (g : ∀ i, i < H.length → (hA H i).2 ≤ n) : ∀ i, i < H'.length → (hA H' i).2 ≤ n := by
  unfold tk1 at h
  cases e : inK (hKs H) l with
  | some i =>
    rw [e] at h
    cases h
    exact g
  | none =>
    rw [e] at h
    have h2 : (if H.length < 1500 then some (H ++ [(l, d)]) else none) = some H' := h
    by_cases e2 : H.length < 1500
    · rw [if_pos e2] at h2
      cases h2
      intro i hi
      rw [List.length_append] at hi
      have hi2 : i < H.length + 1 := hi
      rw [show hA (H ++ [(l, d)]) i = if i < H.length then hA H i else (l, d) from getD_snoc hi2]
      split
      · exact g i ‹_›
      · exact hd
    · rw [if_neg e2] at h2
      cases h2
theorem tkL_far {d n : Nat} (hd : d ≤ n) : ∀ {V : List (List Nat)} {H H' : Hd}, tkL d H V = some H' → (∀ i, i < H.length → (hA H i).2 ≤ n) → ∀ i, i < H'.length → (hA H' i).2 ≤ n
  | [], H, H', h, g => by
    cases h
    exact g
  | l :: t, H, H', h, g => by
    have h2 : (tk1 H d l).bind (fun H' => tkL d H' t) = some H' := h
    cases e : tk1 H d l with
    | none =>
      rw [e] at h2
      cases h2
    | some H1 =>
      rw [e] at h2
      exact tkL_far hd (V := t) (H := H1) h2 (tk1_far e hd g)
theorem spI_far {R : List Ru} {w : Wk} {d n : Nat} (hd : d ≤ n) : ∀ {f i : Nat} {H H' : Hd}, spI R w d H i f = some H' → (∀ i, i < H.length → (hA H i).2 ≤ n) → ∀ i, i < H'.length → (hA H' i).2 ≤ n
  | 0, i, H, H', h, g => by
    cases h
    exact g
  | f + 1, i, H, H', h, g => by
    have h2 : (tkL d H (sucW R w (hA H i).1)).bind (fun H' => spI R w d H' (i + 1) f) = some H' := h
    cases e : tkL d H (sucW R w (hA H i).1) with
    | none =>
      rw [e] at h2
      cases h2
    | some H1 =>
      rw [e] at h2
      exact spI_far hd (f := f) (i := i + 1) (H := H1) h2 (tkL_far hd e g)
theorem lvR_far {R : List Ru} {w : Wk} {n : Nat} : ∀ {f : Nat} {H H' : Hd} {lb ls : Nat}, lvR R w f H lb ls = some H' → ls + f ≤ n → (∀ i, i < H.length → (hA H i).2 ≤ n) → ∀ i, i < H'.length → (hA H' i).2 ≤ n
  | 0, H, H', lb, ls, h, _, g => by
    cases h
    exact g
  | f + 1, H, H', lb, ls, h, hn, g => by
    have h2 : (if lb < H.length then (spI R w (ls + 1) H lb (H.length - lb)).bind (fun H' => lvR R w f H' H.length (ls + 1)) else some H) = some H' := h
    by_cases e2 : lb < H.length
    · rw [if_pos e2] at h2
      cases e : spI R w (ls + 1) H lb (H.length - lb) with
      | none =>
        rw [e] at h2
        cases h2
      | some H1 =>
        rw [e] at h2
        exact lvR_far (f := f) (H := H1) h2 (by omega) (spI_far (by omega) e g)
    · rw [if_neg e2] at h2
      cases h2
      exact g
theorem spd_far {R : List Ru} {w : Wk} {l : List Nat} {n : Nat} {H : Hd} (h : spd R w l n = some H) : ∀ i, i < H.length → (hA H i).2 ≤ n :=
  lvR_far h (by omega) (fun i hi => by
    have hi2 : i < 1 := hi
    obtain rfl : i = 0 := by omega
    exact Nat.zero_le _)
theorem mtN_ok {H1 H2 : Hd} {n : Nat} {m : SM2} {h : Nat} (hT : HerdAt m h H1) (g1 : ∀ i, i < H1.length → (hA H1 i).2 ≤ n) (g2 : ∀ i, i < H2.length → (hA H2 i).2 ≤ n) : ∀ i, i ≤ H1.length → ∀ q, mtN H1 H2 i = some q → q.1 ≤ 2 * n ∧ Mw q.2
  | 0, _, q, e => by cases e
  | i + 1, hi, q, e => by
    have ih := mtN_ok hT g1 g2 i (by omega)
    have e2 : (match inK (hKs H2) (hA H1 i).1 with | none => mtN H1 H2 i | some j => if mtL (mtN H1 H2 i) ((hA H1 i).2 + (hA H2 j).2) (hA H1 i).1 = true then some ((hA H1 i).2 + (hA H2 j).2, (hA H1 i).1) else mtN H1 H2 i) = some q := e
    cases ek : inK (hKs H2) (hA H1 i).1 with
    | none =>
      rw [ek] at e2
      exact ih q e2
    | some j =>
      rw [ek] at e2
      have hj := (inK_lt ek).1
      rw [List.length_map] at hj
      have e3 : (if mtL (mtN H1 H2 i) ((hA H1 i).2 + (hA H2 j).2) (hA H1 i).1 = true then some ((hA H1 i).2 + (hA H2 j).2, (hA H1 i).1) else mtN H1 H2 i) = some q := e2
      by_cases e4 : mtL (mtN H1 H2 i) ((hA H1 i).2 + (hA H2 j).2) (hA H1 i).1 = true
      · rw [if_pos e4] at e3
        cases e3
        have a1 := g1 i (by omega)
        have a2 := g2 j hj
        exact ⟨by show (hA H1 i).2 + (hA H2 j).2 ≤ _; omega, (hT.row i (by omega)).1⟩
      · rw [if_neg e4] at e3
        exact ih q e3
section AG
variable {γ : Ga} {μ : SM2}
theorem c_again {x : Int64} {b : Bool} {X : Td} {LL : List (List Int32)} (hX : ToldAt μ 3 X) (hL : LawL μ LL) : Ex γ 6 1 6 M_X11_again [.ref 0, .long x, .int (bI b)] (rm μ) (Ax (if codeB x = true then none else some "java/lang/IllegalArgumentException") (.int (agV (agN (nxR X.R (wOf X LL)) 500 [ml x] (ml x)) b)) μ (fun m => OfS SQ μ m)) := by
  refine Ex.of (by decide +kernel) rfl (Nat.le_of_ble_eq_true rfl) ?_
  show T _ _ _ _ _ _ _ _ _ [some (.ref 0), some (.long (x)), none, some (.int (bI b)), none, none, none, none] [] (rm μ)
  refine T_lload_n (pc := 0) (i := 1) dX11_again_0 rfl rfl ?_
  refine R_chkS (pc := 1) (av := [.long (x)]) (rest := []) (Or.inl lk_X11_169) mk_X11_checkCode c_checkCode dX11_again_1 rfl rfl (Nat.le_of_ble_eq_true rfl) (by decide) rfl (by decide) (by decide) (fun z => Ax_e (by rw [z]; decide)) (fun hB => ?_)
  rw [if_pos (c := codeB x = true) hB]
  obtain ⟨l, hl, rfl⟩ := codeB_iff.mp hB
  rw [ml_cd hl]
  refine T_aload_n (pc := 4) (i := 0) dX11_again_4 rfl rfl ?_
  refine R_getR (pc := 5) (i := 97) fl_X11_55 rfl kc_0 lc_0 rc_0_11 dX11_again_5 ?_
  refine T_aload_n (pc := 8) (i := 0) dX11_again_8 rfl rfl ?_
  refine R_getR (pc := 9) (i := 3) fl_X11_19 rfl kc_0 lc_0 rc_0_1 dX11_again_9 ?_
  refine R_callVm0 (pc := 12) (As := [.ref 3]) (rest := []) (Or.inl lk_X11_198) mk_X10_begin (c_Walk_begin hX hL) kc_97 ⟨by decide, rfl⟩ lc_97 dX11_again_12 rfl rfl (Nat.le_of_ble_eq_true rfl) (by decide) rfl (by decide) (by decide) (fun m h => ?_)
  obtain ⟨hE0, hO⟩ := h
  have hE : EnvW m X.R LL (wOf X LL) := hE0
  refine T_aload_n (pc := 15) (i := 0) dX11_again_15 rfl rfl ?_
  refine R_getR (pc := 16) (i := 105) fl_X11_62 rfl kc_0 lc_0 rc_0_12 dX11_again_16 ?_
  refine T_lload_n (pc := 19) (i := 1) dX11_again_19 rfl rfl ?_
  refine R_callVm0 (pc := 20) (As := [.long (lN (cd l))]) (rest := []) (Or.inl lk_X11_263) mk_X4_begin (c_Herd_begin herd105 hl) (kt_herd herd105) ⟨by decide, rfl⟩ (lt_herd herd105) dX11_again_20 rfl rfl (Nat.le_of_ble_eq_true rfl) (by decide) rfl (by decide) (by decide) (fun m1 k => ?_)
  obtain ⟨⟨k1, k2, k3⟩, k4⟩ := k
  have kE := hE.ofSh herd105 k4
  have kO : OfS SQ μ m1 := (hO.mono (fun c => SW_SQ)).trans (k4.mono (fun c hc => by unfold Sh at hc; unfold SQ; omega))
  refine T_lload_n (pc := 23) (i := 1) dX11_again_23 rfl rfl ?_
  refine T_lstore (pc := 24) (i := 4) (ls' := [some (.ref 0), some (.long (lN (cd l))), none, some (.int (bI b)), some (.long (lN (cd l))), none, none, none]) dX11_again_24 (by decide) rfl ?_
  refine T_iconst (pc := 26) (v := nI 1) dX11_again_26 (by decide) ?_
  refine T_istore (pc := 27) (i := 6) (ls' := [some (.ref 0), some (.long (lN (cd l))), none, some (.int (bI b)), some (.long (lN (cd l))), none, some (.int (nI 1)), none]) dX11_again_27 (by decide) rfl ?_
  suffices loop : ∀ (g : Nat) (here : List Nat) (H : Hd) (m : SM2), H.length + g = 501 → HerdAt m 105 H → Mw here → EnvW m X.R LL (wOf X LL) → OfS SQ μ m → T γ 6 1 6 M_X11_again (Ax none (.int (agV (agN (nxR X.R (wOf X LL)) g (hKs H) here) b)) μ (fun m => OfS SQ μ m)) (0 + 1) (0 + 6) 29 [some (.ref 0), some (.long (lN (cd l))), none, some (.int (bI b)), some (.long (lN (cd here))), none, some (.int (nI H.length)), none] [] (rm m) by
    exact loop 500 l [(l, 0)] m1 rfl k1 hl kE kO
  intro g
  induction g with
  | zero =>
    intro here H m hg iT hh iE iO
    refine T_iload (pc := 29) (i := 6) dX11_again_29 rfl ?_
    refine T_sipush (pc := 31) (v := nI 500) dX11_again_31 (by decide) ?_
    refine R_icmp_gt (pc := 34) (tgt := 106) (by omega) (by omega) dX11_again_34 (by decide) (fun h1 => ?_) (fun h1 => ?_)
    · skip
      refine T_iconst (pc := 106) (v := (-1)) dX11_again_106 (by decide) ?_
      exact T_iret (pc := 107) (ty := .int) dX11_again_107 rfl rfl (by decide) (by decide) ⟨m, rfl, rfl, iO⟩
    · exact absurd h1 (by omega)
  | succ g ih =>
    intro here H m hg iT hh iE iO
    have hKl : (hKs H).length = H.length := List.length_map _
    refine T_iload (pc := 29) (i := 6) dX11_again_29 rfl ?_
    refine T_sipush (pc := 31) (v := nI 500) dX11_again_31 (by decide) ?_
    refine R_icmp_gt (pc := 34) (tgt := 106) (by omega) (by omega) dX11_again_34 (by decide) (fun h1 => ?_) (fun h1 => ?_)
    · exact absurd h1 (by omega)
    · skip
      refine T_aload_n (pc := 37) (i := 0) dX11_again_37 rfl rfl ?_
      refine R_getR (pc := 38) (i := 97) fl_X11_55 rfl kc_0 lc_0 rc_0_11 dX11_again_38 ?_
      refine T_lload (pc := 41) (i := 4) dX11_again_41 rfl ?_
      refine R_callVm1 (pc := 43) (As := [.long (lN (cd here))]) (rest := []) (Or.inl lk_X11_265) mk_X10_next (c_next iE hh) kc_97 ⟨by decide, rfl⟩ lc_97 dX11_again_43 rfl rfl (Nat.le_of_ble_eq_true rfl) (by decide) rfl (by decide) (by decide) (fun m2 k2 => ?_)
      obtain ⟨jE, jO⟩ := k2
      have jT := iT.ofs jO (fun c h1 h2 => sh_sw herd105 h1 h2)
      have jO2 : OfS SQ μ m2 := iO.trans (jO.mono (fun c => SW_SQ))
      cases e : nxR X.R (wOf X LL) here with
      | none =>
        have e2 : agN (nxR X.R (wOf X LL)) (g + 1) (hKs H) here = none := by rw [agN, e]
        rw [e2]
        refine T_lstore (pc := 46) (i := 4) (ls' := [some (.ref 0), some (.long (lN (cd l))), none, some (.int (bI b)), some (.long ((-1))), none, some (.int (nI H.length)), none]) dX11_again_46 (by decide) rfl ?_
        refine T_lload (pc := 48) (i := 4) dX11_again_48 rfl ?_
        refine T_ldc2 (pc := 50) dX11_again_50 cn_X11_260 ?_
        refine T_lcmp (pc := 53) dX11_again_53 ?_
        refine R_lx_ne (pc := 54) (tgt := 59) dX11_again_54 (by decide) (fun h2 => ?_) (fun h2 => ?_)
        · exact absurd rfl h2
        · skip
          refine T_iconst (pc := 57) (v := (-1)) dX11_again_57 (by decide) ?_
          exact T_iret (pc := 58) (ty := .int) dX11_again_58 rfl rfl (by decide) (by decide) ⟨m2, rfl, rfl, jO2⟩
      | some t =>
        have ht := nxR_mw hh iE.1.ok e
        have bt := cd_lt ht
        have e2 : agN (nxR X.R (wOf X LL)) (g + 1) (hKs H) here = match inK (hKs H) t with | some e => some (e, (hKs H).length) | none => agN (nxR X.R (wOf X LL)) g (hKs H ++ [t]) t := by rw [agN, e]
        rw [e2]
        refine T_lstore (pc := 46) (i := 4) (ls' := [some (.ref 0), some (.long (lN (cd l))), none, some (.int (bI b)), some (.long (lN (cd t))), none, some (.int (nI H.length)), none]) dX11_again_46 (by decide) rfl ?_
        refine T_lload (pc := 48) (i := 4) dX11_again_48 rfl ?_
        refine T_ldc2 (pc := 50) dX11_again_50 cn_X11_260 ?_
        refine T_lcmp (pc := 53) dX11_again_53 ?_
        refine R_lx_ne (pc := 54) (tgt := 59) dX11_again_54 (by decide) (fun h2 => ?_) (fun h2 => ?_)
        · skip
          refine T_aload_n (pc := 59) (i := 0) dX11_again_59 rfl rfl ?_
          refine R_getR (pc := 60) (i := 105) fl_X11_62 rfl kc_0 lc_0 rc_0_12 dX11_again_60 ?_
          refine T_lload (pc := 63) (i := 4) dX11_again_63 rfl ?_
          refine R_callV1 (pc := 65) (As := [.long (lN (cd t))]) (rest := []) (Or.inl lk_X11_269) mk_X4_indexOf (c_indexOf herd105 jT ht) (kt_herd herd105) ⟨by decide, rfl⟩ (lt_herd herd105) dX11_again_65 rfl rfl (Nat.le_of_ble_eq_true rfl) (by decide) rfl (by decide) (by decide) ?_
          refine T_istore (pc := 68) (i := 7) (ls' := [some (.ref 0), some (.long (lN (cd l))), none, some (.int (bI b)), some (.long (lN (cd t))), none, some (.int (nI H.length)), some (.int ((oN (inK (hKs H) t))))]) dX11_again_68 (by decide) rfl ?_
          refine T_iload (pc := 70) (i := 7) dX11_again_70 rfl ?_
          refine T_iconst (pc := 72) (v := (-1)) dX11_again_72 (by decide) ?_
          cases e3 : inK (hKs H) t with
          | some i =>
            have hi := (inK_lt e3).1
            refine T_icmp_eq (pc := 73) (tgt := 88) dX11_again_73 (by decide) (fun h3 => ?_) (fun h3 => ?_)
            · exact absurd h3 (nI_ne (by omega))
            · skip
              rw [hKl]
              refine T_iload_n (pc := 76) (i := 3) dX11_again_76 rfl rfl ?_
              refine R_ifb_eq (pc := 77) (tgt := 85) dX11_again_77 (by decide) (fun h4 => ?_) (fun h4 => ?_)
              · skip
                subst h4
                refine T_iload (pc := 85) (i := 6) dX11_again_85 rfl ?_
                exact T_iret (pc := 87) (ty := .int) dX11_again_87 rfl rfl (by decide) (by decide) ⟨m2, rfl, rfl, jO2⟩
              · skip
                subst h4
                refine T_iload (pc := 80) (i := 7) dX11_again_80 rfl ?_
                refine T_goto (pc := 82) (tgt := 87) dX11_again_82 (by decide) ?_
                exact T_iret (pc := 87) (ty := .int) dX11_again_87 rfl rfl (by decide) (by decide) ⟨m2, rfl, rfl, jO2⟩
          | none =>
            have ek : tk1 H H.length t = some (H ++ [(t, H.length)]) := by unfold tk1; rw [e3]; exact if_pos (by omega)
            have hks : hKs (H ++ [(t, H.length)]) = hKs H ++ [t] := by unfold hKs; rw [List.map_append]; rfl
            have hal : (H ++ [(t, H.length)]).length = H.length + 1 := by rw [List.length_append]; rfl
            refine T_icmp_eq (pc := 73) (tgt := 88) dX11_again_73 (by decide) (fun h3 => ?_) (fun h3 => ?_)
            · skip
              refine T_aload_n (pc := 88) (i := 0) dX11_again_88 rfl rfl ?_
              refine R_getR (pc := 89) (i := 105) fl_X11_62 rfl kc_0 lc_0 rc_0_12 dX11_again_89 ?_
              refine T_lload (pc := 92) (i := 4) dX11_again_92 rfl ?_
              refine T_iload (pc := 94) (i := 6) dX11_again_94 rfl ?_
              refine R_callVm1 (pc := 96) (As := [.long (lN (cd t)), .int (nI H.length)]) (rest := []) (Or.inl lk_X11_272) mk_X4_take (c_take herd105 jT ht) (kt_herd herd105) ⟨by decide, rfl⟩ (lt_herd herd105) dX11_again_96 rfl rfl (Nat.le_of_ble_eq_true rfl) (by decide) rfl (by decide) (by decide) (fun m3 q => ?_)
              obtain ⟨⟨q1, -, -⟩, q4⟩ := q
              rw [ek] at q1
              refine T_pop (pc := 99) dX11_again_99 rfl ?_
              refine R_iinc (pc := 100) (i := 6) (n := 1) (ls' := [some (.ref 0), some (.long (lN (cd l))), none, some (.int (bI b)), some (.long (lN (cd t))), none, some (.int (nI (H.length + 1))), some (.int ((-1)))]) dX11_again_100 rfl rfl ?_
              refine T_goto (pc := 103) (tgt := 29) dX11_again_103 (by decide) ?_
              refine T_ls (ls' := [some (.ref 0), some (.long (lN (cd l))), none, some (.int (bI b)), some (.long (lN (cd t))), none, some (.int (nI (H.length + 1))), none]) (And.intro rfl (And.intro rfl (And.intro rfl (And.intro rfl (And.intro rfl True.intro))))) ?_
              have h9 := ih t (H ++ [(t, H.length)]) m3 (by omega) q1 ht (jE.ofSh herd105 q4) (jO2.trans (q4.mono (fun c hc => by unfold Sh at hc; unfold SQ; omega)))
              rw [hks, hal] at h9
              exact h9
            · exact absurd rfl h3
        · exact absurd h2 (lN_ne (by omega))
theorem c_becomes {x : Int64} {y z : Int32} {X : Td} {LL : List (List Int32)} (hX : ToldAt μ 3 X) (hL : LawL μ LL) : Ex γ 7 3 18 M_X11_becomes [.ref 0, .long x, .int y, .int z] (rm μ) (Ax (if codeB x = true then (if chkN y 0 40 = true then (if inB z 4 = true then none else some "java/util/NoSuchElementException") else some "java/lang/IllegalArgumentException") else some "java/lang/IllegalArgumentException") (.long (becV X.R (wOf X LL) (ml x) y.toNatClampNeg z.toNatClampNeg)) μ (fun m => OfS SQ μ m)) := by
  refine Ex.of (by decide +kernel) rfl (Nat.le_of_ble_eq_true rfl) ?_
  show T _ _ _ _ _ _ _ _ _ [some (.ref 0), some (.long (x)), none, some (.int (y)), some (.int (z))] [] (rm μ)
  refine T_lload_n (pc := 0) (i := 1) dX11_becomes_0 rfl rfl ?_
  refine R_chkS (pc := 1) (av := [.long (x)]) (rest := []) (Or.inl lk_X11_169) mk_X11_checkCode c_checkCode dX11_becomes_1 rfl rfl (Nat.le_of_ble_eq_true rfl) (by decide) rfl (by decide) (by decide) (fun z => by rw [if_neg (by rw [z]; decide)]; exact ⟨rfl, rfl⟩) (fun hA => ?_)
  rw [if_pos hA]
  refine T_iload_n (pc := 4) (i := 3) dX11_becomes_4 rfl rfl ?_
  refine T_iconst (pc := 5) (v := nI 0) dX11_becomes_5 (by decide) ?_
  refine T_bipush (pc := 6) (v := nI 40) dX11_becomes_6 (by decide) ?_
  refine R_chkS (pc := 8) (av := [.int (y), .int (nI 0), .int (nI 40)]) (rest := []) (Or.inl lk_X11_215) mk_X11_checkNumber c_checkNumber dX11_becomes_8 rfl rfl (Nat.le_of_ble_eq_true rfl) (by decide) rfl (by decide) (by decide) (fun z => by rw [if_neg (by unfold chkN; rw [z]; decide)]; exact ⟨rfl, rfl⟩) (fun hB => ?_)
  rw [if_pos (c := chkN y 0 40 = true) hB]
  refine T_iload (pc := 11) (i := 4) dX11_becomes_11 rfl ?_
  refine T_iconst (pc := 13) (v := nI 4) dX11_becomes_13 (by decide) ?_
  refine R_chkS (pc := 14) (av := [.int (z), .int (nI 4)]) (rest := []) (Or.inl lk_X11_187) mk_X11_checkWhat c_checkWhat dX11_becomes_14 rfl rfl (Nat.le_of_ble_eq_true rfl) (by decide) rfl (by decide) (by decide) (fun w => Ax_e (by unfold inB; rw [w]; decide)) (fun hC => ?_)
  rw [if_pos (c := inB z 4 = true) hC]
  obtain ⟨l, hl, rfl⟩ := codeB_iff.mp hA
  obtain ⟨N, -, hN, rfl⟩ := chk_of (by decide) (by decide) hB
  obtain ⟨k, hk, rfl⟩ := inB_of (n := 4) (by decide) hC
  rw [ml_cd hl, nI_clamp (n := N) (by omega), nI_clamp (n := k) (by omega)]
  refine T_aload_n (pc := 17) (i := 0) dX11_becomes_17 rfl rfl ?_
  refine R_getR (pc := 18) (i := 97) fl_X11_55 rfl kc_0 lc_0 rc_0_11 dX11_becomes_18 ?_
  refine T_aload_n (pc := 21) (i := 0) dX11_becomes_21 rfl rfl ?_
  refine R_getR (pc := 22) (i := 3) fl_X11_19 rfl kc_0 lc_0 rc_0_1 dX11_becomes_22 ?_
  refine R_callVm0 (pc := 25) (As := [.ref 3]) (rest := []) (Or.inl lk_X11_198) mk_X10_begin (c_Walk_begin hX hL) kc_97 ⟨by decide, rfl⟩ lc_97 dX11_becomes_25 rfl rfl (Nat.le_of_ble_eq_true rfl) (by decide) rfl (by decide) (by decide) (fun m h => ?_)
  obtain ⟨hE0, hO⟩ := h
  have hE : EnvW m X.R LL (wOf X LL) := hE0
  refine T_aload_n (pc := 28) (i := 0) dX11_becomes_28 rfl rfl ?_
  refine R_getR (pc := 29) (i := 105) fl_X11_62 rfl kc_0 lc_0 rc_0_12 dX11_becomes_29 ?_
  refine T_aload_n (pc := 32) (i := 0) dX11_becomes_32 rfl rfl ?_
  refine R_getR (pc := 33) (i := 97) fl_X11_55 rfl kc_0 lc_0 rc_0_11 dX11_becomes_33 ?_
  refine T_lload_n (pc := 36) (i := 1) dX11_becomes_36 rfl rfl ?_
  refine T_iload_n (pc := 37) (i := 3) dX11_becomes_37 rfl rfl ?_
  refine R_callVm1 (pc := 38) (As := [.ref 97, .long (lN (cd l)), .int (nI N)]) (rest := []) (Or.inl lk_X11_326) mk_X4_spread (c_spread herd105 hE hl (by omega)) (kt_herd herd105) ⟨by decide, rfl⟩ (lt_herd herd105) dX11_becomes_38 rfl rfl (Nat.le_of_ble_eq_true rfl) (by decide) rfl (by decide) (by decide) (fun m1 q => ?_)
  obtain ⟨q1, q2, q3⟩ := q
  have qO : OfS SQ μ m1 := (hO.mono (fun c => SW_SQ)).trans (q3.mono (fun c => SH_SQ herd105))
  cases e : spd X.R (wOf X LL) l N with
  | none =>
    have ev : becV X.R (wOf X LL) l N k = -3 := by unfold becV; rw [e]
    rw [ev]
    refine R_ifb_ne (pc := 41) (tgt := 48) dX11_becomes_41 (by decide) (fun h1 => ?_) (fun h1 => ?_)
    · exact absurd h1 (by decide)
    · skip
      refine T_ldc2 (pc := 44) dX11_becomes_44 cn_X11_330 ?_
      exact T_lret dX11_becomes_47 rfl (by decide) (by decide) ⟨m1, rfl, rfl, qO⟩
  | some H =>
    have qT := q1 H e
    have qL := qT.len
    have ev : becV X.R (wOf X LL) l N k = if k = 0 then lN H.length else if k = 1 then lN (mxN H H.length) else if k = 2 then lN (csN X.R (wOf X LL) H H.length) else vO (lsN X.R (wOf X LL) H H.length) := by unfold becV; rw [e]
    rw [ev]
    refine R_ifb_ne (pc := 41) (tgt := 48) dX11_becomes_41 (by decide) (fun h1 => ?_) (fun h1 => ?_)
    · skip
      refine T_iload (pc := 48) (i := 4) dX11_becomes_48 rfl ?_
      have hc : k = 0 ∨ k = 1 ∨ k = 2 ∨ k = 3 := by omega
      rcases hc with rfl | rfl | rfl | rfl
      · rw [if_pos rfl]
        refine T_tableIn (pc := 50) (tgt := 76) dX11_becomes_50 (by decide) (by decide) rfl (by decide) ?_
        refine T_aload_n (pc := 76) (i := 0) dX11_becomes_76 rfl rfl ?_
        refine R_getR (pc := 77) (i := 105) fl_X11_62 rfl kc_0 lc_0 rc_0_12 dX11_becomes_77 ?_
        refine R_getI (pc := 80) (x := nI H.length) fl_X11_332 rfl (kt_herd herd105) (lt_herd herd105) qT.size dX11_becomes_80 ?_
        refine R_i2l (pc := 83) (by omega) dX11_becomes_83 ?_
        exact T_lret dX11_becomes_84 rfl (by decide) (by decide) ⟨m1, rfl, rfl, qO⟩
      · rw [if_neg (by decide), if_pos rfl]
        refine T_tableIn (pc := 50) (tgt := 85) dX11_becomes_50 (by decide) (by decide) rfl (by decide) ?_
        refine T_aload_n (pc := 85) (i := 0) dX11_becomes_85 rfl rfl ?_
        refine R_getR (pc := 86) (i := 105) fl_X11_62 rfl kc_0 lc_0 rc_0_12 dX11_becomes_86 ?_
        have h20 := mxN_le qT H.length (Nat.le_refl _)
        refine R_callV1 (pc := 89) (As := []) (rest := []) (Or.inl lk_X11_333) mk_X4_mostBeasts (c_mostBeasts herd105 qT) (kt_herd herd105) ⟨by decide, rfl⟩ (lt_herd herd105) dX11_becomes_89 rfl rfl (Nat.le_of_ble_eq_true rfl) (by decide) rfl (by decide) (by decide) ?_
        refine R_i2l (pc := 92) (by omega) dX11_becomes_92 ?_
        exact T_lret dX11_becomes_93 rfl (by decide) (by decide) ⟨m1, rfl, rfl, qO⟩
      · rw [if_neg (by decide), if_neg (by decide), if_pos rfl]
        refine T_tableIn (pc := 50) (tgt := 94) dX11_becomes_50 (by decide) (by decide) rfl (by decide) ?_
        refine T_aload_n (pc := 94) (i := 0) dX11_becomes_94 rfl rfl ?_
        refine R_getR (pc := 95) (i := 105) fl_X11_62 rfl kc_0 lc_0 rc_0_12 dX11_becomes_95 ?_
        refine T_aload_n (pc := 98) (i := 0) dX11_becomes_98 rfl rfl ?_
        refine R_getR (pc := 99) (i := 97) fl_X11_55 rfl kc_0 lc_0 rc_0_11 dX11_becomes_99 ?_
        have hcl := csN_le (R := X.R) (w := wOf X LL) (H := H) H.length
        refine R_callVm1 (pc := 102) (As := [.ref 97]) (rest := []) (Or.inl lk_X11_336) mk_X4_countSettled (c_countSettled herd105 qT q2) (kt_herd herd105) ⟨by decide, rfl⟩ (lt_herd herd105) dX11_becomes_102 rfl rfl (Nat.le_of_ble_eq_true rfl) (by decide) rfl (by decide) (by decide) (fun m2 p => ?_)
        refine R_i2l (pc := 105) (by omega) dX11_becomes_105 ?_
        exact T_lret dX11_becomes_106 rfl (by decide) (by decide) ⟨m2, rfl, rfl, qO.trans (p.2.mono (fun c => SW_SQ))⟩
      · rw [if_neg (by decide), if_neg (by decide), if_neg (by decide)]
        refine T_tableOut (pc := 50) (tgt := 107) dX11_becomes_50 (Or.inr (by decide)) (by decide) ?_
        refine T_aload_n (pc := 107) (i := 0) dX11_becomes_107 rfl rfl ?_
        refine R_getR (pc := 108) (i := 105) fl_X11_62 rfl kc_0 lc_0 rc_0_12 dX11_becomes_108 ?_
        refine T_aload_n (pc := 111) (i := 0) dX11_becomes_111 rfl rfl ?_
        refine R_getR (pc := 112) (i := 97) fl_X11_55 rfl kc_0 lc_0 rc_0_11 dX11_becomes_112 ?_
        refine R_callVm1 (pc := 115) (As := [.ref 97]) (rest := []) (Or.inl lk_X11_340) mk_X4_leastSettled (c_leastSettled herd105 qT q2) (kt_herd herd105) ⟨by decide, rfl⟩ (lt_herd herd105) dX11_becomes_115 rfl rfl (Nat.le_of_ble_eq_true rfl) (by decide) rfl (by decide) (by decide) (fun m2 p => ?_)
        exact T_lret dX11_becomes_118 rfl (by decide) (by decide) ⟨m2, rfl, rfl, qO.trans (p.2.mono (fun c => SW_SQ))⟩
    · exact absurd h1 (fun z => by cases z)
theorem c_fewest {x y : Int64} {X : Td} {LL : List (List Int32)} (hX : ToldAt μ 3 X) (hL : LawL μ LL) : Ex γ 6 2 12 M_X11_fewest [.ref 0, .long x, .long y] (rm μ) (Ax (if codeB x = true then (if codeB y = true then none else some "java/lang/IllegalArgumentException") else some "java/lang/IllegalArgumentException") (.int (fwN X.R (wOf X LL) (ml y) 1501 [(ml x, 0)] 0 0)) μ (fun m => OfS SQ μ m)) := by
  refine Ex.of (by decide +kernel) rfl (Nat.le_of_ble_eq_true rfl) ?_
  show T _ _ _ _ _ _ _ _ _ [some (.ref 0), some (.long (x)), none, some (.long (y)), none, none] [] (rm μ)
  refine T_lload_n (pc := 0) (i := 1) dX11_fewest_0 rfl rfl ?_
  refine R_chkS (pc := 1) (av := [.long (x)]) (rest := []) (Or.inl lk_X11_169) mk_X11_checkCode c_checkCode dX11_fewest_1 rfl rfl (Nat.le_of_ble_eq_true rfl) (by decide) rfl (by decide) (by decide) (fun z => by rw [if_neg (by rw [z]; decide)]; exact ⟨rfl, rfl⟩) (fun hB => ?_)
  rw [if_pos hB]
  refine T_lload_n (pc := 4) (i := 3) dX11_fewest_4 rfl rfl ?_
  refine R_chkS (pc := 5) (av := [.long (y)]) (rest := []) (Or.inl lk_X11_169) mk_X11_checkCode c_checkCode dX11_fewest_5 rfl rfl (Nat.le_of_ble_eq_true rfl) (by decide) rfl (by decide) (by decide) (fun z => Ax_e (by rw [z]; decide)) (fun hC => ?_)
  rw [if_pos (c := codeB y = true) hC]
  obtain ⟨a, ha, rfl⟩ := codeB_iff.mp hB
  obtain ⟨d, hd, rfl⟩ := codeB_iff.mp hC
  rw [ml_cd ha, ml_cd hd]
  refine T_aload_n (pc := 8) (i := 0) dX11_fewest_8 rfl rfl ?_
  refine R_getR (pc := 9) (i := 97) fl_X11_55 rfl kc_0 lc_0 rc_0_11 dX11_fewest_9 ?_
  refine T_aload_n (pc := 12) (i := 0) dX11_fewest_12 rfl rfl ?_
  refine R_getR (pc := 13) (i := 3) fl_X11_19 rfl kc_0 lc_0 rc_0_1 dX11_fewest_13 ?_
  refine R_callVm0 (pc := 16) (As := [.ref 3]) (rest := []) (Or.inl lk_X11_198) mk_X10_begin (c_Walk_begin hX hL) kc_97 ⟨by decide, rfl⟩ lc_97 dX11_fewest_16 rfl rfl (Nat.le_of_ble_eq_true rfl) (by decide) rfl (by decide) (by decide) (fun m h => ?_)
  obtain ⟨hE0, hO⟩ := h
  have hE : EnvW m X.R LL (wOf X LL) := hE0
  refine T_aload_n (pc := 19) (i := 0) dX11_fewest_19 rfl rfl ?_
  refine R_getR (pc := 20) (i := 105) fl_X11_62 rfl kc_0 lc_0 rc_0_12 dX11_fewest_20 ?_
  refine T_lload_n (pc := 23) (i := 1) dX11_fewest_23 rfl rfl ?_
  refine R_callVm0 (pc := 24) (As := [.long (lN (cd a))]) (rest := []) (Or.inl lk_X11_263) mk_X4_begin (c_Herd_begin herd105 ha) (kt_herd herd105) ⟨by decide, rfl⟩ (lt_herd herd105) dX11_fewest_24 rfl rfl (Nat.le_of_ble_eq_true rfl) (by decide) rfl (by decide) (by decide) (fun m1 k => ?_)
  obtain ⟨⟨k1, k2, k3⟩, k4⟩ := k
  have kE := hE.ofSh herd105 k4
  have kO : OfS SQ μ m1 := (hO.mono (fun c => SW_SQ)).trans (k4.mono (fun c hc => by unfold Sh at hc; unfold SQ; omega))
  refine T_iconst (pc := 27) (v := nI 0) dX11_fewest_27 (by decide) ?_
  refine T_istore (pc := 28) (i := 5) (ls' := [some (.ref 0), some (.long (lN (cd a))), none, some (.long (lN (cd d))), none, some (.int (nI 0))]) dX11_fewest_28 (by decide) rfl ?_
  suffices loop : ∀ (g i lb : Nat) (H : Hd) (m : SM2), i + g = 1501 → lb ≤ H.length → HerdAt m 105 H → m.1 105 4 = nI i → m.1 105 5 = nI lb → EnvW m X.R LL (wOf X LL) → OfS SQ μ m → T γ 6 2 12 M_X11_fewest (Ax none (.int (fwN X.R (wOf X LL) d g H lb i)) μ (fun m => OfS SQ μ m)) (0 + 1 + 1) (0 + 6 + 6) 30 [some (.ref 0), some (.long (lN (cd a))), none, some (.long (lN (cd d))), none, some (.int (nI i))] [] (rm m) by
    exact loop 1501 0 0 [(a, 0)] m1 rfl (Nat.zero_le _) k1 k2 k3 kE kO
  intro g
  induction g with
  | zero =>
    intro i lb H m hg hlb iT i4 i5 iE iO
    refine T_iload (pc := 30) (i := 5) dX11_fewest_30 rfl ?_
    refine T_sipush (pc := 32) (v := nI 1500) dX11_fewest_32 (by decide) ?_
    refine R_icmp_gt (pc := 35) (tgt := 88) (by omega) (by omega) dX11_fewest_35 (by decide) (fun h1 => ?_) (fun h1 => ?_)
    · skip
      refine T_iconst (pc := 88) (v := (-1)) dX11_fewest_88 (by decide) ?_
      exact T_iret (pc := 89) (ty := .int) dX11_fewest_89 rfl rfl (by decide) (by decide) ⟨m, rfl, rfl, iO⟩
    · exact absurd h1 (by omega)
  | succ g ih =>
    intro i lb H m hg hlb iT i4 i5 iE iO
    have iL := iT.len
    have eS : fwN X.R (wOf X LL) d (g + 1) H lb i = if (inK (hKs H) d).isSome = true then nI i else if lb < H.length then (match spI X.R (wOf X LL) (i + 1) H lb (H.length - lb) with | none => -3 | some H' => fwN X.R (wOf X LL) d g H' H.length (i + 1)) else -1 := rfl
    rw [eS]
    refine T_iload (pc := 30) (i := 5) dX11_fewest_30 rfl ?_
    refine T_sipush (pc := 32) (v := nI 1500) dX11_fewest_32 (by decide) ?_
    refine R_icmp_gt (pc := 35) (tgt := 88) (by omega) (by omega) dX11_fewest_35 (by decide) (fun h1 => ?_) (fun h1 => ?_)
    · exact absurd h1 (by omega)
    · skip
      refine T_aload_n (pc := 38) (i := 0) dX11_fewest_38 rfl rfl ?_
      refine R_getR (pc := 39) (i := 105) fl_X11_62 rfl kc_0 lc_0 rc_0_12 dX11_fewest_39 ?_
      refine T_lload_n (pc := 42) (i := 3) dX11_fewest_42 rfl rfl ?_
      refine R_callV1 (pc := 43) (As := [.long (lN (cd d))]) (rest := []) (Or.inl lk_X11_269) mk_X4_indexOf (c_indexOf herd105 iT hd) (kt_herd herd105) ⟨by decide, rfl⟩ (lt_herd herd105) dX11_fewest_43 rfl rfl (Nat.le_of_ble_eq_true rfl) (by decide) rfl (by decide) (by decide) ?_
      refine T_iconst (pc := 46) (v := (-1)) dX11_fewest_46 (by decide) ?_
      cases e3 : inK (hKs H) d with
      | some j =>
        have hj := (inK_lt e3).1
        rw [List.length_map] at hj
        refine T_icmp_eq (pc := 47) (tgt := 53) dX11_fewest_47 (by decide) (fun h3 => ?_) (fun h3 => ?_)
        · exact absurd h3 (nI_ne (by omega))
        · skip
          refine T_iload (pc := 50) (i := 5) dX11_fewest_50 rfl ?_
          rw [if_pos (Option.isSome_some (a := j))]
          exact T_iret (pc := 52) (ty := .int) dX11_fewest_52 rfl rfl (by decide) (by decide) ⟨m, rfl, rfl, iO⟩
      | none =>
        rw [if_neg (c := (none : Option Nat).isSome = true) (by decide)]
        refine T_icmp_eq (pc := 47) (tgt := 53) dX11_fewest_47 (by decide) (fun h3 => ?_) (fun h3 => ?_)
        · skip
          refine T_aload_n (pc := 53) (i := 0) dX11_fewest_53 rfl rfl ?_
          refine R_getR (pc := 54) (i := 105) fl_X11_62 rfl kc_0 lc_0 rc_0_12 dX11_fewest_54 ?_
          refine R_callV1 (pc := 57) (As := []) (rest := []) (Or.inl lk_X11_344) mk_X4_goesOn (c_goesOn herd105 iT i5 (by omega)) (kt_herd herd105) ⟨by decide, rfl⟩ (lt_herd herd105) dX11_fewest_57 rfl rfl (Nat.le_of_ble_eq_true rfl) (by decide) rfl (by decide) (by decide) ?_
          refine R_ifb_ne (pc := 60) (tgt := 65) dX11_fewest_60 (by decide) (fun h4 => ?_) (fun h4 => ?_)
          · skip
            have hlt := of_decide_eq_true h4
            rw [if_pos hlt]
            refine T_aload_n (pc := 65) (i := 0) dX11_fewest_65 rfl rfl ?_
            refine R_getR (pc := 66) (i := 105) fl_X11_62 rfl kc_0 lc_0 rc_0_12 dX11_fewest_66 ?_
            refine T_aload_n (pc := 69) (i := 0) dX11_fewest_69 rfl rfl ?_
            refine R_getR (pc := 70) (i := 97) fl_X11_55 rfl kc_0 lc_0 rc_0_11 dX11_fewest_70 ?_
            refine R_callVm1 (pc := 73) (As := [.ref 97]) (rest := []) (Or.inl lk_X11_348) mk_X4_spreadOnce (c_spreadOnce herd105 iT i4 i5 hlb (by omega) iE) (kt_herd herd105) ⟨by decide, rfl⟩ (lt_herd herd105) dX11_fewest_73 rfl rfl (Nat.le_of_ble_eq_true rfl) (by decide) rfl (by decide) (by decide) (fun m2 q => ?_)
            obtain ⟨q1, q2, q3⟩ := q
            have qO : OfS SQ μ m2 := iO.trans (q3.mono (fun c => SH_SQ herd105))
            cases e2 : spI X.R (wOf X LL) (i + 1) H lb (H.length - lb) with
            | none =>
              refine R_ifb_ne (pc := 76) (tgt := 82) dX11_fewest_76 (by decide) (fun h5 => ?_) (fun h5 => ?_)
              · exact absurd h5 (by decide)
              · skip
                refine T_bipush (pc := 79) (v := (-3)) dX11_fewest_79 (by decide) ?_
                exact T_iret (pc := 81) (ty := .int) dX11_fewest_81 rfl rfl (by decide) (by decide) ⟨m2, rfl, rfl, qO⟩
            | some H1 =>
              obtain ⟨p1, p2, p3⟩ := q1 H1 e2
              have g1 := spI_get e2
              refine R_ifb_ne (pc := 76) (tgt := 82) dX11_fewest_76 (by decide) (fun h5 => ?_) (fun h5 => ?_)
              · skip
                refine R_iinc (pc := 82) (i := 5) (n := 1) (ls' := [some (.ref 0), some (.long (lN (cd a))), none, some (.long (lN (cd d))), none, some (.int (nI (i + 1)))]) dX11_fewest_82 rfl rfl ?_
                refine T_goto (pc := 85) (tgt := 30) dX11_fewest_85 (by decide) ?_
                exact ih (i + 1) H.length H1 m2 (by omega) g1.1 p1 p2 p3 q2 qO
              · exact absurd h5 (fun z => by cases z)
          · skip
            rw [if_neg (of_decide_eq_false h4)]
            refine T_iconst (pc := 63) (v := (-1)) dX11_fewest_63 (by decide) ?_
            exact T_iret (pc := 64) (ty := .int) dX11_fewest_64 rfl rfl (by decide) (by decide) ⟨m, rfl, rfl, iO⟩
        · exact absurd rfl h3
theorem c_meets {x y : Int64} {z : Int32} {b : Bool} {X : Td} {LL : List (List Int32)} (hX : ToldAt μ 3 X) (hL : LawL μ LL) : Ex γ 7 3 18 M_X11_meets [.ref 0, .long x, .long y, .int z, .int (bI b)] (rm μ) (Ax (if codeB x = true then (if codeB y = true then (if chkN z 0 12 = true then none else some "java/lang/IllegalArgumentException") else some "java/lang/IllegalArgumentException") else some "java/lang/IllegalArgumentException") (.long (meV X.R (wOf X LL) (ml x) (ml y) z.toNatClampNeg b)) μ (fun m => OfS SQ μ m)) := by
  refine Ex.of (by decide +kernel) rfl (Nat.le_of_ble_eq_true rfl) ?_
  show T _ _ _ _ _ _ _ _ _ [some (.ref 0), some (.long (x)), none, some (.long (y)), none, some (.int (z)), some (.int (bI b)), none, none, none, none, none, none] [] (rm μ)
  refine T_lload_n (pc := 0) (i := 1) dX11_meets_0 rfl rfl ?_
  refine R_chkS (pc := 1) (av := [.long (x)]) (rest := []) (Or.inl lk_X11_169) mk_X11_checkCode c_checkCode dX11_meets_1 rfl rfl (Nat.le_of_ble_eq_true rfl) (by decide) rfl (by decide) (by decide) (fun z => by rw [if_neg (by rw [z]; decide)]; exact ⟨rfl, rfl⟩) (fun hcA => ?_)
  rw [if_pos hcA]
  refine T_lload_n (pc := 4) (i := 3) dX11_meets_4 rfl rfl ?_
  refine R_chkS (pc := 5) (av := [.long (y)]) (rest := []) (Or.inl lk_X11_169) mk_X11_checkCode c_checkCode dX11_meets_5 rfl rfl (Nat.le_of_ble_eq_true rfl) (by decide) rfl (by decide) (by decide) (fun z => by rw [if_neg (by rw [z]; decide)]; exact ⟨rfl, rfl⟩) (fun hB => ?_)
  rw [if_pos hB]
  refine T_iload (pc := 8) (i := 5) dX11_meets_8 rfl ?_
  refine T_iconst (pc := 10) (v := nI 0) dX11_meets_10 (by decide) ?_
  refine T_bipush (pc := 11) (v := nI 12) dX11_meets_11 (by decide) ?_
  refine R_chkS (pc := 13) (av := [.int (z), .int (nI 0), .int (nI 12)]) (rest := []) (Or.inl lk_X11_215) mk_X11_checkNumber c_checkNumber dX11_meets_13 rfl rfl (Nat.le_of_ble_eq_true rfl) (by decide) rfl (by decide) (by decide) (fun z => Ax_e (by unfold chkN; rw [z]; decide)) (fun hC => ?_)
  rw [if_pos (c := chkN z 0 12 = true) hC]
  obtain ⟨a, ha, rfl⟩ := codeB_iff.mp hcA
  obtain ⟨d, hd, rfl⟩ := codeB_iff.mp hB
  obtain ⟨N, -, hN, rfl⟩ := chk_of (by decide) (by decide) hC
  rw [ml_cd ha, ml_cd hd, nI_clamp (n := N) (by omega)]
  refine T_aload_n (pc := 16) (i := 0) dX11_meets_16 rfl rfl ?_
  refine R_getR (pc := 17) (i := 97) fl_X11_55 rfl kc_0 lc_0 rc_0_11 dX11_meets_17 ?_
  refine T_aload_n (pc := 20) (i := 0) dX11_meets_20 rfl rfl ?_
  refine R_getR (pc := 21) (i := 3) fl_X11_19 rfl kc_0 lc_0 rc_0_1 dX11_meets_21 ?_
  refine R_callVm0 (pc := 24) (As := [.ref 3]) (rest := []) (Or.inl lk_X11_198) mk_X10_begin (c_Walk_begin hX hL) kc_97 ⟨by decide, rfl⟩ lc_97 dX11_meets_24 rfl rfl (Nat.le_of_ble_eq_true rfl) (by decide) rfl (by decide) (by decide) (fun m h => ?_)
  obtain ⟨hE0, hO⟩ := h
  have hE : EnvW m X.R LL (wOf X LL) := hE0
  refine T_aload_n (pc := 27) (i := 0) dX11_meets_27 rfl rfl ?_
  refine R_getR (pc := 28) (i := 105) fl_X11_62 rfl kc_0 lc_0 rc_0_12 dX11_meets_28 ?_
  refine T_aload_n (pc := 31) (i := 0) dX11_meets_31 rfl rfl ?_
  refine R_getR (pc := 32) (i := 97) fl_X11_55 rfl kc_0 lc_0 rc_0_11 dX11_meets_32 ?_
  refine T_lload_n (pc := 35) (i := 1) dX11_meets_35 rfl rfl ?_
  refine T_iload (pc := 36) (i := 5) dX11_meets_36 rfl ?_
  refine R_callVm1 (pc := 38) (As := [.ref 97, .long (lN (cd a)), .int (nI N)]) (rest := []) (Or.inl lk_X11_326) mk_X4_spread (c_spread herd105 hE ha (by omega)) (kt_herd herd105) ⟨by decide, rfl⟩ (lt_herd herd105) dX11_meets_38 rfl rfl (Nat.le_of_ble_eq_true rfl) (by decide) rfl (by decide) (by decide) (fun m1 q => ?_)
  obtain ⟨q1, q2, q3⟩ := q
  have qO : OfS SQ μ m1 := (hO.mono (fun c => SW_SQ)).trans (q3.mono (fun c => SH_SQ herd105))
  cases e : spd X.R (wOf X LL) a N with
  | none =>
    have ev : meV X.R (wOf X LL) a d N b = -3 := by unfold meV; rw [e]
    rw [ev]
    refine R_ifb_eq (pc := 41) (tgt := 61) dX11_meets_41 (by decide) (fun h1 => ?_) (fun h1 => ?_)
    · skip
      refine T_ldc2 (pc := 61) dX11_meets_61 cn_X11_330 ?_
      exact T_lret dX11_meets_64 rfl (by decide) (by decide) ⟨m1, rfl, rfl, qO⟩
    · exact absurd h1 (by decide)
  | some H1 =>
    have ev : meV X.R (wOf X LL) a d N b = match spd X.R (wOf X LL) d N with | none => -3 | some H2 => mtV (mtN H1 H2 H1.length) b := by unfold meV; rw [e]
    rw [ev]
    refine R_ifb_eq (pc := 41) (tgt := 61) dX11_meets_41 (by decide) (fun h1 => ?_) (fun h1 => ?_)
    · exact absurd h1 (fun z => by cases z)
    · skip
      refine T_aload_n (pc := 44) (i := 0) dX11_meets_44 rfl rfl ?_
      refine R_getR (pc := 45) (i := 109) fl_X11_66 rfl kc_0 lc_0 rc_0_13 dX11_meets_45 ?_
      refine T_aload_n (pc := 48) (i := 0) dX11_meets_48 rfl rfl ?_
      refine R_getR (pc := 49) (i := 97) fl_X11_55 rfl kc_0 lc_0 rc_0_11 dX11_meets_49 ?_
      refine T_lload_n (pc := 52) (i := 3) dX11_meets_52 rfl rfl ?_
      refine T_iload (pc := 53) (i := 5) dX11_meets_53 rfl ?_
      refine R_callVm1 (pc := 55) (As := [.ref 97, .long (lN (cd d)), .int (nI N)]) (rest := []) (Or.inl lk_X11_326) mk_X4_spread (c_spread herd109 q2 hd (by omega)) (kt_herd herd109) ⟨by decide, rfl⟩ (lt_herd herd109) dX11_meets_55 rfl rfl (Nat.le_of_ble_eq_true rfl) (by decide) rfl (by decide) (by decide) (fun m2 p => ?_)
      obtain ⟨p1, p2, p3⟩ := p
      have pO : OfS SQ μ m2 := qO.trans (p3.mono (fun c => SH_SQ herd109))
      cases e2 : spd X.R (wOf X LL) d N with
      | none =>
        refine R_ifb_ne (pc := 58) (tgt := 65) dX11_meets_58 (by decide) (fun h2 => ?_) (fun h2 => ?_)
        · exact absurd h2 (by decide)
        · skip
          refine T_ldc2 (pc := 61) dX11_meets_61 cn_X11_330 ?_
          exact T_lret dX11_meets_64 rfl (by decide) (by decide) ⟨m2, rfl, rfl, pO⟩
      | some H2 =>
        have T1 : HerdAt m2 105 H1 := (q1 H1 e).ofs p3 (fun c h1 h2 => by unfold SH SW Sh; omega)
        have T2 : HerdAt m2 109 H2 := p1 H2 e2
        have f1 := spd_far e
        have f2 := spd_far e2
        have L1 := T1.len
        have L2 := T2.len
        have mOk := mtN_ok (n := N) T1 f1 f2
        refine R_ifb_ne (pc := 58) (tgt := 65) dX11_meets_58 (by decide) (fun h2 => ?_) (fun h2 => ?_)
        · skip
          refine T_iconst (pc := 65) (v := (-1)) dX11_meets_65 (by decide) ?_
          refine T_istore (pc := 66) (i := 7) (ls' := [some (.ref 0), some (.long (lN (cd a))), none, some (.long (lN (cd d))), none, some (.int (nI N)), some (.int (bI b)), some (.int ((-1))), none, none, none, none, none]) dX11_meets_66 (by decide) rfl ?_
          refine T_ldc2 (pc := 68) dX11_meets_68 cn_X11_260 ?_
          refine T_lstore (pc := 71) (i := 8) (ls' := [some (.ref 0), some (.long (lN (cd a))), none, some (.long (lN (cd d))), none, some (.int (nI N)), some (.int (bI b)), some (.int ((-1))), some (.long ((-1))), none, none, none, none]) dX11_meets_71 (by decide) rfl ?_
          refine T_iconst (pc := 73) (v := nI 0) dX11_meets_73 (by decide) ?_
          refine T_istore (pc := 74) (i := 10) (ls' := [some (.ref 0), some (.long (lN (cd a))), none, some (.long (lN (cd d))), none, some (.int (nI N)), some (.int (bI b)), some (.int ((-1))), some (.long ((-1))), none, some (.int (nI 0)), none, none]) dX11_meets_74 (by decide) rfl ?_
          suffices loop : ∀ (g i : Nat), i + g = H1.length → T γ 7 3 18 M_X11_meets (Ax none (.long (mtV (mtN H1 H2 H1.length) b)) μ (fun m => OfS SQ μ m)) (0 + 1 + 1 + 1) (0 + 6 + 6 + 6) 76 [some (.ref 0), some (.long (lN (cd a))), none, some (.long (lN (cd d))), none, some (.int (nI N)), some (.int (bI b)), some (.int (mtF (mtN H1 H2 i))), some (.long (vO ((mtN H1 H2 i).map (fun q => q.2)))), none, some (.int (nI i)), none, none] [] (rm m2) by
            exact loop H1.length 0 (Nat.zero_add _)
          intro g
          induction g with
          | zero =>
            intro i hi
            obtain rfl : i = H1.length := by omega
            cases eo : mtN H1 H2 H1.length with
            | none =>
              refine T_iload (pc := 76) (i := 10) dX11_meets_76 rfl ?_
              refine T_aload_n (pc := 78) (i := 0) dX11_meets_78 rfl rfl ?_
              refine R_getR (pc := 79) (i := 105) fl_X11_62 rfl kc_0 lc_0 rc_0_12 dX11_meets_79 ?_
              refine R_getI (pc := 82) (x := nI H1.length) fl_X11_332 rfl (kt_herd herd105) (lt_herd herd105) T1.size dX11_meets_82 ?_
              refine R_icmp_ge (pc := 85) (tgt := 194) (by omega) (by omega) dX11_meets_85 (by decide) (fun h3 => ?_) (fun h3 => ?_)
              · skip
                refine T_iload (pc := 194) (i := 6) dX11_meets_194 rfl ?_
                refine R_ifb_eq (pc := 196) (tgt := 204) dX11_meets_196 (by decide) (fun h4 => ?_) (fun h4 => ?_)
                · skip
                  subst h4
                  refine T_iload (pc := 204) (i := 7) dX11_meets_204 rfl ?_
                  refine T_i2l (pc := 206) dX11_meets_206 ?_
                  exact T_lret dX11_meets_207 rfl (by decide) (by decide) ⟨m2, rfl, rfl, pO⟩
                · skip
                  subst h4
                  refine T_lload (pc := 199) (i := 8) dX11_meets_199 rfl ?_
                  refine T_goto (pc := 201) (tgt := 207) dX11_meets_201 (by decide) ?_
                  exact T_lret dX11_meets_207 rfl (by decide) (by decide) ⟨m2, rfl, rfl, pO⟩
              · exact absurd h3 (by omega)
            | some q =>
              obtain ⟨o1, o2⟩ := mOk _ (Nat.le_refl _) q eo
              refine T_iload (pc := 76) (i := 10) dX11_meets_76 rfl ?_
              refine T_aload_n (pc := 78) (i := 0) dX11_meets_78 rfl rfl ?_
              refine R_getR (pc := 79) (i := 105) fl_X11_62 rfl kc_0 lc_0 rc_0_12 dX11_meets_79 ?_
              refine R_getI (pc := 82) (x := nI H1.length) fl_X11_332 rfl (kt_herd herd105) (lt_herd herd105) T1.size dX11_meets_82 ?_
              refine R_icmp_ge (pc := 85) (tgt := 194) (by omega) (by omega) dX11_meets_85 (by decide) (fun h3 => ?_) (fun h3 => ?_)
              · skip
                refine T_iload (pc := 194) (i := 6) dX11_meets_194 rfl ?_
                refine R_ifb_eq (pc := 196) (tgt := 204) dX11_meets_196 (by decide) (fun h4 => ?_) (fun h4 => ?_)
                · skip
                  subst h4
                  refine T_iload (pc := 204) (i := 7) dX11_meets_204 rfl ?_
                  refine R_i2l (pc := 206) (by omega) dX11_meets_206 ?_
                  exact T_lret dX11_meets_207 rfl (by decide) (by decide) ⟨m2, rfl, rfl, pO⟩
                · skip
                  subst h4
                  refine T_lload (pc := 199) (i := 8) dX11_meets_199 rfl ?_
                  refine T_goto (pc := 201) (tgt := 207) dX11_meets_201 (by decide) ?_
                  exact T_lret dX11_meets_207 rfl (by decide) (by decide) ⟨m2, rfl, rfl, pO⟩
              · exact absurd h3 (by omega)
          | succ g ih =>
            intro i hi
            have h9 := ih (i + 1) (by omega)
            have row := T1.row i (by omega)
            have eS : mtN H1 H2 (i + 1) = match inK (hKs H2) (hA H1 i).1 with | none => mtN H1 H2 i | some j => if mtL (mtN H1 H2 i) ((hA H1 i).2 + (hA H2 j).2) (hA H1 i).1 = true then some ((hA H1 i).2 + (hA H2 j).2, (hA H1 i).1) else mtN H1 H2 i := rfl
            rw [eS] at h9
            refine T_iload (pc := 76) (i := 10) dX11_meets_76 rfl ?_
            refine T_aload_n (pc := 78) (i := 0) dX11_meets_78 rfl rfl ?_
            refine R_getR (pc := 79) (i := 105) fl_X11_62 rfl kc_0 lc_0 rc_0_12 dX11_meets_79 ?_
            refine R_getI (pc := 82) (x := nI H1.length) fl_X11_332 rfl (kt_herd herd105) (lt_herd herd105) T1.size dX11_meets_82 ?_
            refine R_icmp_ge (pc := 85) (tgt := 194) (by omega) (by omega) dX11_meets_85 (by decide) (fun h3 => ?_) (fun h3 => ?_)
            · exact absurd h3 (by omega)
            · skip
              refine T_aload_n (pc := 88) (i := 0) dX11_meets_88 rfl rfl ?_
              refine R_getR (pc := 89) (i := 109) fl_X11_66 rfl kc_0 lc_0 rc_0_13 dX11_meets_89 ?_
              refine T_aload_n (pc := 92) (i := 0) dX11_meets_92 rfl rfl ?_
              refine R_getR (pc := 93) (i := 105) fl_X11_62 rfl kc_0 lc_0 rc_0_12 dX11_meets_93 ?_
              refine R_getR (pc := 96) (i := 106) fl_X11_352 rfl (kt_herd herd105) (lt_herd herd105) (rt_herd_codes herd105) dX11_meets_96 ?_
              refine T_iload (pc := 99) (i := 10) dX11_meets_99 rfl ?_
              refine R_lald (pc := 101) (x := lN (cd (hA H1 i).1)) (kt_herd_codes herd105) (lt_herd_codes herd105) (by omega) (by first | decide | assumption) row.2.1 dX11_meets_101 ?_
              refine R_callV1 (pc := 102) (As := [.long (lN (cd (hA H1 i).1))]) (rest := []) (Or.inl lk_X11_269) mk_X4_indexOf (c_indexOf herd109 T2 row.1) (kt_herd herd109) ⟨by decide, rfl⟩ (lt_herd herd109) dX11_meets_102 rfl rfl (Nat.le_of_ble_eq_true rfl) (by decide) rfl (by decide) (by decide) ?_
              refine T_istore (pc := 105) (i := 11) (ls' := [some (.ref 0), some (.long (lN (cd a))), none, some (.long (lN (cd d))), none, some (.int (nI N)), some (.int (bI b)), some (.int ((mtF (mtN H1 H2 i)))), some (.long ((vS (mtN H1 H2 i)))), none, some (.int (nI i)), some (.int ((oN (inK (hKs H2) (hA H1 i).1)))), none]) dX11_meets_105 (by decide) rfl ?_
              refine T_iload (pc := 107) (i := 11) dX11_meets_107 rfl ?_
              refine T_iconst (pc := 109) (v := (-1)) dX11_meets_109 (by decide) ?_
              cases ek : inK (hKs H2) (hA H1 i).1 with
              | none =>
                rw [ek] at h9
                refine T_icmp_eq (pc := 110) (tgt := 188) dX11_meets_110 (by decide) (fun h4 => ?_) (fun h4 => ?_)
                · skip
                  refine R_iinc (pc := 188) (i := 10) (n := 1) (ls' := [some (.ref 0), some (.long (lN (cd a))), none, some (.long (lN (cd d))), none, some (.int (nI N)), some (.int (bI b)), some (.int ((mtF (mtN H1 H2 i)))), some (.long ((vS (mtN H1 H2 i)))), none, some (.int (nI (i + 1))), some (.int ((-1))), none]) dX11_meets_188 rfl rfl ?_
                  refine T_goto (pc := 191) (tgt := 76) dX11_meets_191 (by decide) ?_
                  refine T_ls (ls' := [some (.ref 0), some (.long (lN (cd a))), none, some (.long (lN (cd d))), none, some (.int (nI N)), some (.int (bI b)), some (.int ((mtF (mtN H1 H2 i)))), some (.long ((vS (mtN H1 H2 i)))), none, some (.int (nI (i + 1))), none, none]) (And.intro rfl (And.intro rfl (And.intro rfl (And.intro rfl (And.intro rfl (And.intro rfl (And.intro rfl (And.intro rfl True.intro)))))))) ?_
                  exact h9
                · exact absurd rfl h4
              | some j =>
                rw [ek] at h9
                have hj := (inK_lt ek).1
                rw [List.length_map] at hj
                have a1 := f1 i (by omega)
                have a2 := f2 j hj
                have row2 := T2.row j hj
                have b1 := cd_lt row.1
                have better : mtL (mtN H1 H2 i) ((hA H1 i).2 + (hA H2 j).2) (hA H1 i).1 = true → ∀ (u : Int32) (v : Int64), T γ 7 3 18 M_X11_meets (Ax none (.long (mtV (mtN H1 H2 H1.length) b)) μ (fun m => OfS SQ μ m)) (0 + 1 + 1 + 1) (0 + 6 + 6 + 6) 172 [some (.ref 0), some (.long (lN (cd a))), none, some (.long (lN (cd d))), none, some (.int (nI N)), some (.int (bI b)), some (.int u), some (.long v), none, some (.int (nI i)), some (.int (nI j)), some (.int (nI ((hA H1 i).2 + (hA H2 j).2)))] [] (rm m2) := fun hb u v => by
                  have h8 : T γ 7 3 18 M_X11_meets (Ax none (.long (mtV (mtN H1 H2 H1.length) b)) μ (fun m => OfS SQ μ m)) (0 + 1 + 1 + 1) (0 + 6 + 6 + 6) 76 [some (.ref 0), some (.long (lN (cd a))), none, some (.long (lN (cd d))), none, some (.int (nI N)), some (.int (bI b)), some (.int (mtF (if mtL (mtN H1 H2 i) ((hA H1 i).2 + (hA H2 j).2) (hA H1 i).1 = true then some ((hA H1 i).2 + (hA H2 j).2, (hA H1 i).1) else mtN H1 H2 i))), some (.long (vO ((if mtL (mtN H1 H2 i) ((hA H1 i).2 + (hA H2 j).2) (hA H1 i).1 = true then some ((hA H1 i).2 + (hA H2 j).2, (hA H1 i).1) else mtN H1 H2 i).map (fun q => q.2)))), none, some (.int (nI (i + 1))), none, none] [] (rm m2) := h9
                  rw [if_pos hb] at h8
                  refine T_iload (pc := 172) (i := 12) dX11_meets_172 rfl ?_
                  refine T_istore (pc := 174) (i := 7) (ls' := [some (.ref 0), some (.long (lN (cd a))), none, some (.long (lN (cd d))), none, some (.int (nI N)), some (.int (bI b)), some (.int (nI ((hA H1 i).2 + (hA H2 j).2))), some (.long (v)), none, some (.int (nI i)), some (.int (nI j)), some (.int (nI ((hA H1 i).2 + (hA H2 j).2)))]) dX11_meets_174 (by decide) rfl ?_
                  refine T_aload_n (pc := 176) (i := 0) dX11_meets_176 rfl rfl ?_
                  refine R_getR (pc := 177) (i := 105) fl_X11_62 rfl kc_0 lc_0 rc_0_12 dX11_meets_177 ?_
                  refine R_getR (pc := 180) (i := 106) fl_X11_352 rfl (kt_herd herd105) (lt_herd herd105) (rt_herd_codes herd105) dX11_meets_180 ?_
                  refine T_iload (pc := 183) (i := 10) dX11_meets_183 rfl ?_
                  refine R_lald (pc := 185) (x := lN (cd (hA H1 i).1)) (kt_herd_codes herd105) (lt_herd_codes herd105) (by omega) (by first | decide | assumption) row.2.1 dX11_meets_185 ?_
                  refine T_lstore (pc := 186) (i := 8) (ls' := [some (.ref 0), some (.long (lN (cd a))), none, some (.long (lN (cd d))), none, some (.int (nI N)), some (.int (bI b)), some (.int (nI ((hA H1 i).2 + (hA H2 j).2))), some (.long (lN (cd (hA H1 i).1))), none, some (.int (nI i)), some (.int (nI j)), some (.int (nI ((hA H1 i).2 + (hA H2 j).2)))]) dX11_meets_186 (by decide) rfl ?_
                  refine R_iinc (pc := 188) (i := 10) (n := 1) (ls' := [some (.ref 0), some (.long (lN (cd a))), none, some (.long (lN (cd d))), none, some (.int (nI N)), some (.int (bI b)), some (.int (nI ((hA H1 i).2 + (hA H2 j).2))), some (.long (lN (cd (hA H1 i).1))), none, some (.int (nI (i + 1))), some (.int (nI j)), some (.int (nI ((hA H1 i).2 + (hA H2 j).2)))]) dX11_meets_188 rfl rfl ?_
                  refine T_goto (pc := 191) (tgt := 76) dX11_meets_191 (by decide) ?_
                  refine T_ls (ls' := [some (.ref 0), some (.long (lN (cd a))), none, some (.long (lN (cd d))), none, some (.int (nI N)), some (.int (bI b)), some (.int (nI ((hA H1 i).2 + (hA H2 j).2))), some (.long (lN (cd (hA H1 i).1))), none, some (.int (nI (i + 1))), none, none]) (And.intro rfl (And.intro rfl (And.intro rfl (And.intro rfl (And.intro rfl (And.intro rfl (And.intro rfl (And.intro rfl True.intro)))))))) ?_
                  exact h8
                have worse : mtL (mtN H1 H2 i) ((hA H1 i).2 + (hA H2 j).2) (hA H1 i).1 = false → T γ 7 3 18 M_X11_meets (Ax none (.long (mtV (mtN H1 H2 H1.length) b)) μ (fun m => OfS SQ μ m)) (0 + 1 + 1 + 1) (0 + 6 + 6 + 6) 188 [some (.ref 0), some (.long (lN (cd a))), none, some (.long (lN (cd d))), none, some (.int (nI N)), some (.int (bI b)), some (.int (mtF (mtN H1 H2 i))), some (.long (vO ((mtN H1 H2 i).map (fun q => q.2)))), none, some (.int (nI i)), some (.int (nI j)), some (.int (nI ((hA H1 i).2 + (hA H2 j).2)))] [] (rm m2) := fun hb => by
                  have h8 : T γ 7 3 18 M_X11_meets (Ax none (.long (mtV (mtN H1 H2 H1.length) b)) μ (fun m => OfS SQ μ m)) (0 + 1 + 1 + 1) (0 + 6 + 6 + 6) 76 [some (.ref 0), some (.long (lN (cd a))), none, some (.long (lN (cd d))), none, some (.int (nI N)), some (.int (bI b)), some (.int (mtF (if mtL (mtN H1 H2 i) ((hA H1 i).2 + (hA H2 j).2) (hA H1 i).1 = true then some ((hA H1 i).2 + (hA H2 j).2, (hA H1 i).1) else mtN H1 H2 i))), some (.long (vO ((if mtL (mtN H1 H2 i) ((hA H1 i).2 + (hA H2 j).2) (hA H1 i).1 = true then some ((hA H1 i).2 + (hA H2 j).2, (hA H1 i).1) else mtN H1 H2 i).map (fun q => q.2)))), none, some (.int (nI (i + 1))), none, none] [] (rm m2) := h9
                  rw [if_neg (by rw [hb]; decide)] at h8
                  refine R_iinc (pc := 188) (i := 10) (n := 1) (ls' := [some (.ref 0), some (.long (lN (cd a))), none, some (.long (lN (cd d))), none, some (.int (nI N)), some (.int (bI b)), some (.int ((mtF (mtN H1 H2 i)))), some (.long ((vS (mtN H1 H2 i)))), none, some (.int (nI (i + 1))), some (.int (nI j)), some (.int (nI ((hA H1 i).2 + (hA H2 j).2)))]) dX11_meets_188 rfl rfl ?_
                  refine T_goto (pc := 191) (tgt := 76) dX11_meets_191 (by decide) ?_
                  refine T_ls (ls' := [some (.ref 0), some (.long (lN (cd a))), none, some (.long (lN (cd d))), none, some (.int (nI N)), some (.int (bI b)), some (.int ((mtF (mtN H1 H2 i)))), some (.long ((vS (mtN H1 H2 i)))), none, some (.int (nI (i + 1))), none, none]) (And.intro rfl (And.intro rfl (And.intro rfl (And.intro rfl (And.intro rfl (And.intro rfl (And.intro rfl (And.intro rfl True.intro)))))))) ?_
                  exact h8
                refine T_icmp_eq (pc := 110) (tgt := 188) dX11_meets_110 (by decide) (fun h4 => ?_) (fun h4 => ?_)
                · exact absurd h4 (nI_ne (by omega))
                · skip
                  refine T_aload_n (pc := 113) (i := 0) dX11_meets_113 rfl rfl ?_
                  refine R_getR (pc := 114) (i := 105) fl_X11_62 rfl kc_0 lc_0 rc_0_12 dX11_meets_114 ?_
                  refine R_getR (pc := 117) (i := 107) fl_X11_355 rfl (kt_herd herd105) (lt_herd herd105) (rt_herd_far herd105) dX11_meets_117 ?_
                  refine T_iload (pc := 120) (i := 10) dX11_meets_120 rfl ?_
                  refine R_iald (pc := 122) (x := nI ((hA H1 i).2)) (kt_herd_far herd105) (lt_herd_far herd105) (by omega) (by first | decide | assumption) row.2.2 dX11_meets_122 ?_
                  refine T_aload_n (pc := 123) (i := 0) dX11_meets_123 rfl rfl ?_
                  refine R_getR (pc := 124) (i := 109) fl_X11_66 rfl kc_0 lc_0 rc_0_13 dX11_meets_124 ?_
                  refine R_getR (pc := 127) (i := 111) fl_X11_355 rfl (kt_herd herd109) (lt_herd herd109) (rt_herd_far herd109) dX11_meets_127 ?_
                  refine T_iload (pc := 130) (i := 11) dX11_meets_130 rfl ?_
                  refine R_iald (pc := 132) (x := nI ((hA H2 j).2)) (kt_herd_far herd109) (lt_herd_far herd109) (by omega) (by first | decide | assumption) row2.2.2 dX11_meets_132 ?_
                  refine R_iadd (pc := 133) dX11_meets_133 ?_
                  refine T_istore (pc := 134) (i := 12) (ls' := [some (.ref 0), some (.long (lN (cd a))), none, some (.long (lN (cd d))), none, some (.int (nI N)), some (.int (bI b)), some (.int ((mtF (mtN H1 H2 i)))), some (.long ((vS (mtN H1 H2 i)))), none, some (.int (nI i)), some (.int (nI j)), some (.int (nI (((hA H1 i).2) + ((hA H2 j).2))))]) dX11_meets_134 (by decide) rfl ?_
                  refine T_iload (pc := 136) (i := 7) dX11_meets_136 rfl ?_
                  refine T_iconst (pc := 138) (v := (-1)) dX11_meets_138 (by decide) ?_
                  cases eo : mtN H1 H2 i with
                  | none =>
                    rw [eo] at better
                    refine T_icmp_eq (pc := 139) (tgt := 172) dX11_meets_139 (by decide) (fun h5 => ?_) (fun h5 => ?_)
                    · exact better rfl _ _
                    · exact absurd rfl h5
                  | some q =>
                    obtain ⟨o1, o2⟩ := mOk i (by omega) q eo
                    have b2 := cd_lt o2
                    rw [eo] at better worse
                    have em : mtL (some q) ((hA H1 i).2 + (hA H2 j).2) (hA H1 i).1 = (decide ((hA H1 i).2 + (hA H2 j).2 < q.1) || (decide ((hA H1 i).2 + (hA H2 j).2 = q.1) && decide (cd (hA H1 i).1 < cd q.2))) := rfl
                    rw [em] at better worse
                    show T _ _ _ _ _ _ _ _ 139 [some (.ref 0), some (.long (lN (cd a))), none, some (.long (lN (cd d))), none, some (.int (nI N)), some (.int (bI b)), some (.int (nI q.1)), some (.long (lN (cd q.2))), none, some (.int (nI i)), some (.int (nI j)), some (.int (nI ((hA H1 i).2 + (hA H2 j).2)))] [.int ((-1)), .int (nI q.1)] (rm m2)
                    refine T_icmp_eq (pc := 139) (tgt := 172) dX11_meets_139 (by decide) (fun h5 => ?_) (fun h5 => ?_)
                    · exact absurd h5 (nI_ne (by omega))
                    · skip
                      refine T_iload (pc := 142) (i := 12) dX11_meets_142 rfl ?_
                      refine T_iload (pc := 144) (i := 7) dX11_meets_144 rfl ?_
                      refine R_icmp_lt (pc := 146) (tgt := 172) (by omega) (by omega) dX11_meets_146 (by decide) (fun h6 => ?_) (fun h6 => ?_)
                      · exact better (by rw [decide_eq_true h6]; rfl) _ _
                      · skip
                        refine T_iload (pc := 149) (i := 12) dX11_meets_149 rfl ?_
                        refine T_iload (pc := 151) (i := 7) dX11_meets_151 rfl ?_
                        refine R_icmp_ne (pc := 153) (tgt := 188) (by omega) (by omega) dX11_meets_153 (by decide) (fun h7 => ?_) (fun h7 => ?_)
                        · exact worse (by rw [decide_eq_false (by omega), decide_eq_false h7]; rfl)
                        · skip
                          refine T_aload_n (pc := 156) (i := 0) dX11_meets_156 rfl rfl ?_
                          refine R_getR (pc := 157) (i := 105) fl_X11_62 rfl kc_0 lc_0 rc_0_12 dX11_meets_157 ?_
                          refine R_getR (pc := 160) (i := 106) fl_X11_352 rfl (kt_herd herd105) (lt_herd herd105) (rt_herd_codes herd105) dX11_meets_160 ?_
                          refine T_iload (pc := 163) (i := 10) dX11_meets_163 rfl ?_
                          refine R_lald (pc := 165) (x := lN (cd (hA H1 i).1)) (kt_herd_codes herd105) (lt_herd_codes herd105) (by omega) (by first | decide | assumption) row.2.1 dX11_meets_165 ?_
                          refine T_lload (pc := 166) (i := 8) dX11_meets_166 rfl ?_
                          refine T_lcmp (pc := 168) dX11_meets_168 ?_
                          refine R_ln_ge (pc := 169) (tgt := 188) (by omega) (by omega) dX11_meets_169 (by decide) (fun h8 => ?_) (fun h8 => ?_)
                          · exact worse (by rw [decide_eq_false (by omega), decide_eq_false (p := cd (hA H1 i).1 < cd q.2) (by omega)]; simp)
                          · exact better (by rw [decide_eq_true h7, decide_eq_true h8]; simp) _ _
        · exact absurd h2 (fun z => by cases z)
end AG

