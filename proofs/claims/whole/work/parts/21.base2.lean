/-! the class's own: what becomes of a meadow, CODES told by a caller, checks -/
/-- the number is as it should be: it goes on; else it throws E -/
def Tq (b : Bool) (E : String) (μ : SM2) : Out → SMem → Prop := fun o m => m = rm μ ∧ o = (if b = true then Sum.inl none else Sum.inr E)
section RK
variable {γ : Ga} {d mc ms : Nat} {M : MI} {Q : Out → SMem → Prop} {kc ks : Nat} {pc : Nat} {ls : List (Option Value)} {μ : SM2}
variable {d' mc' ms' n idx : Nat} {M' : MI} {av As rest st : List Value} {B : Bool} {E : String}
theorem R_chkS (hl9 : LkS M.1.cls idx M' ∨ LkSN M.1.cls idx M') (hm : MOk M' n) (hE : Ex γ d' mc' ms' M' av (rm μ) (Tq B E μ)) (hd : decode (Mb M) pc = .ok (.invokestatic idx, 3)) (hst : st = av.reverse ++ rest) (hn : av.length = n) (hw : (rest.map fun v => v.category).sum ≤ 8) (hdd : d' < d) (hno : Mh M = []) (h1 : kc + mc' ≤ mc) (h2 : ks + ms' ≤ ms) (hx : B = false → Q (.inr E) (rm μ)) (kk : B = true → T γ d mc ms M Q (kc + mc') (ks + ms') (pc + 3) ls rest (rm μ)) : T γ d mc ms M Q kc ks pc ls st (rm μ) :=
  T_callS hl9 hm hE hd hst hn hw hdd hno h1 h2 (fun E' m' h => by
    obtain ⟨rfl, h3⟩ := h
    cases B with
    | true => cases h3
    | false => cases h3; exact hx rfl) (fun v' m' h => by
    obtain ⟨rfl, h3⟩ := h
    cases B with
    | true => cases h3; exact kk rfl
    | false => cases h3)
theorem R_chkV {b c : Nat} (hl9 : LkV M.1.cls idx M' ∨ LkVN M.1.cls idx M') (hm : MOk M' n) (hE : Ex γ d' mc' ms' M' (.ref b :: As) (rm μ) (Tq B E μ)) (hk : KT b = (0, c)) (hc : c < 13 ∧ (cl3 c).1 = M'.1.cls) (hb : b < N0) (hd : decode (Mb M) pc = .ok (.invokevirtual idx, 3)) (hst : st = As.reverse ++ .ref b :: rest) (hn : As.length = n) (hw : (rest.map fun v => v.category).sum ≤ 8) (hdd : d' < d) (hno : Mh M = []) (h1 : kc + mc' ≤ mc) (h2 : ks + ms' ≤ ms) (hx : B = false → Q (.inr E) (rm μ)) (kk : B = true → T γ d mc ms M Q (kc + mc') (ks + ms') (pc + 3) ls rest (rm μ)) : T γ d mc ms M Q kc ks pc ls st (rm μ) :=
  T_callV hl9 hm hE hk hc hb hd hst hn hw hdd hno h1 h2 (fun E' m' h => by
    obtain ⟨rfl, h3⟩ := h
    cases B with
    | true => cases h3
    | false => cases h3; exact hx rfl) (fun v' m' h => by
    obtain ⟨rfl, h3⟩ := h
    cases B with
    | true => cases h3; exact kk rfl
    | false => cases h3)
end RK
/-- whether one becomes the other by L for R at some place from p on, f of them -/
def cbF (a t L R : List Nat) : Nat → Nat → Bool
  | 0, _ => false
  | f + 1, p => (stB a p L && decide (usd a p L R = t)) || cbF a t L R f (p + 1)
def cbB (a t L R : List Nat) : Bool := decide (a.length + R.length = t.length + L.length) && cbF a t L R a.length 0
theorem stB_fit {l L : List Nat} {p : Nat} (h : stB l p L = true) : p < l.length ∧ p + L.length ≤ l.length := by
  unfold stB at h
  simp only [Bool.and_eq_true, decide_eq_true_eq] at h
  omega
theorem usd_Mw {l L R : List Nat} {p : Nat} (hl : okb l) (hR : okb R) (h : p + L.length ≤ l.length) (hn : l.length + R.length ≤ 20 + L.length) : Mw (usd l p L R) :=
  ⟨by have := usd_len (R := R) h; omega, usd_ok hl hR⟩
section B2
variable {γ : Ga} {μ : SM2}
theorem c_canBecome {a t L R : List Nat} (ha : Mw a) (ht : Mw t) (hL : Mw L) (hR : Mw R) : Ex γ 4 0 0 M_X11_canBecome [.long (lN (cd a)), .long (lN (cd t)), .long (lN (cd L)), .long (lN (cd R))] (rm μ) (Fn (some (.int (bI (cbB a t L R)))) μ) := by
  have n1 := ha.1
  have n2 := ht.1
  have n3 := hL.1
  have n4 := hR.1
  refine Ex.of (by decide +kernel) rfl (Nat.le_of_ble_eq_true rfl) ?_
  show T _ _ _ _ _ _ _ _ _ [some (.long (lN (cd a))), none, some (.long (lN (cd t))), none, some (.long (lN (cd L))), none, some (.long (lN (cd R))), none, none, none, none, none] [] (rm μ)
  refine T_lload_n (pc := 0) (i := 0) dX11_canBecome_0 rfl rfl ?_
  refine R_callS1 (pc := 1) (av := [.long (lN (cd a))]) (rest := []) (Or.inl lk_X11_173) mk_X11_sizeOf (c_sizeOf_cd ha) dX11_canBecome_1 rfl rfl (Nat.le_of_ble_eq_true rfl) (by decide) rfl (Nat.le_refl _) (Nat.le_refl _) ?_
  refine T_istore (pc := 4) (i := 8) (ls' := [some (.long (lN (cd a))), none, some (.long (lN (cd t))), none, some (.long (lN (cd L))), none, some (.long (lN (cd R))), none, some (.int (nI a.length)), none, none, none]) dX11_canBecome_4 (by decide) rfl ?_
  refine T_lload (pc := 6) (i := 4) dX11_canBecome_6 rfl ?_
  refine R_callS1 (pc := 8) (av := [.long (lN (cd L))]) (rest := []) (Or.inl lk_X11_173) mk_X11_sizeOf (c_sizeOf_cd hL) dX11_canBecome_8 rfl rfl (Nat.le_of_ble_eq_true rfl) (by decide) rfl (Nat.le_refl _) (Nat.le_refl _) ?_
  refine T_istore (pc := 11) (i := 9) (ls' := [some (.long (lN (cd a))), none, some (.long (lN (cd t))), none, some (.long (lN (cd L))), none, some (.long (lN (cd R))), none, some (.int (nI a.length)), some (.int (nI L.length)), none, none]) dX11_canBecome_11 (by decide) rfl ?_
  refine T_lload (pc := 13) (i := 6) dX11_canBecome_13 rfl ?_
  refine R_callS1 (pc := 15) (av := [.long (lN (cd R))]) (rest := []) (Or.inl lk_X11_173) mk_X11_sizeOf (c_sizeOf_cd hR) dX11_canBecome_15 rfl rfl (Nat.le_of_ble_eq_true rfl) (by decide) rfl (Nat.le_refl _) (Nat.le_refl _) ?_
  refine T_istore (pc := 18) (i := 10) (ls' := [some (.long (lN (cd a))), none, some (.long (lN (cd t))), none, some (.long (lN (cd L))), none, some (.long (lN (cd R))), none, some (.int (nI a.length)), some (.int (nI L.length)), some (.int (nI R.length)), none]) dX11_canBecome_18 (by decide) rfl ?_
  refine T_iload (pc := 20) (i := 8) dX11_canBecome_20 rfl ?_
  refine T_iload (pc := 22) (i := 9) dX11_canBecome_22 rfl ?_
  refine T_isub (pc := 24) dX11_canBecome_24 ?_
  refine T_iload (pc := 25) (i := 10) dX11_canBecome_25 rfl ?_
  refine T_iadd (pc := 27) dX11_canBecome_27 ?_
  refine T_lload_n (pc := 28) (i := 2) dX11_canBecome_28 rfl rfl ?_
  refine R_callS1 (pc := 29) (av := [.long (lN (cd t))]) (rest := [.int (((((nI a.length) - (nI L.length))) + (nI R.length)))]) (Or.inl lk_X11_173) mk_X11_sizeOf (c_sizeOf_cd ht) dX11_canBecome_29 rfl rfl (Nat.le_of_ble_eq_true rfl) (by decide) rfl (Nat.le_refl _) (Nat.le_refl _) ?_
  have e1 : ((nI a.length) - (nI L.length)) + (nI R.length) = nI t.length ↔ a.length + R.length = t.length + L.length := by
    rw [fa_eq, fb_addI, fb_subI, nI_toInt (n := a.length) (by omega), nI_toInt (n := L.length) (by omega), nI_toInt (n := R.length) (by omega), nI_toInt (n := t.length) (by omega)]
    · omega
    all_goals (try rw [fb_subI]) <;> (try rw [nI_toInt (n := a.length) (by omega)]) <;> (try rw [nI_toInt (n := L.length) (by omega)]) <;> (try rw [nI_toInt (n := R.length) (by omega)]) <;> omega
  refine T_icmp_eq (pc := 32) (tgt := 37) dX11_canBecome_32 (by decide) (fun h => ?_) (fun h => ?_)
  · skip
    have h' := e1.mp h
    refine T_iconst (pc := 37) (v := nI 0) dX11_canBecome_37 (by decide) ?_
    refine T_istore (pc := 38) (i := 11) (ls' := [some (.long (lN (cd a))), none, some (.long (lN (cd t))), none, some (.long (lN (cd L))), none, some (.long (lN (cd R))), none, some (.int (nI a.length)), some (.int (nI L.length)), some (.int (nI R.length)), some (.int (nI 0))]) dX11_canBecome_38 (by decide) rfl ?_
    suffices loop : ∀ f p, p + f = a.length → T γ 4 0 0 M_X11_canBecome (Fn (some (.int (bI (cbF a t L R f p)))) μ) 0 0 40 [some (.long (lN (cd a))), none, some (.long (lN (cd t))), none, some (.long (lN (cd L))), none, some (.long (lN (cd R))), none, some (.int (nI a.length)), some (.int (nI L.length)), some (.int (nI R.length)), some (.int (nI p))] [] (rm μ) from by
      have h9 := loop a.length 0 (by omega)
      have e2 : cbB a t L R = cbF a t L R a.length 0 := by unfold cbB; rw [decide_eq_true h', Bool.true_and]
      rw [e2]
      exact h9
    intro f
    induction f with
    | zero =>
      intro p hp
      refine T_iload (pc := 40) (i := 11) dX11_canBecome_40 rfl ?_
      refine T_iload (pc := 42) (i := 8) dX11_canBecome_42 rfl ?_
      refine R_icmp_ge (pc := 44) (tgt := 89) (by omega) (by omega) dX11_canBecome_44 (by decide) (fun h2 => ?_) (fun h2 => ?_)
      · skip
        refine T_iconst (pc := 89) (v := nI 0) dX11_canBecome_89 (by decide) ?_
        exact T_iret (pc := 90) (ty := .boolean) dX11_canBecome_90 rfl (by decide) (Nat.le_refl _) (Nat.le_refl _) ⟨rfl, rfl⟩
      · exact absurd h2 (by omega)
    | succ f ih =>
      intro p hp
      refine T_iload (pc := 40) (i := 11) dX11_canBecome_40 rfl ?_
      refine T_iload (pc := 42) (i := 8) dX11_canBecome_42 rfl ?_
      refine R_icmp_ge (pc := 44) (tgt := 89) (by omega) (by omega) dX11_canBecome_44 (by decide) (fun h2 => ?_) (fun h2 => ?_)
      · exact absurd h2 (by omega)
      · skip
        refine T_lload_n (pc := 47) (i := 0) dX11_canBecome_47 rfl rfl ?_
        refine T_iload (pc := 48) (i := 8) dX11_canBecome_48 rfl ?_
        refine T_iload (pc := 50) (i := 11) dX11_canBecome_50 rfl ?_
        refine T_lload (pc := 52) (i := 4) dX11_canBecome_52 rfl ?_
        refine T_iload (pc := 54) (i := 9) dX11_canBecome_54 rfl ?_
        refine R_callS1 (pc := 56) (av := [.long (lN (cd a)), .int (nI a.length), .int (nI p), .long (lN (cd L)), .int (nI L.length)]) (rest := []) (Or.inl lk_X11_483) mk_X11_standsIn (c_standsIn ha hL.2 hL.1 (p := p) (by omega)) dX11_canBecome_56 rfl rfl (Nat.le_of_ble_eq_true rfl) (by decide) rfl (Nat.le_refl _) (Nat.le_refl _) ?_
        refine R_ifb_eq (pc := 59) (tgt := 83) dX11_canBecome_59 (by decide) (fun h3 => ?_) (fun h3 => ?_)
        · skip
          refine R_iinc (pc := 83) (i := 11) (n := 1) (ls' := [some (.long (lN (cd a))), none, some (.long (lN (cd t))), none, some (.long (lN (cd L))), none, some (.long (lN (cd R))), none, some (.int (nI a.length)), some (.int (nI L.length)), some (.int (nI R.length)), some (.int (nI (p + 1)))]) dX11_canBecome_83 rfl rfl ?_
          refine T_goto (pc := 86) (tgt := 40) dX11_canBecome_86 (by decide) ?_
          have h9 := ih (p + 1) (by omega)
          unfold cbF
          rw [h3, Bool.false_and, Bool.false_or]
          exact h9
        · skip
          have hf := stB_fit h3
          refine T_lload_n (pc := 62) (i := 0) dX11_canBecome_62 rfl rfl ?_
          refine T_iload (pc := 63) (i := 8) dX11_canBecome_63 rfl ?_
          refine T_iload (pc := 65) (i := 11) dX11_canBecome_65 rfl ?_
          refine T_iload (pc := 67) (i := 9) dX11_canBecome_67 rfl ?_
          refine T_lload (pc := 69) (i := 6) dX11_canBecome_69 rfl ?_
          refine T_iload (pc := 71) (i := 10) dX11_canBecome_71 rfl ?_
          refine R_callS1 (pc := 73) (av := [.long (lN (cd a)), .int (nI a.length), .int (nI p), .int (nI L.length), .long (lN (cd R)), .int (nI R.length)]) (rest := []) (Or.inl lk_X11_487) mk_X11_replaced (c_replaced ha hR hf.2) dX11_canBecome_73 rfl rfl (Nat.le_of_ble_eq_true rfl) (by decide) rfl (Nat.le_refl _) (Nat.le_refl _) ?_
          refine T_lload_n (pc := 76) (i := 2) dX11_canBecome_76 rfl rfl ?_
          refine T_lcmp (pc := 77) dX11_canBecome_77 ?_
          have hm : Mw (usd a p L R) := usd_Mw ha.2 hR.2 hf.2 (by omega)
          have c1 := cd_lt hm
          have c2 := cd_lt ht
          refine R_ln_ne (pc := 78) (tgt := 83) (by omega) (by omega) dX11_canBecome_78 (by decide) (fun h4 => ?_) (fun h4 => ?_)
          · skip
            refine R_iinc (pc := 83) (i := 11) (n := 1) (ls' := [some (.long (lN (cd a))), none, some (.long (lN (cd t))), none, some (.long (lN (cd L))), none, some (.long (lN (cd R))), none, some (.int (nI a.length)), some (.int (nI L.length)), some (.int (nI R.length)), some (.int (nI (p + 1)))]) dX11_canBecome_83 rfl rfl ?_
            refine T_goto (pc := 86) (tgt := 40) dX11_canBecome_86 (by decide) ?_
            have h9 := ih (p + 1) (by omega)
            unfold cbF
            rw [h3, decide_eq_false (p := usd a p L R = t) (fun z => h4 (by rw [z])), Bool.and_false, Bool.false_or]
            exact h9
          · skip
            refine T_iconst (pc := 81) (v := nI 1) dX11_canBecome_81 (by decide) ?_
            have h5 := cd_inj hm.2 ht.2 h4
            exact T_iret (pc := 82) (ty := .boolean) dX11_canBecome_82 rfl (by decide) (Nat.le_refl _) (Nat.le_refl _) ⟨by unfold cbF; rw [h3, decide_eq_true h5]; rfl, rfl⟩
  · skip
    refine T_iconst (pc := 35) (v := nI 0) dX11_canBecome_35 (by decide) ?_
    exact T_iret (pc := 36) (ty := .boolean) dX11_canBecome_36 rfl (by decide) (Nat.le_refl _) (Nat.le_refl _) ⟨by unfold cbB; rw [decide_eq_false (fun z => h (e1.mpr z))]; rfl, rfl⟩
theorem c_isCode {x : Int64} : Ex γ 2 0 0 M_X11_isCode [.long x] (rm μ) (Fn (some (.int (bI (codeB x)))) μ) := by
  refine Ex.of (by decide +kernel) rfl (Nat.le_of_ble_eq_true rfl) ?_
  show T _ _ _ _ _ _ _ _ _ [some (.long (x)), none] [] (rm μ)
  refine T_lload_n (pc := 0) (i := 0) dX11_isCode_0 rfl rfl ?_
  refine T_lconst (pc := 1) (v := lN 0) dX11_isCode_1 rfl ?_
  refine T_lcmp (pc := 2) dX11_isCode_2 ?_
  refine R_lx_le (pc := 3) (tgt := 41) dX11_isCode_3 (by decide) (fun h => ?_) (fun h => ?_)
  · skip
    refine T_iconst (pc := 41) (v := nI 0) dX11_isCode_41 (by decide) ?_
    exact T_iret (pc := 42) (ty := .boolean) dX11_isCode_42 rfl (by decide) (Nat.le_refl _) (Nat.le_refl _) ⟨by unfold codeB; rw [decide_eq_false (p := 0 < x) h]; rfl, rfl⟩
  · obtain ⟨c, h0, h1, rfl, hc⟩ := l_of_pos h
    refine T_lload_n (pc := 6) (i := 0) dX11_isCode_6 rfl rfl ?_
    refine T_bipush (pc := 7) (v := nI 20) dX11_isCode_7 (by decide) ?_
    refine R_callS1 (pc := 9) (av := [.int (nI 20)]) (rest := [.long (lN c)]) (Or.inl lk_X11_279) mk_X11_figures (c_figures (Nat.le_refl _)) dX11_isCode_9 rfl rfl (Nat.le_of_ble_eq_true rfl) (by decide) rfl (Nat.le_refl _) (Nat.le_refl _) ?_
    refine T_bipush (pc := 12) (v := nI 20) dX11_isCode_12 (by decide) ?_
    refine R_callS1 (pc := 14) (av := [.int (nI 20)]) (rest := [.long (lN (8 ^ 20 - 1)), .long (lN c)]) (Or.inl lk_X11_279) mk_X11_figures (c_figures (Nat.le_refl _)) dX11_isCode_14 rfl rfl (Nat.le_of_ble_eq_true rfl) (by decide) rfl (Nat.le_refl _) (Nat.le_refl _) ?_
    refine R_ladd (pc := 17) dX11_isCode_17 ?_
    refine T_lconst (pc := 18) (v := lN 1) dX11_isCode_18 rfl ?_
    refine R_ladd (pc := 19) dX11_isCode_19 ?_
    refine T_lcmp (pc := 20) dX11_isCode_20 ?_
    refine R_ln_gt (pc := 21) (tgt := 41) h1 (by decide) dX11_isCode_21 (by decide) (fun h2 => ?_) (fun h2 => ?_)
    · skip
      refine T_iconst (pc := 41) (v := nI 0) dX11_isCode_41 (by decide) ?_
      exact T_iret (pc := 42) (ty := .boolean) dX11_isCode_42 rfl (by decide) (Nat.le_refl _) (Nat.le_refl _) ⟨by unfold codeB; rw [hc, decide_eq_false (p := c < 2 ^ 61) (by omega), Bool.false_and, Bool.and_false]; rfl, rfl⟩
    · skip
      refine T_lload_n (pc := 24) (i := 0) dX11_isCode_24 rfl rfl ?_
      refine T_iconst (pc := 25) (v := nI 3) dX11_isCode_25 (by decide) ?_
      refine T_lload_n (pc := 26) (i := 0) dX11_isCode_26 rfl rfl ?_
      refine R_callS1 (pc := 27) (av := [.long (lN c)]) (rest := [.int (nI 3), .long (lN c)]) (Or.inl lk_X11_173) mk_X11_sizeOf (c_sizeOf h1) dX11_isCode_27 rfl rfl (Nat.le_of_ble_eq_true rfl) (by decide) rfl (Nat.le_refl _) (Nat.le_refl _) ?_
      have hs : sz c ≤ 20 := by have := (szF_le c 20 0).2; unfold sz; omega
      have hd := Nat.div_le_self c (2 ^ (3 * sz c))
      refine R_imul (pc := 30) dX11_isCode_30 ?_
      refine R_lushr (pc := 31) ⟨by omega, by omega⟩ dX11_isCode_31 ?_
      refine T_lconst (pc := 32) (v := lN 1) dX11_isCode_32 rfl ?_
      refine T_lcmp (pc := 33) dX11_isCode_33 ?_
      refine R_ln_ne (pc := 34) (tgt := 41) (by omega) (by omega) dX11_isCode_34 (by decide) (fun h3 => ?_) (fun h3 => ?_)
      · skip
        refine T_iconst (pc := 41) (v := nI 0) dX11_isCode_41 (by decide) ?_
        exact T_iret (pc := 42) (ty := .boolean) dX11_isCode_42 rfl (by decide) (Nat.le_refl _) (Nat.le_refl _) ⟨by unfold codeB; rw [hc, decide_eq_false h3, Bool.and_false, Bool.and_false]; rfl, rfl⟩
      · skip
        refine T_iconst (pc := 37) (v := nI 1) dX11_isCode_37 (by decide) ?_
        refine T_goto (pc := 38) (tgt := 42) dX11_isCode_38 (by decide) ?_
        exact T_iret (pc := 42) (ty := .boolean) dX11_isCode_42 rfl (by decide) (Nat.le_refl _) (Nat.le_refl _) ⟨by unfold codeB; rw [hc, decide_eq_true h3, decide_eq_true (p := (0 : Int64) < lN c) h, decide_eq_true (p := c < 2 ^ 61) (by omega)]; rfl, rfl⟩
theorem c_checkCode {x : Int64} : Ex γ 3 1 6 M_X11_checkCode [.long x] (rm μ) (Tq (codeB x) "java/lang/IllegalArgumentException" μ) := by
  refine Ex.of (by decide +kernel) rfl (Nat.le_of_ble_eq_true rfl) ?_
  show T _ _ _ _ _ _ _ _ _ [some (.long (x)), none] [] (rm μ)
  refine T_lload_n (pc := 0) (i := 0) dX11_checkCode_0 rfl rfl ?_
  refine R_callS1 (pc := 1) (av := [.long (x)]) (rest := []) (Or.inl lk_X11_470) mk_X11_isCode c_isCode dX11_checkCode_1 rfl rfl (Nat.le_of_ble_eq_true rfl) (by decide) rfl (by decide) (by decide) ?_
  refine R_ifb_ne (pc := 4) (tgt := 15) dX11_checkCode_4 (by decide) (fun h => ?_) (fun h => ?_)
  · skip
    exact T_vret dX11_checkCode_15 rfl (by decide) (by decide) ⟨rfl, by rw [h]; rfl⟩
  · skip
    exact T_throw (pc := 7) (ik := 113) (ic := 115) thr_X11_113 thw_X11_113 dX11_checkCode_7 dX11_checkCode_10 dX11_checkCode_11 dX11_checkCode_14 rfl (Nat.le_of_ble_eq_true rfl) (by decide) (by decide) rfl (⟨rfl, by rw [h]; rfl⟩)
theorem c_checkNumber {x : Int32} {a b : Int32} : Ex γ 3 1 6 M_X11_checkNumber [.int x, .int a, .int b] (rm μ) (Tq (!decide (x < a) && !decide (b < x)) "java/lang/IllegalArgumentException" μ) := by
  refine Ex.of (by decide +kernel) rfl (Nat.le_of_ble_eq_true rfl) ?_
  show T _ _ _ _ _ _ _ _ _ [some (.int (x)), some (.int (a)), some (.int (b))] [] (rm μ)
  refine T_iload_n (pc := 0) (i := 0) dX11_checkNumber_0 rfl rfl ?_
  refine T_iload_n (pc := 1) (i := 1) dX11_checkNumber_1 rfl rfl ?_
  refine T_icmp_lt (pc := 2) (tgt := 10) dX11_checkNumber_2 (by decide) (fun h => ?_) (fun h => ?_)
  · skip
    exact T_throw (pc := 10) (ik := 113) (ic := 115) thr_X11_113 thw_X11_113 dX11_checkNumber_10 dX11_checkNumber_13 dX11_checkNumber_14 dX11_checkNumber_17 rfl (Nat.le_of_ble_eq_true rfl) (by decide) (by decide) rfl (⟨rfl, by rw [decide_eq_true h]; rfl⟩)
  · skip
    refine T_iload_n (pc := 5) (i := 0) dX11_checkNumber_5 rfl rfl ?_
    refine T_iload_n (pc := 6) (i := 2) dX11_checkNumber_6 rfl rfl ?_
    refine T_icmp_le (pc := 7) (tgt := 18) dX11_checkNumber_7 (by decide) (fun h2 => ?_) (fun h2 => ?_)
    · skip
      exact T_vret dX11_checkNumber_18 rfl (by decide) (by decide) ⟨rfl, by rw [decide_eq_false h, decide_eq_false (p := b < x) (fun z => (fa_of_lt z).2.1 h2)]; rfl⟩
    · skip
      exact T_throw (pc := 10) (ik := 113) (ic := 115) thr_X11_113 thw_X11_113 dX11_checkNumber_10 dX11_checkNumber_13 dX11_checkNumber_14 dX11_checkNumber_17 rfl (Nat.le_of_ble_eq_true rfl) (by decide) (by decide) rfl (⟨rfl, by rw [decide_eq_false h, decide_eq_true (p := b < x) (fa_of_nle h2)]; rfl⟩)
theorem c_checkWhat {x b : Int32} : Ex γ 3 1 6 M_X11_checkWhat [.int x, .int b] (rm μ) (Tq (!decide (x < 0) && decide (x < b)) "java/util/NoSuchElementException" μ) := by
  refine Ex.of (by decide +kernel) rfl (Nat.le_of_ble_eq_true rfl) ?_
  show T _ _ _ _ _ _ _ _ _ [some (.int (x)), some (.int (b))] [] (rm μ)
  refine T_iload_n (pc := 0) (i := 0) dX11_checkWhat_0 rfl rfl ?_
  refine T_if_lt (pc := 1) (tgt := 9) dX11_checkWhat_1 (by decide) (fun h => ?_) (fun h => ?_)
  · skip
    exact T_throw (pc := 9) (ik := 474) (ic := 476) thr_X11_474 thw_X11_474 dX11_checkWhat_9 dX11_checkWhat_12 dX11_checkWhat_13 dX11_checkWhat_16 rfl (Nat.le_of_ble_eq_true rfl) (by decide) (by decide) rfl (⟨rfl, by rw [decide_eq_true h]; rfl⟩)
  · skip
    refine T_iload_n (pc := 4) (i := 0) dX11_checkWhat_4 rfl rfl ?_
    refine T_iload_n (pc := 5) (i := 1) dX11_checkWhat_5 rfl rfl ?_
    refine T_icmp_lt (pc := 6) (tgt := 17) dX11_checkWhat_6 (by decide) (fun h2 => ?_) (fun h2 => ?_)
    · skip
      exact T_vret dX11_checkWhat_17 rfl (by decide) (by decide) ⟨rfl, by rw [decide_eq_false h, decide_eq_true h2]; rfl⟩
    · skip
      exact T_throw (pc := 9) (ik := 474) (ic := 476) thr_X11_474 thw_X11_474 dX11_checkWhat_9 dX11_checkWhat_12 dX11_checkWhat_13 dX11_checkWhat_16 rfl (Nat.le_of_ble_eq_true rfl) (by decide) (by decide) rfl (⟨rfl, by rw [decide_eq_false h, decide_eq_false h2]; rfl⟩)
theorem c_checkBeastOrNone {x : Int32} : Ex γ 3 1 6 M_X11_checkBeastOrNone [.int x] (rm μ) (Tq (!decide (x < -1) && decide (x < 8)) "java/lang/IndexOutOfBoundsException" μ) := by
  refine Ex.of (by decide +kernel) rfl (Nat.le_of_ble_eq_true rfl) ?_
  show T _ _ _ _ _ _ _ _ _ [some (.int (x))] [] (rm μ)
  refine T_iload_n (pc := 0) (i := 0) dX11_checkBeastOrNone_0 rfl rfl ?_
  refine T_iconst (pc := 1) (v := (-1)) dX11_checkBeastOrNone_1 (by decide) ?_
  refine T_icmp_lt (pc := 2) (tgt := 11) dX11_checkBeastOrNone_2 (by decide) (fun h => ?_) (fun h => ?_)
  · skip
    exact T_throw (pc := 11) (ik := 184) (ic := 186) thr_X11_184 thw_X11_184 dX11_checkBeastOrNone_11 dX11_checkBeastOrNone_14 dX11_checkBeastOrNone_15 dX11_checkBeastOrNone_18 rfl (Nat.le_of_ble_eq_true rfl) (by decide) (by decide) rfl (⟨rfl, by rw [decide_eq_true (p := x < -1) h]; rfl⟩)
  · skip
    refine T_iload_n (pc := 5) (i := 0) dX11_checkBeastOrNone_5 rfl rfl ?_
    refine T_bipush (pc := 6) (v := nI 8) dX11_checkBeastOrNone_6 (by decide) ?_
    refine T_icmp_lt (pc := 8) (tgt := 19) dX11_checkBeastOrNone_8 (by decide) (fun h2 => ?_) (fun h2 => ?_)
    · skip
      exact T_vret dX11_checkBeastOrNone_19 rfl (by decide) (by decide) ⟨rfl, by rw [decide_eq_false (p := x < -1) h, decide_eq_true (p := x < 8) h2]; rfl⟩
    · skip
      exact T_throw (pc := 11) (ik := 184) (ic := 186) thr_X11_184 thw_X11_184 dX11_checkBeastOrNone_11 dX11_checkBeastOrNone_14 dX11_checkBeastOrNone_15 dX11_checkBeastOrNone_18 rfl (Nat.le_of_ble_eq_true rfl) (by decide) (by decide) rfl (⟨rfl, by rw [decide_eq_false (p := x < -1) h, decide_eq_false (p := x < 8) h2]; rfl⟩)
end B2

