/-! what is told, looked at; checks of a number -/
def drI (s : Int32) : Int32 := nI 1103515245 * s + nI 12345
def dvI (s : Int32) : Int32 := iushr (drI s) (nI 16) &&& nI 32767
/-- the weights of the first i BEASTS -/
def wgN (W l : List Nat) : Nat → Nat
  | 0 => 0
  | i + 1 => wgN W l i + W.getD (l.getD i 0) 0
/-- by which of the first i RULES one becomes the other, as bits -/
def exN (R : List Ru) (a t : List Nat) : Nat → Nat
  | 0 => 0
  | i + 1 => exN R a t i ||| (if cbB a t (rAt R i).1 (rAt R i).2 = true then 2 ^ i else 0)
def soN (F : List Fld) : Nat → Int32
  | 0 => nI 0
  | i + 1 => soN F i + (fAt F i).2.1
def boN (F : List Fld) : Nat → Nat
  | 0 => 0
  | i + 1 => boN F i + (fAt F i).1.length
def inB (x : Int32) (n : Nat) : Bool := !decide (x < 0) && decide (x < nI n)
theorem inB_of {x : Int32} {n : Nat} (hn : n < 2 ^ 31) (h : inB x n = true) : ∃ k, k < n ∧ x = nI k := by
  unfold inB at h
  simp only [Bool.and_eq_true, Bool.not_eq_true', decide_eq_false_iff_not, decide_eq_true_eq] at h
  have h1 := h.1
  have h2 := h.2
  rw [fa_lt, show (0 : Int32).toInt = 0 from rfl] at h1
  rw [fa_lt, nI_toInt hn] at h2
  refine ⟨x.toInt.toNat, by omega, ?_⟩
  rw [fa_eq, nI_toInt (by omega)]
  omega
theorem inB_n {k n : Nat} (hk : k < n) (hn : n < 2 ^ 31) : inB (nI k) n = true := by
  unfold inB
  simp only [Bool.and_eq_true, Bool.not_eq_true', decide_eq_false_iff_not, decide_eq_true_eq]
  rw [fa_lt, fa_lt, nI_toInt hn, nI_toInt (by omega), show (0 : Int32).toInt = 0 from rfl]
  omega
/-- it answers v and throws nothing, or it throws; the memory stays -/
def An (r : String ⊕ Value) (μ : SM2) : Out → SMem → Prop := fun o m => m = rm μ ∧ o = (match r with | .inr v => Sum.inl (some v) | .inl e => Sum.inr e)
section T2
variable {γ : Ga} {μ : SM2}
theorem c_Told_draw {t : Nat} {s : Int32} (ht : isTold t) (h : μ.1 t 11 = s) : Ex γ 1 0 0 M_X9_draw [.ref t] (rm μ) (Fn (some (.int (dvI s))) (wI μ t 11 (drI s))) := by
  refine Ex.of (by decide +kernel) rfl (Nat.le_of_ble_eq_true rfl) ?_
  show T _ _ _ _ _ _ _ _ _ [some (.ref t)] [] (rm μ)
  refine T_aload_n (pc := 0) (i := 0) dX9_draw_0 rfl rfl ?_
  refine T_ldc (pc := 1) dX9_draw_1 cn_X9_77 ?_
  refine T_topi (v := nI 1103515245) (fa_lit _) ?_
  refine T_aload_n (pc := 3) (i := 0) dX9_draw_3 rfl rfl ?_
  refine R_getI (pc := 4) (x := s) fl_X9_39 rfl (kt_told ht) (lt_told ht) h dX9_draw_4 ?_
  refine T_imul (pc := 7) dX9_draw_7 ?_
  refine T_sipush (pc := 8) (v := nI 12345) dX9_draw_8 (by decide) ?_
  refine T_iadd (pc := 11) dX9_draw_11 ?_
  refine R_putI (pc := 12) fl_X9_39 ⟨rfl, rfl⟩ (Or.inl rfl) (kt_told ht) (lt_told ht) dX9_draw_12 ?_
  refine T_aload_n (pc := 15) (i := 0) dX9_draw_15 rfl rfl ?_
  refine R_getI (pc := 16) (x := ((((nI 1103515245) * (s))) + (nI 12345))) fl_X9_39 rfl (kt_told ht) (lt_told ht) wI_eq dX9_draw_16 ?_
  refine T_bipush (pc := 19) (v := nI 16) dX9_draw_19 (by decide) ?_
  refine T_iushr (pc := 21) dX9_draw_21 ?_
  refine T_sipush (pc := 22) (v := nI 32767) dX9_draw_22 (by decide) ?_
  refine T_iand (pc := 25) dX9_draw_25 ?_
  exact T_iret (pc := 26) (ty := .int) dX9_draw_26 rfl rfl (Nat.le_refl _) (Nat.le_refl _) ⟨rfl, rfl⟩
theorem wgN_le {b : Nat} {W l : List Nat} (hl : okb l) (hW : WeightsAt μ b W) : ∀ i, wgN W l i ≤ 99 * i
  | 0 => Nat.le_refl _
  | i + 1 => by
    have h1 := wgN_le hl hW i
    have h2 := (hW.2 (l.getD i 0) (getD_lt hl i)).1
    show wgN W l i + _ ≤ _
    omega
theorem c_Told_weigh {t : Nat} {W l : List Nat} (ht : isTold t) (hW : WeightsAt μ t W) (hl : Mw l) : Ex γ 2 0 0 M_X9_weigh [.ref t, .long (lN (cd l))] (rm μ) (Fn (some (.int (nI (wgN W l l.length)))) μ) := by
  have hn := hl.1
  refine Ex.of (by decide +kernel) rfl (Nat.le_of_ble_eq_true rfl) ?_
  show T _ _ _ _ _ _ _ _ _ [some (.ref t), some (.long (lN (cd l))), none, none, none, none] [] (rm μ)
  refine T_lload_n (pc := 0) (i := 1) dX9_weigh_0 rfl rfl ?_
  refine R_callS1 (pc := 1) (av := [.long (lN (cd l))]) (rest := []) (Or.inr lk_X9_78) mk_X11_sizeOf (c_sizeOf_cd hl) dX9_weigh_1 rfl rfl (Nat.le_of_ble_eq_true rfl) (by decide) rfl (Nat.le_refl _) (Nat.le_refl _) ?_
  refine T_istore_n (pc := 4) (i := 3) (ls' := [some (.ref t), some (.long (lN (cd l))), none, some (.int (nI l.length)), none, none]) dX9_weigh_4 rfl (by decide) rfl ?_
  refine T_iconst (pc := 5) (v := nI 0) dX9_weigh_5 (by decide) ?_
  refine T_istore (pc := 6) (i := 4) (ls' := [some (.ref t), some (.long (lN (cd l))), none, some (.int (nI l.length)), some (.int (nI 0)), none]) dX9_weigh_6 (by decide) rfl ?_
  refine T_iconst (pc := 8) (v := nI 0) dX9_weigh_8 (by decide) ?_
  refine T_istore (pc := 9) (i := 5) (ls' := [some (.ref t), some (.long (lN (cd l))), none, some (.int (nI l.length)), some (.int (nI 0)), some (.int (nI 0))]) dX9_weigh_9 (by decide) rfl ?_
  refine T_for (pc := 11) l.length (fun i => [some (.ref t), some (.long (lN (cd l))), none, some (.int (nI l.length)), some (.int (nI (wgN W l i))), some (.int (nI i))]) (fun _ => rm μ) (fun i hle ih => ?_) 0 (Nat.zero_le _)
  show T _ _ _ _ _ _ _ _ 11 [some (.ref t), some (.long (lN (cd l))), none, some (.int (nI l.length)), some (.int (nI (wgN W l i))), some (.int (nI i))] [] (rm μ)
  refine T_iload (pc := 11) (i := 5) dX9_weigh_11 rfl ?_
  refine T_iload_n (pc := 13) (i := 3) dX9_weigh_13 rfl rfl ?_
  refine R_icmp_ge (pc := 14) (tgt := 40) (by omega) (by omega) dX9_weigh_14 (by decide) (fun h1 => ?_) (fun h1 => ?_)
  · skip
    refine T_iload (pc := 40) (i := 4) dX9_weigh_40 rfl ?_
    rw [show i = l.length by omega]
    exact T_iret (pc := 42) (ty := .int) dX9_weigh_42 rfl rfl (Nat.le_refl _) (Nat.le_refl _) ⟨rfl, rfl⟩
  · skip
    have hd := getD_lt hl.2 i
    refine T_iload (pc := 17) (i := 4) dX9_weigh_17 rfl ?_
    refine T_aload_n (pc := 19) (i := 0) dX9_weigh_19 rfl rfl ?_
    refine R_getR (pc := 20) (i := (t + 9)) fl_X9_31 rfl (kt_told ht) (lt_told ht) (rt_told_weights ht) dX9_weigh_20 ?_
    refine T_lload_n (pc := 23) (i := 1) dX9_weigh_23 rfl rfl ?_
    refine T_iload_n (pc := 24) (i := 3) dX9_weigh_24 rfl rfl ?_
    refine T_iload (pc := 25) (i := 5) dX9_weigh_25 rfl ?_
    refine R_callS1 (pc := 27) (av := [.long (lN (cd l)), .int (nI l.length), .int (nI i)]) (rest := [.ref (t + 9), .int (nI (wgN W l i))]) (Or.inr lk_X9_82) mk_X11_beastAt (c_beastAt hl h1) dX9_weigh_27 rfl rfl (Nat.le_of_ble_eq_true rfl) (by decide) rfl (Nat.le_refl _) (Nat.le_refl _) ?_
    refine R_iald (pc := 30) (x := nI (W.getD (l.getD i 0) 0)) (kt_told_weights ht) (lt_told_weights ht) hd (by first | decide | assumption) ((hW.2 _ hd).2) dX9_weigh_30 ?_
    refine R_iadd (pc := 31) dX9_weigh_31 ?_
    refine T_istore (pc := 32) (i := 4) (ls' := [some (.ref t), some (.long (lN (cd l))), none, some (.int (nI l.length)), some (.int (nI ((wgN W l i) + (W.getD (l.getD i 0) 0)))), some (.int (nI i))]) dX9_weigh_32 (by decide) rfl ?_
    refine R_iinc (pc := 34) (i := 5) (n := 1) (ls' := [some (.ref t), some (.long (lN (cd l))), none, some (.int (nI l.length)), some (.int (nI ((wgN W l i) + (W.getD (l.getD i 0) 0)))), some (.int (nI (i + 1)))]) dX9_weigh_34 rfl rfl ?_
    refine T_goto (pc := 37) (tgt := 11) dX9_weigh_37 (by decide) ?_
    exact ih h1
theorem c_Told_explaining {t k : Nat} {R : List Ru} {S : List (List Nat × List Nat)} (ht : isTold t) (hR : RulesAt μ (t + 1) R) (hS : SeenAt μ t S) (hk : k < S.length) : Ex γ 5 0 0 M_X9_explaining [.ref t, .int (nI k)] (rm μ) (Fn (some (.int (nI (exN R (sAt S k).1 (sAt S k).2 R.length)))) μ) := by
  have h12 := hR.len
  have h10 := hS.2.1
  have hs := hS.2.2 k hk
  refine Ex.of (by decide +kernel) rfl (Nat.le_of_ble_eq_true rfl) ?_
  show T _ _ _ _ _ _ _ _ _ [some (.ref t), some (.int (nI k)), none, none] [] (rm μ)
  refine T_iconst (pc := 0) (v := nI 0) dX9_explaining_0 (by decide) ?_
  refine T_istore_n (pc := 1) (i := 2) (ls' := [some (.ref t), some (.int (nI k)), some (.int (nI 0)), none]) dX9_explaining_1 rfl (by decide) rfl ?_
  refine T_iconst (pc := 2) (v := nI 0) dX9_explaining_2 (by decide) ?_
  refine T_istore_n (pc := 3) (i := 3) (ls' := [some (.ref t), some (.int (nI k)), some (.int (nI 0)), some (.int (nI 0))]) dX9_explaining_3 rfl (by decide) rfl ?_
  refine T_for (pc := 4) R.length (fun i => [some (.ref t), some (.int (nI k)), some (.int (nI (exN R (sAt S k).1 (sAt S k).2 i))), some (.int (nI i))]) (fun _ => rm μ) (fun i hle ih => ?_) 0 (Nat.zero_le _)
  show T _ _ _ _ _ _ _ _ 4 [some (.ref t), some (.int (nI k)), some (.int (nI (exN R (sAt S k).1 (sAt S k).2 i))), some (.int (nI i))] [] (rm μ)
  refine T_iload_n (pc := 4) (i := 3) dX9_explaining_4 rfl rfl ?_
  refine T_aload_n (pc := 5) (i := 0) dX9_explaining_5 rfl rfl ?_
  refine R_getR (pc := 6) (i := (t + 1)) fl_X9_12 rfl (kt_told ht) (lt_told ht) (rt_told_rules ht) dX9_explaining_6 ?_
  refine R_getI (pc := 9) (x := nI R.length) fl_X9_86 rfl (kt_rules (told_rules ht)) (lt_rules (told_rules ht)) hR.size dX9_explaining_9 ?_
  refine R_icmp_ge (pc := 12) (tgt := 63) (by omega) (by omega) dX9_explaining_12 (by decide) (fun h1 => ?_) (fun h1 => ?_)
  · skip
    refine T_iload_n (pc := 63) (i := 2) dX9_explaining_63 rfl rfl ?_
    rw [show i = R.length by omega]
    exact T_iret (pc := 64) (ty := .int) dX9_explaining_64 rfl rfl (Nat.le_refl _) (Nat.le_refl _) ⟨rfl, rfl⟩
  · skip
    refine T_aload_n (pc := 15) (i := 0) dX9_explaining_15 rfl rfl ?_
    refine R_getR (pc := 16) (i := (t + 7)) fl_X9_24 rfl (kt_told ht) (lt_told ht) (rt_told_seenFirst ht) dX9_explaining_16 ?_
    refine T_iload_n (pc := 19) (i := 1) dX9_explaining_19 rfl rfl ?_
    refine R_lald (pc := 20) (x := lN (cd (sAt S k).1)) (kt_told_seenFirst ht) (lt_told_seenFirst ht) (by omega) (by first | decide | assumption) hs.2.1 dX9_explaining_20 ?_
    refine T_aload_n (pc := 21) (i := 0) dX9_explaining_21 rfl rfl ?_
    refine R_getR (pc := 22) (i := (t + 8)) fl_X9_28 rfl (kt_told ht) (lt_told ht) (rt_told_seenThen ht) dX9_explaining_22 ?_
    refine T_iload_n (pc := 25) (i := 1) dX9_explaining_25 rfl rfl ?_
    refine R_lald (pc := 26) (x := lN (cd (sAt S k).2)) (kt_told_seenThen ht) (lt_told_seenThen ht) (by omega) (by first | decide | assumption) hs.2.2 dX9_explaining_26 ?_
    refine T_aload_n (pc := 27) (i := 0) dX9_explaining_27 rfl rfl ?_
    refine R_getR (pc := 28) (i := (t + 1)) fl_X9_12 rfl (kt_told ht) (lt_told ht) (rt_told_rules ht) dX9_explaining_28 ?_
    refine R_getR (pc := 31) (i := (t + 1 + 1)) fl_X9_89 rfl (kt_rules (told_rules ht)) (lt_rules (told_rules ht)) (rt_rules_left (told_rules ht)) dX9_explaining_31 ?_
    refine T_iload_n (pc := 34) (i := 3) dX9_explaining_34 rfl rfl ?_
    refine R_lald (pc := 35) (x := lN (cd (rAt R i).1)) (kt_rules_left (told_rules ht)) (lt_rules_left (told_rules ht)) (by omega) (by first | decide | assumption) ((hR.row i h1).1) dX9_explaining_35 ?_
    refine T_aload_n (pc := 36) (i := 0) dX9_explaining_36 rfl rfl ?_
    refine R_getR (pc := 37) (i := (t + 1)) fl_X9_12 rfl (kt_told ht) (lt_told ht) (rt_told_rules ht) dX9_explaining_37 ?_
    refine R_getR (pc := 40) (i := (t + 1 + 2)) fl_X9_92 rfl (kt_rules (told_rules ht)) (lt_rules (told_rules ht)) (rt_rules_right (told_rules ht)) dX9_explaining_40 ?_
    refine T_iload_n (pc := 43) (i := 3) dX9_explaining_43 rfl rfl ?_
    refine R_lald (pc := 44) (x := lN (cd (rAt R i).2)) (kt_rules_right (told_rules ht)) (lt_rules_right (told_rules ht)) (by omega) (by first | decide | assumption) ((hR.row i h1).2.1) dX9_explaining_44 ?_
    refine R_callS1 (pc := 45) (av := [.long (lN (cd (sAt S k).1)), .long (lN (cd (sAt S k).2)), .long (lN (cd (rAt R i).1)), .long (lN (cd (rAt R i).2))]) (rest := []) (Or.inr lk_X9_95) mk_X11_canBecome (c_canBecome hs.1.1 hs.1.2 (hR.ok i h1).l (hR.ok i h1).r) dX9_explaining_45 rfl rfl (Nat.le_of_ble_eq_true rfl) (by decide) rfl (Nat.le_refl _) (Nat.le_refl _) ?_
    refine R_ifb_eq (pc := 48) (tgt := 57) dX9_explaining_48 (by decide) (fun h2 => ?_) (fun h2 => ?_)
    · skip
      refine R_iinc (pc := 57) (i := 3) (n := 1) (ls' := [some (.ref t), some (.int (nI k)), some (.int (nI (exN R (sAt S k).1 (sAt S k).2 i))), some (.int (nI (i + 1)))]) dX9_explaining_57 rfl rfl ?_
      refine T_goto (pc := 60) (tgt := 4) dX9_explaining_60 (by decide) ?_
      have h9 := ih h1
      rw [show exN R (sAt S k).1 (sAt S k).2 (i + 1) = exN R (sAt S k).1 (sAt S k).2 i by show exN R (sAt S k).1 (sAt S k).2 i ||| (if _ then _ else _) = _; rw [if_neg (by rw [h2]; decide), Nat.or_zero]] at h9
      exact h9
    · skip
      refine T_iload_n (pc := 51) (i := 2) dX9_explaining_51 rfl rfl ?_
      refine T_iconst (pc := 52) (v := nI 1) dX9_explaining_52 (by decide) ?_
      refine T_iload_n (pc := 53) (i := 3) dX9_explaining_53 rfl rfl ?_
      refine R_ishl (pc := 54) (by omega) dX9_explaining_54 ?_
      refine R_ior (pc := 55) dX9_explaining_55 ?_
      refine T_istore_n (pc := 56) (i := 2) (ls' := [some (.ref t), some (.int (nI k)), some (.int (nI ((exN R (sAt S k).1 (sAt S k).2 i) ||| (1 * 2 ^ i)))), some (.int (nI i))]) dX9_explaining_56 rfl (by decide) rfl ?_
      refine R_iinc (pc := 57) (i := 3) (n := 1) (ls' := [some (.ref t), some (.int (nI k)), some (.int (nI ((exN R (sAt S k).1 (sAt S k).2 i) ||| (1 * 2 ^ i)))), some (.int (nI (i + 1)))]) dX9_explaining_57 rfl rfl ?_
      refine T_goto (pc := 60) (tgt := 4) dX9_explaining_60 (by decide) ?_
      have h9 := ih h1
      rw [show exN R (sAt S k).1 (sAt S k).2 (i + 1) = exN R (sAt S k).1 (sAt S k).2 i ||| 2 ^ i by show exN R (sAt S k).1 (sAt S k).2 i ||| (if _ then _ else _) = _; rw [if_pos h2]] at h9
      rw [Nat.one_mul]
      exact h9
theorem c_Told_stepsOfAll {t : Nat} {F : List Fld} (ht : isTold t) (hF : FieldsAt μ t F) : Ex γ 1 0 0 M_X9_stepsOfAll [.ref t] (rm μ) (Fn (some (.int (soN F F.length))) μ) := by
  have h6 := hF.2.1
  refine Ex.of (by decide +kernel) rfl (Nat.le_of_ble_eq_true rfl) ?_
  show T _ _ _ _ _ _ _ _ _ [some (.ref t), none, none] [] (rm μ)
  refine T_iconst (pc := 0) (v := nI 0) dX9_stepsOfAll_0 (by decide) ?_
  refine T_istore_n (pc := 1) (i := 1) (ls' := [some (.ref t), some (.int (nI 0)), none]) dX9_stepsOfAll_1 rfl (by decide) rfl ?_
  refine T_iconst (pc := 2) (v := nI 0) dX9_stepsOfAll_2 (by decide) ?_
  refine T_istore_n (pc := 3) (i := 2) (ls' := [some (.ref t), some (.int (nI 0)), some (.int (nI 0))]) dX9_stepsOfAll_3 rfl (by decide) rfl ?_
  refine T_for (pc := 4) F.length (fun i => [some (.ref t), some (.int ((soN F i))), some (.int (nI i))]) (fun _ => rm μ) (fun i hle ih => ?_) 0 (Nat.zero_le _)
  show T _ _ _ _ _ _ _ _ 4 [some (.ref t), some (.int ((soN F i))), some (.int (nI i))] [] (rm μ)
  refine T_iload_n (pc := 4) (i := 2) dX9_stepsOfAll_4 rfl rfl ?_
  refine T_aload_n (pc := 5) (i := 0) dX9_stepsOfAll_5 rfl rfl ?_
  refine R_getI (pc := 6) (x := nI F.length) fl_X9_53 rfl (kt_told ht) (lt_told ht) hF.1 dX9_stepsOfAll_6 ?_
  refine R_icmp_ge (pc := 9) (tgt := 30) (by omega) (by omega) dX9_stepsOfAll_9 (by decide) (fun h1 => ?_) (fun h1 => ?_)
  · skip
    refine T_iload_n (pc := 30) (i := 1) dX9_stepsOfAll_30 rfl rfl ?_
    rw [show i = F.length by omega]
    exact T_iret (pc := 31) (ty := .int) dX9_stepsOfAll_31 rfl rfl (Nat.le_refl _) (Nat.le_refl _) ⟨rfl, rfl⟩
  · skip
    refine T_iload_n (pc := 12) (i := 1) dX9_stepsOfAll_12 rfl rfl ?_
    refine T_aload_n (pc := 13) (i := 0) dX9_stepsOfAll_13 rfl rfl ?_
    refine R_getR (pc := 14) (i := (t + 6)) fl_X9_20 rfl (kt_told ht) (lt_told ht) (rt_told_fields ht) dX9_stepsOfAll_14 ?_
    refine T_iload_n (pc := 17) (i := 2) dX9_stepsOfAll_17 rfl rfl ?_
    refine R_aald (pc := 18) (t := 0) (j := (t + 10 + 3 * i)) (kt_told_fields ht) (by decide) (lt_told_fields ht) (by omega) (by decide) (rt_told_el ht (by omega)) dX9_stepsOfAll_18 ?_
    refine R_getI (pc := 19) (x := ((fAt F i).2.1)) fl_X9_99 rfl (kt_field (told_field ht (by omega))) (lt_field (told_field ht (by omega))) ((hF.2.2 i h1).gone) dX9_stepsOfAll_19 ?_
    refine T_iadd (pc := 22) dX9_stepsOfAll_22 ?_
    refine T_istore_n (pc := 23) (i := 1) (ls' := [some (.ref t), some (.int ((((soN F i)) + (((fAt F i).2.1))))), some (.int (nI i))]) dX9_stepsOfAll_23 rfl (by decide) rfl ?_
    refine R_iinc (pc := 24) (i := 2) (n := 1) (ls' := [some (.ref t), some (.int ((((soN F i)) + (((fAt F i).2.1))))), some (.int (nI (i + 1)))]) dX9_stepsOfAll_24 rfl rfl ?_
    refine T_goto (pc := 27) (tgt := 4) dX9_stepsOfAll_27 (by decide) ?_
    exact ih h1
theorem c_Told_beastsOfAll {t : Nat} {F : List Fld} (ht : isTold t) (hF : FieldsAt μ t F) : Ex γ 2 0 0 M_X9_beastsOfAll [.ref t] (rm μ) (Fn (some (.int (nI (boN F F.length)))) μ) := by
  have h6 := hF.2.1
  refine Ex.of (by decide +kernel) rfl (Nat.le_of_ble_eq_true rfl) ?_
  show T _ _ _ _ _ _ _ _ _ [some (.ref t), none, none] [] (rm μ)
  refine T_iconst (pc := 0) (v := nI 0) dX9_beastsOfAll_0 (by decide) ?_
  refine T_istore_n (pc := 1) (i := 1) (ls' := [some (.ref t), some (.int (nI 0)), none]) dX9_beastsOfAll_1 rfl (by decide) rfl ?_
  refine T_iconst (pc := 2) (v := nI 0) dX9_beastsOfAll_2 (by decide) ?_
  refine T_istore_n (pc := 3) (i := 2) (ls' := [some (.ref t), some (.int (nI 0)), some (.int (nI 0))]) dX9_beastsOfAll_3 rfl (by decide) rfl ?_
  refine T_for (pc := 4) F.length (fun i => [some (.ref t), some (.int (nI (boN F i))), some (.int (nI i))]) (fun _ => rm μ) (fun i hle ih => ?_) 0 (Nat.zero_le _)
  show T _ _ _ _ _ _ _ _ 4 [some (.ref t), some (.int (nI (boN F i))), some (.int (nI i))] [] (rm μ)
  refine T_iload_n (pc := 4) (i := 2) dX9_beastsOfAll_4 rfl rfl ?_
  refine T_aload_n (pc := 5) (i := 0) dX9_beastsOfAll_5 rfl rfl ?_
  refine R_getI (pc := 6) (x := nI F.length) fl_X9_53 rfl (kt_told ht) (lt_told ht) hF.1 dX9_beastsOfAll_6 ?_
  refine R_icmp_ge (pc := 9) (tgt := 33) (by omega) (by omega) dX9_beastsOfAll_9 (by decide) (fun h1 => ?_) (fun h1 => ?_)
  · skip
    refine T_iload_n (pc := 33) (i := 1) dX9_beastsOfAll_33 rfl rfl ?_
    rw [show i = F.length by omega]
    exact T_iret (pc := 34) (ty := .int) dX9_beastsOfAll_34 rfl rfl (Nat.le_refl _) (Nat.le_refl _) ⟨rfl, rfl⟩
  · skip
    refine T_iload_n (pc := 12) (i := 1) dX9_beastsOfAll_12 rfl rfl ?_
    refine T_aload_n (pc := 13) (i := 0) dX9_beastsOfAll_13 rfl rfl ?_
    refine R_getR (pc := 14) (i := (t + 6)) fl_X9_20 rfl (kt_told ht) (lt_told ht) (rt_told_fields ht) dX9_beastsOfAll_14 ?_
    refine T_iload_n (pc := 17) (i := 2) dX9_beastsOfAll_17 rfl rfl ?_
    refine R_aald (pc := 18) (t := 0) (j := (t + 10 + 3 * i)) (kt_told_fields ht) (by decide) (lt_told_fields ht) (by omega) (by decide) (rt_told_el ht (by omega)) dX9_beastsOfAll_18 ?_
    refine R_getL (pc := 19) (x := lN (cd (fAt F i).1)) fl_X9_102 rfl (kt_field (told_field ht (by omega))) (lt_field (told_field ht (by omega))) ((hF.2.2 i h1).code) dX9_beastsOfAll_19 ?_
    refine R_callS1 (pc := 22) (av := [.long (lN (cd (fAt F i).1))]) (rest := [.int (nI (boN F i))]) (Or.inr lk_X9_78) mk_X11_sizeOf (c_sizeOf_cd (hF.2.2 i h1).mw) dX9_beastsOfAll_22 rfl rfl (Nat.le_of_ble_eq_true rfl) (by decide) rfl (Nat.le_refl _) (Nat.le_refl _) ?_
    refine R_iadd (pc := 25) dX9_beastsOfAll_25 ?_
    refine T_istore_n (pc := 26) (i := 1) (ls' := [some (.ref t), some (.int (nI ((boN F i) + ((fAt F i).1.length)))), some (.int (nI i))]) dX9_beastsOfAll_26 rfl (by decide) rfl ?_
    refine R_iinc (pc := 27) (i := 2) (n := 1) (ls' := [some (.ref t), some (.int (nI ((boN F i) + ((fAt F i).1.length)))), some (.int (nI (i + 1)))]) dX9_beastsOfAll_27 rfl rfl ?_
    refine T_goto (pc := 30) (tgt := 4) dX9_beastsOfAll_30 (by decide) ?_
    exact ih h1
theorem c_checkRule {x : Int32} {R : List Ru} (h : RulesAt μ 4 R) : Ex γ 3 1 6 M_X11_checkRule [.ref 0, .int x] (rm μ) (Tq (inB x R.length) "java/lang/IndexOutOfBoundsException" μ) := by
  refine Ex.of (by decide +kernel) rfl (Nat.le_of_ble_eq_true rfl) ?_
  show T _ _ _ _ _ _ _ _ _ [some (.ref 0), some (.int (x))] [] (rm μ)
  refine T_iload_n (pc := 0) (i := 1) dX11_checkRule_0 rfl rfl ?_
  refine T_if_lt (pc := 1) (tgt := 18) dX11_checkRule_1 (by decide) (fun h1 => ?_) (fun h1 => ?_)
  · skip
    exact T_throw (pc := 18) (ik := 184) (ic := 186) thr_X11_184 thw_X11_184 dX11_checkRule_18 dX11_checkRule_21 dX11_checkRule_22 dX11_checkRule_25 rfl (Nat.le_of_ble_eq_true rfl) (by decide) (by decide) rfl (⟨rfl, by unfold inB; rw [decide_eq_true (p := x < 0) h1]; rfl⟩)
  · skip
    refine T_iload_n (pc := 4) (i := 1) dX11_checkRule_4 rfl rfl ?_
    refine T_aload_n (pc := 5) (i := 0) dX11_checkRule_5 rfl rfl ?_
    refine R_getR (pc := 6) (i := 3) fl_X11_19 rfl kc_0 lc_0 rc_0_1 dX11_checkRule_6 ?_
    refine R_getR (pc := 9) (i := 4) fl_X11_48 rfl (kt_told told3) (lt_told told3) (rt_told_rules told3) dX11_checkRule_9 ?_
    refine R_getI (pc := 12) (x := nI R.length) fl_X11_230 rfl (kt_rules rules4) (lt_rules rules4) h.size dX11_checkRule_12 ?_
    refine T_icmp_lt (pc := 15) (tgt := 26) dX11_checkRule_15 (by decide) (fun h2 => ?_) (fun h2 => ?_)
    · skip
      exact T_vret dX11_checkRule_26 rfl (by decide) (by decide) ⟨rfl, by unfold inB; rw [decide_eq_false (p := x < 0) h1, decide_eq_true (p := x < nI R.length) h2]; rfl⟩
    · skip
      exact T_throw (pc := 18) (ik := 184) (ic := 186) thr_X11_184 thw_X11_184 dX11_checkRule_18 dX11_checkRule_21 dX11_checkRule_22 dX11_checkRule_25 rfl (Nat.le_of_ble_eq_true rfl) (by decide) (by decide) rfl (⟨rfl, by unfold inB; rw [decide_eq_false (p := x < 0) h1, decide_eq_false (p := x < nI R.length) h2]; rfl⟩)
theorem c_checkField {x : Int32} {F : List Fld} (h : FieldsAt μ 3 F) : Ex γ 3 1 6 M_X11_checkField [.ref 0, .int x] (rm μ) (Tq (inB x F.length) "java/lang/IndexOutOfBoundsException" μ) := by
  refine Ex.of (by decide +kernel) rfl (Nat.le_of_ble_eq_true rfl) ?_
  show T _ _ _ _ _ _ _ _ _ [some (.ref 0), some (.int (x))] [] (rm μ)
  refine T_iload_n (pc := 0) (i := 1) dX11_checkField_0 rfl rfl ?_
  refine T_if_lt (pc := 1) (tgt := 15) dX11_checkField_1 (by decide) (fun h1 => ?_) (fun h1 => ?_)
  · skip
    exact T_throw (pc := 15) (ik := 184) (ic := 186) thr_X11_184 thw_X11_184 dX11_checkField_15 dX11_checkField_18 dX11_checkField_19 dX11_checkField_22 rfl (Nat.le_of_ble_eq_true rfl) (by decide) (by decide) rfl (⟨rfl, by unfold inB; rw [decide_eq_true (p := x < 0) h1]; rfl⟩)
  · skip
    refine T_iload_n (pc := 4) (i := 1) dX11_checkField_4 rfl rfl ?_
    refine T_aload_n (pc := 5) (i := 0) dX11_checkField_5 rfl rfl ?_
    refine R_getR (pc := 6) (i := 3) fl_X11_19 rfl kc_0 lc_0 rc_0_1 dX11_checkField_6 ?_
    refine R_getI (pc := 9) (x := nI F.length) fl_X11_323 rfl (kt_told told3) (lt_told told3) h.1 dX11_checkField_9 ?_
    refine T_icmp_lt (pc := 12) (tgt := 23) dX11_checkField_12 (by decide) (fun h2 => ?_) (fun h2 => ?_)
    · skip
      exact T_vret dX11_checkField_23 rfl (by decide) (by decide) ⟨rfl, by unfold inB; rw [decide_eq_false (p := x < 0) h1, decide_eq_true (p := x < nI F.length) h2]; rfl⟩
    · skip
      exact T_throw (pc := 15) (ik := 184) (ic := 186) thr_X11_184 thw_X11_184 dX11_checkField_15 dX11_checkField_18 dX11_checkField_19 dX11_checkField_22 rfl (Nat.le_of_ble_eq_true rfl) (by decide) (by decide) rfl (⟨rfl, by unfold inB; rw [decide_eq_false (p := x < 0) h1, decide_eq_false (p := x < nI F.length) h2]; rfl⟩)
theorem c_checkSeen {x : Int32} {S : List (List Nat × List Nat)} (h : SeenAt μ 3 S) : Ex γ 3 1 6 M_X11_checkSeen [.ref 0, .int x] (rm μ) (Tq (inB x S.length) "java/lang/IndexOutOfBoundsException" μ) := by
  refine Ex.of (by decide +kernel) rfl (Nat.le_of_ble_eq_true rfl) ?_
  show T _ _ _ _ _ _ _ _ _ [some (.ref 0), some (.int (x))] [] (rm μ)
  refine T_iload_n (pc := 0) (i := 1) dX11_checkSeen_0 rfl rfl ?_
  refine T_if_lt (pc := 1) (tgt := 15) dX11_checkSeen_1 (by decide) (fun h1 => ?_) (fun h1 => ?_)
  · skip
    exact T_throw (pc := 15) (ik := 184) (ic := 186) thr_X11_184 thw_X11_184 dX11_checkSeen_15 dX11_checkSeen_18 dX11_checkSeen_19 dX11_checkSeen_22 rfl (Nat.le_of_ble_eq_true rfl) (by decide) (by decide) rfl (⟨rfl, by unfold inB; rw [decide_eq_true (p := x < 0) h1]; rfl⟩)
  · skip
    refine T_iload_n (pc := 4) (i := 1) dX11_checkSeen_4 rfl rfl ?_
    refine T_aload_n (pc := 5) (i := 0) dX11_checkSeen_5 rfl rfl ?_
    refine R_getR (pc := 6) (i := 3) fl_X11_19 rfl kc_0 lc_0 rc_0_1 dX11_checkSeen_6 ?_
    refine R_getI (pc := 9) (x := nI S.length) fl_X11_458 rfl (kt_told told3) (lt_told told3) h.1 dX11_checkSeen_9 ?_
    refine T_icmp_lt (pc := 12) (tgt := 23) dX11_checkSeen_12 (by decide) (fun h2 => ?_) (fun h2 => ?_)
    · skip
      exact T_vret dX11_checkSeen_23 rfl (by decide) (by decide) ⟨rfl, by unfold inB; rw [decide_eq_false (p := x < 0) h1, decide_eq_true (p := x < nI S.length) h2]; rfl⟩
    · skip
      exact T_throw (pc := 15) (ik := 184) (ic := 186) thr_X11_184 thw_X11_184 dX11_checkSeen_15 dX11_checkSeen_18 dX11_checkSeen_19 dX11_checkSeen_22 rfl (Nat.le_of_ble_eq_true rfl) (by decide) (by decide) rfl (⟨rfl, by unfold inB; rw [decide_eq_false (p := x < 0) h1, decide_eq_false (p := x < nI S.length) h2]; rfl⟩)
end T2
theorem c_Told_weighX {γ : Ga} {μ : SM2} {t : Nat} {W : List Nat} {l : List Nat} {x : Int64} (ht : isTold t) (hW : WeightsAt μ t W) (hl : Mw l) (e : x = lN (cd l)) : Ex γ 2 0 0 M_X9_weigh [.ref t, .long x] (rm μ) (Fn (some (.int (nI (wgN W l l.length)))) μ) := by
  rw [e]
  exact c_Told_weigh ht hW hl

