/-! who made a BEAST -/
def mkE (F : List Fld) (x y z : Int32) : String ⊕ Value := if inB x F.length = true then (if inB y (fAt F x.toNatClampNeg).1.length = true then (if inB z 2 = true then .inr (.int (if z = 0 then (mAt (fAt F x.toNatClampNeg).2.2 y.toNatClampNeg).1 else (mAt (fAt F x.toNatClampNeg).2.2 y.toNatClampNeg).2)) else .inl "java/util/NoSuchElementException") else .inl "java/lang/IndexOutOfBoundsException") else .inl "java/lang/IndexOutOfBoundsException"
section MK
variable {γ : Ga} {μ : SM2}
theorem c_maker {x y z : Int32} {F : List Fld} (h : FieldsAt μ 3 F) : Ex γ 4 2 12 M_X11_maker [.ref 0, .int x, .int y, .int z] (rm μ) (An (mkE F x y z) μ) := by
  have h6 := h.2.1
  unfold mkE
  refine Ex.of (by decide +kernel) rfl (Nat.le_of_ble_eq_true rfl) ?_
  show T _ _ _ _ _ _ _ _ _ [some (.ref 0), some (.int (x)), some (.int (y)), some (.int (z)), none] [] (rm μ)
  refine T_aload_n (pc := 0) (i := 0) dX11_maker_0 rfl rfl ?_
  refine T_iload_n (pc := 1) (i := 1) dX11_maker_1 rfl rfl ?_
  refine R_chkV (pc := 2) (As := [.int (x)]) (rest := []) (Or.inl lk_X11_147) mk_X11_checkField (c_checkField h) kc_0 ⟨by decide, rfl⟩ lc_0 dX11_maker_2 rfl rfl (Nat.le_of_ble_eq_true rfl) (by decide) rfl (by decide) (by decide) (fun z => by rw [if_neg (by rw [z]; decide)]; exact ⟨rfl, rfl⟩) (fun hB => ?_)
  rw [if_pos hB]
  obtain ⟨k, hk, rfl⟩ := inB_of (by omega) hB
  rw [nI_clamp (n := k) (by omega)]
  have hf := h.2.2 k hk
  obtain ⟨f, ef⟩ : ∃ f, fAt F k = f := ⟨_, rfl⟩
  rw [ef] at hf ⊢
  obtain ⟨hf1, hf2, hf3, hf4, hf5⟩ := hf
  have h20 := hf1.1
  by_cases hy : inB y f.1.length = true
  · rw [if_pos hy]
    obtain ⟨p, hp, rfl⟩ := inB_of (by omega) hy
    rw [nI_clamp (n := p) (by omega)]
    have hm := hf5 p hp
    refine T_aload_n (pc := 5) (i := 0) dX11_maker_5 rfl rfl ?_
    refine R_getR (pc := 6) (i := 3) fl_X11_19 rfl kc_0 lc_0 rc_0_1 dX11_maker_6 ?_
    refine R_getR (pc := 9) (i := 9) fl_X11_150 rfl (kt_told told3) (lt_told told3) (rt_told_fields told3) dX11_maker_9 ?_
    refine T_iload_n (pc := 12) (i := 1) dX11_maker_12 rfl rfl ?_
    refine R_aald (pc := 13) (t := 0) (j := (3 + 10 + 3 * k)) (kt_told_fields told3) (by decide) (lt_told_fields told3) (by omega) (by decide) (rt_told_el told3 (by omega)) dX11_maker_13 ?_
    refine T_astore (pc := 14) (i := 4) (ls' := [some (.ref 0), some (.int (nI k)), some (.int (nI p)), some (.int (z)), some (.ref (3 + 10 + 3 * k))]) dX11_maker_14 (by decide) rfl ?_
    refine T_iload_n (pc := 16) (i := 2) dX11_maker_16 rfl rfl ?_
    refine R_if_lt (pc := 17) (tgt := 32) (by omega) dX11_maker_17 (by decide) (fun h0 => ?_) (fun h0 => ?_)
    · exact h0.elim
    · skip
      refine T_iload_n (pc := 20) (i := 2) dX11_maker_20 rfl rfl ?_
      refine T_aload (pc := 21) (i := 4) dX11_maker_21 rfl ?_
      refine R_getL (pc := 23) (x := lN (cd f.1)) fl_X11_154 rfl (kt_field (told_field told3 (by omega))) (lt_field (told_field told3 (by omega))) hf3 dX11_maker_23 ?_
      refine R_callS1 (pc := 26) (av := [.long (lN (cd f.1))]) (rest := [.int (nI p)]) (Or.inl lk_X11_173) mk_X11_sizeOf (c_sizeOf_cd hf1) dX11_maker_26 rfl rfl (Nat.le_of_ble_eq_true rfl) (by decide) rfl (by decide) (by decide) ?_
      refine R_icmp_lt (pc := 29) (tgt := 40) (by omega) (by omega) dX11_maker_29 (by decide) (fun h2 => ?_) (fun h2 => ?_)
      · skip
        refine T_iload_n (pc := 40) (i := 3) dX11_maker_40 rfl rfl ?_
        refine T_iconst (pc := 41) (v := nI 2) dX11_maker_41 (by decide) ?_
        refine R_chkS (pc := 42) (av := [.int (z), .int (nI 2)]) (rest := []) (Or.inl lk_X11_187) mk_X11_checkWhat c_checkWhat dX11_maker_42 rfl rfl (Nat.le_of_ble_eq_true rfl) (by decide) rfl (by decide) (by decide) (fun w => An_e (fun q => Bool.noConfusion ((show inB z 2 = false from w).symm.trans q))) (fun hz => ?_)
        have hz' : inB z 2 = true := hz
        rw [if_pos hz']
        refine T_iload_n (pc := 45) (i := 3) dX11_maker_45 rfl rfl ?_
        refine T_if_ne (pc := 46) (tgt := 59) dX11_maker_46 (by decide) (fun h3 => ?_) (fun h3 => ?_)
        · skip
          rw [if_neg h3]
          refine T_aload (pc := 59) (i := 4) dX11_maker_59 rfl ?_
          refine R_getR (pc := 61) (i := (3 + 10 + 3 * k + 2)) fl_X11_195 rfl (kt_field (told_field told3 (by omega))) (lt_field (told_field told3 (by omega))) (rt_field_makings (told_field told3 (by omega))) dX11_maker_61 ?_
          refine T_iload_n (pc := 64) (i := 2) dX11_maker_64 rfl rfl ?_
          refine R_iald (pc := 65) (x := ((mAt f.2.2 p).2)) (kt_field_makings (told_field told3 (by omega))) (lt_field_makings (told_field told3 (by omega))) (by omega) (by first | decide | assumption) hm.2 dX11_maker_65 ?_
          exact T_iret (pc := 66) (ty := .int) dX11_maker_66 rfl rfl (by decide) (by decide) ⟨rfl, rfl⟩
        · skip
          rw [if_pos (by simpa using h3)]
          refine T_aload (pc := 49) (i := 4) dX11_maker_49 rfl ?_
          refine R_getR (pc := 51) (i := (3 + 10 + 3 * k + 1)) fl_X11_191 rfl (kt_field (told_field told3 (by omega))) (lt_field (told_field told3 (by omega))) (rt_field_makers (told_field told3 (by omega))) dX11_maker_51 ?_
          refine T_iload_n (pc := 54) (i := 2) dX11_maker_54 rfl rfl ?_
          refine R_iald (pc := 55) (x := ((mAt f.2.2 p).1)) (kt_field_makers (told_field told3 (by omega))) (lt_field_makers (told_field told3 (by omega))) (by omega) (by first | decide | assumption) hm.1 dX11_maker_55 ?_
          refine T_goto (pc := 56) (tgt := 66) dX11_maker_56 (by decide) ?_
          exact T_iret (pc := 66) (ty := .int) dX11_maker_66 rfl rfl (by decide) (by decide) ⟨rfl, rfl⟩
      · exact absurd h2 (by omega)
  · rw [if_neg hy]
    refine T_aload_n (pc := 5) (i := 0) dX11_maker_5 rfl rfl ?_
    refine R_getR (pc := 6) (i := 3) fl_X11_19 rfl kc_0 lc_0 rc_0_1 dX11_maker_6 ?_
    refine R_getR (pc := 9) (i := 9) fl_X11_150 rfl (kt_told told3) (lt_told told3) (rt_told_fields told3) dX11_maker_9 ?_
    refine T_iload_n (pc := 12) (i := 1) dX11_maker_12 rfl rfl ?_
    refine R_aald (pc := 13) (t := 0) (j := (3 + 10 + 3 * k)) (kt_told_fields told3) (by decide) (lt_told_fields told3) (by omega) (by decide) (rt_told_el told3 (by omega)) dX11_maker_13 ?_
    refine T_astore (pc := 14) (i := 4) (ls' := [some (.ref 0), some (.int (nI k)), some (.int (y)), some (.int (z)), some (.ref (3 + 10 + 3 * k))]) dX11_maker_14 (by decide) rfl ?_
    refine T_iload_n (pc := 16) (i := 2) dX11_maker_16 rfl rfl ?_
    refine T_if_lt (pc := 17) (tgt := 32) dX11_maker_17 (by decide) (fun h1 => ?_) (fun h1 => ?_)
    · skip
      exact T_throw (pc := 32) (ik := 184) (ic := 186) thr_X11_184 thw_X11_184 dX11_maker_32 dX11_maker_35 dX11_maker_36 dX11_maker_39 rfl (Nat.le_of_ble_eq_true rfl) (by decide) (by decide) rfl (⟨rfl, rfl⟩)
    · skip
      refine T_iload_n (pc := 20) (i := 2) dX11_maker_20 rfl rfl ?_
      refine T_aload (pc := 21) (i := 4) dX11_maker_21 rfl ?_
      refine R_getL (pc := 23) (x := lN (cd f.1)) fl_X11_154 rfl (kt_field (told_field told3 (by omega))) (lt_field (told_field told3 (by omega))) hf3 dX11_maker_23 ?_
      refine R_callS1 (pc := 26) (av := [.long (lN (cd f.1))]) (rest := [.int (y)]) (Or.inl lk_X11_173) mk_X11_sizeOf (c_sizeOf_cd hf1) dX11_maker_26 rfl rfl (Nat.le_of_ble_eq_true rfl) (by decide) rfl (by decide) (by decide) ?_
      refine T_icmp_lt (pc := 29) (tgt := 40) dX11_maker_29 (by decide) (fun h2 => ?_) (fun h2 => ?_)
      · refine absurd ?_ hy
        unfold inB
        rw [decide_eq_false h1, decide_eq_true h2]
        rfl
      · skip
        exact T_throw (pc := 32) (ik := 184) (ic := 186) thr_X11_184 thw_X11_184 dX11_maker_32 dX11_maker_35 dX11_maker_36 dX11_maker_39 rfl (Nat.le_of_ble_eq_true rfl) (by decide) (by decide) rfl (⟨rfl, rfl⟩)
end MK

