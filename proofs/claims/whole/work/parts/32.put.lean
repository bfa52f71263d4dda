/-! a FIELD told anew; a RULE added -/
theorem fAt_set {F : List Fld} {k i : Nat} {f : Fld} (hk : k < F.length) : fAt (F.set k f) i = if i = k then f else fAt F i := by
  show (F.set k f).getD i _ = _
  rw [List.getD_eq_getElem?_getD, List.getElem?_set]
  by_cases h : k = i
  · rw [if_pos h, if_pos h.symm, if_pos (by omega)]
    rfl
  · rw [if_neg h, if_neg (fun z => h z.symm)]
    rfl
theorem ToldAt.field {μ m : SM2} {b k : Nat} {X : Td} {f : Fld} (h : ToldAt μ b X) (hk : k < X.F.length) (g : Off (b + 10 + 3 * k) 3 μ m) (hf : FieldAt m (b + 10 + 3 * k) f) : ToldAt m b (X.1, X.2.1.set k f, X.2.2) := by
  have h6 := h.2.1.2.1
  refine ⟨h.1.off g (by omega), ⟨?_, ?_, fun i hi => ?_⟩, ⟨(g.i (by omega) 5).trans h.2.2.1.1, h.2.2.1.2.1, fun i hi => ⟨(h.2.2.1.2.2 i hi).1, (g.l (by omega) i).trans (h.2.2.1.2.2 i hi).2.1, (g.l (by omega) i).trans (h.2.2.1.2.2 i hi).2.2⟩⟩, ⟨h.2.2.2.1.1, fun i hi => ⟨(h.2.2.2.1.2 i hi).1, (g.i (by omega) i).trans (h.2.2.2.1.2 i hi).2⟩⟩, h.2.2.2.2.1, (g.i (by omega) 7).trans h.2.2.2.2.2.1, (g.i (by omega) 8).trans h.2.2.2.2.2.2.1, (g.i (by omega) 9).trans h.2.2.2.2.2.2.2.1, (g.i (by omega) 10).trans h.2.2.2.2.2.2.2.2.1, (g.i (by omega) 11).trans h.2.2.2.2.2.2.2.2.2⟩
  · rw [g.i (by omega) 2, List.length_set]
    exact h.2.1.1
  · rw [List.length_set]
    exact h6
  · have hi2 : i < X.F.length := by rw [List.length_set] at hi; exact hi
    rw [fAt_set hk]
    by_cases e : i = k
    · rw [if_pos e, e]
      exact hf
    · rw [if_neg e]
      exact (h.2.1.2.2 i hi2).off g (by omega)
section PU
variable {γ : Ga} {μ : SM2}
theorem c_put {x : Int32} {y : Int64} {X : Td} {U : List Td} (hX : ToldAt μ 3 X) (hU : ActsAt μ U) : Ex γ 5 2 12 M_X11_put [.ref 0, .int x, .long y] (rm μ) (Ax (if inB x X.F.length = true then (if codeB y = true then none else some "java/lang/IllegalArgumentException") else some "java/lang/IndexOutOfBoundsException") (.long (lN (cd (fAt X.F x.toNatClampNeg).1))) μ (fun m => (ToldAt m 3 (X.1, X.2.1.set x.toNatClampNeg (ml y, 0, List.replicate (ml y).length (-1, -1)), X.2.2) ∧ ActsAt m ((X :: U).take 16)) ∧ OffP μ m)) := by
  have h6 := hX.2.1.2.1
  refine Ex.of (by decide +kernel) rfl (Nat.le_of_ble_eq_true rfl) ?_
  show T _ _ _ _ _ _ _ _ _ [some (.ref 0), some (.int (x)), some (.long (y)), none, none, none] [] (rm μ)
  refine T_aload_n (pc := 0) (i := 0) dX11_put_0 rfl rfl ?_
  refine T_iload_n (pc := 1) (i := 1) dX11_put_1 rfl rfl ?_
  refine R_chkV (pc := 2) (As := [.int (x)]) (rest := []) (Or.inl lk_X11_147) mk_X11_checkField (c_checkField hX.2.1) kc_0 ⟨by decide, rfl⟩ lc_0 dX11_put_2 rfl rfl (Nat.le_of_ble_eq_true rfl) (by decide) rfl (by decide) (by decide) (fun z => by rw [if_neg (by rw [z]; decide)]; exact ⟨rfl, rfl⟩) (fun hB => ?_)
  rw [if_pos hB]
  obtain ⟨k, hk, rfl⟩ := inB_of (by omega) hB
  rw [nI_clamp (n := k) (by omega)]
  refine T_lload_n (pc := 5) (i := 2) dX11_put_5 rfl rfl ?_
  refine R_chkS (pc := 6) (av := [.long (y)]) (rest := []) (Or.inl lk_X11_169) mk_X11_checkCode c_checkCode dX11_put_6 rfl rfl (Nat.le_of_ble_eq_true rfl) (by decide) rfl (by decide) (by decide) (fun z => Ax_e (by rw [z]; decide)) (fun hC => ?_)
  obtain ⟨l, hm, rfl⟩ := codeB_iff.mp hC
  rw [ml_cd hm]
  refine T_aload_n (pc := 9) (i := 0) dX11_put_9 rfl rfl ?_
  refine R_callVm0 (pc := 10) (As := []) (rest := []) (Or.inl lk_X11_208) mk_X11_remember (c_remember hX hU) kc_0 ⟨by decide, rfl⟩ lc_0 dX11_put_10 rfl rfl (Nat.le_of_ble_eq_true rfl) (by decide) rfl (by decide) (by decide) (fun m h => ?_)
  obtain ⟨hA, hO⟩ := h
  have hX1 := hX.offA hO (by omega)
  refine T_aload_n (pc := 13) (i := 0) dX11_put_13 rfl rfl ?_
  refine R_getR (pc := 14) (i := 3) fl_X11_19 rfl kc_0 lc_0 rc_0_1 dX11_put_14 ?_
  refine R_getR (pc := 17) (i := 9) fl_X11_150 rfl (kt_told told3) (lt_told told3) (rt_told_fields told3) dX11_put_17 ?_
  refine T_iload_n (pc := 20) (i := 1) dX11_put_20 rfl rfl ?_
  refine R_aald (pc := 21) (t := 0) (j := (3 + 10 + 3 * k)) (kt_told_fields told3) (by decide) (lt_told_fields told3) (by omega) (by decide) (rt_told_el told3 (by omega)) dX11_put_21 ?_
  refine R_getL (pc := 22) (x := lN (cd (fAt X.F k).1)) fl_X11_154 rfl (kt_field (told_field told3 (by omega))) (lt_field (told_field told3 (by omega))) ((hX1.2.1.2.2 k hk).code) dX11_put_22 ?_
  refine T_lstore (pc := 25) (i := 4) (ls' := [some (.ref 0), some (.int (nI k)), some (.long (lN (cd l))), none, some (.long (lN (cd (fAt X.F k).1))), none]) dX11_put_25 (by decide) rfl ?_
  refine T_aload_n (pc := 27) (i := 0) dX11_put_27 rfl rfl ?_
  refine R_getR (pc := 28) (i := 3) fl_X11_19 rfl kc_0 lc_0 rc_0_1 dX11_put_28 ?_
  refine R_getR (pc := 31) (i := 9) fl_X11_150 rfl (kt_told told3) (lt_told told3) (rt_told_fields told3) dX11_put_31 ?_
  refine T_iload_n (pc := 34) (i := 1) dX11_put_34 rfl rfl ?_
  refine R_aald (pc := 35) (t := 0) (j := (3 + 10 + 3 * k)) (kt_told_fields told3) (by decide) (lt_told_fields told3) (by omega) (by decide) (rt_told_el told3 (by omega)) dX11_put_35 ?_
  refine T_lload_n (pc := 36) (i := 2) dX11_put_36 rfl rfl ?_
  refine R_callVm0 (pc := 37) (As := [.long (lN (cd l))]) (rest := []) (Or.inl lk_X11_223) mk_X1_tell (c_Field_tell (told_field told3 (by omega)) hm) (kt_field (told_field told3 (by omega))) ⟨by decide, rfl⟩ (lt_field (told_field told3 (by omega))) dX11_put_37 rfl rfl (Nat.le_of_ble_eq_true rfl) (by decide) rfl (by decide) (by decide) (fun m2 h2 => ?_)
  obtain ⟨hF2, hO2⟩ := h2
  refine T_lload (pc := 40) (i := 4) dX11_put_40 rfl ?_
  exact T_lret dX11_put_42 rfl (by decide) (by decide) (Ax_v hC ⟨⟨hX1.field hk hO2 hF2, hA.off hO2 (by omega)⟩, hO.p hO2 (by omega)⟩)
end PU

