/-! never, falls: the calls -/
theorem nvQ_s {R : List Ru} {x : Ru} {lst : List Nat} {f md : Nat} : nvQ R x lst (f + 1) md = match srch (okC md R.length (R ++ [x])) 0 md lst w0 with | some w => some (md, w) | none => nvQ R x lst f (md + 1) := rfl
section SG
variable {γ : Ga} {μ : SM2}
theorem c_never {x y : Int64} {z : Int32} {R : List Ru} (hR : RulesAt μ 4 R) : Ex γ 11 3 18 M_X11_never [.ref 0, .long x, .long y, .int z] (rm μ) (Ax (if codeB x = true then (if codeB y = true then (if chkB z = true then none else some "java/lang/IndexOutOfBoundsException") else some "java/lang/IllegalArgumentException") else some "java/lang/IllegalArgumentException") (.int (nvV R (ml x, ml y) z)) μ (fun m => OfS SSc μ m)) := by
  have h12 := hR.len
  refine Ex.of (by decide +kernel) rfl (Nat.le_of_ble_eq_true rfl) ?_
  show T _ _ _ _ _ _ _ _ _ [some (.ref 0), some (.long (x)), none, some (.long (y)), none, some (.int (z)), none] [] (rm μ)
  refine T_lload_n (pc := 0) (i := 1) dX11_never_0 rfl rfl ?_
  refine R_chkS (pc := 1) (av := [.long (x)]) (rest := []) (Or.inl lk_X11_169) mk_X11_checkCode c_checkCode dX11_never_1 rfl rfl (Nat.le_of_ble_eq_true rfl) (by decide) rfl (by decide) (by decide) (fun z => by rw [if_neg (by rw [z]; decide)]; exact ⟨rfl, rfl⟩) (fun hcA => ?_)
  rw [if_pos hcA]
  refine T_lload_n (pc := 4) (i := 3) dX11_never_4 rfl rfl ?_
  refine R_chkS (pc := 5) (av := [.long (y)]) (rest := []) (Or.inl lk_X11_169) mk_X11_checkCode c_checkCode dX11_never_5 rfl rfl (Nat.le_of_ble_eq_true rfl) (by decide) rfl (by decide) (by decide) (fun z => by rw [if_neg (by rw [z]; decide)]; exact ⟨rfl, rfl⟩) (fun hB => ?_)
  rw [if_pos hB]
  refine T_iload (pc := 8) (i := 5) dX11_never_8 rfl ?_
  refine R_chkS (pc := 10) (av := [.int (z)]) (rest := []) (Or.inl lk_X11_391) mk_X11_checkBeastOrNone c_checkBeastOrNone dX11_never_10 rfl rfl (Nat.le_of_ble_eq_true rfl) (by decide) rfl (by decide) (by decide) (fun z => Ax_e (by unfold chkB; rw [z]; decide)) (fun hC => ?_)
  rw [if_pos (c := chkB z = true) hC]
  obtain ⟨a, ha, rfl⟩ := codeB_iff.mp hcA
  obtain ⟨d, hd, rfl⟩ := codeB_iff.mp hB
  have hz := chkB_of hC
  rw [ml_cd ha, ml_cd hd]
  have kl := kLN_lt hR (Nat.le_refl _)
  have kr := kRN_lt hR (Nat.le_refl _)
  have hK : kK R a d < 2 ^ 8 := Nat.or_lt_two_pow (Nat.or_lt_two_pow (Nat.or_lt_two_pow kl kr) (kd_lt ha.2)) (kd_lt hd.2)
  have evV : nvV R (a, d) z = if pcn (kK R a d) 12 ≤ 6 then nvR z (nvQ R (a, d) (lsB (kK R a d) 8) 4 2) else -3 := rfl
  rw [evV]
  refine T_aload_n (pc := 13) (i := 0) dX11_never_13 rfl rfl ?_
  refine R_getR (pc := 14) (i := 116) fl_X11_79 rfl kc_0 lc_0 rc_0_15 dX11_never_14 ?_
  refine T_aload_n (pc := 17) (i := 0) dX11_never_17 rfl rfl ?_
  refine R_getR (pc := 18) (i := 3) fl_X11_19 rfl kc_0 lc_0 rc_0_1 dX11_never_18 ?_
  refine R_getR (pc := 21) (i := 4) fl_X11_48 rfl (kt_told told3) (lt_told told3) (rt_told_rules told3) dX11_never_21 ?_
  refine R_callV1 (pc := 24) (As := []) (rest := [.ref 116]) (Or.inl lk_X11_394) mk_X6_kinds (c_Rules_kinds rules4 hR) (kt_rules rules4) ⟨by decide, rfl⟩ (lt_rules rules4) dX11_never_24 rfl rfl (Nat.le_of_ble_eq_true rfl) (by decide) rfl (by decide) (by decide) ?_
  refine T_lload_n (pc := 27) (i := 1) dX11_never_27 rfl rfl ?_
  refine R_callS1 (pc := 28) (av := [.long (lN (cd a))]) (rest := [.int (nI (kLN R R.length ||| kRN R R.length)), .ref 116]) (Or.inl lk_X11_283) mk_X11_kindsIn (c_kindsIn ha) dX11_never_28 rfl rfl (Nat.le_of_ble_eq_true rfl) (by decide) rfl (by decide) (by decide) ?_
  refine R_ior (pc := 31) dX11_never_31 ?_
  refine T_lload_n (pc := 32) (i := 3) dX11_never_32 rfl rfl ?_
  refine R_callS1 (pc := 33) (av := [.long (lN (cd d))]) (rest := [.int (nI ((kLN R R.length ||| kRN R R.length) ||| (kd a))), .ref 116]) (Or.inl lk_X11_283) mk_X11_kindsIn (c_kindsIn hd) dX11_never_33 rfl rfl (Nat.le_of_ble_eq_true rfl) (by decide) rfl (by decide) (by decide) ?_
  refine R_ior (pc := 36) dX11_never_36 ?_
  refine R_callVm1 (pc := 37) (As := [.int (nI (((kLN R R.length ||| kRN R R.length) ||| (kd a)) ||| (kd d)))]) (rest := []) (Or.inl lk_X11_397) mk_X7_list (c_list (K := kLN R R.length ||| kRN R R.length ||| kd a ||| kd d) hK) kc_116 ⟨by decide, rfl⟩ lc_116 dX11_never_37 rfl rfl (Nat.le_of_ble_eq_true rfl) (by decide) rfl (by decide) (by decide) (fun m1 h1 => ?_)
  obtain ⟨l1, o1⟩ := h1
  replace l1 : pcn (kK R a d) 12 ≤ 6 → ListAt m1 (lsB (kK R a d) 8) := l1
  refine R_ifb_ne (pc := 40) (tgt := 46) dX11_never_40 (by decide) (fun h2 => ?_) (fun h2 => ?_)
  · skip
    have hp : pcn (kK R a d) 12 ≤ 6 := of_decide_eq_true h2
    have L1 := l1 hp
    have R1 : RulesAt m1 4 R := hR.ofs o1 (fun k h1 h2 => by unfold SSc; omega)
    have nok := never_ok hR ha hd
    rw [if_pos hp]
    generalize lsB (kK R a d) 8 = lst at *
    refine T_aload_n (pc := 46) (i := 0) dX11_never_46 rfl rfl ?_
    refine R_getR (pc := 47) (i := 116) fl_X11_79 rfl kc_0 lc_0 rc_0_15 dX11_never_47 ?_
    refine T_aload_n (pc := 50) (i := 0) dX11_never_50 rfl rfl ?_
    refine R_getR (pc := 51) (i := 3) fl_X11_19 rfl kc_0 lc_0 rc_0_1 dX11_never_51 ?_
    refine R_getR (pc := 54) (i := 4) fl_X11_48 rfl (kt_told told3) (lt_told told3) (rt_told_rules told3) dX11_never_54 ?_
    refine R_callVm0 (pc := 57) (As := [.ref 4]) (rest := []) (Or.inl lk_X11_401) mk_X7_loadRules (c_loadRules R1 L1) kc_116 ⟨by decide, rfl⟩ lc_116 dX11_never_57 rfl rfl (Nat.le_of_ble_eq_true rfl) (by decide) rfl (by decide) (by decide) (fun m2 h3 => ?_)
    obtain ⟨⟨P2, rc2⟩, o2, k2⟩ := h3
    have O2 : OfS SSc μ m2 := o1.trans (o2.mono (fun k hk => by unfold SR at hk; unfold SSc; omega))
    have L2 : ListAt m2 lst := ⟨k2.trans L1.1, L1.2.1, fun i hi => ⟨(L1.2.2 i hi).1, (o2.i (by unfold SR; omega) i).trans (L1.2.2 i hi).2⟩⟩
    refine T_aload_n (pc := 60) (i := 0) dX11_never_60 rfl rfl ?_
    refine R_getR (pc := 61) (i := 116) fl_X11_79 rfl kc_0 lc_0 rc_0_15 dX11_never_61 ?_
    refine T_lload_n (pc := 64) (i := 1) dX11_never_64 rfl rfl ?_
    refine T_lload_n (pc := 65) (i := 3) dX11_never_65 rfl rfl ?_
    refine R_callVm0 (pc := 66) (As := [.long (lN (cd a)), .long (lN (cd d))]) (rest := []) (Or.inl lk_X11_405) mk_X7_loadPair (c_loadPair (x := (a, d)) ⟨ha, hd⟩ L2 P2 h12) kc_116 ⟨by decide, rfl⟩ lc_116 dX11_never_66 rfl rfl (Nat.le_of_ble_eq_true rfl) (by decide) rfl (by decide) (by decide) (fun m3 h4 => ?_)
    obtain ⟨P3, k3, o3⟩ := h4
    have O3 : OfS SSc μ m3 := O2.trans (o3.mono (fun k hk => by unfold SR at hk; unfold SSc; omega))
    have L3 : ListAt m3 lst := ⟨(k3 2 (by decide)).trans L2.1, L2.2.1, fun i hi => ⟨(L2.2.2 i hi).1, (o3.i (by unfold SR; omega) i).trans (L2.2.2 i hi).2⟩⟩
    have rc3 := (k3 6 (by decide)).trans rc2
    refine T_iconst (pc := 69) (v := nI 2) dX11_never_69 (by decide) ?_
    refine T_istore (pc := 70) (i := 6) (ls' := [some (.ref 0), some (.long (lN (cd a))), none, some (.long (lN (cd d))), none, some (.int (z)), some (.int (nI 2))]) dX11_never_70 (by decide) rfl ?_
    suffices loop : ∀ (f md : Nat) (m : SM2), md + f = 6 → 2 ≤ md → ListAt m lst → RwAt m lst (R ++ [(a, d)]) → m.1 116 6 = nI R.length → OfS SSc μ m → T γ 11 3 18 M_X11_never (Ax none (.int (nvR z (nvQ R (a, d) lst f md))) μ (fun m => OfS SSc μ m)) 3 18 72 [some (.ref 0), some (.long (lN (cd a))), none, some (.long (lN (cd d))), none, some (.int z), some (.int (nI md))] [] (rm m) by
      exact loop 4 2 m3 rfl (Nat.le_refl _) L3 P3 rc3 O3
    intro f
    induction f with
    | zero =>
      intro md m hmd h2 hl hp2 hrc hO
      show T _ _ _ _ _ (Ax none (.int (-1)) _ _) _ _ _ _ _ _
      refine T_iload (pc := 72) (i := 6) dX11_never_72 rfl ?_
      refine T_iconst (pc := 74) (v := nI 5) dX11_never_74 (by decide) ?_
      refine R_icmp_gt (pc := 75) (tgt := 118) (by omega) (by omega) dX11_never_75 (by decide) (fun h5 => ?_) (fun h5 => ?_)
      · skip
        refine T_iconst (pc := 118) (v := (-1)) dX11_never_118 (by decide) ?_
        exact T_iret (pc := 119) (ty := .int) dX11_never_119 rfl rfl (by decide) (by decide) ⟨m, rfl, rfl, hO⟩
      · exact absurd h5 (by omega)
    | succ f ih =>
      intro md m hmd h2 hl hp2 hrc hO
      rw [nvQ_s]
      have hm5 : 2 ≤ md ∧ md < 6 := by omega
      have h0 : okC md R.length (R ++ [(a, d)]) w0 = false := all_f (i := R.length) (by rw [List.length_append]; exact Nat.lt_succ_self _) (by
        unfold hoB
        rw [if_neg (by omega), decide_eq_false (Nat.lt_irrefl _), if_neg Bool.false_ne_true, sumZ_w0, Int.zero_emod]
        rfl)
      have fm := c_findModulo (γ := γ) hl hp2 hrc hm5 (by omega) nok h0
      refine T_iload (pc := 72) (i := 6) dX11_never_72 rfl ?_
      refine T_iconst (pc := 74) (v := nI 5) dX11_never_74 (by decide) ?_
      refine R_icmp_gt (pc := 75) (tgt := 118) (by omega) (by omega) dX11_never_75 (by decide) (fun h5 => ?_) (fun h5 => ?_)
      · exact absurd h5 (by omega)
      · skip
        refine T_aload_n (pc := 78) (i := 0) dX11_never_78 rfl rfl ?_
        refine R_getR (pc := 79) (i := 116) fl_X11_79 rfl kc_0 lc_0 rc_0_15 dX11_never_79 ?_
        refine T_iload (pc := 82) (i := 6) dX11_never_82 rfl ?_
        refine R_callVm1 (pc := 84) (As := [.int (nI md)]) (rest := []) (Or.inl lk_X11_408) mk_X7_findModulo fm kc_116 ⟨by decide, rfl⟩ lc_116 dX11_never_84 rfl rfl (Nat.le_of_ble_eq_true rfl) (by decide) rfl (by decide) (by decide) (fun m4 h6 => ?_)
        obtain ⟨⟨w4, l4, p4, rc4⟩, o4⟩ := h6
        have O4 := hO.trans o4
        cases e : srch (okC md R.length (R ++ [(a, d)])) 0 md lst w0 with
        | none =>
          show T _ _ _ _ _ (Ax none (.int (nvR z (nvQ R (a, d) lst f (md + 1)))) _ _) _ _ _ _ _ _
          refine R_ifb_eq (pc := 87) (tgt := 112) dX11_never_87 (by decide) (fun h7 => ?_) (fun h7 => ?_)
          · skip
            refine R_iinc (pc := 112) (i := 6) (n := 1) (ls' := [some (.ref 0), some (.long (lN (cd a))), none, some (.long (lN (cd d))), none, some (.int (z)), some (.int (nI (md + 1)))]) dX11_never_112 rfl rfl ?_
            refine T_goto (pc := 115) (tgt := 72) dX11_never_115 (by decide) ?_
            exact ih (md + 1) m4 (by omega) (by omega) l4 p4 rc4 O4
          · exact absurd h7 (fun z => by cases z)
        | some w =>
          have hw := w4 w e
          have hev : nvR z (some (md, w)) = if z = -1 then nI md else nI (w.getD z.toNatClampNeg 0) := rfl
          show T _ _ _ _ _ (Ax none (.int (nvR z (some (md, w)))) _ _) _ _ _ _ _ _
          rw [hev]
          rcases hz with hz | ⟨b, hb, hz⟩
          · subst hz
            rw [if_pos (c := (-1 : Int32) = -1) rfl]
            refine R_ifb_eq (pc := 87) (tgt := 112) dX11_never_87 (by decide) (fun h7 => ?_) (fun h7 => ?_)
            · exact absurd h7 (fun z => by cases z)
            · skip
              refine T_iload (pc := 90) (i := 5) dX11_never_90 rfl ?_
              refine T_iconst (pc := 92) (v := (-1)) dX11_never_92 (by decide) ?_
              refine T_icmp_ne (pc := 93) (tgt := 101) dX11_never_93 (by decide) (fun h8 => ?_) (fun h8 => ?_)
              · exact absurd rfl h8
              · skip
                refine T_iload (pc := 96) (i := 6) dX11_never_96 rfl ?_
                refine T_goto (pc := 98) (tgt := 111) dX11_never_98 (by decide) ?_
                exact T_iret (pc := 111) (ty := .int) dX11_never_111 rfl rfl (by decide) (by decide) ⟨m4, rfl, rfl, O4⟩
          · subst hz
            rw [if_neg (nI_ne (by omega)), nI_clamp (n := b) (by omega)]
            refine R_ifb_eq (pc := 87) (tgt := 112) dX11_never_87 (by decide) (fun h7 => ?_) (fun h7 => ?_)
            · exact absurd h7 (fun z => by cases z)
            · skip
              refine T_iload (pc := 90) (i := 5) dX11_never_90 rfl ?_
              refine T_iconst (pc := 92) (v := (-1)) dX11_never_92 (by decide) ?_
              refine T_icmp_ne (pc := 93) (tgt := 101) dX11_never_93 (by decide) (fun h8 => ?_) (fun h8 => ?_)
              · skip
                refine T_aload_n (pc := 101) (i := 0) dX11_never_101 rfl rfl ?_
                refine R_getR (pc := 102) (i := 116) fl_X11_79 rfl kc_0 lc_0 rc_0_15 dX11_never_102 ?_
                refine R_getR (pc := 105) (i := 117) fl_X11_411 rfl kc_116 lc_116 rc_116_0 dX11_never_105 ?_
                refine T_iload (pc := 108) (i := 5) dX11_never_108 rfl ?_
                refine R_iald (pc := 110) (x := nI (w.getD b 0)) kc_117 lc_117 (by omega) (by first | decide | assumption) (hw.2 b hb) dX11_never_110 ?_
                exact T_iret (pc := 111) (ty := .int) dX11_never_111 rfl rfl (by decide) (by decide) ⟨m4, rfl, rfl, O4⟩
              · exact absurd h8 (nI_ne (by omega))
  · skip
    have hp : ¬ pcn (kK R a d) 12 ≤ 6 := of_decide_eq_false h2
    rw [if_neg hp]
    refine T_bipush (pc := 43) (v := (-3)) dX11_never_43 (by decide) ?_
    exact T_iret (pc := 45) (ty := .int) dX11_never_45 rfl rfl (by decide) (by decide) ⟨m1, rfl, rfl, o1⟩
theorem c_falls {x : Int32} {z : Int32} {R : List Ru} (hR : RulesAt μ 4 R) : Ex γ 11 2 12 M_X11_falls [.ref 0, .int x, .int z] (rm μ) (Ax (if chkN x 1 5 = true then (if chkB z = true then none else some "java/lang/IndexOutOfBoundsException") else some "java/lang/IllegalArgumentException") (.int (flV R x.toNatClampNeg z)) μ (fun m => OfS SSc μ m)) := by
  have h12 := hR.len
  refine Ex.of (by decide +kernel) rfl (Nat.le_of_ble_eq_true rfl) ?_
  show T _ _ _ _ _ _ _ _ _ [some (.ref 0), some (.int (x)), some (.int (z)), none] [] (rm μ)
  refine T_iload_n (pc := 0) (i := 1) dX11_falls_0 rfl rfl ?_
  refine T_iconst (pc := 1) (v := nI 1) dX11_falls_1 (by decide) ?_
  refine T_iconst (pc := 2) (v := nI 5) dX11_falls_2 (by decide) ?_
  refine R_chkS (pc := 3) (av := [.int (x), .int (nI 1), .int (nI 5)]) (rest := []) (Or.inl lk_X11_215) mk_X11_checkNumber c_checkNumber dX11_falls_3 rfl rfl (Nat.le_of_ble_eq_true rfl) (by decide) rfl (by decide) (by decide) (fun z => by rw [if_neg (by unfold chkN; rw [z]; decide)]; exact ⟨rfl, rfl⟩) (fun hA => ?_)
  rw [if_pos (c := chkN x 1 5 = true) hA]
  refine T_iload_n (pc := 6) (i := 2) dX11_falls_6 rfl rfl ?_
  refine R_chkS (pc := 7) (av := [.int (z)]) (rest := []) (Or.inl lk_X11_391) mk_X11_checkBeastOrNone c_checkBeastOrNone dX11_falls_7 rfl rfl (Nat.le_of_ble_eq_true rfl) (by decide) rfl (by decide) (by decide) (fun z => Ax_e (by unfold chkB; rw [z]; decide)) (fun hC => ?_)
  rw [if_pos (c := chkB z = true) hC]
  obtain ⟨N, hN1, hN, rfl⟩ := chk_of (by decide) (by decide) hA
  have hz := chkB_of hC
  rw [nI_clamp (n := N) (by omega)]
  have kl := kLN_lt hR (Nat.le_refl _)
  have kr := kRN_lt hR (Nat.le_refl _)
  have hK : kJ R < 2 ^ 8 := Nat.or_lt_two_pow kl kr
  have evV : flV R N z = if pcn (kJ R) 12 ≤ 6 then flR z (srch (okC 0 R.length R) 1 N (lsB (kJ R) 8) w0) else -3 := rfl
  rw [evV]
  refine T_aload_n (pc := 10) (i := 0) dX11_falls_10 rfl rfl ?_
  refine R_getR (pc := 11) (i := 116) fl_X11_79 rfl kc_0 lc_0 rc_0_15 dX11_falls_11 ?_
  refine T_aload_n (pc := 14) (i := 0) dX11_falls_14 rfl rfl ?_
  refine R_getR (pc := 15) (i := 3) fl_X11_19 rfl kc_0 lc_0 rc_0_1 dX11_falls_15 ?_
  refine R_getR (pc := 18) (i := 4) fl_X11_48 rfl (kt_told told3) (lt_told told3) (rt_told_rules told3) dX11_falls_18 ?_
  refine R_callV1 (pc := 21) (As := []) (rest := [.ref 116]) (Or.inl lk_X11_394) mk_X6_kinds (c_Rules_kinds rules4 hR) (kt_rules rules4) ⟨by decide, rfl⟩ (lt_rules rules4) dX11_falls_21 rfl rfl (Nat.le_of_ble_eq_true rfl) (by decide) rfl (by decide) (by decide) ?_
  refine R_callVm1 (pc := 24) (As := [.int (nI (kLN R R.length ||| kRN R R.length))]) (rest := []) (Or.inl lk_X11_397) mk_X7_list (c_list (K := kLN R R.length ||| kRN R R.length) hK) kc_116 ⟨by decide, rfl⟩ lc_116 dX11_falls_24 rfl rfl (Nat.le_of_ble_eq_true rfl) (by decide) rfl (by decide) (by decide) (fun m1 h1 => ?_)
  obtain ⟨l1, o1⟩ := h1
  replace l1 : pcn (kJ R) 12 ≤ 6 → ListAt m1 (lsB (kJ R) 8) := l1
  refine R_ifb_ne (pc := 27) (tgt := 33) dX11_falls_27 (by decide) (fun h2 => ?_) (fun h2 => ?_)
  · skip
    have hp : pcn (kJ R) 12 ≤ 6 := of_decide_eq_true h2
    have L1 := l1 hp
    have R1 : RulesAt m1 4 R := hR.ofs o1 (fun k h1 h2 => by unfold SSc; omega)
    have fok := falls_ok hR
    rw [if_pos hp]
    generalize lsB (kJ R) 8 = lst at *
    refine T_aload_n (pc := 33) (i := 0) dX11_falls_33 rfl rfl ?_
    refine R_getR (pc := 34) (i := 116) fl_X11_79 rfl kc_0 lc_0 rc_0_15 dX11_falls_34 ?_
    refine T_aload_n (pc := 37) (i := 0) dX11_falls_37 rfl rfl ?_
    refine R_getR (pc := 38) (i := 3) fl_X11_19 rfl kc_0 lc_0 rc_0_1 dX11_falls_38 ?_
    refine R_getR (pc := 41) (i := 4) fl_X11_48 rfl (kt_told told3) (lt_told told3) (rt_told_rules told3) dX11_falls_41 ?_
    refine R_callVm0 (pc := 44) (As := [.ref 4]) (rest := []) (Or.inl lk_X11_401) mk_X7_loadRules (c_loadRules R1 L1) kc_116 ⟨by decide, rfl⟩ lc_116 dX11_falls_44 rfl rfl (Nat.le_of_ble_eq_true rfl) (by decide) rfl (by decide) (by decide) (fun m2 h3 => ?_)
    obtain ⟨⟨P2, rc2⟩, o2, k2⟩ := h3
    have O2 : OfS SSc μ m2 := o1.trans (o2.mono (fun k hk => by unfold SR at hk; unfold SSc; omega))
    have L2 : ListAt m2 lst := ⟨k2.trans L1.1, L1.2.1, fun i hi => ⟨(L1.2.2 i hi).1, (o2.i (by unfold SR; omega) i).trans (L1.2.2 i hi).2⟩⟩
    refine T_aload_n (pc := 47) (i := 0) dX11_falls_47 rfl rfl ?_
    refine R_getR (pc := 48) (i := 116) fl_X11_79 rfl kc_0 lc_0 rc_0_15 dX11_falls_48 ?_
    refine T_iload_n (pc := 51) (i := 1) dX11_falls_51 rfl rfl ?_
    refine R_callVm1 (pc := 52) (As := [.int (nI N)]) (rest := []) (Or.inl lk_X11_414) mk_X7_findFalling (c_findFalling L2 P2 rc2 (n := N) (by omega) (by omega) fok) kc_116 ⟨by decide, rfl⟩ lc_116 dX11_falls_52 rfl rfl (Nat.le_of_ble_eq_true rfl) (by decide) rfl (by decide) (by decide) (fun m4 h6 => ?_)
    obtain ⟨⟨w4, l4, p4, rc4⟩, o4⟩ := h6
    have O4 := O2.trans o4
    obtain ⟨o, eo⟩ : ∃ o, srch (okC 0 R.length R) 1 N lst w0 = o := ⟨_, rfl⟩
    rw [eo] at w4 ⊢
    rcases hz with hz | ⟨b, hb, hz⟩
    · subst hz
      have hev : flR (-1) o = bI o.isSome := if_pos rfl
      rw [hev]
      cases o with
      | none =>
        refine T_istore_n (pc := 55) (i := 3) (ls' := [some (.ref 0), some (.int (nI N)), some (.int ((-1))), some (.int (bI ((none : Option (List Nat)).isSome)))]) dX11_falls_55 rfl (by decide) rfl ?_
        refine T_iload_n (pc := 56) (i := 2) dX11_falls_56 rfl rfl ?_
        refine T_iconst (pc := 57) (v := (-1)) dX11_falls_57 (by decide) ?_
        refine T_icmp_ne (pc := 58) (tgt := 71) dX11_falls_58 (by decide) (fun h7 => ?_) (fun h7 => ?_)
        · exact absurd rfl h7
        · skip
          refine T_iload_n (pc := 61) (i := 3) dX11_falls_61 rfl rfl ?_
          refine R_ifb_eq (pc := 62) (tgt := 69) dX11_falls_62 (by decide) (fun h8 => ?_) (fun h8 => ?_)
          · skip
            refine T_iconst (pc := 69) (v := nI 0) dX11_falls_69 (by decide) ?_
            exact T_iret (pc := 70) (ty := .int) dX11_falls_70 rfl rfl (by decide) (by decide) ⟨m4, rfl, rfl, O4⟩
          · exact absurd h8 (fun z => by cases z)
      | some w =>
        refine T_istore_n (pc := 55) (i := 3) (ls' := [some (.ref 0), some (.int (nI N)), some (.int ((-1))), some (.int (bI ((some w : Option (List Nat)).isSome)))]) dX11_falls_55 rfl (by decide) rfl ?_
        refine T_iload_n (pc := 56) (i := 2) dX11_falls_56 rfl rfl ?_
        refine T_iconst (pc := 57) (v := (-1)) dX11_falls_57 (by decide) ?_
        refine T_icmp_ne (pc := 58) (tgt := 71) dX11_falls_58 (by decide) (fun h7 => ?_) (fun h7 => ?_)
        · exact absurd rfl h7
        · skip
          refine T_iload_n (pc := 61) (i := 3) dX11_falls_61 rfl rfl ?_
          refine R_ifb_eq (pc := 62) (tgt := 69) dX11_falls_62 (by decide) (fun h8 => ?_) (fun h8 => ?_)
          · exact absurd h8 (fun z => by cases z)
          · skip
            refine T_iconst (pc := 65) (v := nI 1) dX11_falls_65 (by decide) ?_
            refine T_goto (pc := 66) (tgt := 70) dX11_falls_66 (by decide) ?_
            exact T_iret (pc := 70) (ty := .int) dX11_falls_70 rfl rfl (by decide) (by decide) ⟨m4, rfl, rfl, O4⟩
    · subst hz
      cases o with
      | none =>
        have hev : flR (nI b) none = -1 := if_neg (nI_ne (by omega))
        rw [hev]
        refine T_istore_n (pc := 55) (i := 3) (ls' := [some (.ref 0), some (.int (nI N)), some (.int (nI b)), some (.int (bI ((none : Option (List Nat)).isSome)))]) dX11_falls_55 rfl (by decide) rfl ?_
        refine T_iload_n (pc := 56) (i := 2) dX11_falls_56 rfl rfl ?_
        refine T_iconst (pc := 57) (v := (-1)) dX11_falls_57 (by decide) ?_
        refine T_icmp_ne (pc := 58) (tgt := 71) dX11_falls_58 (by decide) (fun h7 => ?_) (fun h7 => ?_)
        · skip
          refine T_iload_n (pc := 71) (i := 3) dX11_falls_71 rfl rfl ?_
          refine R_ifb_eq (pc := 72) (tgt := 87) dX11_falls_72 (by decide) (fun h8 => ?_) (fun h8 => ?_)
          · skip
            refine T_iconst (pc := 87) (v := (-1)) dX11_falls_87 (by decide) ?_
            exact T_iret (pc := 88) (ty := .int) dX11_falls_88 rfl rfl (by decide) (by decide) ⟨m4, rfl, rfl, O4⟩
          · exact absurd h8 (fun z => by cases z)
        · exact absurd h7 (nI_ne (by omega))
      | some w =>
        have hw := w4 w rfl
        have hev : flR (nI b) (some w) = nI (w.getD (nI b).toNatClampNeg 0) := if_neg (nI_ne (by omega))
        rw [hev, nI_clamp (n := b) (by omega)]
        refine T_istore_n (pc := 55) (i := 3) (ls' := [some (.ref 0), some (.int (nI N)), some (.int (nI b)), some (.int (bI ((some w : Option (List Nat)).isSome)))]) dX11_falls_55 rfl (by decide) rfl ?_
        refine T_iload_n (pc := 56) (i := 2) dX11_falls_56 rfl rfl ?_
        refine T_iconst (pc := 57) (v := (-1)) dX11_falls_57 (by decide) ?_
        refine T_icmp_ne (pc := 58) (tgt := 71) dX11_falls_58 (by decide) (fun h7 => ?_) (fun h7 => ?_)
        · skip
          refine T_iload_n (pc := 71) (i := 3) dX11_falls_71 rfl rfl ?_
          refine R_ifb_eq (pc := 72) (tgt := 87) dX11_falls_72 (by decide) (fun h8 => ?_) (fun h8 => ?_)
          · exact absurd h8 (fun z => by cases z)
          · skip
            refine T_aload_n (pc := 75) (i := 0) dX11_falls_75 rfl rfl ?_
            refine R_getR (pc := 76) (i := 116) fl_X11_79 rfl kc_0 lc_0 rc_0_15 dX11_falls_76 ?_
            refine R_getR (pc := 79) (i := 117) fl_X11_411 rfl kc_116 lc_116 rc_116_0 dX11_falls_79 ?_
            refine T_iload_n (pc := 82) (i := 2) dX11_falls_82 rfl rfl ?_
            refine R_iald (pc := 83) (x := nI (w.getD b 0)) kc_117 lc_117 (by omega) (by first | decide | assumption) (hw.2 b hb) dX11_falls_83 ?_
            refine T_goto (pc := 84) (tgt := 88) dX11_falls_84 (by decide) ?_
            exact T_iret (pc := 88) (ty := .int) dX11_falls_88 rfl rfl (by decide) (by decide) ⟨m4, rfl, rfl, O4⟩
        · exact absurd h7 (nI_ne (by omega))
  · skip
    have hp : ¬ pcn (kJ R) 12 ≤ 6 := of_decide_eq_false h2
    rw [if_neg hp]
    refine T_bipush (pc := 30) (v := (-3)) dX11_falls_30 (by decide) ?_
    exact T_iret (pc := 32) (ty := .int) dX11_falls_32 rfl rfl (by decide) (by decide) ⟨m1, rfl, rfl, o1⟩
end SG

