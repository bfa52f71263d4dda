/-! THE MODEL: meets -/
theorem row_mt {H1 H2 : Hd} {n : Nat} (hr : ∀ i, i < H1.length → Mw (hA H1 i).1) (g1 : ∀ i, i < H1.length → (hA H1 i).2 ≤ n) (g2 : ∀ i, i < H2.length → (hA H2 i).2 ≤ n) : ∀ i, i ≤ H1.length → ∀ q, mtN H1 H2 i = some q → q.1 ≤ 2 * n ∧ Mw q.2
  | 0, _, q, e => by cases e
  | i + 1, hi, q, e => by
    have ih := row_mt hr g1 g2 i (by omega)
    have e2 : (match inK (hKs H2) (hA H1 i).1 with | none => mtN H1 H2 i | some j => if mtL (mtN H1 H2 i) ((hA H1 i).2 + (hA H2 j).2) (hA H1 i).1 = true then some ((hA H1 i).2 + (hA H2 j).2, (hA H1 i).1) else mtN H1 H2 i) = some q := e
    cases ek : inK (hKs H2) (hA H1 i).1 with
    | none =>
      rw [ek] at e2
      exact ih q e2
    | some j =>
      rw [ek] at e2
      have hj := (inK_lt ek).1
      rw [List.length_map] at hj
      have e3 : (if mtL (mtN H1 H2 i) ((hA H1 i).2 + (hA H2 j).2) (hA H1 i).1 = true then some ((hA H1 i).2 + (hA H2 j).2, (hA H1 i).1) else mtN H1 H2 i) = some q := e2
      by_cases e4 : mtL (mtN H1 H2 i) ((hA H1 i).2 + (hA H2 j).2) (hA H1 i).1 = true
      · rw [if_pos e4] at e3
        cases e3
        have a1 := g1 i (by omega)
        have a2 := g2 j hj
        exact ⟨by show (hA H1 i).2 + (hA H2 j).2 ≤ _; omega, hr i (by omega)⟩
      · rw [if_neg e4] at e3
        exact ih q e3
theorem mtN_s {H1 H2 : Hd} {i : Nat} : mtN H1 H2 (i + 1) = match inK (hKs H2) (hA H1 i).1 with
    | none => mtN H1 H2 i
    | some j => if mtL (mtN H1 H2 i) ((hA H1 i).2 + (hA H2 j).2) (hA H1 i).1 = true then some ((hA H1 i).2 + (hA H2 j).2, (hA H1 i).1) else mtN H1 H2 i := rfl
def mtG : Option (Nat × List Nat) → Int32
  | none => nI 0
  | some q => nI q.1
theorem meV_n {R : List Ru} {w : Wk} {a d : List Nat} {n : Nat} {b : Bool} (e : spd R w a n = none) : meV R w a d n b = -3 := by unfold meV; rw [e]
theorem meV_m {R : List Ru} {w : Wk} {a d : List Nat} {n : Nat} {b : Bool} {H1 : Hd} (e : spd R w a n = some H1) (e2 : spd R w d n = none) : meV R w a d n b = -3 := by unfold meV; rw [e, e2]
theorem meV_s {R : List Ru} {w : Wk} {a d : List Nat} {n : Nat} {b : Bool} {H1 H2 : Hd} (e : spd R w a n = some H1) (e2 : spd R w d n = some H2) : meV R w a d n b = mtV (mtN H1 H2 H1.length) b := by unfold meV; rw [e, e2]
def Smt (k : Nat) : Prop := Ssp k ∨ k = 585 ∨ k = 586
theorem Smt_Sz {k : Nat} (h : Smt k) : Sz k := by unfold Smt Ssp Sht at h; unfold Sz; omega
def Noth (k : Nat) : Prop := False
/-- the table kept aside -/
def MOt (m : SM2) (H : Hd) (n : Nat) : Prop := ∀ i, i < n → m.2 585 i = lN (cd (hA H i).1) ∧ m.1 586 i = nI (hA H i).2
section MMT
variable {γ : Ga} {μ : SM2}
theorem m_meets {x y : Int64} {z : Int32} {b : Bool} {X : Td} {LL : List (List Int32)} (hX : mdT (μ.1 573) X) (hL : LawM (μ.1 573) LL) : Ex γ 13 0 0 M_X12_meets [.ref 572, .long x, .long y, .int z, .int (bI b)] (rm μ) (Rm (some (.long (if ((codeB x && codeB y) && chkN z 0 12) = true then meV X.R (wOf X LL) (ml x) (ml y) z.toNatClampNeg b else lN 0))) (fun m => MdN μ m (mT1 ((codeB x && codeB y) && chkN z 0 12)))) := by
  have hX2 : mdT ((wI μ 572 0 (nI 0)).1 573) X := by rw [w573]; exact hX
  have hL2 : LawM ((wI μ 572 0 (nI 0)).1 573) LL := by rw [w573]; exact hL
  obtain ⟨Q, hQ⟩ : ∃ Q, Q = Rm (some (.long (if ((codeB x && codeB y) && chkN z 0 12) = true then meV X.R (wOf X LL) (ml x) (ml y) z.toNatClampNeg b else lN 0))) (fun m => MdN μ m (mT1 ((codeB x && codeB y) && chkN z 0 12))) := ⟨_, rfl⟩
  rw [← hQ]
  have bad1 : ((codeB x && codeB y) && chkN z 0 12) = false → T γ 13 0 0 M_X12_meets Q 0 0 31 [some (.ref 572), some (.long x), none, some (.long y), none, some (.int z), some (.int (bI b)), none, none, none, none, none, none, none] [.ref 572] (rm (wI μ 572 0 (nI 0))) := fun eb => by
    rw [hQ, eb]
    simp only [Bool.false_eq_true, if_false]
    refine T_iconst (pc := 31) (v := nI 1) dX12_meets_31 (by decide) ?_
    refine T_goto (pc := 32) (tgt := 36) dX12_meets_32 (by decide) ?_
    refine T_iconst (pc := 36) (v := nI 1) dX12_meets_36 (by decide) ?_
    refine R_callV1 (pc := 37) (As := [.int (nI 1), .int (nI 1)]) (rest := []) (Or.inl lk_X12_302) mk_X12_throwsIf m_throws1n kc_572 ⟨by decide, rfl⟩ lc_572 dX12_meets_37 rfl rfl (Nat.le_of_ble_eq_true rfl) (by decide) rfl (Nat.le_refl _) (Nat.le_refl _) ?_
    refine R_ifb_eq (pc := 40) (tgt := 45) dX12_meets_40 (by decide) (fun h3 => ?_) (fun h3 => ?_)
    · exact absurd h3 (by decide)
    · skip
      refine T_lconst (pc := 43) (v := lN 0) dX12_meets_43 rfl ?_
      exact T_lret dX12_meets_44 rfl (Nat.le_refl _) (Nat.le_refl _) ⟨_, rfl, rfl, Tn.two.n⟩
  refine Ex.of (by decide +kernel) rfl (Nat.le_of_ble_eq_true rfl) ?_
  show T _ _ _ _ _ _ _ _ _ [some (.ref 572), some (.long (x)), none, some (.long (y)), none, some (.int (z)), some (.int (bI b)), none, none, none, none, none, none, none] [] (rm μ)
  refine T_aload_n (pc := 0) (i := 0) dX12_meets_0 rfl rfl ?_
  refine T_iconst (pc := 1) (v := nI 0) dX12_meets_1 (by decide) ?_
  refine R_putI (pc := 2) fl_X12_3 ⟨rfl, rfl⟩ (Or.inl rfl) kc_572 lc_572 dX12_meets_2 ?_
  refine T_aload_n (pc := 5) (i := 0) dX12_meets_5 rfl rfl ?_
  refine T_lload_n (pc := 6) (i := 1) dX12_meets_6 rfl rfl ?_
  cases e1 : codeB x with
  | false =>
    rw [e1] at bad1
    refine R_callS1 (pc := 7) (av := [.long (x)]) (rest := [.ref 572]) (Or.inl lk_X12_382) mk_X12_isCode (m_isCodeE e1) dX12_meets_7 rfl rfl (Nat.le_of_ble_eq_true rfl) (by decide) rfl (Nat.le_refl _) (Nat.le_refl _) ?_
    refine R_ifb_eq (pc := 10) (tgt := 31) dX12_meets_10 (by decide) (fun h1 => ?_) (fun h1 => ?_)
    · skip
      exact bad1 rfl
    · exact absurd h1 (by decide)
  | true =>
    rw [e1] at bad1 hQ
    rw [Bool.true_and] at bad1
    rw [Bool.true_and] at hQ
    refine R_callS1 (pc := 7) (av := [.long (x)]) (rest := [.ref 572]) (Or.inl lk_X12_382) mk_X12_isCode (m_isCodeE e1) dX12_meets_7 rfl rfl (Nat.le_of_ble_eq_true rfl) (by decide) rfl (Nat.le_refl _) (Nat.le_refl _) ?_
    refine R_ifb_eq (pc := 10) (tgt := 31) dX12_meets_10 (by decide) (fun h1 => ?_) (fun h1 => ?_)
    · exact absurd h1 (by decide)
    · skip
      refine T_lload_n (pc := 13) (i := 3) dX12_meets_13 rfl rfl ?_
      cases e2 : codeB y with
      | false =>
        rw [e2] at bad1
        refine R_callS1 (pc := 14) (av := [.long (y)]) (rest := [.ref 572]) (Or.inl lk_X12_382) mk_X12_isCode (m_isCodeE e2) dX12_meets_14 rfl rfl (Nat.le_of_ble_eq_true rfl) (by decide) rfl (Nat.le_refl _) (Nat.le_refl _) ?_
        refine R_ifb_eq (pc := 17) (tgt := 31) dX12_meets_17 (by decide) (fun h2 => ?_) (fun h2 => ?_)
        · skip
          exact bad1 rfl
        · exact absurd h2 (by decide)
      | true =>
        rw [e2, Bool.true_and] at hQ
        rw [e2, Bool.true_and] at bad1
        refine R_callS1 (pc := 14) (av := [.long (y)]) (rest := [.ref 572]) (Or.inl lk_X12_382) mk_X12_isCode (m_isCodeE e2) dX12_meets_14 rfl rfl (Nat.le_of_ble_eq_true rfl) (by decide) rfl (Nat.le_refl _) (Nat.le_refl _) ?_
        refine R_ifb_eq (pc := 17) (tgt := 31) dX12_meets_17 (by decide) (fun h2 => ?_) (fun h2 => ?_)
        · exact absurd h2 (by decide)
        · skip
          refine T_iload (pc := 20) (i := 5) dX12_meets_20 rfl ?_
          refine T_iconst (pc := 22) (v := nI 0) dX12_meets_22 (by decide) ?_
          refine T_bipush (pc := 23) (v := nI 12) dX12_meets_23 (by decide) ?_
          refine R_callS1 (pc := 25) (av := [.int (z), .int (nI 0), .int (nI 12)]) (rest := [.ref 572]) (Or.inl lk_X12_125) mk_X12_in m_inK dX12_meets_25 rfl rfl (Nat.le_of_ble_eq_true rfl) (by decide) rfl (Nat.le_refl _) (Nat.le_refl _) ?_
          cases e3 : chkN z 0 12 with
          | false =>
            show T _ _ _ _ _ _ _ _ 28 [some (.ref 572), some (.long (x)), none, some (.long (y)), none, some (.int (z)), some (.int (bI b)), none, none, none, none, none, none, none] [.int (bI false), .ref 572] (rm (wI μ 572 0 (nI 0)))
            refine R_ifb_ne (pc := 28) (tgt := 35) dX12_meets_28 (by decide) (fun h3 => ?_) (fun h3 => ?_)
            · exact absurd h3 (by decide)
            · skip
              exact bad1 e3
          | true =>
            rw [e3] at hQ
            simp only [if_true] at hQ
            obtain ⟨a, ha, rfl⟩ := codeB_iff.mp e1
            obtain ⟨d, hd, rfl⟩ := codeB_iff.mp e2
            obtain ⟨N, -, hN, rfl⟩ := chk_of (by decide) (by decide) e3
            rw [ml_cd ha, ml_cd hd, nI_clamp (n := N) (by omega)] at hQ
            have hQ2 : Q = Rm (some (.long (meV X.R (wOf X LL) a d N b))) (fun m => MdN μ m 0) := hQ
            clear bad1 hQ
            show T _ _ _ _ _ _ _ _ 28 [some (.ref 572), some (.long (lN (cd a))), none, some (.long (lN (cd d))), none, some (.int (nI N)), some (.int (bI b)), none, none, none, none, none, none, none] [.int (bI true), .ref 572] (rm (wI μ 572 0 (nI 0)))
            refine R_ifb_ne (pc := 28) (tgt := 35) dX12_meets_28 (by decide) (fun h3 => ?_) (fun h3 => ?_)
            · skip
              refine T_iconst (pc := 35) (v := nI 0) dX12_meets_35 (by decide) ?_
              refine T_iconst (pc := 36) (v := nI 1) dX12_meets_36 (by decide) ?_
              refine R_callV1 (pc := 37) (As := [.int (nI 0), .int (nI 1)]) (rest := []) (Or.inl lk_X12_302) mk_X12_throwsIf m_throws0n kc_572 ⟨by decide, rfl⟩ lc_572 dX12_meets_37 rfl rfl (Nat.le_of_ble_eq_true rfl) (by decide) rfl (Nat.le_refl _) (Nat.le_refl _) ?_
              refine R_ifb_eq (pc := 40) (tgt := 45) dX12_meets_40 (by decide) (fun h4 => ?_) (fun h4 => ?_)
              · skip
                refine T_aload_n (pc := 45) (i := 0) dX12_meets_45 rfl rfl ?_
                refine T_lload_n (pc := 46) (i := 1) dX12_meets_46 rfl rfl ?_
                refine T_iload (pc := 47) (i := 5) dX12_meets_47 rfl ?_
                refine R_callVm1 (pc := 49) (As := [.long (lN (cd a)), .int (nI N)]) (rest := []) (Or.inl lk_X12_444) mk_X12_searches (m_searches hX2 hL2 ha (by omega)) kc_572 ⟨by decide, rfl⟩ lc_572 dX12_meets_49 rfl rfl (Nat.le_of_ble_eq_true rfl) (by decide) rfl (Nat.le_refl _) (Nat.le_refl _) (fun m1 h5 => ?_)
                obtain ⟨hH, -, hO⟩ := h5
                have hO' : OfM Fsr Smt (wI μ 572 0 (nI 0)) m1 := hO.mono (fun j hj => hj) (fun k hk => Or.inl hk)
                have fin : ∀ m : SM2, OfM Fsr Smt m1 m → MdN μ m 0 := fun m g => MdN.of (F := Fsr) (S := Smt) (hO'.trans g) (by unfold Fsr; omega) (fun j hj => Fbe_Fz (Or.inl hj)) (fun k => Smt_Sz)
                cases es : spd X.R (wOf X LL) a N with
                | none =>
                  rw [meV_n es] at hQ2
                  show T _ _ _ _ _ _ _ _ 52 [some (.ref 572), some (.long (lN (cd a))), none, some (.long (lN (cd d))), none, some (.int (nI N)), some (.int (bI b)), none, none, none, none, none, none, none] [.int (bI false)] (rm m1)
                  refine R_ifb_ne (pc := 52) (tgt := 59) dX12_meets_52 (by decide) (fun h6 => ?_) (fun h6 => ?_)
                  · exact absurd h6 (by decide)
                  · skip
                    refine T_ldc2 (pc := 55) dX12_meets_55 cn_X12_447 ?_
                    rw [hQ2]
                    exact T_lret dX12_meets_58 rfl (Nat.le_refl _) (Nat.le_refl _) ⟨_, rfl, rfl, fin _ (OfM.refl _ _ _)⟩
                | some H1 =>
                  have hT := hH H1 es
                  have L1 := hT.len
                  have hrw : ∀ i, i < H1.length → Mw (hA H1 i).1 := fun i hi => (hT.row i hi).1
                  have f1 := spd_far es
                  show T _ _ _ _ _ _ _ _ 52 [some (.ref 572), some (.long (lN (cd a))), none, some (.long (lN (cd d))), none, some (.int (nI N)), some (.int (bI b)), none, none, none, none, none, none, none] [.int (bI true)] (rm m1)
                  refine R_ifb_ne (pc := 52) (tgt := 59) dX12_meets_52 (by decide) (fun h6 => ?_) (fun h6 => ?_)
                  · skip
                    refine T_aload_n (pc := 59) (i := 0) dX12_meets_59 rfl rfl ?_
                    refine R_getI (pc := 60) (x := nI H1.length) fl_X12_431 rfl kc_572 lc_572 hT.size dX12_meets_60 ?_
                    refine T_istore (pc := 63) (i := 7) (ls' := [some (.ref 572), some (.long (lN (cd a))), none, some (.long (lN (cd d))), none, some (.int (nI N)), some (.int (bI b)), some (.int (nI H1.length)), none, none, none, none, none, none]) dX12_meets_63 (by decide) rfl ?_
                    refine T_iconst (pc := 65) (v := nI 0) dX12_meets_65 (by decide) ?_
                    refine T_istore (pc := 66) (i := 8) (ls' := [some (.ref 572), some (.long (lN (cd a))), none, some (.long (lN (cd d))), none, some (.int (nI N)), some (.int (bI b)), some (.int (nI H1.length)), some (.int (nI 0)), none, none, none, none, none]) dX12_meets_66 (by decide) rfl ?_
                    have second : ∀ m : SM2, MOt m H1 H1.length → OfM Noth (fun k => k = 585 ∨ k = 586) m1 m → T γ 13 0 0 M_X12_meets Q 0 0 68 [some (.ref 572), some (.long (lN (cd a))), none, some (.long (lN (cd d))), none, some (.int (nI N)), some (.int (bI b)), some (.int (nI H1.length)), some (.int (nI H1.length)), none, none, none, none, none] [] (rm m) := fun m hM hOm => by
                      have hX3 : mdT (m.1 573) X := by rw [(hOm.c (k := 573) (by decide) (by omega)).1, (hO.c (k := 573) (by decide) (by unfold Ssp Sht; omega)).1]; exact hX2
                      have hL3 : LawM (m.1 573) LL := by rw [(hOm.c (k := 573) (by decide) (by omega)).1, (hO.c (k := 573) (by decide) (by unfold Ssp Sht; omega)).1]; exact hL2
                      have hOm' : OfM Fsr Smt m1 m := hOm.mono (fun j hj => hj.elim) (fun k hk => Or.inr hk)
                      refine T_iload (pc := 68) (i := 8) dX12_meets_68 rfl ?_
                      refine T_iload (pc := 70) (i := 7) dX12_meets_70 rfl ?_
                      refine R_icmp_ge (pc := 72) (tgt := 109) (by omega) (by omega) dX12_meets_72 (by decide) (fun g1 => ?_) (fun g1 => ?_)
                      · skip
                        refine T_aload_n (pc := 109) (i := 0) dX12_meets_109 rfl rfl ?_
                        refine T_lload_n (pc := 110) (i := 3) dX12_meets_110 rfl rfl ?_
                        refine T_iload (pc := 111) (i := 5) dX12_meets_111 rfl ?_
                        refine R_callVm1 (pc := 113) (As := [.long (lN (cd d)), .int (nI N)]) (rest := []) (Or.inl lk_X12_444) mk_X12_searches (m_searches hX3 hL3 hd (by omega)) kc_572 ⟨by decide, rfl⟩ lc_572 dX12_meets_113 rfl rfl (Nat.le_of_ble_eq_true rfl) (by decide) rfl (Nat.le_refl _) (Nat.le_refl _) (fun m2 g2 => ?_)
                        obtain ⟨hH2, -, hO2⟩ := g2
                        have hO3 : OfM Fsr Smt m1 m2 := hOm'.trans (hO2.mono (fun j hj => hj) (fun k hk => Or.inl hk))
                        cases es2 : spd X.R (wOf X LL) d N with
                        | none =>
                          rw [meV_m es es2] at hQ2
                          show T _ _ _ _ _ _ _ _ 116 [some (.ref 572), some (.long (lN (cd a))), none, some (.long (lN (cd d))), none, some (.int (nI N)), some (.int (bI b)), some (.int (nI H1.length)), some (.int (nI H1.length)), none, none, none, none, none] [.int (bI false)] (rm m2)
                          refine R_ifb_ne (pc := 116) (tgt := 123) dX12_meets_116 (by decide) (fun h7 => ?_) (fun h7 => ?_)
                          · exact absurd h7 (by decide)
                          · skip
                            refine T_ldc2 (pc := 119) dX12_meets_119 cn_X12_447 ?_
                            rw [hQ2]
                            exact T_lret dX12_meets_122 rfl (Nat.le_refl _) (Nat.le_refl _) ⟨_, rfl, rfl, fin _ hO3⟩
                        | some H2 =>
                          rw [meV_s es es2] at hQ2
                          have T2 := hH2 H2 es2
                          have L2 := T2.len
                          have f2 := spd_far es2
                          have mOk := row_mt (n := N) hrw f1 f2
                          have hM2 : MOt m2 H1 H1.length := fun i hi => ⟨(hO2.l (by decide) (by unfold Ssp Sht; omega) i).trans (hM i hi).1, (hO2.i (by decide) (by unfold Ssp Sht; omega) i).trans (hM i hi).2⟩
                          have fin2 := fin _ hO3
                          show T _ _ _ _ _ _ _ _ 116 [some (.ref 572), some (.long (lN (cd a))), none, some (.long (lN (cd d))), none, some (.int (nI N)), some (.int (bI b)), some (.int (nI H1.length)), some (.int (nI H1.length)), none, none, none, none, none] [.int (bI true)] (rm m2)
                          refine R_ifb_ne (pc := 116) (tgt := 123) dX12_meets_116 (by decide) (fun h7 => ?_) (fun h7 => ?_)
                          · skip
                            refine T_ldc2 (pc := 123) dX12_meets_123 cn_X12_171 ?_
                            refine T_lstore (pc := 126) (i := 8) (ls' := [some (.ref 572), some (.long (lN (cd a))), none, some (.long (lN (cd d))), none, some (.int (nI N)), some (.int (bI b)), some (.int (nI H1.length)), some (.long ((-1))), none, none, none, none, none]) dX12_meets_126 (by decide) rfl ?_
                            refine T_iconst (pc := 128) (v := nI 0) dX12_meets_128 (by decide) ?_
                            refine T_istore (pc := 129) (i := 10) (ls' := [some (.ref 572), some (.long (lN (cd a))), none, some (.long (lN (cd d))), none, some (.int (nI N)), some (.int (bI b)), some (.int (nI H1.length)), some (.long ((-1))), none, some (.int (nI 0)), none, none, none]) dX12_meets_129 (by decide) rfl ?_
                            refine T_iconst (pc := 131) (v := nI 0) dX12_meets_131 (by decide) ?_
                            refine T_istore (pc := 132) (i := 11) (ls' := [some (.ref 572), some (.long (lN (cd a))), none, some (.long (lN (cd d))), none, some (.int (nI N)), some (.int (bI b)), some (.int (nI H1.length)), some (.long ((-1))), none, some (.int (nI 0)), some (.int (nI 0)), none, none]) dX12_meets_132 (by decide) rfl ?_
                            suffices loop : ∀ (g i : Nat), i + g = H1.length → T γ 13 0 0 M_X12_meets Q 0 0 134 [some (.ref 572), some (.long (lN (cd a))), none, some (.long (lN (cd d))), none, some (.int (nI N)), some (.int (bI b)), some (.int (nI H1.length)), some (.long (vO ((mtN H1 H2 i).map (fun q => q.2)))), none, some (.int (mtG (mtN H1 H2 i))), some (.int (nI i)), none, none] [] (rm m2) by
                              exact loop H1.length 0 (Nat.zero_add _)
                            intro g
                            induction g with
                            | zero =>
                              intro i hi
                              obtain rfl : i = H1.length := by omega
                              cases eo : mtN H1 H2 H1.length with
                              | none =>
                                rw [eo] at hQ2
                                refine T_iload (pc := 134) (i := 11) dX12_meets_134 rfl ?_
                                refine T_iload (pc := 136) (i := 7) dX12_meets_136 rfl ?_
                                refine R_icmp_ge (pc := 138) (tgt := 235) (by omega) (by omega) dX12_meets_138 (by decide) (fun k3 => ?_) (fun k3 => ?_)
                                · skip
                                  refine T_lload (pc := 235) (i := 8) dX12_meets_235 rfl ?_
                                  refine T_lconst (pc := 237) (v := lN 0) dX12_meets_237 rfl ?_
                                  refine T_lcmp (pc := 238) dX12_meets_238 ?_
                                  refine R_lx_lt (pc := 239) (tgt := 247) dX12_meets_239 (by decide) (fun k4 => ?_) (fun k4 => ?_)
                                  · skip
                                    refine T_lload (pc := 247) (i := 8) dX12_meets_247 rfl ?_
                                    refine T_goto (pc := 249) (tgt := 255) dX12_meets_249 (by decide) ?_
                                    rw [hQ2]
                                    exact T_lret dX12_meets_255 rfl (Nat.le_refl _) (Nat.le_refl _) ⟨_, rfl, rfl, fin2⟩
                                  · exact absurd (by decide) k4
                                · exact absurd k3 (by omega)
                              | some q =>
                                obtain ⟨o1, o2⟩ := mOk _ (Nat.le_refl _) q eo
                                have b2 := cd_lt o2
                                rw [eo] at hQ2
                                show T _ _ _ _ _ _ _ _ 134 [some (.ref 572), some (.long (lN (cd a))), none, some (.long (lN (cd d))), none, some (.int (nI N)), some (.int (bI b)), some (.int (nI H1.length)), some (.long (lN (cd q.2))), none, some (.int (nI q.1)), some (.int (nI H1.length)), none, none] [] (rm m2)
                                refine T_iload (pc := 134) (i := 11) dX12_meets_134 rfl ?_
                                refine T_iload (pc := 136) (i := 7) dX12_meets_136 rfl ?_
                                refine R_icmp_ge (pc := 138) (tgt := 235) (by omega) (by omega) dX12_meets_138 (by decide) (fun k3 => ?_) (fun k3 => ?_)
                                · skip
                                  refine T_lload (pc := 235) (i := 8) dX12_meets_235 rfl ?_
                                  refine T_lconst (pc := 237) (v := lN 0) dX12_meets_237 rfl ?_
                                  refine T_lcmp (pc := 238) dX12_meets_238 ?_
                                  refine R_ln_lt (pc := 239) (tgt := 247) (by omega) (by omega) dX12_meets_239 (by decide) (fun k4 => ?_) (fun k4 => ?_)
                                  · exact absurd k4 (by omega)
                                  · skip
                                    refine T_iload (pc := 242) (i := 6) dX12_meets_242 rfl ?_
                                    refine R_ifb_eq (pc := 244) (tgt := 252) dX12_meets_244 (by decide) (fun k5 => ?_) (fun k5 => ?_)
                                    · skip
                                      subst k5
                                      refine T_iload (pc := 252) (i := 10) dX12_meets_252 rfl ?_
                                      refine R_i2l (pc := 254) (by omega) dX12_meets_254 ?_
                                      rw [hQ2]
                                      exact T_lret dX12_meets_255 rfl (Nat.le_refl _) (Nat.le_refl _) ⟨_, rfl, rfl, fin2⟩
                                    · skip
                                      subst k5
                                      refine T_lload (pc := 247) (i := 8) dX12_meets_247 rfl ?_
                                      refine T_goto (pc := 249) (tgt := 255) dX12_meets_249 (by decide) ?_
                                      rw [hQ2]
                                      exact T_lret dX12_meets_255 rfl (Nat.le_refl _) (Nat.le_refl _) ⟨_, rfl, rfl, fin2⟩
                                · exact absurd k3 (by omega)
                            | succ g ih =>
                              intro i hi
                              have hi1 : i < H1.length := by omega
                              have h9 := ih (i + 1) (by omega)
                              have rw1 := hM2 i hi1
                              have rwM := hrw i hi1
                              rw [mtN_s] at h9
                              refine T_iload (pc := 134) (i := 11) dX12_meets_134 rfl ?_
                              refine T_iload (pc := 136) (i := 7) dX12_meets_136 rfl ?_
                              refine R_icmp_ge (pc := 138) (tgt := 235) (by omega) (by omega) dX12_meets_138 (by decide) (fun k3 => ?_) (fun k3 => ?_)
                              · exact absurd k3 (by omega)
                              · skip
                                refine T_aload_n (pc := 141) (i := 0) dX12_meets_141 rfl rfl ?_
                                refine T_aload_n (pc := 142) (i := 0) dX12_meets_142 rfl rfl ?_
                                refine R_getR (pc := 143) (i := 585) fl_X12_71 rfl kc_572 lc_572 rc_572_30 dX12_meets_143 ?_
                                refine T_iload (pc := 146) (i := 11) dX12_meets_146 rfl ?_
                                refine R_lald (pc := 148) (x := lN (cd (hA H1 i).1)) kc_585 lc_585 (by omega) (by first | decide | assumption) rw1.1 dX12_meets_148 ?_
                                refine R_callV1 (pc := 149) (As := [.long (lN (cd (hA H1 i).1))]) (rest := []) (Or.inl lk_X12_460) mk_X12_indexOf (m_indexOf T2 rwM) kc_572 ⟨by decide, rfl⟩ lc_572 dX12_meets_149 rfl rfl (Nat.le_of_ble_eq_true rfl) (by decide) rfl (Nat.le_refl _) (Nat.le_refl _) ?_
                                refine T_istore (pc := 152) (i := 12) (ls' := [some (.ref 572), some (.long (lN (cd a))), none, some (.long (lN (cd d))), none, some (.int (nI N)), some (.int (bI b)), some (.int (nI H1.length)), some (.long ((vO ((mtN H1 H2 i).map (fun q => q.2))))), none, some (.int ((mtG (mtN H1 H2 i)))), some (.int (nI i)), some (.int ((oN (inK (hKs H2) (hA H1 i).1)))), none]) dX12_meets_152 (by decide) rfl ?_
                                refine T_iload (pc := 154) (i := 12) dX12_meets_154 rfl ?_
                                cases ek : inK (hKs H2) (hA H1 i).1 with
                                | none =>
                                  rw [ek] at h9
                                  show T _ _ _ _ _ _ _ _ 156 [some (.ref 572), some (.long (lN (cd a))), none, some (.long (lN (cd d))), none, some (.int (nI N)), some (.int (bI b)), some (.int (nI H1.length)), some (.long ((vO ((mtN H1 H2 i).map (fun q => q.2))))), none, some (.int ((mtG (mtN H1 H2 i)))), some (.int (nI i)), some (.int ((-1))), none] [.int ((-1))] (rm m2)
                                  refine T_if_ge (pc := 156) (tgt := 162) dX12_meets_156 (by decide) (fun k4 => ?_) (fun k4 => ?_)
                                  · exact absurd k4 (by decide)
                                  · skip
                                    refine T_goto (pc := 159) (tgt := 229) dX12_meets_159 (by decide) ?_
                                    refine R_iinc (pc := 229) (i := 11) (n := 1) (ls' := [some (.ref 572), some (.long (lN (cd a))), none, some (.long (lN (cd d))), none, some (.int (nI N)), some (.int (bI b)), some (.int (nI H1.length)), some (.long ((vO ((mtN H1 H2 i).map (fun q => q.2))))), none, some (.int ((mtG (mtN H1 H2 i)))), some (.int (nI (i + 1))), some (.int ((-1))), none]) dX12_meets_229 rfl rfl ?_
                                    refine T_goto (pc := 232) (tgt := 134) dX12_meets_232 (by decide) ?_
                                    refine T_ls (ls' := [some (.ref 572), some (.long (lN (cd a))), none, some (.long (lN (cd d))), none, some (.int (nI N)), some (.int (bI b)), some (.int (nI H1.length)), some (.long ((vO ((mtN H1 H2 i).map (fun q => q.2))))), none, some (.int ((mtG (mtN H1 H2 i)))), some (.int (nI (i + 1))), none, none]) (And.intro rfl (And.intro rfl (And.intro rfl (And.intro rfl (And.intro rfl (And.intro rfl (And.intro rfl (And.intro rfl (And.intro rfl True.intro))))))))) ?_
                                    exact h9
                                | some j =>
                                  rw [ek] at h9
                                  have hj := (inK_lt ek).1
                                  rw [List.length_map] at hj
                                  have a1 := f1 i hi1
                                  have a2 := f2 j hj
                                  have row2 := T2.row j hj
                                  have b1 := cd_lt rwM
                                  obtain ⟨s, es9⟩ : ∃ s, s = (hA H1 i).2 + (hA H2 j).2 := ⟨_, rfl⟩
                                  have h8 : T γ 13 0 0 M_X12_meets Q 0 0 134 [some (.ref 572), some (.long (lN (cd a))), none, some (.long (lN (cd d))), none, some (.int (nI N)), some (.int (bI b)), some (.int (nI H1.length)), some (.long (vO ((if mtL (mtN H1 H2 i) s (hA H1 i).1 = true then some (s, (hA H1 i).1) else mtN H1 H2 i).map (fun q => q.2)))), none, some (.int (mtG (if mtL (mtN H1 H2 i) s (hA H1 i).1 = true then some (s, (hA H1 i).1) else mtN H1 H2 i))), some (.int (nI (i + 1))), none, none] [] (rm m2) := by rw [es9]; exact h9
                                  clear h9
                                  have better : mtL (mtN H1 H2 i) s (hA H1 i).1 = true → ∀ (u : Int32) (v : Int64), T γ 13 0 0 M_X12_meets Q 0 0 216 [some (.ref 572), some (.long (lN (cd a))), none, some (.long (lN (cd d))), none, some (.int (nI N)), some (.int (bI b)), some (.int (nI H1.length)), some (.long v), none, some (.int u), some (.int (nI i)), some (.int (nI j)), some (.int (nI s))] [] (rm m2) := fun hb u v => by
                                    rw [if_pos hb] at h8
                                    refine T_aload_n (pc := 216) (i := 0) dX12_meets_216 rfl rfl ?_
                                    refine R_getR (pc := 217) (i := 585) fl_X12_71 rfl kc_572 lc_572 rc_572_30 dX12_meets_217 ?_
                                    refine T_iload (pc := 220) (i := 11) dX12_meets_220 rfl ?_
                                    refine R_lald (pc := 222) (x := lN (cd (hA H1 i).1)) kc_585 lc_585 (by omega) (by first | decide | assumption) rw1.1 dX12_meets_222 ?_
                                    refine T_lstore (pc := 223) (i := 8) (ls' := [some (.ref 572), some (.long (lN (cd a))), none, some (.long (lN (cd d))), none, some (.int (nI N)), some (.int (bI b)), some (.int (nI H1.length)), some (.long (lN (cd (hA H1 i).1))), none, some (.int (u)), some (.int (nI i)), some (.int (nI j)), some (.int (nI s))]) dX12_meets_223 (by decide) rfl ?_
                                    refine T_iload (pc := 225) (i := 13) dX12_meets_225 rfl ?_
                                    refine T_istore (pc := 227) (i := 10) (ls' := [some (.ref 572), some (.long (lN (cd a))), none, some (.long (lN (cd d))), none, some (.int (nI N)), some (.int (bI b)), some (.int (nI H1.length)), some (.long (lN (cd (hA H1 i).1))), none, some (.int (nI s)), some (.int (nI i)), some (.int (nI j)), some (.int (nI s))]) dX12_meets_227 (by decide) rfl ?_
                                    refine R_iinc (pc := 229) (i := 11) (n := 1) (ls' := [some (.ref 572), some (.long (lN (cd a))), none, some (.long (lN (cd d))), none, some (.int (nI N)), some (.int (bI b)), some (.int (nI H1.length)), some (.long (lN (cd (hA H1 i).1))), none, some (.int (nI s)), some (.int (nI (i + 1))), some (.int (nI j)), some (.int (nI s))]) dX12_meets_229 rfl rfl ?_
                                    refine T_goto (pc := 232) (tgt := 134) dX12_meets_232 (by decide) ?_
                                    refine T_ls (ls' := [some (.ref 572), some (.long (lN (cd a))), none, some (.long (lN (cd d))), none, some (.int (nI N)), some (.int (bI b)), some (.int (nI H1.length)), some (.long (lN (cd (hA H1 i).1))), none, some (.int (nI s)), some (.int (nI (i + 1))), none, none]) (And.intro rfl (And.intro rfl (And.intro rfl (And.intro rfl (And.intro rfl (And.intro rfl (And.intro rfl (And.intro rfl (And.intro rfl True.intro))))))))) ?_
                                    exact h8
                                  have worse : mtL (mtN H1 H2 i) s (hA H1 i).1 = false → ∀ (u : Int32) (v : Int64), u = mtG (mtN H1 H2 i) → v = vO ((mtN H1 H2 i).map (fun q => q.2)) → T γ 13 0 0 M_X12_meets Q 0 0 229 [some (.ref 572), some (.long (lN (cd a))), none, some (.long (lN (cd d))), none, some (.int (nI N)), some (.int (bI b)), some (.int (nI H1.length)), some (.long v), none, some (.int u), some (.int (nI i)), some (.int (nI j)), some (.int (nI s))] [] (rm m2) := fun hb u v hu hv => by
                                    rw [if_neg (by rw [hb]; decide)] at h8
                                    rw [← hu, ← hv] at h8
                                    refine R_iinc (pc := 229) (i := 11) (n := 1) (ls' := [some (.ref 572), some (.long (lN (cd a))), none, some (.long (lN (cd d))), none, some (.int (nI N)), some (.int (bI b)), some (.int (nI H1.length)), some (.long (v)), none, some (.int (u)), some (.int (nI (i + 1))), some (.int (nI j)), some (.int (nI s))]) dX12_meets_229 rfl rfl ?_
                                    refine T_goto (pc := 232) (tgt := 134) dX12_meets_232 (by decide) ?_
                                    refine T_ls (ls' := [some (.ref 572), some (.long (lN (cd a))), none, some (.long (lN (cd d))), none, some (.int (nI N)), some (.int (bI b)), some (.int (nI H1.length)), some (.long (v)), none, some (.int (u)), some (.int (nI (i + 1))), none, none]) (And.intro rfl (And.intro rfl (And.intro rfl (And.intro rfl (And.intro rfl (And.intro rfl (And.intro rfl (And.intro rfl (And.intro rfl True.intro))))))))) ?_
                                    exact h8
                                  clear h8
                                  show T _ _ _ _ _ _ _ _ 156 [some (.ref 572), some (.long (lN (cd a))), none, some (.long (lN (cd d))), none, some (.int (nI N)), some (.int (bI b)), some (.int (nI H1.length)), some (.long ((vO ((mtN H1 H2 i).map (fun q => q.2))))), none, some (.int ((mtG (mtN H1 H2 i)))), some (.int (nI i)), some (.int (nI j)), none] [.int (nI j)] (rm m2)
                                  refine R_if_ge (pc := 156) (tgt := 162) (by omega) dX12_meets_156 (by decide) (fun k4 => ?_) (fun k4 => ?_)
                                  · skip
                                    refine T_aload_n (pc := 162) (i := 0) dX12_meets_162 rfl rfl ?_
                                    refine R_getR (pc := 163) (i := 586) fl_X12_74 rfl kc_572 lc_572 rc_572_31 dX12_meets_163 ?_
                                    refine T_iload (pc := 166) (i := 11) dX12_meets_166 rfl ?_
                                    refine R_iald (pc := 168) (x := nI ((hA H1 i).2)) kc_586 lc_586 (by omega) (by first | decide | assumption) rw1.2 dX12_meets_168 ?_
                                    refine T_aload_n (pc := 169) (i := 0) dX12_meets_169 rfl rfl ?_
                                    refine R_getR (pc := 170) (i := 583) fl_X12_65 rfl kc_572 lc_572 rc_572_27 dX12_meets_170 ?_
                                    refine T_iload (pc := 173) (i := 12) dX12_meets_173 rfl ?_
                                    refine R_iald (pc := 175) (x := nI ((hA H2 j).2)) kc_583 lc_583 (by omega) (by first | decide | assumption) row2.2.2 dX12_meets_175 ?_
                                    refine R_iadd (pc := 176) dX12_meets_176 ?_
                                    refine T_istore (pc := 177) (i := 13) (ls' := [some (.ref 572), some (.long (lN (cd a))), none, some (.long (lN (cd d))), none, some (.int (nI N)), some (.int (bI b)), some (.int (nI H1.length)), some (.long ((vO ((mtN H1 H2 i).map (fun q => q.2))))), none, some (.int ((mtG (mtN H1 H2 i)))), some (.int (nI i)), some (.int (nI j)), some (.int (nI (((hA H1 i).2) + ((hA H2 j).2))))]) dX12_meets_177 (by decide) rfl ?_
                                    rw [← es9]
                                    cases eo : mtN H1 H2 i with
                                    | none =>
                                      rw [eo] at better
                                      show T _ _ _ _ _ _ _ _ 179 [some (.ref 572), some (.long (lN (cd a))), none, some (.long (lN (cd d))), none, some (.int (nI N)), some (.int (bI b)), some (.int (nI H1.length)), some (.long ((-1))), none, some (.int (nI 0)), some (.int (nI i)), some (.int (nI j)), some (.int (nI s))] [] (rm m2)
                                      refine T_lload (pc := 179) (i := 8) dX12_meets_179 rfl ?_
                                      refine T_lconst (pc := 181) (v := lN 0) dX12_meets_181 rfl ?_
                                      refine T_lcmp (pc := 182) dX12_meets_182 ?_
                                      refine R_lx_lt (pc := 183) (tgt := 216) dX12_meets_183 (by decide) (fun k5 => ?_) (fun k5 => ?_)
                                      · skip
                                        exact better rfl _ _
                                      · exact absurd (by decide) k5
                                    | some q =>
                                      obtain ⟨o1, o2⟩ := mOk i (by omega) q eo
                                      have b2 := cd_lt o2
                                      rw [eo] at better worse
                                      have em : mtL (some q) s (hA H1 i).1 = (decide (s < q.1) || (decide (s = q.1) && decide (cd (hA H1 i).1 < cd q.2))) := rfl
                                      rw [em] at better worse
                                      show T _ _ _ _ _ _ _ _ 179 [some (.ref 572), some (.long (lN (cd a))), none, some (.long (lN (cd d))), none, some (.int (nI N)), some (.int (bI b)), some (.int (nI H1.length)), some (.long (lN (cd q.2))), none, some (.int (nI q.1)), some (.int (nI i)), some (.int (nI j)), some (.int (nI s))] [] (rm m2)
                                      refine T_lload (pc := 179) (i := 8) dX12_meets_179 rfl ?_
                                      refine T_lconst (pc := 181) (v := lN 0) dX12_meets_181 rfl ?_
                                      refine T_lcmp (pc := 182) dX12_meets_182 ?_
                                      refine R_ln_lt (pc := 183) (tgt := 216) (by omega) (by omega) dX12_meets_183 (by decide) (fun k5 => ?_) (fun k5 => ?_)
                                      · exact absurd k5 (by omega)
                                      · skip
                                        refine T_iload (pc := 186) (i := 13) dX12_meets_186 rfl ?_
                                        refine T_iload (pc := 188) (i := 10) dX12_meets_188 rfl ?_
                                        refine R_icmp_gt (pc := 190) (tgt := 229) (by omega) (by omega) dX12_meets_190 (by decide) (fun k6 => ?_) (fun k6 => ?_)
                                        · skip
                                          exact worse (by rw [decide_eq_false (p := s < q.1) (by omega), decide_eq_false (p := s = q.1) (by omega)]; rfl) _ _ rfl rfl
                                        · skip
                                          refine T_iload (pc := 193) (i := 13) dX12_meets_193 rfl ?_
                                          refine T_iload (pc := 195) (i := 10) dX12_meets_195 rfl ?_
                                          refine R_icmp_ne (pc := 197) (tgt := 216) (by omega) (by omega) dX12_meets_197 (by decide) (fun k7 => ?_) (fun k7 => ?_)
                                          · skip
                                            exact better (by rw [decide_eq_true (p := s < q.1) (by omega)]; rfl) _ _
                                          · skip
                                            refine T_aload_n (pc := 200) (i := 0) dX12_meets_200 rfl rfl ?_
                                            refine R_getR (pc := 201) (i := 585) fl_X12_71 rfl kc_572 lc_572 rc_572_30 dX12_meets_201 ?_
                                            refine T_iload (pc := 204) (i := 11) dX12_meets_204 rfl ?_
                                            refine R_lald (pc := 206) (x := lN (cd (hA H1 i).1)) kc_585 lc_585 (by omega) (by first | decide | assumption) rw1.1 dX12_meets_206 ?_
                                            refine T_lload (pc := 207) (i := 8) dX12_meets_207 rfl ?_
                                            refine T_lcmp (pc := 209) dX12_meets_209 ?_
                                            refine R_ln_le (pc := 210) (tgt := 216) (by omega) (by omega) dX12_meets_210 (by decide) (fun k8 => ?_) (fun k8 => ?_)
                                            · skip
                                              have hs : s = q.1 := by omega
                                              by_cases hlt : cd (hA H1 i).1 < cd q.2
                                              · exact better (by rw [decide_eq_true (p := s = q.1) hs, decide_eq_true hlt]; simp) _ _
                                              · have hce : cd (hA H1 i).1 = cd q.2 := by omega
                                                have hwo := worse (by rw [decide_eq_false (p := s < q.1) (by omega), decide_eq_false hlt]; simp)
                                                refine T_aload_n (pc := 216) (i := 0) dX12_meets_216 rfl rfl ?_
                                                refine R_getR (pc := 217) (i := 585) fl_X12_71 rfl kc_572 lc_572 rc_572_30 dX12_meets_217 ?_
                                                refine T_iload (pc := 220) (i := 11) dX12_meets_220 rfl ?_
                                                refine R_lald (pc := 222) (x := lN (cd (hA H1 i).1)) kc_585 lc_585 (by omega) (by first | decide | assumption) rw1.1 dX12_meets_222 ?_
                                                refine T_lstore (pc := 223) (i := 8) (ls' := [some (.ref 572), some (.long (lN (cd a))), none, some (.long (lN (cd d))), none, some (.int (nI N)), some (.int (bI b)), some (.int (nI H1.length)), some (.long (lN (cd (hA H1 i).1))), none, some (.int (nI q.1)), some (.int (nI i)), some (.int (nI j)), some (.int (nI s))]) dX12_meets_223 (by decide) rfl ?_
                                                refine T_iload (pc := 225) (i := 13) dX12_meets_225 rfl ?_
                                                refine T_istore (pc := 227) (i := 10) (ls' := [some (.ref 572), some (.long (lN (cd a))), none, some (.long (lN (cd d))), none, some (.int (nI N)), some (.int (bI b)), some (.int (nI H1.length)), some (.long (lN (cd (hA H1 i).1))), none, some (.int (nI s)), some (.int (nI i)), some (.int (nI j)), some (.int (nI s))]) dX12_meets_227 (by decide) rfl ?_
                                                exact hwo _ _ (by rw [hs]; rfl) (by rw [hce]; rfl)
                                            · skip
                                              refine T_goto (pc := 213) (tgt := 229) dX12_meets_213 (by decide) ?_
                                              exact worse (by rw [decide_eq_false (p := s < q.1) (by omega), decide_eq_false (p := cd (hA H1 i).1 < cd q.2) (by omega)]; simp) _ _ rfl rfl
                                  · exact k4.elim
                          · exact absurd h7 (by decide)
                      · exact absurd g1 (by omega)
                    suffices copy : ∀ (g i : Nat) (m : SM2), i + g = H1.length → MOt m H1 i → OfM Noth (fun k => k = 585 ∨ k = 586) m1 m → T γ 13 0 0 M_X12_meets Q 0 0 68 [some (.ref 572), some (.long (lN (cd a))), none, some (.long (lN (cd d))), none, some (.int (nI N)), some (.int (bI b)), some (.int (nI H1.length)), some (.int (nI i)), none, none, none, none, none] [] (rm m) by
                      exact copy H1.length 0 m1 (Nat.zero_add _) (fun i z => absurd z (Nat.not_lt_zero i)) (OfM.refl _ _ _)
                    intro g
                    induction g with
                    | zero =>
                      intro i m hi hM hOm
                      obtain rfl : i = H1.length := by omega
                      exact second m hM hOm
                    | succ g ih =>
                      intro i m hi hM hOm
                      have hi1 : i < H1.length := by omega
                      have row := hT.row i hi1
                      refine T_iload (pc := 68) (i := 8) dX12_meets_68 rfl ?_
                      refine T_iload (pc := 70) (i := 7) dX12_meets_70 rfl ?_
                      refine R_icmp_ge (pc := 72) (tgt := 109) (by omega) (by omega) dX12_meets_72 (by decide) (fun g1 => ?_) (fun g1 => ?_)
                      · exact absurd g1 (by omega)
                      · skip
                        refine T_aload_n (pc := 75) (i := 0) dX12_meets_75 rfl rfl ?_
                        refine R_getR (pc := 76) (i := 585) fl_X12_71 rfl kc_572 lc_572 rc_572_30 dX12_meets_76 ?_
                        refine T_iload (pc := 79) (i := 8) dX12_meets_79 rfl ?_
                        refine T_aload_n (pc := 81) (i := 0) dX12_meets_81 rfl rfl ?_
                        refine R_getR (pc := 82) (i := 582) fl_X12_62 rfl kc_572 lc_572 rc_572_26 dX12_meets_82 ?_
                        refine T_iload (pc := 85) (i := 8) dX12_meets_85 rfl ?_
                        refine R_lald (pc := 87) (x := lN (cd (hA H1 i).1)) kc_582 lc_582 (by omega) (by first | decide | assumption) ((hOm.l (by decide) (by omega) i).trans row.2.1) dX12_meets_87 ?_
                        refine R_last (pc := 88) kc_585 lc_585 (by omega) (by first | decide | assumption) dX12_meets_88 ?_
                        refine T_aload_n (pc := 89) (i := 0) dX12_meets_89 rfl rfl ?_
                        refine R_getR (pc := 90) (i := 586) fl_X12_74 rfl kc_572 lc_572 rc_572_31 dX12_meets_90 ?_
                        refine T_iload (pc := 93) (i := 8) dX12_meets_93 rfl ?_
                        refine T_aload_n (pc := 95) (i := 0) dX12_meets_95 rfl rfl ?_
                        refine R_getR (pc := 96) (i := 583) fl_X12_65 rfl kc_572 lc_572 rc_572_27 dX12_meets_96 ?_
                        refine T_iload (pc := 99) (i := 8) dX12_meets_99 rfl ?_
                        refine R_iald (pc := 101) (x := nI ((hA H1 i).2)) kc_583 lc_583 (by omega) (by first | decide | assumption) (skL.trans ((hOm.i (by decide) (by omega) i).trans row.2.2)) dX12_meets_101 ?_
                        refine R_iast (pc := 102) kc_586 lc_586 (by omega) (by first | decide | assumption) dX12_meets_102 ?_
                        refine R_iinc (pc := 103) (i := 8) (n := 1) (ls' := [some (.ref 572), some (.long (lN (cd a))), none, some (.long (lN (cd d))), none, some (.int (nI N)), some (.int (bI b)), some (.int (nI H1.length)), some (.int (nI (i + 1))), none, none, none, none, none]) dX12_meets_103 rfl rfl ?_
                        refine T_goto (pc := 106) (tgt := 68) dX12_meets_106 (by decide) ?_
                        exact ih (i + 1) _ (by omega) (fun j hj => by
                          by_cases z : j = i
                          · rw [z]
                            exact ⟨e_wL ⟨rfl, rfl⟩, e_wI ⟨rfl, rfl⟩⟩
                          · have hj2 := hM j (by omega)
                            exact ⟨(n_wL (by omega)).trans hj2.1, (n_wI (by omega)).trans hj2.2⟩) (OfM.sI (OfM.sL hOm (Or.inl rfl) (by decide)) (Or.inr rfl) (by decide))
                  · exact absurd h6 (by decide)
              · exact absurd h4 (by decide)
            · exact absurd h3 (by decide)
end MMT

