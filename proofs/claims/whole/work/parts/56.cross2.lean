/-! OVERLAPS looked over; COMPLETED -/
theorem ovP_len (R : List Ru) (p q : Nat) : ∀ j, (ovP R p q j).length ≤ j
  | 0 => Nat.le_refl _
  | j + 1 => by
    have h := ovP_len R p q j
    unfold ovP
    split
    · rw [List.length_append]
      show _ + 1 ≤ _
      omega
    · omega
theorem wiP_len (R : List Ru) (p q : Nat) : ∀ j, (wiP R p q j).length ≤ j
  | 0 => Nat.le_refl _
  | j + 1 => by
    have h := wiP_len R p q j
    unfold wiP
    split
    · rw [List.length_append]
      show _ + 1 ≤ _
      omega
    · omega
theorem rAt_4 {R : List Ru} (hR : ∀ i, i < R.length → okR (rAt R i)) (i : Nat) : (rAt R i).1.length ≤ 4 := by
  by_cases h : i < R.length
  · exact (hR i h).2.2.1
  · have e : rAt R i = ([], []) := by
      show R.getD i _ = _
      rw [List.getD_eq_getElem?_getD, List.getElem?_eq_none (by omega)]
      rfl
    rw [e]
    exact Nat.zero_le _
theorem ovI_len {R : List Ru} (hR : ∀ i, i < R.length → okR (rAt R i)) : ∀ i, (ovI R i).length ≤ 3 * i
  | 0 => Nat.le_refl _
  | i + 1 => by
    have h := ovI_len hR i
    have h2 := ovP_len R (i / R.length) (i % R.length) (ovK R (i / R.length) (i % R.length))
    have h3 := rAt_4 hR (i / R.length)
    have h4 : ovK R (i / R.length) (i % R.length) ≤ 3 := by unfold ovK; omega
    show (ovI R i ++ ovP R (i / R.length) (i % R.length) (ovK R (i / R.length) (i % R.length))).length ≤ _
    rw [List.length_append]
    omega
theorem wiI_len {R : List Ru} (hR : ∀ i, i < R.length → okR (rAt R i)) : ∀ i, (wiI R i).length ≤ 4 * i
  | 0 => Nat.le_refl _
  | i + 1 => by
    have h := wiI_len hR i
    have h2 := wiP_len R (i / R.length) (i % R.length) (if i / R.length = i % R.length then 0 else (rAt R (i / R.length)).1.length)
    have h3 := rAt_4 hR (i / R.length)
    have h4 : (if i / R.length = i % R.length then 0 else (rAt R (i / R.length)).1.length) ≤ 4 := by split <;> omega
    show (wiI R i ++ wiP R (i / R.length) (i % R.length) (if i / R.length = i % R.length then 0 else (rAt R (i / R.length)).1.length)).length ≤ _
    rw [List.length_append]
    omega
theorem crS_n (R : List Ru) (wg : Bool) (c : Cr) (o : Ov) : (crS R wg c o).1 = c.1 + 1 ∧ (crS R wg c o).2.1 ≤ c.2.1 + 1 := by
  unfold crS crU
  split
  · split
    · exact ⟨rfl, Nat.le_succ _⟩
    · exact ⟨rfl, Nat.le_refl _⟩
  · exact ⟨rfl, Nat.le_succ _⟩
theorem crF_n (R : List Ru) (wg : Bool) : ∀ (V : List Ov) (c : Cr), (V.foldl (crS R wg) c).1 = c.1 + V.length ∧ (V.foldl (crS R wg) c).2.1 ≤ c.2.1 + V.length
  | [], c => ⟨rfl, Nat.le_refl _⟩
  | o :: t, c => by
    have h1 := crS_n R wg c o
    have h2 := crF_n R wg t (crS R wg c o)
    show (t.foldl (crS R wg) (crS R wg c o)).1 = _ ∧ (t.foldl (crS R wg) (crS R wg c o)).2.1 ≤ _
    rw [List.length_cons]
    omega
theorem crV_n {R : List Ru} (hR : ∀ i, i < R.length → okR (rAt R i)) (h12 : R.length ≤ 12) (wg : Bool) : (crV R wg).1 ≤ 1008 ∧ (crV R wg).2.1 ≤ 1008 := by
  have h1 : (crV R wg).1 = 0 + (ovI R (R.length * R.length) ++ wiI R (R.length * R.length)).length ∧ (crV R wg).2.1 ≤ 0 + (ovI R (R.length * R.length) ++ wiI R (R.length * R.length)).length := crF_n R wg (ovI R (R.length * R.length) ++ wiI R (R.length * R.length)) (0, 0, none, none)
  have h2 := ovI_len hR (R.length * R.length)
  have h3 := wiI_len hR (R.length * R.length)
  have h4 : R.length * R.length ≤ 12 * 12 := Nat.mul_le_mul h12 h12
  rw [List.length_append] at h1
  omega
def CrSt (μ : SM2) (R : List Ru) (LL : List (List Int32)) (wg : Bool) (m : SM2) (c : Cr) : Prop := ((CrAt m c ∧ CrOk c) ∧ m.1 121 5 = bI wg) ∧ EnvW m R LL (0, 0, fun _ _ _ => false) ∧ OfS SC μ m
theorem CrSt.trans {μ m m' : SM2} {R : List Ru} {LL : List (List Int32)} {wg : Bool} {c c' : Cr} (h : CrSt μ R LL wg m c) (g : ((CrAt m' c' ∧ CrOk c') ∧ m'.1 121 5 = bI wg) ∧ EnvW m' R LL (0, 0, fun _ _ _ => false) ∧ OfS SC m m') : CrSt μ R LL wg m' c' := ⟨g.1, g.2.1, h.2.2.trans g.2.2⟩
def ovV (R : List Ru) (k : Nat) : Int64 := if k = 0 then lN (crV R false).1 else if k = 1 then lN (crV R true).2.1 else vO (crV R true).2.2.1
def cmpl (R : List Ru) : Option (List Nat × List Nat) := match (crV R true).2.2.2 with
  | none => none
  | some g => if g.1.length ≤ 4 then some g else none
def cmE (R : List Ru) : String ⊕ Value := match cmpl R with
  | none => .inr (.int (-1))
  | some _ => if R.length < 12 then .inr (.int (nI R.length)) else .inl "java/lang/UnsupportedOperationException"
def cmX (X : Td) : Td := match cmpl X.R with
  | none => X
  | some g => if X.R.length < 12 then (X.R ++ [g], X.2) else X
def cmU (X : Td) (U : List Td) : List Td := match cmpl X.R with
  | none => U
  | some _ => if X.R.length < 12 then (X :: U).take 16 else U
section CR2
variable {γ : Ga} {μ : SM2}
theorem c_endBegins {R : List Ru} {p q k : Nat} (hR : RulesAt μ 4 R) (hp : p < R.length) (hq : q < R.length) (h1 : k ≤ (rAt R p).1.length) (h2 : k ≤ (rAt R q).1.length) : Ex γ 2 0 0 M_X0_endBegins [.ref 4, .int (nI p), .int (nI q), .int (nI k)] (rm μ) (Fn (some (.int (bI (endB R p q k)))) μ) := by
  have h12 := hR.len
  have op := hR.ok p hp
  have oq := hR.ok q hq
  have bp := cd_lt op.l
  have bq := cd_lt oq.l
  have p4 := op.2.2.1
  have q4 := oq.2.2.1
  refine Ex.of (by decide +kernel) rfl (Nat.le_of_ble_eq_true rfl) ?_
  show T _ _ _ _ _ _ _ _ _ [some (.ref 4), some (.int (nI p)), some (.int (nI q)), some (.int (nI k)), none, none] [] (rm μ)
  refine T_aload_n (pc := 0) (i := 0) dX0_endBegins_0 rfl rfl ?_
  refine R_getR (pc := 1) (i := 5) fl_X0_53 rfl (kt_rules rules4) (lt_rules rules4) (rt_rules_left rules4) dX0_endBegins_1 ?_
  refine T_iload_n (pc := 4) (i := 2) dX0_endBegins_4 rfl rfl ?_
  refine R_lald (pc := 5) (x := lN (cd (rAt R q).1)) (kt_rules_left rules4) (lt_rules_left rules4) (by omega) (by first | decide | assumption) ((hR.row q hq).left) dX0_endBegins_5 ?_
  refine T_iconst (pc := 6) (v := nI 3) dX0_endBegins_6 (by decide) ?_
  refine T_aload_n (pc := 7) (i := 0) dX0_endBegins_7 rfl rfl ?_
  refine R_getR (pc := 8) (i := 7) fl_X0_45 rfl (kt_rules rules4) (lt_rules rules4) (rt_rules_leftSize rules4) dX0_endBegins_8 ?_
  refine T_iload_n (pc := 11) (i := 2) dX0_endBegins_11 rfl rfl ?_
  refine R_iald (pc := 12) (x := nI ((rAt R q).1.length)) (kt_rules_leftSize rules4) (lt_rules_leftSize rules4) (by omega) (by first | decide | assumption) ((hR.row q hq).leftSize) dX0_endBegins_12 ?_
  refine T_iload_n (pc := 13) (i := 3) dX0_endBegins_13 rfl rfl ?_
  refine R_isub (pc := 14) (by omega) dX0_endBegins_14 ?_
  refine R_imul (pc := 15) dX0_endBegins_15 ?_
  refine R_lushr (pc := 16) ⟨by omega, by omega⟩ dX0_endBegins_16 ?_
  refine T_lstore (pc := 17) (i := 4) (ls' := [some (.ref 4), some (.int (nI p)), some (.int (nI q)), some (.int (nI k)), some (.long (lN ((cd (rAt R q).1) / 2 ^ (3 * (((rAt R q).1.length) - k))))), none]) dX0_endBegins_17 (by decide) rfl ?_
  refine T_aload_n (pc := 19) (i := 0) dX0_endBegins_19 rfl rfl ?_
  refine R_getR (pc := 20) (i := 5) fl_X0_53 rfl (kt_rules rules4) (lt_rules rules4) (rt_rules_left rules4) dX0_endBegins_20 ?_
  refine T_iload_n (pc := 23) (i := 1) dX0_endBegins_23 rfl rfl ?_
  refine R_lald (pc := 24) (x := lN (cd (rAt R p).1)) (kt_rules_left rules4) (lt_rules_left rules4) (by omega) (by first | decide | assumption) ((hR.row p hp).left) dX0_endBegins_24 ?_
  refine T_lload (pc := 25) (i := 4) dX0_endBegins_25 rfl ?_
  refine R_lxor (pc := 27) dX0_endBegins_27 ?_
  refine T_iload_n (pc := 28) (i := 3) dX0_endBegins_28 rfl rfl ?_
  refine R_callS1 (pc := 29) (av := [.int (nI k)]) (rest := [.long (lN ((cd (rAt R p).1) ^^^ ((cd (rAt R q).1) / 2 ^ (3 * (((rAt R q).1.length) - k)))))]) (Or.inr lk_X0_69) mk_X11_figures (c_figures (by omega)) dX0_endBegins_29 rfl rfl (Nat.le_of_ble_eq_true rfl) (by decide) rfl (Nat.le_refl _) (Nat.le_refl _) ?_
  refine R_land (pc := 32) dX0_endBegins_32 ?_
  refine T_lconst (pc := 33) (v := lN 0) dX0_endBegins_33 rfl ?_
  refine T_lcmp (pc := 34) dX0_endBegins_34 ?_
  rw [p8, cd_div oq.1 (by omega), show (rAt R q).1.length - ((rAt R q).1.length - k) = k by omega]
  have e1 := cd_mod op.1 h1
  have e2 := cd_mod (okb_take (n := k) oq.1) (k := k) (by rw [List.length_take]; omega)
  rw [List.length_take, Nat.min_eq_left h2, Nat.sub_self, List.drop_zero] at e2
  have hk := xor_mask (x := cd (rAt R p).1) (y := cd ((rAt R q).1.take k)) (n := k)
  rw [e1, e2] at hk
  have hx : (cd (rAt R p).1 ^^^ cd ((rAt R q).1.take k)) &&& (8 ^ k - 1) < 2 ^ 63 := Nat.lt_of_le_of_lt Nat.and_le_right (by have := nI8 (n := k) (by omega); omega)
  refine R_ln_ne (tgt := 42) hx (by omega) dX0_endBegins_35 (by decide) (fun h3 => ?_) (fun h3 => ?_)
  · have hb : endB R p q k = false := decide_eq_false (fun z => h3 (hk.mpr (by rw [z])))
    refine T_iconst (pc := 42) (v := nI 0) dX0_endBegins_42 (by decide) ?_
    exact T_iret (pc := 43) (ty := .boolean) dX0_endBegins_43 rfl (by decide) (Nat.le_refl _) (Nat.le_refl _) ⟨by rw [hb]; rfl, rfl⟩
  · have hb : endB R p q k = true := decide_eq_true (vl_inj (okb_drop op.1) (okb_take oq.1) (by rw [List.length_drop, List.length_take]; omega) (hk.mp h3))
    refine T_iconst (pc := 38) (v := nI 1) dX0_endBegins_38 (by decide) ?_
    refine T_goto (pc := 39) (tgt := 43) dX0_endBegins_39 (by decide) ?_
    exact T_iret (pc := 43) (ty := .boolean) dX0_endBegins_43 rfl (by decide) (Nat.le_refl _) (Nat.le_refl _) ⟨by rw [hb]; rfl, rfl⟩
theorem c_Cross_survey {R : List Ru} {LL : List (List Int32)} {wg : Bool} (hE : EnvW μ R LL (0, 0, fun _ _ _ => false)) : Ex γ 7 0 0 M_X0_survey [.ref 121, .ref 97, .int (bI wg)] (rm μ) (Rm none (fun m => CrSt μ R LL wg m (crV R wg))) := by
  have h12 := hE.1.len
  have hpr : R.length * R.length ≤ 12 * 12 := Nat.mul_le_mul h12 h12
  have hRk := hE.1.ok
  obtain ⟨c0, hc0⟩ : ∃ c : Cr, c = (0, 0, none, none) := ⟨_, rfl⟩
  have eV : crV R wg = (ovI R (R.length * R.length) ++ wiI R (R.length * R.length)).foldl (crS R wg) c0 := by rw [hc0]; rfl
  rw [eV]
  suffices outer1 : ∀ (g i : Nat) (m : SM2), i + g = R.length * R.length → CrSt μ R LL wg m ((ovI R i).foldl (crS R wg) c0) → T γ 7 0 0 M_X0_survey (Rm none (fun m => CrSt μ R LL wg m ((ovI R (R.length * R.length) ++ wiI R (R.length * R.length)).foldl (crS R wg) c0))) 0 0 55 [some (.ref 121), some (.ref 97), some (.int (bI wg)), some (.ref 4), some (.int (nI (R.length * R.length))), some (.int (nI i)), none, none, none, none, none] [] (rm m) by
    refine Ex.of (by decide +kernel) rfl (Nat.le_of_ble_eq_true rfl) ?_
    show T _ _ _ _ _ _ _ _ _ [some (.ref 121), some (.ref 97), some (.int (bI wg)), none, none, none, none, none, none, none, none] [] (rm μ)
    refine T_aload_n (pc := 0) (i := 0) dX0_survey_0 rfl rfl ?_
    refine T_iconst (pc := 1) (v := nI 0) dX0_survey_1 (by decide) ?_
    refine R_putI (pc := 2) fl_X0_9 ⟨rfl, rfl⟩ (Or.inl rfl) kc_121 lc_121 dX0_survey_2 ?_
    refine T_aload_n (pc := 5) (i := 0) dX0_survey_5 rfl rfl ?_
    refine T_iconst (pc := 6) (v := nI 0) dX0_survey_6 (by decide) ?_
    refine R_putI (pc := 7) fl_X0_15 ⟨rfl, rfl⟩ (Or.inl rfl) kc_121 lc_121 dX0_survey_7 ?_
    refine T_aload_n (pc := 10) (i := 0) dX0_survey_10 rfl rfl ?_
    refine T_ldc2 (pc := 11) dX0_survey_11 cn_X0_18 ?_
    refine R_putL (pc := 14) fl_X0_20 ⟨rfl, rfl⟩ kc_121 lc_121 dX0_survey_14 ?_
    refine T_aload_n (pc := 17) (i := 0) dX0_survey_17 rfl rfl ?_
    refine T_ldc2 (pc := 18) dX0_survey_18 cn_X0_18 ?_
    refine R_putL (pc := 21) fl_X0_24 ⟨rfl, rfl⟩ kc_121 lc_121 dX0_survey_21 ?_
    refine T_aload_n (pc := 24) (i := 0) dX0_survey_24 rfl rfl ?_
    refine T_ldc2 (pc := 25) dX0_survey_25 cn_X0_18 ?_
    refine R_putL (pc := 28) fl_X0_27 ⟨rfl, rfl⟩ kc_121 lc_121 dX0_survey_28 ?_
    refine T_aload_n (pc := 31) (i := 0) dX0_survey_31 rfl rfl ?_
    refine T_iload_n (pc := 32) (i := 2) dX0_survey_32 rfl rfl ?_
    refine R_putI (pc := 33) fl_X0_30 ⟨rfl, rfl⟩ (Or.inr (bI_01 _)) kc_121 lc_121 dX0_survey_33 ?_
    refine T_aload_n (pc := 36) (i := 1) dX0_survey_36 rfl rfl ?_
    refine R_getR (pc := 37) (i := 4) fl_X0_34 rfl kc_97 lc_97 rc_97_0 dX0_survey_37 ?_
    refine T_astore_n (pc := 40) (i := 3) (ls' := [some (.ref 121), some (.ref 97), some (.int (bI wg)), some (.ref 4), none, none, none, none, none, none, none]) dX0_survey_40 rfl (by decide) rfl ?_
    refine T_aload_n (pc := 41) (i := 3) dX0_survey_41 rfl rfl ?_
    refine R_getI (pc := 42) (x := nI R.length) fl_X0_40 rfl (kt_rules rules4) (lt_rules rules4) ((wI_ne (by decide)).trans (skL.trans (skL.trans (skL.trans ((wI_ne (by decide)).trans ((wI_ne (by decide)).trans hE.1.size)))))) dX0_survey_42 ?_
    refine T_aload_n (pc := 45) (i := 3) dX0_survey_45 rfl rfl ?_
    refine R_getI (pc := 46) (x := nI R.length) fl_X0_40 rfl (kt_rules rules4) (lt_rules rules4) ((wI_ne (by decide)).trans (skL.trans (skL.trans (skL.trans ((wI_ne (by decide)).trans ((wI_ne (by decide)).trans hE.1.size)))))) dX0_survey_46 ?_
    refine R_imul (pc := 49) dX0_survey_49 ?_
    refine T_istore (pc := 50) (i := 4) (ls' := [some (.ref 121), some (.ref 97), some (.int (bI wg)), some (.ref 4), some (.int (nI (R.length * R.length))), none, none, none, none, none, none]) dX0_survey_50 (by decide) rfl ?_
    refine T_iconst (pc := 52) (v := nI 0) dX0_survey_52 (by decide) ?_
    refine T_istore (pc := 53) (i := 5) (ls' := [some (.ref 121), some (.ref 97), some (.int (bI wg)), some (.ref 4), some (.int (nI (R.length * R.length))), some (.int (nI 0)), none, none, none, none, none]) dX0_survey_53 (by decide) rfl ?_
    have o1 : OfS (fun k => k = 121) μ (wI (wL (wL (wL (wI (wI μ 121 0 (nI 0)) 121 1 (nI 0)) 121 2 (-1)) 121 3 (-1)) 121 4 (-1)) 121 5 (bI wg)) := OfS.sI (OfS.sL (OfS.sL (OfS.sL (OfS.sI (OfS.sI (OfS.refl _ _) rfl) rfl) rfl) rfl) rfl) rfl
    refine outer1 (R.length * R.length) 0 _ (Nat.zero_add _) ⟨⟨⟨?_, ?_⟩, ?_⟩, hE.ofs o1 (fun k hk => by omega), o1.mono (fun k hk => Or.inr hk)⟩
    · rw [hc0]
      refine ⟨?_, ?_, ?_, ?_, ?_⟩
      all_goals
        show _ = _
        simp (disch := omega) only [n_wI, e_wI, n_wL, e_wL, m_wI2, m_wL1, n_wCI, e_wCI, n_wCL, e_wCL, m_wCI2, m_wCL1, n_wF, e_wF, m_wF2]
      all_goals rfl
    · rw [hc0]
      exact ⟨fun w hw => (by cases hw), fun q hq => (by cases hq)⟩
    · skip
      simp (disch := omega) only [n_wI, e_wI, n_wL, e_wL, m_wI2, m_wL1, n_wCI, e_wCI, n_wCL, e_wCL, m_wCI2, m_wCL1, n_wF, e_wF, m_wF2]
  suffices outer2 : ∀ (g i : Nat) (m : SM2), i + g = R.length * R.length → CrSt μ R LL wg m ((ovI R (R.length * R.length) ++ wiI R i).foldl (crS R wg) c0) → T γ 7 0 0 M_X0_survey (Rm none (fun m => CrSt μ R LL wg m ((ovI R (R.length * R.length) ++ wiI R (R.length * R.length)).foldl (crS R wg) c0))) 0 0 191 [some (.ref 121), some (.ref 97), some (.int (bI wg)), some (.ref 4), some (.int (nI (R.length * R.length))), some (.int (nI i)), none, none, none, none, none] [] (rm m) by
    intro g
    induction g with
    | zero =>
      intro i m hi iS
      obtain rfl : i = R.length * R.length := by omega
      refine T_iload (pc := 55) (i := 5) dX0_survey_55 rfl ?_
      refine T_iload (pc := 57) (i := 4) dX0_survey_57 rfl ?_
      refine R_icmp_ge (pc := 59) (tgt := 188) (by omega) (by omega) dX0_survey_59 (by decide) (fun h1 => ?_) (fun h1 => ?_)
      · skip
        refine T_iconst (pc := 188) (v := nI 0) dX0_survey_188 (by decide) ?_
        refine T_istore (pc := 189) (i := 5) (ls' := [some (.ref 121), some (.ref 97), some (.int (bI wg)), some (.ref 4), some (.int (nI (R.length * R.length))), some (.int (nI 0)), none, none, none, none, none]) dX0_survey_189 (by decide) rfl ?_
        exact outer2 (R.length * R.length) 0 m (Nat.zero_add _) (by show CrSt μ R LL wg m ((ovI R (R.length * R.length) ++ []).foldl (crS R wg) c0); rw [List.append_nil]; exact iS)
      · exact absurd h1 (by omega)
    | succ g ih =>
      intro i m hi iS
      have hm : 0 < R.length := by
        rcases Nat.eq_zero_or_pos R.length with z | z
        · rw [z] at hi
          omega
        · exact z
      have hp : i / R.length < R.length := Nat.div_lt_of_lt_mul (by omega)
      have hq := Nat.mod_lt i hm
      have eI : ovI R (i + 1) = ovI R i ++ ovP R (i / R.length) (i % R.length) (ovK R (i / R.length) (i % R.length)) := rfl
      have h9 := ih (i + 1)
      rw [eI] at h9
      refine T_iload (pc := 55) (i := 5) dX0_survey_55 rfl ?_
      refine T_iload (pc := 57) (i := 4) dX0_survey_57 rfl ?_
      refine R_icmp_ge (pc := 59) (tgt := 188) (by omega) (by omega) dX0_survey_59 (by decide) (fun h1 => ?_) (fun h1 => ?_)
      · exact absurd h1 (by omega)
      · skip
        refine T_iload (pc := 62) (i := 5) dX0_survey_62 rfl ?_
        refine T_aload_n (pc := 64) (i := 3) dX0_survey_64 rfl rfl ?_
        refine R_getI (pc := 65) (x := nI R.length) fl_X0_40 rfl (kt_rules rules4) (lt_rules rules4) iS.2.1.1.size dX0_survey_65 ?_
        refine R_idiv (pc := 68) ⟨hm, by omega, by omega⟩ dX0_survey_68 ?_
        refine T_istore (pc := 69) (i := 6) (ls' := [some (.ref 121), some (.ref 97), some (.int (bI wg)), some (.ref 4), some (.int (nI (R.length * R.length))), some (.int (nI i)), some (.int (nI (i / R.length))), none, none, none, none]) dX0_survey_69 (by decide) rfl ?_
        refine T_iload (pc := 71) (i := 5) dX0_survey_71 rfl ?_
        refine T_aload_n (pc := 73) (i := 3) dX0_survey_73 rfl rfl ?_
        refine R_getI (pc := 74) (x := nI R.length) fl_X0_40 rfl (kt_rules rules4) (lt_rules rules4) iS.2.1.1.size dX0_survey_74 ?_
        refine R_irem (pc := 77) ⟨hm, by omega, by omega⟩ dX0_survey_77 ?_
        refine T_istore (pc := 78) (i := 7) (ls' := [some (.ref 121), some (.ref 97), some (.int (bI wg)), some (.ref 4), some (.int (nI (R.length * R.length))), some (.int (nI i)), some (.int (nI (i / R.length))), some (.int (nI (i % R.length))), none, none, none]) dX0_survey_78 (by decide) rfl ?_
        refine T_iconst (pc := 80) (v := nI 1) dX0_survey_80 (by decide) ?_
        refine T_istore (pc := 81) (i := 8) (ls' := [some (.ref 121), some (.ref 97), some (.int (bI wg)), some (.ref 4), some (.int (nI (R.length * R.length))), some (.int (nI i)), some (.int (nI (i / R.length))), some (.int (nI (i % R.length))), some (.int (nI 1)), none, none]) dX0_survey_81 (by decide) rfl ?_
        generalize i / R.length = p at *
        generalize i % R.length = q at *
        have op := hRk p hp
        have oq := hRk q hq
        have p4 := op.2.2.1
        have q4 := oq.2.2.1
        suffices inner : ∀ (f j : Nat) (m : SM2), j + f = ovK R p q → CrSt μ R LL wg m ((ovI R i ++ ovP R p q j).foldl (crS R wg) c0) → T γ 7 0 0 M_X0_survey (Rm none (fun m => CrSt μ R LL wg m ((ovI R (R.length * R.length) ++ wiI R (R.length * R.length)).foldl (crS R wg) c0))) 0 0 83 [some (.ref 121), some (.ref 97), some (.int (bI wg)), some (.ref 4), some (.int (nI (R.length * R.length))), some (.int (nI i)), some (.int (nI p)), some (.int (nI q)), some (.int (nI (j + 1))), none, none] [] (rm m) by
          exact inner _ 0 m (Nat.zero_add _) (by show CrSt μ R LL wg m ((ovI R i ++ []).foldl (crS R wg) c0); rw [List.append_nil]; exact iS)
        have nxt : ∀ (j : Nat) (m : SM2), j = ovK R p q → CrSt μ R LL wg m ((ovI R i ++ ovP R p q j).foldl (crS R wg) c0) → T γ 7 0 0 M_X0_survey (Rm none (fun m => CrSt μ R LL wg m ((ovI R (R.length * R.length) ++ wiI R (R.length * R.length)).foldl (crS R wg) c0))) 0 0 182 [some (.ref 121), some (.ref 97), some (.int (bI wg)), some (.ref 4), some (.int (nI (R.length * R.length))), some (.int (nI i)), some (.int (nI p)), some (.int (nI q)), some (.int (nI (j + 1))), none, none] [] (rm m) := fun j m e jS => by
          subst e
          refine R_iinc (pc := 182) (i := 5) (n := 1) (ls' := [some (.ref 121), some (.ref 97), some (.int (bI wg)), some (.ref 4), some (.int (nI (R.length * R.length))), some (.int (nI (i + 1))), some (.int (nI p)), some (.int (nI q)), some (.int (nI (ovK R p q + 1))), none, none]) dX0_survey_182 rfl rfl ?_
          refine T_goto (pc := 185) (tgt := 55) dX0_survey_185 (by decide) ?_
          refine T_ls (ls' := [some (.ref 121), some (.ref 97), some (.int (bI wg)), some (.ref 4), some (.int (nI (R.length * R.length))), some (.int (nI (i + 1))), none, none, none, none, none]) (And.intro rfl (And.intro rfl (And.intro rfl (And.intro rfl (And.intro rfl (And.intro rfl True.intro)))))) ?_
          exact h9 m (by omega) jS
        have eK : ovK R p q = min (rAt R p).1.length (rAt R q).1.length - 1 := rfl
        intro f
        induction f with
        | zero =>
          intro j m2 hj jS
          have l1 := op.2.1
          have l2 := oq.2.1
          refine T_iload (pc := 83) (i := 8) dX0_survey_83 rfl ?_
          refine T_aload_n (pc := 85) (i := 3) dX0_survey_85 rfl rfl ?_
          refine R_getR (pc := 86) (i := 7) fl_X0_45 rfl (kt_rules rules4) (lt_rules rules4) (rt_rules_leftSize rules4) dX0_survey_86 ?_
          refine T_iload (pc := 89) (i := 6) dX0_survey_89 rfl ?_
          refine R_iald (pc := 91) (x := nI ((rAt R p).1.length)) (kt_rules_leftSize rules4) (lt_rules_leftSize rules4) (by omega) (by first | decide | assumption) ((jS.2.1.1.row p hp).leftSize) dX0_survey_91 ?_
          refine R_icmp_ge (pc := 92) (tgt := 182) (by omega) (by omega) dX0_survey_92 (by decide) (fun h2 => ?_) (fun h2 => ?_)
          · exact nxt j m2 (by omega) jS
          · skip
            refine T_iload (pc := 95) (i := 8) dX0_survey_95 rfl ?_
            refine T_aload_n (pc := 97) (i := 3) dX0_survey_97 rfl rfl ?_
            refine R_getR (pc := 98) (i := 7) fl_X0_45 rfl (kt_rules rules4) (lt_rules rules4) (rt_rules_leftSize rules4) dX0_survey_98 ?_
            refine T_iload (pc := 101) (i := 7) dX0_survey_101 rfl ?_
            refine R_iald (pc := 103) (x := nI ((rAt R q).1.length)) (kt_rules_leftSize rules4) (lt_rules_leftSize rules4) (by omega) (by first | decide | assumption) ((jS.2.1.1.row q hq).leftSize) dX0_survey_103 ?_
            refine R_icmp_ge (pc := 104) (tgt := 182) (by omega) (by omega) dX0_survey_104 (by decide) (fun h3 => ?_) (fun h3 => ?_)
            · exact nxt j m2 (by omega) jS
            · exact absurd h3 (by omega)
        | succ f ihf =>
          intro j m2 hj jS
          refine T_iload (pc := 83) (i := 8) dX0_survey_83 rfl ?_
          refine T_aload_n (pc := 85) (i := 3) dX0_survey_85 rfl rfl ?_
          refine R_getR (pc := 86) (i := 7) fl_X0_45 rfl (kt_rules rules4) (lt_rules rules4) (rt_rules_leftSize rules4) dX0_survey_86 ?_
          refine T_iload (pc := 89) (i := 6) dX0_survey_89 rfl ?_
          refine R_iald (pc := 91) (x := nI ((rAt R p).1.length)) (kt_rules_leftSize rules4) (lt_rules_leftSize rules4) (by omega) (by first | decide | assumption) ((jS.2.1.1.row p hp).leftSize) dX0_survey_91 ?_
          refine R_icmp_ge (pc := 92) (tgt := 182) (by omega) (by omega) dX0_survey_92 (by decide) (fun h2 => ?_) (fun h2 => ?_)
          · exact absurd h2 (by omega)
          · skip
            refine T_iload (pc := 95) (i := 8) dX0_survey_95 rfl ?_
            refine T_aload_n (pc := 97) (i := 3) dX0_survey_97 rfl rfl ?_
            refine R_getR (pc := 98) (i := 7) fl_X0_45 rfl (kt_rules rules4) (lt_rules rules4) (rt_rules_leftSize rules4) dX0_survey_98 ?_
            refine T_iload (pc := 101) (i := 7) dX0_survey_101 rfl ?_
            refine R_iald (pc := 103) (x := nI ((rAt R q).1.length)) (kt_rules_leftSize rules4) (lt_rules_leftSize rules4) (by omega) (by first | decide | assumption) ((jS.2.1.1.row q hq).leftSize) dX0_survey_103 ?_
            refine R_icmp_ge (pc := 104) (tgt := 182) (by omega) (by omega) dX0_survey_104 (by decide) (fun h3 => ?_) (fun h3 => ?_)
            · exact absurd h3 (by omega)
            · skip
              refine T_aload_n (pc := 107) (i := 3) dX0_survey_107 rfl rfl ?_
              refine T_iload (pc := 108) (i := 6) dX0_survey_108 rfl ?_
              refine T_iload (pc := 110) (i := 7) dX0_survey_110 rfl ?_
              refine T_iload (pc := 112) (i := 8) dX0_survey_112 rfl ?_
              refine R_callS1 (pc := 114) (av := [.ref 4, .int (nI p), .int (nI q), .int (nI (j + 1))]) (rest := []) (Or.inl lk_X0_49) mk_X0_endBegins (c_endBegins jS.2.1.1 hp hq (by omega) (by omega)) dX0_survey_114 rfl rfl (Nat.le_of_ble_eq_true rfl) (by decide) rfl (Nat.le_refl _) (Nat.le_refl _) ?_
              refine R_ifb_eq (pc := 117) (tgt := 176) dX0_survey_117 (by decide) (fun h4 => ?_) (fun h4 => ?_)
              · skip
                have e1 : ovP R p q (j + 1) = ovP R p q j := if_neg (fun z : endB R p q (j + 1) = true => by rw [h4] at z; cases z)
                refine R_iinc (pc := 176) (i := 8) (n := 1) (ls' := [some (.ref 121), some (.ref 97), some (.int (bI wg)), some (.ref 4), some (.int (nI (R.length * R.length))), some (.int (nI i)), some (.int (nI p)), some (.int (nI q)), some (.int (nI (j + 1 + 1))), none, none]) dX0_survey_176 rfl rfl ?_
                refine T_goto (pc := 179) (tgt := 83) dX0_survey_179 (by decide) ?_
                have h8 := ihf (j + 1) m2 (by omega) (by rw [e1]; exact jS)
                exact h8
              · skip
                have e1 : ovP R p q (j + 1) = ovP R p q j ++ [ovW R p q (j + 1)] := if_pos h4
                refine T_aload_n (pc := 120) (i := 3) dX0_survey_120 rfl rfl ?_
                refine R_getR (pc := 121) (i := 5) fl_X0_53 rfl (kt_rules rules4) (lt_rules rules4) (rt_rules_left rules4) dX0_survey_121 ?_
                refine T_iload (pc := 124) (i := 6) dX0_survey_124 rfl ?_
                refine R_lald (pc := 126) (x := lN (cd (rAt R p).1)) (kt_rules_left rules4) (lt_rules_left rules4) (by omega) (by first | decide | assumption) ((jS.2.1.1.row p hp).left) dX0_survey_126 ?_
                refine T_aload_n (pc := 127) (i := 3) dX0_survey_127 rfl rfl ?_
                refine R_getR (pc := 128) (i := 5) fl_X0_53 rfl (kt_rules rules4) (lt_rules rules4) (rt_rules_left rules4) dX0_survey_128 ?_
                refine T_iload (pc := 131) (i := 7) dX0_survey_131 rfl ?_
                refine R_lald (pc := 133) (x := lN (cd (rAt R q).1)) (kt_rules_left rules4) (lt_rules_left rules4) (by omega) (by first | decide | assumption) ((jS.2.1.1.row q hq).left) dX0_survey_133 ?_
                refine T_aload_n (pc := 134) (i := 3) dX0_survey_134 rfl rfl ?_
                refine R_getR (pc := 135) (i := 7) fl_X0_45 rfl (kt_rules rules4) (lt_rules rules4) (rt_rules_leftSize rules4) dX0_survey_135 ?_
                refine T_iload (pc := 138) (i := 7) dX0_survey_138 rfl ?_
                refine R_iald (pc := 140) (x := nI ((rAt R q).1.length)) (kt_rules_leftSize rules4) (lt_rules_leftSize rules4) (by omega) (by first | decide | assumption) ((jS.2.1.1.row q hq).leftSize) dX0_survey_140 ?_
                refine T_iload (pc := 141) (i := 8) dX0_survey_141 rfl ?_
                refine T_aload_n (pc := 143) (i := 3) dX0_survey_143 rfl rfl ?_
                refine R_getR (pc := 144) (i := 7) fl_X0_45 rfl (kt_rules rules4) (lt_rules rules4) (rt_rules_leftSize rules4) dX0_survey_144 ?_
                refine T_iload (pc := 147) (i := 7) dX0_survey_147 rfl ?_
                refine R_iald (pc := 149) (x := nI ((rAt R q).1.length)) (kt_rules_leftSize rules4) (lt_rules_leftSize rules4) (by omega) (by first | decide | assumption) ((jS.2.1.1.row q hq).leftSize) dX0_survey_149 ?_
                refine R_callS1 (pc := 150) (av := [.long (lN (cd (rAt R p).1)), .long (lN (cd (rAt R q).1)), .int (nI ((rAt R q).1.length)), .int (nI (j + 1)), .int (nI ((rAt R q).1.length))]) (rest := []) (Or.inr lk_X0_57) mk_X11_withPart (c_withPart oq.l (show j + 1 ≤ (rAt R q).1.length by omega) (Nat.le_refl _)) dX0_survey_150 rfl rfl (Nat.le_of_ble_eq_true rfl) (by decide) rfl (Nat.le_refl _) (Nat.le_refl _) ?_
                rw [List.take_length]
                refine T_lstore (pc := 153) (i := 9) (ls' := [some (.ref 121), some (.ref 97), some (.int (bI wg)), some (.ref 4), some (.int (nI (R.length * R.length))), some (.int (nI i)), some (.int (nI p)), some (.int (nI q)), some (.int (nI (j + 1))), some (.long (lN (cd ((rAt R p).1 ++ (rAt R q).1.drop (j + 1))))), none]) dX0_survey_153 (by decide) rfl ?_
                refine T_aload_n (pc := 155) (i := 0) dX0_survey_155 rfl rfl ?_
                refine T_aload_n (pc := 156) (i := 1) dX0_survey_156 rfl rfl ?_
                refine T_lload (pc := 157) (i := 9) dX0_survey_157 rfl ?_
                refine T_iload (pc := 159) (i := 6) dX0_survey_159 rfl ?_
                refine T_iload (pc := 161) (i := 7) dX0_survey_161 rfl ?_
                refine T_aload_n (pc := 163) (i := 3) dX0_survey_163 rfl rfl ?_
                refine R_getR (pc := 164) (i := 7) fl_X0_45 rfl (kt_rules rules4) (lt_rules rules4) (rt_rules_leftSize rules4) dX0_survey_164 ?_
                refine T_iload (pc := 167) (i := 6) dX0_survey_167 rfl ?_
                refine R_iald (pc := 169) (x := nI ((rAt R p).1.length)) (kt_rules_leftSize rules4) (lt_rules_leftSize rules4) (by omega) (by first | decide | assumption) ((jS.2.1.1.row p hp).leftSize) dX0_survey_169 ?_
                refine T_iload (pc := 170) (i := 8) dX0_survey_170 rfl ?_
                refine R_isub (pc := 172) (by omega) dX0_survey_172 ?_
                have wl : ((rAt R p).1 ++ (rAt R q).1.drop (j + 1)).length = (rAt R p).1.length + ((rAt R q).1.length - (j + 1)) := by rw [List.length_append, List.length_drop]
                have wm : OvOk R (ovW R p q (j + 1)) := ⟨⟨by show ((rAt R p).1 ++ (rAt R q).1.drop (j + 1)).length ≤ 20; omega, okb_app.mpr ⟨op.1, okb_drop oq.1⟩⟩, by show ((rAt R p).1 ++ (rAt R q).1.drop (j + 1)).length ≤ 8; omega, ⟨hp, hq⟩, by show (rAt R p).1.length ≤ ((rAt R p).1 ++ (rAt R q).1.drop (j + 1)).length; omega, by show (rAt R p).1.length - (j + 1) + (rAt R q).1.length ≤ ((rAt R p).1 ++ (rAt R q).1.drop (j + 1)).length; omega, by show (rAt R p).1.length - (j + 1) ≤ 8; omega⟩
                refine R_callVm0 (pc := 173) (As := [.ref 97, .long (lN (cd ((rAt R p).1 ++ (rAt R q).1.drop (j + 1)))), .int (nI p), .int (nI q), .int (nI (((rAt R p).1.length) - (j + 1)))]) (rest := []) (Or.inl lk_X0_61) mk_X0_meet (c_meet (o := ovW R p q (j + 1)) jS.2.1 jS.1.1.1 jS.1.1.2 jS.1.2 wm) kc_121 ⟨by decide, rfl⟩ lc_121 dX0_survey_173 rfl rfl (Nat.le_of_ble_eq_true rfl) (by decide) rfl (Nat.le_refl _) (Nat.le_refl _) (fun m3 k3 => ?_)
                refine R_iinc (pc := 176) (i := 8) (n := 1) (ls' := [some (.ref 121), some (.ref 97), some (.int (bI wg)), some (.ref 4), some (.int (nI (R.length * R.length))), some (.int (nI i)), some (.int (nI p)), some (.int (nI q)), some (.int (nI (j + 1 + 1))), some (.long (lN (cd ((rAt R p).1 ++ (rAt R q).1.drop (j + 1))))), none]) dX0_survey_176 rfl rfl ?_
                refine T_goto (pc := 179) (tgt := 83) dX0_survey_179 (by decide) ?_
                refine T_ls (ls' := [some (.ref 121), some (.ref 97), some (.int (bI wg)), some (.ref 4), some (.int (nI (R.length * R.length))), some (.int (nI i)), some (.int (nI p)), some (.int (nI q)), some (.int (nI (j + 1 + 1))), none, none]) (And.intro rfl (And.intro rfl (And.intro rfl (And.intro rfl (And.intro rfl (And.intro rfl (And.intro rfl (And.intro rfl (And.intro rfl True.intro))))))))) ?_
                have h8 := ihf (j + 1) m3 (by omega) (by rw [e1, ← List.append_assoc, List.foldl_append]; exact jS.trans k3)
                exact h8
  intro g
  induction g with
  | zero =>
    intro i m hi iS
    obtain rfl : i = R.length * R.length := by omega
    refine T_iload (pc := 191) (i := 5) dX0_survey_191 rfl ?_
    refine T_iload (pc := 193) (i := 4) dX0_survey_193 rfl ?_
    refine R_icmp_ge (pc := 195) (tgt := 304) (by omega) (by omega) dX0_survey_195 (by decide) (fun h1 => ?_) (fun h1 => ?_)
    · skip
      exact T_vret dX0_survey_304 rfl (Nat.le_refl _) (Nat.le_refl _) ⟨_, rfl, rfl, iS⟩
    · exact absurd h1 (by omega)
  | succ g ih =>
    intro i m hi iS
    have hm : 0 < R.length := by
      rcases Nat.eq_zero_or_pos R.length with z | z
      · rw [z] at hi
        omega
      · exact z
    have hp : i / R.length < R.length := Nat.div_lt_of_lt_mul (by omega)
    have hq := Nat.mod_lt i hm
    have eI : wiI R (i + 1) = wiI R i ++ wiP R (i / R.length) (i % R.length) (if i / R.length = i % R.length then 0 else (rAt R (i / R.length)).1.length) := rfl
    have h9 := ih (i + 1)
    rw [eI] at h9
    refine T_iload (pc := 191) (i := 5) dX0_survey_191 rfl ?_
    refine T_iload (pc := 193) (i := 4) dX0_survey_193 rfl ?_
    refine R_icmp_ge (pc := 195) (tgt := 304) (by omega) (by omega) dX0_survey_195 (by decide) (fun h1 => ?_) (fun h1 => ?_)
    · exact absurd h1 (by omega)
    · skip
      refine T_iload (pc := 198) (i := 5) dX0_survey_198 rfl ?_
      refine T_aload_n (pc := 200) (i := 3) dX0_survey_200 rfl rfl ?_
      refine R_getI (pc := 201) (x := nI R.length) fl_X0_40 rfl (kt_rules rules4) (lt_rules rules4) iS.2.1.1.size dX0_survey_201 ?_
      refine R_idiv (pc := 204) ⟨hm, by omega, by omega⟩ dX0_survey_204 ?_
      refine T_istore (pc := 205) (i := 6) (ls' := [some (.ref 121), some (.ref 97), some (.int (bI wg)), some (.ref 4), some (.int (nI (R.length * R.length))), some (.int (nI i)), some (.int (nI (i / R.length))), none, none, none, none]) dX0_survey_205 (by decide) rfl ?_
      refine T_iload (pc := 207) (i := 5) dX0_survey_207 rfl ?_
      refine T_aload_n (pc := 209) (i := 3) dX0_survey_209 rfl rfl ?_
      refine R_getI (pc := 210) (x := nI R.length) fl_X0_40 rfl (kt_rules rules4) (lt_rules rules4) iS.2.1.1.size dX0_survey_210 ?_
      refine R_irem (pc := 213) ⟨hm, by omega, by omega⟩ dX0_survey_213 ?_
      refine T_istore (pc := 214) (i := 7) (ls' := [some (.ref 121), some (.ref 97), some (.int (bI wg)), some (.ref 4), some (.int (nI (R.length * R.length))), some (.int (nI i)), some (.int (nI (i / R.length))), some (.int (nI (i % R.length))), none, none, none]) dX0_survey_214 (by decide) rfl ?_
      refine T_iconst (pc := 216) (v := nI 0) dX0_survey_216 (by decide) ?_
      refine T_istore (pc := 217) (i := 8) (ls' := [some (.ref 121), some (.ref 97), some (.int (bI wg)), some (.ref 4), some (.int (nI (R.length * R.length))), some (.int (nI i)), some (.int (nI (i / R.length))), some (.int (nI (i % R.length))), some (.int (nI 0)), none, none]) dX0_survey_217 (by decide) rfl ?_
      generalize i / R.length = p at *
      generalize i % R.length = q at *
      have op := hRk p hp
      have oq := hRk q hq
      have p4 := op.2.2.1
      have q4 := oq.2.2.1
      have nxt : ∀ (j : Nat) (m : SM2), CrSt μ R LL wg m ((ovI R (R.length * R.length) ++ wiI R i ++ wiP R p q (if p = q then 0 else (rAt R p).1.length)).foldl (crS R wg) c0) → T γ 7 0 0 M_X0_survey (Rm none (fun m => CrSt μ R LL wg m ((ovI R (R.length * R.length) ++ wiI R (R.length * R.length)).foldl (crS R wg) c0))) 0 0 298 [some (.ref 121), some (.ref 97), some (.int (bI wg)), some (.ref 4), some (.int (nI (R.length * R.length))), some (.int (nI i)), some (.int (nI p)), some (.int (nI q)), some (.int (nI j)), none, none] [] (rm m) := fun j m jS => by
        refine R_iinc (pc := 298) (i := 5) (n := 1) (ls' := [some (.ref 121), some (.ref 97), some (.int (bI wg)), some (.ref 4), some (.int (nI (R.length * R.length))), some (.int (nI (i + 1))), some (.int (nI p)), some (.int (nI q)), some (.int (nI j)), none, none]) dX0_survey_298 rfl rfl ?_
        refine T_goto (pc := 301) (tgt := 191) dX0_survey_301 (by decide) ?_
        refine T_ls (ls' := [some (.ref 121), some (.ref 97), some (.int (bI wg)), some (.ref 4), some (.int (nI (R.length * R.length))), some (.int (nI (i + 1))), none, none, none, none, none]) (And.intro rfl (And.intro rfl (And.intro rfl (And.intro rfl (And.intro rfl (And.intro rfl True.intro)))))) ?_
        exact h9 m (by omega) (by rw [← List.append_assoc]; exact jS)
      suffices inner : ∀ (f j : Nat) (m : SM2), j + f = (rAt R p).1.length → (p = q → j = 0) → CrSt μ R LL wg m ((ovI R (R.length * R.length) ++ wiI R i ++ wiP R p q j).foldl (crS R wg) c0) → T γ 7 0 0 M_X0_survey (Rm none (fun m => CrSt μ R LL wg m ((ovI R (R.length * R.length) ++ wiI R (R.length * R.length)).foldl (crS R wg) c0))) 0 0 219 [some (.ref 121), some (.ref 97), some (.int (bI wg)), some (.ref 4), some (.int (nI (R.length * R.length))), some (.int (nI i)), some (.int (nI p)), some (.int (nI q)), some (.int (nI j)), none, none] [] (rm m) by
        exact inner _ 0 m (Nat.zero_add _) (fun _ => rfl) (by show CrSt μ R LL wg m ((ovI R (R.length * R.length) ++ wiI R i ++ []).foldl (crS R wg) c0); rw [List.append_nil]; exact iS)
      intro f
      induction f with
      | zero =>
        intro j m2 hj hpq jS
        obtain rfl : j = (rAt R p).1.length := by omega
        refine T_iload (pc := 219) (i := 6) dX0_survey_219 rfl ?_
        refine T_iload (pc := 221) (i := 7) dX0_survey_221 rfl ?_
        refine R_icmp_eq (pc := 223) (tgt := 298) (by omega) (by omega) dX0_survey_223 (by decide) (fun h2 => ?_) (fun h2 => ?_)
        · have e0 := hpq h2
          exact nxt _ m2 (by rw [if_pos h2]; rw [e0] at jS; exact jS)
        · skip
          refine T_iload (pc := 226) (i := 8) dX0_survey_226 rfl ?_
          refine T_aload_n (pc := 228) (i := 3) dX0_survey_228 rfl rfl ?_
          refine R_getR (pc := 229) (i := 7) fl_X0_45 rfl (kt_rules rules4) (lt_rules rules4) (rt_rules_leftSize rules4) dX0_survey_229 ?_
          refine T_iload (pc := 232) (i := 6) dX0_survey_232 rfl ?_
          refine R_iald (pc := 234) (x := nI ((rAt R p).1.length)) (kt_rules_leftSize rules4) (lt_rules_leftSize rules4) (by omega) (by first | decide | assumption) ((jS.2.1.1.row p hp).leftSize) dX0_survey_234 ?_
          refine R_icmp_ge (pc := 235) (tgt := 298) (by omega) (by omega) dX0_survey_235 (by decide) (fun h3 => ?_) (fun h3 => ?_)
          · exact nxt _ m2 (by rw [if_neg h2]; exact jS)
          · exact absurd h3 (by omega)
      | succ f ihf =>
        intro j m2 hj hpq jS
        refine T_iload (pc := 219) (i := 6) dX0_survey_219 rfl ?_
        refine T_iload (pc := 221) (i := 7) dX0_survey_221 rfl ?_
        refine R_icmp_eq (pc := 223) (tgt := 298) (by omega) (by omega) dX0_survey_223 (by decide) (fun h2 => ?_) (fun h2 => ?_)
        · have e0 := hpq h2
          exact nxt _ m2 (by rw [if_pos h2]; rw [e0] at jS; exact jS)
        · skip
          refine T_iload (pc := 226) (i := 8) dX0_survey_226 rfl ?_
          refine T_aload_n (pc := 228) (i := 3) dX0_survey_228 rfl rfl ?_
          refine R_getR (pc := 229) (i := 7) fl_X0_45 rfl (kt_rules rules4) (lt_rules rules4) (rt_rules_leftSize rules4) dX0_survey_229 ?_
          refine T_iload (pc := 232) (i := 6) dX0_survey_232 rfl ?_
          refine R_iald (pc := 234) (x := nI ((rAt R p).1.length)) (kt_rules_leftSize rules4) (lt_rules_leftSize rules4) (by omega) (by first | decide | assumption) ((jS.2.1.1.row p hp).leftSize) dX0_survey_234 ?_
          refine R_icmp_ge (pc := 235) (tgt := 298) (by omega) (by omega) dX0_survey_235 (by decide) (fun h3 => ?_) (fun h3 => ?_)
          · exact absurd h3 (by omega)
          · skip
            refine T_aload_n (pc := 238) (i := 3) dX0_survey_238 rfl rfl ?_
            refine R_getR (pc := 239) (i := 5) fl_X0_53 rfl (kt_rules rules4) (lt_rules rules4) (rt_rules_left rules4) dX0_survey_239 ?_
            refine T_iload (pc := 242) (i := 6) dX0_survey_242 rfl ?_
            refine R_lald (pc := 244) (x := lN (cd (rAt R p).1)) (kt_rules_left rules4) (lt_rules_left rules4) (by omega) (by first | decide | assumption) ((jS.2.1.1.row p hp).left) dX0_survey_244 ?_
            refine T_aload_n (pc := 245) (i := 3) dX0_survey_245 rfl rfl ?_
            refine R_getR (pc := 246) (i := 7) fl_X0_45 rfl (kt_rules rules4) (lt_rules rules4) (rt_rules_leftSize rules4) dX0_survey_246 ?_
            refine T_iload (pc := 249) (i := 6) dX0_survey_249 rfl ?_
            refine R_iald (pc := 251) (x := nI ((rAt R p).1.length)) (kt_rules_leftSize rules4) (lt_rules_leftSize rules4) (by omega) (by first | decide | assumption) ((jS.2.1.1.row p hp).leftSize) dX0_survey_251 ?_
            refine T_iload (pc := 252) (i := 8) dX0_survey_252 rfl ?_
            refine T_aload_n (pc := 254) (i := 3) dX0_survey_254 rfl rfl ?_
            refine R_getR (pc := 255) (i := 5) fl_X0_53 rfl (kt_rules rules4) (lt_rules rules4) (rt_rules_left rules4) dX0_survey_255 ?_
            refine T_iload (pc := 258) (i := 7) dX0_survey_258 rfl ?_
            refine R_lald (pc := 260) (x := lN (cd (rAt R q).1)) (kt_rules_left rules4) (lt_rules_left rules4) (by omega) (by first | decide | assumption) ((jS.2.1.1.row q hq).left) dX0_survey_260 ?_
            refine T_aload_n (pc := 261) (i := 3) dX0_survey_261 rfl rfl ?_
            refine R_getR (pc := 262) (i := 7) fl_X0_45 rfl (kt_rules rules4) (lt_rules rules4) (rt_rules_leftSize rules4) dX0_survey_262 ?_
            refine T_iload (pc := 265) (i := 7) dX0_survey_265 rfl ?_
            refine R_iald (pc := 267) (x := nI ((rAt R q).1.length)) (kt_rules_leftSize rules4) (lt_rules_leftSize rules4) (by omega) (by first | decide | assumption) ((jS.2.1.1.row q hq).leftSize) dX0_survey_267 ?_
            refine R_callS1 (pc := 268) (av := [.long (lN (cd (rAt R p).1)), .int (nI ((rAt R p).1.length)), .int (nI j), .long (lN (cd (rAt R q).1)), .int (nI ((rAt R q).1.length))]) (rest := []) (Or.inr lk_X0_65) mk_X11_standsIn (c_standsIn op.l oq.1 (by omega) (by omega)) dX0_survey_268 rfl rfl (Nat.le_of_ble_eq_true rfl) (by decide) rfl (Nat.le_refl _) (Nat.le_refl _) ?_
            refine R_ifb_eq (pc := 271) (tgt := 292) dX0_survey_271 (by decide) (fun h4 => ?_) (fun h4 => ?_)
            · skip
              have e1 : wiP R p q (j + 1) = wiP R p q j := if_neg (fun z : stB (rAt R p).1 j (rAt R q).1 = true => by rw [h4] at z; cases z)
              refine R_iinc (pc := 292) (i := 8) (n := 1) (ls' := [some (.ref 121), some (.ref 97), some (.int (bI wg)), some (.ref 4), some (.int (nI (R.length * R.length))), some (.int (nI i)), some (.int (nI p)), some (.int (nI q)), some (.int (nI (j + 1))), none, none]) dX0_survey_292 rfl rfl ?_
              refine T_goto (pc := 295) (tgt := 219) dX0_survey_295 (by decide) ?_
              exact ihf (j + 1) m2 (by omega) (fun z => absurd z h2) (by rw [e1]; exact jS)
            · skip
              have e1 : wiP R p q (j + 1) = wiP R p q j ++ [((rAt R p).1, p, q, j)] := if_pos h4
              have hs := stB_get h4
              refine T_aload_n (pc := 274) (i := 0) dX0_survey_274 rfl rfl ?_
              refine T_aload_n (pc := 275) (i := 1) dX0_survey_275 rfl rfl ?_
              refine T_aload_n (pc := 276) (i := 3) dX0_survey_276 rfl rfl ?_
              refine R_getR (pc := 277) (i := 5) fl_X0_53 rfl (kt_rules rules4) (lt_rules rules4) (rt_rules_left rules4) dX0_survey_277 ?_
              refine T_iload (pc := 280) (i := 6) dX0_survey_280 rfl ?_
              refine R_lald (pc := 282) (x := lN (cd (rAt R p).1)) (kt_rules_left rules4) (lt_rules_left rules4) (by omega) (by first | decide | assumption) ((jS.2.1.1.row p hp).left) dX0_survey_282 ?_
              refine T_iload (pc := 283) (i := 6) dX0_survey_283 rfl ?_
              refine T_iload (pc := 285) (i := 7) dX0_survey_285 rfl ?_
              refine T_iload (pc := 287) (i := 8) dX0_survey_287 rfl ?_
              have wm : OvOk R ((rAt R p).1, p, q, j) := ⟨op.l, by show (rAt R p).1.length ≤ 8; omega, ⟨hp, hq⟩, Nat.le_refl _, by show j + (rAt R q).1.length ≤ (rAt R p).1.length; omega, by show j ≤ 8; omega⟩
              refine R_callVm0 (pc := 289) (As := [.ref 97, .long (lN (cd (rAt R p).1)), .int (nI p), .int (nI q), .int (nI j)]) (rest := []) (Or.inl lk_X0_61) mk_X0_meet (c_meet (o := ((rAt R p).1, p, q, j)) jS.2.1 jS.1.1.1 jS.1.1.2 jS.1.2 wm) kc_121 ⟨by decide, rfl⟩ lc_121 dX0_survey_289 rfl rfl (Nat.le_of_ble_eq_true rfl) (by decide) rfl (Nat.le_refl _) (Nat.le_refl _) (fun m3 k3 => ?_)
              refine R_iinc (pc := 292) (i := 8) (n := 1) (ls' := [some (.ref 121), some (.ref 97), some (.int (bI wg)), some (.ref 4), some (.int (nI (R.length * R.length))), some (.int (nI i)), some (.int (nI p)), some (.int (nI q)), some (.int (nI (j + 1))), none, none]) dX0_survey_292 rfl rfl ?_
              refine T_goto (pc := 295) (tgt := 219) dX0_survey_295 (by decide) ?_
              exact ihf (j + 1) m3 (by omega) (fun z => absurd z h2) (by rw [e1, ← List.append_assoc, List.foldl_append]; exact jS.trans k3)
theorem c_overlaps {z : Int32} {X : Td} {LL : List (List Int32)} (hX : ToldAt μ 3 X) (hL : LawL μ LL) : Ex γ 8 1 6 M_X11_overlaps [.ref 0, .int z] (rm μ) (Ax (if inB z 3 = true then none else some "java/util/NoSuchElementException") (.long (ovV X.R z.toNatClampNeg)) μ (fun m => OfS SQ μ m)) := by
  have h12 := hX.1.len
  refine Ex.of (by decide +kernel) rfl (Nat.le_of_ble_eq_true rfl) ?_
  show T _ _ _ _ _ _ _ _ _ [some (.ref 0), some (.int (z))] [] (rm μ)
  refine T_iload_n (pc := 0) (i := 1) dX11_overlaps_0 rfl rfl ?_
  refine T_iconst (pc := 1) (v := nI 3) dX11_overlaps_1 (by decide) ?_
  refine R_chkS (pc := 2) (av := [.int (z), .int (nI 3)]) (rest := []) (Or.inl lk_X11_187) mk_X11_checkWhat c_checkWhat dX11_overlaps_2 rfl rfl (Nat.le_of_ble_eq_true rfl) (by decide) rfl (by decide) (by decide) (fun w => Ax_e (by unfold inB; rw [w]; decide)) (fun hC => ?_)
  rw [if_pos (c := inB z 3 = true) hC]
  obtain ⟨k, hk, rfl⟩ := inB_of (n := 3) (by decide) hC
  rw [nI_clamp (n := k) (by omega)]
  refine T_aload_n (pc := 5) (i := 0) dX11_overlaps_5 rfl rfl ?_
  refine R_getR (pc := 6) (i := 97) fl_X11_55 rfl kc_0 lc_0 rc_0_11 dX11_overlaps_6 ?_
  refine R_callVm0 (pc := 9) (As := []) (rest := []) (Or.inl lk_X11_369) mk_X10_beginLawless (c_Walk_beginLawless hX.1 hL) kc_97 ⟨by decide, rfl⟩ lc_97 dX11_overlaps_9 rfl rfl (Nat.le_of_ble_eq_true rfl) (by decide) rfl (by decide) (by decide) (fun m h => ?_)
  obtain ⟨hE, hO⟩ := h
  have crn := crV_n hX.1.ok h12
  refine T_aload_n (pc := 12) (i := 0) dX11_overlaps_12 rfl rfl ?_
  refine R_getR (pc := 13) (i := 121) fl_X11_86 rfl kc_0 lc_0 rc_0_16 dX11_overlaps_13 ?_
  refine T_aload_n (pc := 16) (i := 0) dX11_overlaps_16 rfl rfl ?_
  refine R_getR (pc := 17) (i := 97) fl_X11_55 rfl kc_0 lc_0 rc_0_11 dX11_overlaps_17 ?_
  refine T_iload_n (pc := 20) (i := 1) dX11_overlaps_20 rfl rfl ?_
  refine R_if_eq (pc := 21) (tgt := 28) (by omega) dX11_overlaps_21 (by decide) (fun h1 => ?_) (fun h1 => ?_)
  · skip
    subst h1
    refine T_iconst (pc := 28) (v := nI 0) dX11_overlaps_28 (by decide) ?_
    refine R_callVm0 (pc := 29) (As := [.ref 97, .int (nI 0)]) (rest := []) (Or.inl lk_X11_372) mk_X0_survey (c_Cross_survey (wg := false) hE) kc_121 ⟨by decide, rfl⟩ lc_121 dX11_overlaps_29 rfl rfl (Nat.le_of_ble_eq_true rfl) (by decide) rfl (by decide) (by decide) (fun m1 q => ?_)
    obtain ⟨⟨⟨q1, q2⟩, q3⟩, q4, q5⟩ := q
    have n1 := (crn false).1
    refine T_iload_n (pc := 32) (i := 1) dX11_overlaps_32 rfl rfl ?_
    refine R_if_ne (pc := 33) (tgt := 47) (by omega) dX11_overlaps_33 (by decide) (fun h2 => ?_) (fun h2 => ?_)
    · exact absurd rfl h2
    · skip
      refine T_aload_n (pc := 36) (i := 0) dX11_overlaps_36 rfl rfl ?_
      refine R_getR (pc := 37) (i := 121) fl_X11_86 rfl kc_0 lc_0 rc_0_16 dX11_overlaps_37 ?_
      refine R_getI (pc := 40) (x := nI ((crV X.R false).1)) fl_X11_376 rfl kc_121 lc_121 q1.1 dX11_overlaps_40 ?_
      refine R_i2l (pc := 43) (by omega) dX11_overlaps_43 ?_
      refine T_goto (pc := 44) (tgt := 70) dX11_overlaps_44 (by decide) ?_
      exact T_lret dX11_overlaps_70 rfl (by decide) (by decide) ⟨m1, rfl, rfl, (hO.mono (fun c => SW_SQ)).trans (q5.mono (fun c => SC_SQ))⟩
  · skip
    refine T_iconst (pc := 24) (v := nI 1) dX11_overlaps_24 (by decide) ?_
    refine T_goto (pc := 25) (tgt := 29) dX11_overlaps_25 (by decide) ?_
    refine R_callVm0 (pc := 29) (As := [.ref 97, .int (nI 1)]) (rest := []) (Or.inl lk_X11_372) mk_X0_survey (c_Cross_survey (wg := true) hE) kc_121 ⟨by decide, rfl⟩ lc_121 dX11_overlaps_29 rfl rfl (Nat.le_of_ble_eq_true rfl) (by decide) rfl (by decide) (by decide) (fun m1 q => ?_)
    obtain ⟨⟨⟨q1, q2⟩, q3⟩, q4, q5⟩ := q
    have n1 := (crn true).2
    have fO : OfS SQ μ m1 := (hO.mono (fun c => SW_SQ)).trans (q5.mono (fun c => SC_SQ))
    refine T_iload_n (pc := 32) (i := 1) dX11_overlaps_32 rfl rfl ?_
    refine R_if_ne (pc := 33) (tgt := 47) (by omega) dX11_overlaps_33 (by decide) (fun h2 => ?_) (fun h2 => ?_)
    · skip
      refine T_iload_n (pc := 47) (i := 1) dX11_overlaps_47 rfl rfl ?_
      refine T_iconst (pc := 48) (v := nI 1) dX11_overlaps_48 (by decide) ?_
      refine R_icmp_ne (pc := 49) (tgt := 63) (by omega) (by omega) dX11_overlaps_49 (by decide) (fun h3 => ?_) (fun h3 => ?_)
      · skip
        have e : ovV X.R k = vO (crV X.R true).2.2.1 := by unfold ovV; rw [if_neg h1, if_neg h3]
        rw [e]
        refine T_aload_n (pc := 63) (i := 0) dX11_overlaps_63 rfl rfl ?_
        refine R_getR (pc := 64) (i := 121) fl_X11_86 rfl kc_0 lc_0 rc_0_16 dX11_overlaps_64 ?_
        refine R_getL (pc := 67) (x := (vO (crV X.R true).2.2.1)) fl_X11_382 rfl kc_121 lc_121 q1.2.2.1 dX11_overlaps_67 ?_
        exact T_lret dX11_overlaps_70 rfl (by decide) (by decide) ⟨m1, rfl, rfl, fO⟩
      · skip
        have e : ovV X.R k = lN (crV X.R true).2.1 := by unfold ovV; rw [if_neg h1, if_pos h3]
        rw [e]
        refine T_aload_n (pc := 52) (i := 0) dX11_overlaps_52 rfl rfl ?_
        refine R_getR (pc := 53) (i := 121) fl_X11_86 rfl kc_0 lc_0 rc_0_16 dX11_overlaps_53 ?_
        refine R_getI (pc := 56) (x := nI ((crV X.R true).2.1)) fl_X11_379 rfl kc_121 lc_121 q1.2.1 dX11_overlaps_56 ?_
        refine R_i2l (pc := 59) (by omega) dX11_overlaps_59 ?_
        refine T_goto (pc := 60) (tgt := 70) dX11_overlaps_60 (by decide) ?_
        exact T_lret dX11_overlaps_70 rfl (by decide) (by decide) ⟨m1, rfl, rfl, fO⟩
    · exact absurd h2 h1
theorem c_complete {X : Td} {U : List Td} {LL : List (List Int32)} (hX : ToldAt μ 3 X) (hU : ActsAt μ U) (hL : LawL μ LL) : Ex γ 8 1 6 M_X11_complete [.ref 0] (rm μ) (Ay (cmE X.R) (fun m => (ToldAt m 3 (cmX X) ∧ ActsAt m (cmU X U)) ∧ OfS SQ μ m ∨ ((ToldAt m 3 (cmX X) ∧ ActsAt m (cmU X U)) ∧ ∃ m1, OfS SQ μ m1 ∧ OffP m1 m))) := by
  refine Ex.of (by decide +kernel) rfl (Nat.le_of_ble_eq_true rfl) ?_
  show T _ _ _ _ _ _ _ _ _ [some (.ref 0)] [] (rm μ)
  refine T_aload_n (pc := 0) (i := 0) dX11_complete_0 rfl rfl ?_
  refine R_getR (pc := 1) (i := 97) fl_X11_55 rfl kc_0 lc_0 rc_0_11 dX11_complete_1 ?_
  refine R_callVm0 (pc := 4) (As := []) (rest := []) (Or.inl lk_X11_369) mk_X10_beginLawless (c_Walk_beginLawless hX.1 hL) kc_97 ⟨by decide, rfl⟩ lc_97 dX11_complete_4 rfl rfl (Nat.le_of_ble_eq_true rfl) (by decide) rfl (by decide) (by decide) (fun m h => ?_)
  obtain ⟨hE, hO⟩ := h
  refine T_aload_n (pc := 7) (i := 0) dX11_complete_7 rfl rfl ?_
  refine R_getR (pc := 8) (i := 121) fl_X11_86 rfl kc_0 lc_0 rc_0_16 dX11_complete_8 ?_
  refine T_aload_n (pc := 11) (i := 0) dX11_complete_11 rfl rfl ?_
  refine R_getR (pc := 12) (i := 97) fl_X11_55 rfl kc_0 lc_0 rc_0_11 dX11_complete_12 ?_
  refine T_iconst (pc := 15) (v := nI 1) dX11_complete_15 (by decide) ?_
  refine R_callVm0 (pc := 16) (As := [.ref 97, .int (nI 1)]) (rest := []) (Or.inl lk_X11_372) mk_X0_survey (c_Cross_survey (wg := true) hE) kc_121 ⟨by decide, rfl⟩ lc_121 dX11_complete_16 rfl rfl (Nat.le_of_ble_eq_true rfl) (by decide) rfl (by decide) (by decide) (fun m1 q => ?_)
  obtain ⟨⟨⟨q1, q2⟩, q3⟩, q4, q5⟩ := q
  have fO : OfS SQ μ m1 := (hO.mono (fun c => SW_SQ)).trans (q5.mono (fun c => SC_SQ))
  have X1 := hX.ofs fO (fun c h1 h2 => by unfold SQ; omega)
  have U1 := hU.ofs fO (fun c h => by unfold SQ; omega)
  have none9 : cmpl X.R = none → Ay (cmE X.R) (fun m => (ToldAt m 3 (cmX X) ∧ ActsAt m (cmU X U)) ∧ OfS SQ μ m ∨ ((ToldAt m 3 (cmX X) ∧ ActsAt m (cmU X U)) ∧ ∃ m1, OfS SQ μ m1 ∧ OffP m1 m)) (.inl (some (.int (-1)))) (rm m1) := fun e => by
    have e1 : cmE X.R = .inr (.int (-1)) := by unfold cmE; rw [e]
    have e2 : cmX X = X := by unfold cmX; rw [e]
    have e3 : cmU X U = U := by unfold cmU; rw [e]
    rw [e1, e2, e3]
    exact ⟨m1, rfl, Or.inl ⟨⟨X1, U1⟩, fO⟩, rfl⟩
  cases eg : (crV X.R true).2.2.2 with
  | none =>
    have ec : cmpl X.R = none := by unfold cmpl; rw [eg]
    have g3 := q1.2.2.2.1
    rw [eg] at g3
    refine T_aload_n (pc := 19) (i := 0) dX11_complete_19 rfl rfl ?_
    refine R_getR (pc := 20) (i := 121) fl_X11_86 rfl kc_0 lc_0 rc_0_16 dX11_complete_20 ?_
    refine R_getL (pc := 23) (x := (-1)) fl_X11_385 rfl kc_121 lc_121 g3 dX11_complete_23 ?_
    refine T_ldc2 (pc := 26) dX11_complete_26 cn_X11_260 ?_
    refine T_lcmp (pc := 29) dX11_complete_29 ?_
    refine R_lx_eq (pc := 30) (tgt := 47) dX11_complete_30 (by decide) (fun h1 => ?_) (fun h1 => ?_)
    · skip
      refine T_iconst (pc := 47) (v := (-1)) dX11_complete_47 (by decide) ?_
      exact T_iret (pc := 48) (ty := .int) dX11_complete_48 rfl rfl (by decide) (by decide) (none9 ec)
    · exact absurd rfl h1
  | some g =>
    obtain ⟨w1, w2, w3⟩ := q2.2 g eg
    have b1 := cd_lt w1
    have g3 := q1.2.2.2.1
    have g4 := q1.2.2.2.2
    rw [eg] at g3 g4
    have wl1 := w1.1
    refine T_aload_n (pc := 19) (i := 0) dX11_complete_19 rfl rfl ?_
    refine R_getR (pc := 20) (i := 121) fl_X11_86 rfl kc_0 lc_0 rc_0_16 dX11_complete_20 ?_
    refine R_getL (pc := 23) (x := lN (cd g.1)) fl_X11_385 rfl kc_121 lc_121 g3 dX11_complete_23 ?_
    refine T_ldc2 (pc := 26) dX11_complete_26 cn_X11_260 ?_
    refine T_lcmp (pc := 29) dX11_complete_29 ?_
    refine R_lx_eq (pc := 30) (tgt := 47) dX11_complete_30 (by decide) (fun h1 => ?_) (fun h1 => ?_)
    · exact absurd h1 (lN_ne (by omega))
    · skip
      refine T_aload_n (pc := 33) (i := 0) dX11_complete_33 rfl rfl ?_
      refine R_getR (pc := 34) (i := 121) fl_X11_86 rfl kc_0 lc_0 rc_0_16 dX11_complete_34 ?_
      refine R_getL (pc := 37) (x := lN (cd g.1)) fl_X11_385 rfl kc_121 lc_121 g3 dX11_complete_37 ?_
      refine R_callS1 (pc := 40) (av := [.long (lN (cd g.1))]) (rest := []) (Or.inl lk_X11_173) mk_X11_sizeOf (c_sizeOf_cd w1) dX11_complete_40 rfl rfl (Nat.le_of_ble_eq_true rfl) (by decide) rfl (by decide) (by decide) ?_
      refine T_iconst (pc := 43) (v := nI 4) dX11_complete_43 (by decide) ?_
      refine R_icmp_le (pc := 44) (tgt := 49) (by omega) (by omega) dX11_complete_44 (by decide) (fun h2 => ?_) (fun h2 => ?_)
      · skip
        have ec : cmpl X.R = some g := by unfold cmpl; rw [eg]; exact if_pos h2
        have hg1 : 1 ≤ g.1.length := by
          cases e1 : g.1 with
          | nil =>
            have := cd_pos g.2
            rw [e1] at w3
            have e2 : cd [] = 1 := rfl
            omega
          | cons a t => exact Nat.succ_pos _
        have hg2 : g.2.length ≤ 4 := by
          have a1 := cd_lo g.2
          have a2 := cd_hi w1.2
          rcases Nat.lt_or_ge g.1.length g.2.length with z | z
          · have a3 : 8 ^ (g.1.length + 1) ≤ 8 ^ g.2.length := Nat.pow_le_pow_right (by decide) z
            rw [Nat.pow_succ] at a3
            omega
          · omega
        have e1 : cmE X.R = if X.R.length < 12 then .inr (.int (nI X.R.length)) else .inl "java/lang/UnsupportedOperationException" := by unfold cmE; rw [ec]
        have e2 : cmX X = if X.R.length < 12 then (X.R ++ [g], X.2) else X := by unfold cmX; rw [ec]
        have e3 : cmU X U = if X.R.length < 12 then (X :: U).take 16 else U := by unfold cmU; rw [ec]
        rw [e1, e2, e3]
        refine T_aload_n (pc := 49) (i := 0) dX11_complete_49 rfl rfl ?_
        refine T_aload_n (pc := 50) (i := 0) dX11_complete_50 rfl rfl ?_
        refine R_getR (pc := 51) (i := 121) fl_X11_86 rfl kc_0 lc_0 rc_0_16 dX11_complete_51 ?_
        refine R_getL (pc := 54) (x := lN (cd g.1)) fl_X11_385 rfl kc_121 lc_121 g3 dX11_complete_54 ?_
        refine T_aload_n (pc := 57) (i := 0) dX11_complete_57 rfl rfl ?_
        refine R_getR (pc := 58) (i := 121) fl_X11_86 rfl kc_0 lc_0 rc_0_16 dX11_complete_58 ?_
        refine R_getL (pc := 61) (x := lN (cd g.2)) fl_X11_388 rfl kc_121 lc_121 g4 dX11_complete_61 ?_
        refine R_callVX (pc := 64) (As := [.long (lN (cd g.1)), .long (lN (cd g.2))]) (rest := []) (Or.inl lk_X11_226) mk_X11_addRule (c_addRule X1 U1 (y := g) ⟨w1.2, hg1, h2, w2.2, by omega⟩) kc_0 ⟨by decide, rfl⟩ lc_0 dX11_complete_64 rfl rfl (Nat.le_of_ble_eq_true rfl) (by decide) rfl (by decide) (by decide) (fun E h => ?_) (fun h m2 hP => ?_)
        · have hn : ¬ X.R.length < 12 := fun z => by rw [if_pos z] at h; cases h
          rw [if_neg hn] at h
          cases h
          rw [if_neg hn, if_neg hn, if_neg hn]
          exact ⟨m1, rfl, Or.inl ⟨⟨X1, U1⟩, fO⟩, rfl⟩
        · have hn : X.R.length < 12 := Classical.byContradiction fun z => by rw [if_neg z] at h; cases h
          rw [if_pos hn, if_pos hn, if_pos hn]
          exact T_iret (pc := 67) (ty := .int) dX11_complete_67 rfl rfl (by decide) (by decide) ⟨m2, rfl, Or.inr ⟨hP.1, m1, fO, hP.2⟩, rfl⟩
      · skip
        have ec : cmpl X.R = none := by unfold cmpl; rw [eg]; exact if_neg (by omega)
        refine T_iconst (pc := 47) (v := (-1)) dX11_complete_47 (by decide) ?_
        exact T_iret (pc := 48) (ty := .int) dX11_complete_48 rfl rfl (by decide) (by decide) (none9 ec)
end CR2

