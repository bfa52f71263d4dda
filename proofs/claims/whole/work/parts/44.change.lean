/-! a FIELD goes a STEP; turns -/
def MkAt (m : SM2) (N : List (Int32 × Int32)) : Prop := ∀ i, i < N.length → m.1 103 i = (mAt N i).1 ∧ m.1 104 i = (mAt N i).2
def S34 (k : Nat) : Prop := k = 103 ∨ k = 104
def mkR (R : List Ru) (st : Int32) (r : Nat) : List (Int32 × Int32) := List.replicate (rAt R r).2.length (nI r, st)
def chF (R : List Ru) (f : Fld) (U : List (Nat × Nat)) : Fld := (aftW R f.1 U, f.2.1 + 1, aftG (llR R) (mkR R (f.2.1 + 1)) f.2.2 U 0)
theorem mAt_app {A B : List (Int32 × Int32)} {i : Nat} : mAt (A ++ B) i = if i < A.length then mAt A i else mAt B (i - A.length) := by
  show (A ++ B).getD i _ = _
  rw [List.getD_eq_getElem?_getD]
  by_cases h : i < A.length
  · rw [if_pos h, List.getElem?_append_left h, ← List.getD_eq_getElem?_getD]
  · rw [if_neg h, List.getElem?_append_right (by omega), ← List.getD_eq_getElem?_getD]
theorem MkAt.push {m : SM2} {N : List (Int32 × Int32)} {a b : Int32} (h : MkAt m N) : MkAt (wI (wI m 103 N.length a) 104 N.length b) (N ++ [(a, b)]) := fun i hi => by
  rw [List.length_append] at hi
  have hi2 : i < N.length + 1 := hi
  rw [mAt_app]
  by_cases h1 : i < N.length
  · rw [if_pos h1]
    have e := h i h1
    exact ⟨(n_wI (by omega)).trans ((n_wI (by omega)).trans e.1), (n_wI (by omega)).trans ((n_wI (by omega)).trans e.2)⟩
  · have e : i = N.length := by omega
    subst e
    rw [if_neg h1, Nat.sub_self]
    exact ⟨(n_wI (by omega)).trans (e_wI ⟨rfl, rfl⟩), e_wI ⟨rfl, rfl⟩⟩
theorem MkAt.ofs {S : Nat → Prop} {N : List (Int32 × Int32)} {μ m : SM2} (h : MkAt μ N) (g : OfS S μ m) (h0 : ¬ S 103) (h1 : ¬ S 104) : MkAt m N := fun i hi => ⟨(g.i h0 i).trans (h i hi).1, (g.i h1 i).trans (h i hi).2⟩
section CH
variable {γ : Ga} {μ : SM2}
theorem c_noteMaker {a b : Int32} {N : List (Int32 × Int32)} (h : MkAt μ N) (hp : N.length < 20) : Ex γ 1 0 0 M_X10_noteMaker [.ref 97, .int a, .int b, .int (nI N.length)] (rm μ) (Rm (some (.int (nI (N.length + 1)))) (fun m => MkAt m (N ++ [(a, b)]) ∧ OfS S34 μ m)) := by
  refine Ex.of (by decide +kernel) rfl (Nat.le_of_ble_eq_true rfl) ?_
  show T _ _ _ _ _ _ _ _ _ [some (.ref 97), some (.int (a)), some (.int (b)), some (.int (nI N.length))] [] (rm μ)
  refine T_iload_n (pc := 0) (i := 3) dX10_noteMaker_0 rfl rfl ?_
  refine T_bipush (pc := 1) (v := nI 20) dX10_noteMaker_1 (by decide) ?_
  refine R_icmp_ge (pc := 3) (tgt := 20) (by omega) (by omega) dX10_noteMaker_3 (by decide) (fun h1 => ?_) (fun h1 => ?_)
  · exact absurd h1 (by omega)
  · skip
    refine T_aload_n (pc := 6) (i := 0) dX10_noteMaker_6 rfl rfl ?_
    refine R_getR (pc := 7) (i := 103) fl_X10_27 rfl kc_97 lc_97 rc_97_12 dX10_noteMaker_7 ?_
    refine T_iload_n (pc := 10) (i := 3) dX10_noteMaker_10 rfl rfl ?_
    refine T_iload_n (pc := 11) (i := 1) dX10_noteMaker_11 rfl rfl ?_
    refine R_iast (pc := 12) kc_103 lc_103 (by omega) (by first | decide | assumption) dX10_noteMaker_12 ?_
    refine T_aload_n (pc := 13) (i := 0) dX10_noteMaker_13 rfl rfl ?_
    refine R_getR (pc := 14) (i := 104) fl_X10_30 rfl kc_97 lc_97 rc_97_13 dX10_noteMaker_14 ?_
    refine T_iload_n (pc := 17) (i := 3) dX10_noteMaker_17 rfl rfl ?_
    refine T_iload_n (pc := 18) (i := 2) dX10_noteMaker_18 rfl rfl ?_
    refine R_iast (pc := 19) kc_104 lc_104 (by omega) (by first | decide | assumption) dX10_noteMaker_19 ?_
    refine T_iload_n (pc := 20) (i := 3) dX10_noteMaker_20 rfl rfl ?_
    refine T_iconst (pc := 21) (v := nI 1) dX10_noteMaker_21 (by decide) ?_
    refine R_iadd (pc := 22) dX10_noteMaker_22 ?_
    exact T_iret (pc := 23) (ty := .int) dX10_noteMaker_23 rfl rfl (Nat.le_refl _) (Nat.le_refl _) ⟨_, rfl, rfl, h.push, OfS.sI (OfS.sI (OfS.refl _ _) (Or.inl rfl)) (Or.inr rfl)⟩
theorem c_keepMakers {q a b : Nat} {f : Fld} {N : List (Int32 × Int32)} (hq : isField q) (hq2 : q < 90) (hf : FieldAt μ q f) (h : MkAt μ N) (hab : a ≤ b) (hb : b ≤ f.1.length) (h20 : N.length + (b - a) ≤ 20) : Ex γ 2 0 0 M_X10_keepMakers [.ref 97, .ref q, .int (nI a), .int (nI b), .int (nI N.length)] (rm μ) (Rm (some (.int (nI (N.length + (b - a))))) (fun m => MkAt m (N ++ (f.2.2.take b).drop a) ∧ OfS S34 μ m)) := by
  have hn := hf.mw.1
  have hmk : f.2.2.length = f.1.length := hf.2.1
  have e0 : ∀ j, a ≤ j → j ≤ b → (N ++ (f.2.2.take j).drop a).length = N.length + (j - a) := fun j h1 h2 => by
    rw [List.length_append, List.length_drop, List.length_take]
    omega
  suffices loop : ∀ (g j : Nat) (m : SM2), j + g = b → a ≤ j → MkAt m (N ++ (f.2.2.take j).drop a) → OfS S34 μ m → T γ 2 0 0 M_X10_keepMakers (Rm (some (.int (nI (N.length + (b - a))))) (fun m => MkAt m (N ++ (f.2.2.take b).drop a) ∧ OfS S34 μ m)) 0 0 7 [some (.ref 97), some (.ref q), some (.int (nI a)), some (.int (nI b)), some (.int (nI N.length)), some (.int (nI (N.length + (j - a)))), some (.int (nI j))] [] (rm m) by
    refine Ex.of (by decide +kernel) rfl (Nat.le_of_ble_eq_true rfl) ?_
    show T _ _ _ _ _ _ _ _ _ [some (.ref 97), some (.ref q), some (.int (nI a)), some (.int (nI b)), some (.int (nI N.length)), none, none] [] (rm μ)
    refine T_iload (pc := 0) (i := 4) dX10_keepMakers_0 rfl ?_
    refine T_istore (pc := 2) (i := 5) (ls' := [some (.ref 97), some (.ref q), some (.int (nI a)), some (.int (nI b)), some (.int (nI N.length)), some (.int (nI N.length)), none]) dX10_keepMakers_2 (by decide) rfl ?_
    refine T_iload_n (pc := 4) (i := 2) dX10_keepMakers_4 rfl rfl ?_
    refine T_istore (pc := 5) (i := 6) (ls' := [some (.ref 97), some (.ref q), some (.int (nI a)), some (.int (nI b)), some (.int (nI N.length)), some (.int (nI N.length)), some (.int (nI a))]) dX10_keepMakers_5 (by decide) rfl ?_
    have h9 := loop (b - a) a μ (by omega) (Nat.le_refl _) (by rw [List.drop_of_length_le (by rw [List.length_take]; omega), List.append_nil]; exact h) (OfS.refl _ _)
    rw [Nat.sub_self] at h9
    exact h9
  intro g
  induction g with
  | zero =>
    intro j m hj haj hm hO
    obtain rfl : j = b := by omega
    refine T_iload (pc := 7) (i := 6) dX10_keepMakers_7 rfl ?_
    refine T_iload_n (pc := 9) (i := 3) dX10_keepMakers_9 rfl rfl ?_
    refine R_icmp_ge (pc := 10) (tgt := 41) (by omega) (by omega) dX10_keepMakers_10 (by decide) (fun h1 => ?_) (fun h1 => ?_)
    · skip
      refine T_iload (pc := 41) (i := 5) dX10_keepMakers_41 rfl ?_
      exact T_iret (pc := 43) (ty := .int) dX10_keepMakers_43 rfl rfl (Nat.le_refl _) (Nat.le_refl _) ⟨_, rfl, rfl, hm, hO⟩
    · exact absurd h1 (by omega)
  | succ g ih =>
    intro j m hj haj hm hO
    have hf2 := hf.ofs hO (fun k h1 h2 => by unfold S34; omega)
    have fm := hf2.mk j (by omega)
    have el := e0 j haj (by omega)
    have ed : (f.2.2.take (j + 1)).drop a = (f.2.2.take j).drop a ++ [mAt f.2.2 j] := by
      rw [take_s (0, 0) (by omega), List.drop_append_of_le_length (by rw [List.length_take]; omega)]
    refine T_iload (pc := 7) (i := 6) dX10_keepMakers_7 rfl ?_
    refine T_iload_n (pc := 9) (i := 3) dX10_keepMakers_9 rfl rfl ?_
    refine R_icmp_ge (pc := 10) (tgt := 41) (by omega) (by omega) dX10_keepMakers_10 (by decide) (fun h1 => ?_) (fun h1 => ?_)
    · exact absurd h1 (by omega)
    · skip
      refine T_aload_n (pc := 13) (i := 0) dX10_keepMakers_13 rfl rfl ?_
      refine T_aload_n (pc := 14) (i := 1) dX10_keepMakers_14 rfl rfl ?_
      refine R_getR (pc := 15) (i := (q + 1)) fl_X10_145 rfl (kt_field hq) (lt_field hq) (rt_field_makers hq) dX10_keepMakers_15 ?_
      refine T_iload (pc := 18) (i := 6) dX10_keepMakers_18 rfl ?_
      refine R_iald (pc := 20) (x := ((mAt f.2.2 j).1)) (kt_field_makers hq) (lt_field_makers hq) (by omega) (by first | decide | assumption) fm.1 dX10_keepMakers_20 ?_
      refine T_aload_n (pc := 21) (i := 1) dX10_keepMakers_21 rfl rfl ?_
      refine R_getR (pc := 22) (i := (q + 2)) fl_X10_148 rfl (kt_field hq) (lt_field hq) (rt_field_makings hq) dX10_keepMakers_22 ?_
      refine T_iload (pc := 25) (i := 6) dX10_keepMakers_25 rfl ?_
      refine R_iald (pc := 27) (x := ((mAt f.2.2 j).2)) (kt_field_makings hq) (lt_field_makings hq) (by omega) (by first | decide | assumption) fm.2 dX10_keepMakers_27 ?_
      refine T_iload (pc := 28) (i := 5) dX10_keepMakers_28 rfl ?_
      rw [← el]
      refine R_callVm1 (pc := 30) (As := [.int (((mAt f.2.2 j).1)), .int (((mAt f.2.2 j).2)), .int (nI ((N ++ (f.2.2.take j).drop a).length))]) (rest := []) (Or.inl lk_X10_137) mk_X10_noteMaker (c_noteMaker hm (by omega)) kc_97 ⟨by decide, rfl⟩ lc_97 dX10_keepMakers_30 rfl rfl (Nat.le_of_ble_eq_true rfl) (by decide) rfl (Nat.le_refl _) (Nat.le_refl _) (fun m1 k => ?_)
      obtain ⟨k1, k2⟩ := k
      refine T_istore (pc := 33) (i := 5) (ls' := [some (.ref 97), some (.ref q), some (.int (nI a)), some (.int (nI b)), some (.int (nI N.length)), some (.int (nI ((N ++ (f.2.2.take j).drop a).length + 1))), some (.int (nI j))]) dX10_keepMakers_33 (by decide) rfl ?_
      refine R_iinc (pc := 35) (i := 6) (n := 1) (ls' := [some (.ref 97), some (.ref q), some (.int (nI a)), some (.int (nI b)), some (.int (nI N.length)), some (.int (nI ((N ++ (f.2.2.take j).drop a).length + 1))), some (.int (nI (j + 1)))]) dX10_keepMakers_35 rfl rfl ?_
      refine T_goto (pc := 38) (tgt := 7) dX10_keepMakers_38 (by decide) ?_
      have h9 := ih (j + 1) m1 (by omega) (by omega) (by rw [ed, ← List.append_assoc]; exact k1) (hO.trans k2)
      rw [show N.length + (j + 1 - a) = N.length + (j - a) + 1 by omega, ← el] at h9
      exact h9
def Sf (q k : Nat) : Prop := S34 k ∨ (q ≤ k ∧ k < q + 3)
theorem sL_mk {R : List Ru} {st : Int32} (U : List (Nat × Nat)) : sL (fun r => (mkR R st r).length) U = sL (fun r => (rrR R r).length) U := by
  have e : (fun r => (mkR R st r).length) = fun r => (rrR R r).length := by
    funext r
    exact List.length_replicate
  rw [e]
theorem c_change {q : Nat} {f : Fld} {R : List Ru} {U : List (Nat × Nat)} (hq : isField q) (hq2 : 13 ≤ q ∧ q + 3 ≤ 31) (hf : FieldAt μ q f) (hR : RulesAt μ 4 R) (hU : chU (llR R) f.1.length R.length 0 U) (h20 : U.length ≤ 20) (hs : nwS R f.1 U ≤ 20) (hm : UsesAt μ U) : Ex γ 4 0 0 M_X10_change [.ref 97, .ref q, .int (nI U.length)] (rm μ) (Rm none (fun m => FieldAt m q (chF R f U) ∧ OfS (Sf q) μ m)) := by
  have h12 := hR.len
  have hn := hf.mw.1
  have hmk : f.2.2.length = f.1.length := hf.2.1
  have hUm : chU (llR R) f.2.2.length R.length 0 U := by rw [hmk]; exact hU
  have hen := chU_en hU (Nat.zero_le _)
  have hWl := aftG_len (rr := mkR R (f.2.1 + 1)) hUm (Nat.zero_le _)
  rw [sL_mk, hmk] at hWl
  have hTl := aftG_len (rr := rrR R) hU (Nat.zero_le _)
  have hW20 : (aftG (llR R) (mkR R (f.2.1 + 1)) f.2.2 U 0).length ≤ 20 := by unfold nwS at hs; omega
  suffices loop : ∀ (V : List (Nat × Nat)) (i p : Nat) (N : List (Int32 × Int32)) (m : SM2), U.drop i = V → i ≤ U.length → chU (llR R) f.1.length R.length p V → p ≤ f.1.length → N ++ aftG (llR R) (mkR R (f.2.1 + 1)) f.2.2 V p = aftG (llR R) (mkR R (f.2.1 + 1)) f.2.2 U 0 → MkAt m N → OfS S34 μ m → T γ 4 0 0 M_X10_change (Rm none (fun m => FieldAt m q (chF R f U) ∧ OfS (Sf q) μ m)) 0 0 25 [some (.ref 97), some (.ref q), some (.int (nI U.length)), some (.int (nI f.1.length)), some (.int (f.2.1 + 1)), some (.int (nI p)), some (.int (nI N.length)), some (.int (nI i)), none, none] [] (rm m) by
    refine Ex.of (by decide +kernel) rfl (Nat.le_of_ble_eq_true rfl) ?_
    show T _ _ _ _ _ _ _ _ _ [some (.ref 97), some (.ref q), some (.int (nI U.length)), none, none, none, none, none, none, none] [] (rm μ)
    refine T_aload_n (pc := 0) (i := 1) dX10_change_0 rfl rfl ?_
    refine R_getL (pc := 1) (x := lN (cd f.1)) fl_X10_108 rfl (kt_field hq) (lt_field hq) hf.code dX10_change_1 ?_
    refine R_callS1 (pc := 4) (av := [.long (lN (cd f.1))]) (rest := []) (Or.inr lk_X10_91) mk_X11_sizeOf (c_sizeOf_cd hf.mw) dX10_change_4 rfl rfl (Nat.le_of_ble_eq_true rfl) (by decide) rfl (Nat.le_refl _) (Nat.le_refl _) ?_
    refine T_istore_n (pc := 7) (i := 3) (ls' := [some (.ref 97), some (.ref q), some (.int (nI U.length)), some (.int (nI f.1.length)), none, none, none, none, none, none]) dX10_change_7 rfl (by decide) rfl ?_
    refine T_aload_n (pc := 8) (i := 1) dX10_change_8 rfl rfl ?_
    refine R_getI (pc := 9) (x := f.2.1) fl_X10_132 rfl (kt_field hq) (lt_field hq) hf.gone dX10_change_9 ?_
    refine T_iconst (pc := 12) (v := nI 1) dX10_change_12 (by decide) ?_
    refine T_iadd (pc := 13) dX10_change_13 ?_
    refine T_istore (pc := 14) (i := 4) (ls' := [some (.ref 97), some (.ref q), some (.int (nI U.length)), some (.int (nI f.1.length)), some (.int (((f.2.1) + (nI 1)))), none, none, none, none, none]) dX10_change_14 (by decide) rfl ?_
    refine T_iconst (pc := 16) (v := nI 0) dX10_change_16 (by decide) ?_
    refine T_istore (pc := 17) (i := 5) (ls' := [some (.ref 97), some (.ref q), some (.int (nI U.length)), some (.int (nI f.1.length)), some (.int (((f.2.1) + (nI 1)))), some (.int (nI 0)), none, none, none, none]) dX10_change_17 (by decide) rfl ?_
    refine T_iconst (pc := 19) (v := nI 0) dX10_change_19 (by decide) ?_
    refine T_istore (pc := 20) (i := 6) (ls' := [some (.ref 97), some (.ref q), some (.int (nI U.length)), some (.int (nI f.1.length)), some (.int (((f.2.1) + (nI 1)))), some (.int (nI 0)), some (.int (nI 0)), none, none, none]) dX10_change_20 (by decide) rfl ?_
    refine T_iconst (pc := 22) (v := nI 0) dX10_change_22 (by decide) ?_
    refine T_istore (pc := 23) (i := 7) (ls' := [some (.ref 97), some (.ref q), some (.int (nI U.length)), some (.int (nI f.1.length)), some (.int (((f.2.1) + (nI 1)))), some (.int (nI 0)), some (.int (nI 0)), some (.int (nI 0)), none, none]) dX10_change_23 (by decide) rfl ?_
    exact loop U 0 0 [] μ rfl (Nat.zero_le _) hU (Nat.zero_le _) rfl (fun j hj => absurd hj (Nat.not_lt_zero _)) (OfS.refl _ _)
  intro V
  induction V with
  | nil =>
    intro i p N m hd hi hc hp hW hM hO
    have hi2 := List.drop_eq_nil_iff.mp hd
    have hWlen := congrArg List.length hW
    rw [List.length_append] at hWlen
    have hrest : (aftG (llR R) (mkR R (f.2.1 + 1)) f.2.2 [] p).length = f.1.length - p := by
      show (f.2.2.drop p).length = _
      rw [List.length_drop, hmk]
    have hf1 := hf.ofs hO (fun k h1 h2 => by unfold S34; omega)
    refine T_iload (pc := 25) (i := 7) dX10_change_25 rfl ?_
    refine T_iload_n (pc := 27) (i := 2) dX10_change_27 rfl rfl ?_
    refine R_icmp_ge (pc := 28) (tgt := 120) (by omega) (by omega) dX10_change_28 (by decide) (fun h1 => ?_) (fun h1 => ?_)
    · skip
      refine T_aload_n (pc := 120) (i := 0) dX10_change_120 rfl rfl ?_
      refine T_aload_n (pc := 121) (i := 1) dX10_change_121 rfl rfl ?_
      refine T_iload (pc := 122) (i := 5) dX10_change_122 rfl ?_
      refine T_iload_n (pc := 124) (i := 3) dX10_change_124 rfl rfl ?_
      refine T_iload (pc := 125) (i := 6) dX10_change_125 rfl ?_
      refine R_callVm1 (pc := 127) (As := [.ref q, .int (nI p), .int (nI f.1.length), .int (nI N.length)]) (rest := []) (Or.inl lk_X10_133) mk_X10_keepMakers (c_keepMakers hq (by omega) hf1 hM hp (Nat.le_refl _) (by omega)) kc_97 ⟨by decide, rfl⟩ lc_97 dX10_change_127 rfl rfl (Nat.le_of_ble_eq_true rfl) (by decide) rfl (Nat.le_refl _) (Nat.le_refl _) (fun m1 k => ?_)
      obtain ⟨k1, k2⟩ := k
      have eW : N ++ (f.2.2.take f.1.length).drop p = aftG (llR R) (mkR R (f.2.1 + 1)) f.2.2 U 0 := by
        rw [← hmk, List.take_length]
        exact hW
      rw [eW] at k1
      have o1 : OfS S34 μ m1 := hO.trans k2
      have hf2 := hf.ofs o1 (fun k h1 h2 => by unfold S34; omega)
      refine T_pop (pc := 130) dX10_change_130 rfl ?_
      refine T_aload_n (pc := 131) (i := 1) dX10_change_131 rfl rfl ?_
      refine T_aload_n (pc := 132) (i := 0) dX10_change_132 rfl rfl ?_
      refine R_getR (pc := 133) (i := 103) fl_X10_27 rfl kc_97 lc_97 rc_97_12 dX10_change_133 ?_
      refine T_aload_n (pc := 136) (i := 0) dX10_change_136 rfl rfl ?_
      refine R_getR (pc := 137) (i := 104) fl_X10_30 rfl kc_97 lc_97 rc_97_13 dX10_change_137 ?_
      refine R_callV0 (pc := 140) (As := [.ref 103, .ref 104]) (rest := []) (Or.inl lk_X10_141) mk_X1_takeMakers (c_Field_takeMakers hq kc_103 lc_103 kc_104 lc_104) (kt_field hq) ⟨by decide, rfl⟩ (lt_field hq) dX10_change_140 rfl rfl (Nat.le_of_ble_eq_true rfl) (by decide) rfl (Nat.le_refl _) (Nat.le_refl _) ?_
      have o2 : OfS (Sf q) μ (wCI (wCI m1 103 (q + 1) 0 0 20) 104 (q + 2) 0 0 20) := OfS.sCI (OfS.sCI (o1.mono (fun k h => Or.inl h)) (Or.inr (by omega))) (Or.inr (by omega))
      have c2 : (wCI (wCI m1 103 (q + 1) 0 0 20) 104 (q + 2) 0 0 20).2 q 0 = lN (cd f.1) := hf2.code
      have hR2 := hR.ofs o2 (fun k h1 h2 => by unfold Sf S34; omega)
      have hm2 := hm.ofs o2 (by unfold Sf S34; omega) (by unfold Sf S34; omega)
      refine T_mem (μ' := rm (wCI (wCI m1 103 (q + 1) 0 0 20) 104 (q + 2) 0 0 20)) (rfl) ?_
      generalize e2 : wCI (wCI m1 103 (q + 1) 0 0 20) 104 (q + 2) 0 0 20 = m2 at *
      refine T_aload_n (pc := 143) (i := 1) dX10_change_143 rfl rfl ?_
      refine T_aload_n (pc := 144) (i := 0) dX10_change_144 rfl rfl ?_
      refine T_aload_n (pc := 145) (i := 1) dX10_change_145 rfl rfl ?_
      refine R_getL (pc := 146) (x := lN (cd f.1)) fl_X10_108 rfl (kt_field hq) (lt_field hq) c2 dX10_change_146 ?_
      refine T_iload_n (pc := 149) (i := 3) dX10_change_149 rfl rfl ?_
      refine T_iload_n (pc := 150) (i := 2) dX10_change_150 rfl rfl ?_
      refine R_callV1 (pc := 151) (As := [.long (lN (cd f.1)), .int (nI f.1.length), .int (nI U.length)]) (rest := [.ref q]) (Or.inl lk_X10_101) mk_X10_after (c_after hR2 hf.mw hU h20 hm2) kc_97 ⟨by decide, rfl⟩ lc_97 dX10_change_151 rfl rfl (Nat.le_of_ble_eq_true rfl) (by decide) rfl (Nat.le_refl _) (Nat.le_refl _) ?_
      refine R_putL (pc := 154) fl_X10_108 ⟨rfl, rfl⟩ (kt_field hq) (lt_field hq) dX10_change_154 ?_
      refine T_aload_n (pc := 157) (i := 1) dX10_change_157 rfl rfl ?_
      refine T_iload (pc := 158) (i := 4) dX10_change_158 rfl ?_
      refine R_putI (pc := 160) fl_X10_132 ⟨rfl, rfl⟩ (Or.inl rfl) (kt_field hq) (lt_field hq) dX10_change_160 ?_
      refine T_vret dX10_change_163 rfl (Nat.le_refl _) (Nat.le_refl _) ⟨_, rfl, rfl, ⟨aftW_mw hf.mw hR.ok hU hs, ?_, ?_, ?_, fun j hj => ?_⟩, OfS.sI (OfS.sL o2 (Or.inr (by omega))) (Or.inr (by omega))⟩
      · show (aftG (llR R) (mkR R (f.2.1 + 1)) f.2.2 U 0).length = (aftG (llR R) (rrR R) f.1 U 0).length
        omega
      · skip
        simp (disch := omega) only [n_wI, e_wI, n_wL, e_wL, m_wI2, m_wL1, n_wCI, e_wCI, n_wCL, e_wCL, m_wCI2, m_wCL1, n_wF, e_wF, m_wF2]
        rfl
      · skip
        simp (disch := omega) only [n_wI, e_wI, n_wL, e_wL, m_wI2, m_wL1, n_wCI, e_wCI, n_wCL, e_wCL, m_wCI2, m_wCL1, n_wF, e_wF, m_wF2]
        rfl
      · have hj2 : j < (aftG (llR R) (rrR R) f.1 U 0).length := hj
        have e3 := k1 j (by omega)
        subst e2
        have hjj : j < 20 := by omega
        refine ⟨?_, ?_⟩
        · skip
          simp (disch := omega) only [n_wI, e_wI, n_wL, e_wL, m_wI2, m_wL1, n_wCI, e_wCI, n_wCL, e_wCL, m_wCI2, m_wCL1, n_wF, e_wF, m_wF2]
          exact e3.1
        · skip
          simp (disch := omega) only [n_wI, e_wI, n_wL, e_wL, m_wI2, m_wL1, n_wCI, e_wCI, n_wCL, e_wCL, m_wCI2, m_wCL1, n_wF, e_wF, m_wF2]
          exact e3.2
    · exact absurd h1 (by omega)
  | cons u t ih =>
    intro i p N m hd hi hc hp hW hM hO
    obtain ⟨hi1, hu, hd2⟩ := drop_g (0, 0) hd
    have c1 := hc.1
    have c2 := hc.2.1
    have c3 := hc.2.2.1
    have hum := hm.ofs hO (by unfold S34; omega) (by unfold S34; omega) i hi1
    rw [hu] at hum
    have hR1 := hR.ofs hO (fun k h1 h2 => by unfold S34; omega)
    have hf1 := hf.ofs hO (fun k h1 h2 => by unfold S34; omega)
    have eW : N ++ aftG (llR R) (mkR R (f.2.1 + 1)) f.2.2 (u :: t) p = N ++ (f.2.2.take u.1).drop p ++ mkR R (f.2.1 + 1) u.2 ++ aftG (llR R) (mkR R (f.2.1 + 1)) f.2.2 t (u.1 + llR R u.2) := by
      show N ++ ((f.2.2.take u.1).drop p ++ mkR R (f.2.1 + 1) u.2 ++ aftG (llR R) (mkR R (f.2.1 + 1)) f.2.2 t (u.1 + llR R u.2)) = _
      simp only [List.append_assoc]
    rw [eW] at hW
    have hWlen := congrArg List.length hW
    have eml : (mkR R (f.2.1 + 1) u.2).length = (rAt R u.2).2.length := List.length_replicate
    rw [List.length_append, List.length_append, eml] at hWlen
    have eN1 : (N ++ (f.2.2.take u.1).drop p).length = N.length + (u.1 - p) := by
      rw [List.length_append, List.length_drop, List.length_take]
      omega
    refine T_iload (pc := 25) (i := 7) dX10_change_25 rfl ?_
    refine T_iload_n (pc := 27) (i := 2) dX10_change_27 rfl rfl ?_
    refine R_icmp_ge (pc := 28) (tgt := 120) (by omega) (by omega) dX10_change_28 (by decide) (fun h1 => ?_) (fun h1 => ?_)
    · exact absurd h1 (by omega)
    · skip
      refine T_aload_n (pc := 31) (i := 0) dX10_change_31 rfl rfl ?_
      refine R_getR (pc := 32) (i := 100) fl_X10_18 rfl kc_97 lc_97 rc_97_9 dX10_change_32 ?_
      refine T_iload (pc := 35) (i := 7) dX10_change_35 rfl ?_
      refine R_iald (pc := 37) (x := nI u.2) kc_100 lc_100 (by omega) (by first | decide | assumption) hum.2 dX10_change_37 ?_
      refine T_istore (pc := 38) (i := 8) (ls' := [some (.ref 97), some (.ref q), some (.int (nI U.length)), some (.int (nI f.1.length)), some (.int ((f.2.1 + 1))), some (.int (nI p)), some (.int (nI N.length)), some (.int (nI i)), some (.int (nI u.2)), none]) dX10_change_38 (by decide) rfl ?_
      refine T_aload_n (pc := 40) (i := 0) dX10_change_40 rfl rfl ?_
      refine T_aload_n (pc := 41) (i := 1) dX10_change_41 rfl rfl ?_
      refine T_iload (pc := 42) (i := 5) dX10_change_42 rfl ?_
      refine T_aload_n (pc := 44) (i := 0) dX10_change_44 rfl rfl ?_
      refine R_getR (pc := 45) (i := 99) fl_X10_15 rfl kc_97 lc_97 rc_97_8 dX10_change_45 ?_
      refine T_iload (pc := 48) (i := 7) dX10_change_48 rfl ?_
      refine R_iald (pc := 50) (x := nI u.1) kc_99 lc_99 (by omega) (by first | decide | assumption) hum.1 dX10_change_50 ?_
      refine T_iload (pc := 51) (i := 6) dX10_change_51 rfl ?_
      refine R_callVm1 (pc := 53) (As := [.ref q, .int (nI p), .int (nI u.1), .int (nI N.length)]) (rest := []) (Or.inl lk_X10_133) mk_X10_keepMakers (c_keepMakers hq (by omega) hf1 hM c1 (by omega) (by omega)) kc_97 ⟨by decide, rfl⟩ lc_97 dX10_change_53 rfl rfl (Nat.le_of_ble_eq_true rfl) (by decide) rfl (Nat.le_refl _) (Nat.le_refl _) (fun m1 k => ?_)
      obtain ⟨k1, k2⟩ := k
      rw [← eN1]
      generalize N ++ (f.2.2.take u.1).drop p = N1 at *
      have o1 := hO.trans k2
      suffices inner : ∀ (g k : Nat) (m : SM2), k + g = (rAt R u.2).2.length → MkAt m (N1 ++ List.replicate k (nI u.2, f.2.1 + 1)) → OfS S34 μ m → T γ 4 0 0 M_X10_change (Rm none (fun m => FieldAt m q (chF R f U) ∧ OfS (Sf q) μ m)) 0 0 61 [some (.ref 97), some (.ref q), some (.int (nI U.length)), some (.int (nI f.1.length)), some (.int (f.2.1 + 1)), some (.int (nI p)), some (.int (nI (N1 ++ List.replicate k (nI u.2, f.2.1 + 1)).length)), some (.int (nI i)), some (.int (nI u.2)), some (.int (nI k))] [] (rm m) by
        refine T_istore (pc := 56) (i := 6) (ls' := [some (.ref 97), some (.ref q), some (.int (nI U.length)), some (.int (nI f.1.length)), some (.int ((f.2.1 + 1))), some (.int (nI p)), some (.int (nI N1.length)), some (.int (nI i)), some (.int (nI u.2)), none]) dX10_change_56 (by decide) rfl ?_
        refine T_iconst (pc := 58) (v := nI 0) dX10_change_58 (by decide) ?_
        refine T_istore (pc := 59) (i := 9) (ls' := [some (.ref 97), some (.ref q), some (.int (nI U.length)), some (.int (nI f.1.length)), some (.int ((f.2.1 + 1))), some (.int (nI p)), some (.int (nI N1.length)), some (.int (nI i)), some (.int (nI u.2)), some (.int (nI 0))]) dX10_change_59 (by decide) rfl ?_
        have h9 := inner (rAt R u.2).2.length 0 m1 (Nat.zero_add _) (by rw [show N1 ++ List.replicate 0 (nI u.2, f.2.1 + 1) = N1 from List.append_nil _]; exact k1) o1
        rw [show N1 ++ List.replicate 0 (nI u.2, f.2.1 + 1) = N1 from List.append_nil _] at h9
        exact h9
      intro g
      induction g with
      | zero =>
        intro k m2 hk hM2 hO2
        obtain rfl : k = (rAt R u.2).2.length := by omega
        have hR2 := hR.ofs hO2 (fun k h1 h2 => by unfold S34; omega)
        have hu2 := hm.ofs hO2 (by unfold S34; omega) (by unfold S34; omega) i hi1
        rw [hu] at hu2
        have hr5 := (hR.ok u.2 c3).2.2.2.2
        refine T_iload (pc := 61) (i := 9) dX10_change_61 rfl ?_
        refine T_aload_n (pc := 63) (i := 0) dX10_change_63 rfl rfl ?_
        refine R_getR (pc := 64) (i := 4) fl_X10_33 rfl kc_97 lc_97 rc_97_0 dX10_change_64 ?_
        refine R_getR (pc := 67) (i := 8) fl_X10_84 rfl (kt_rules rules4) (lt_rules rules4) (rt_rules_rightSize rules4) dX10_change_67 ?_
        refine T_iload (pc := 70) (i := 8) dX10_change_70 rfl ?_
        refine R_iald (pc := 72) (x := nI ((rAt R u.2).2.length)) (kt_rules_rightSize rules4) (lt_rules_rightSize rules4) (by omega) (by first | decide | assumption) ((hR2.row u.2 c3).rightSize) dX10_change_72 ?_
        refine R_icmp_ge (pc := 73) (tgt := 94) (by omega) (by omega) dX10_change_73 (by decide) (fun h2 => ?_) (fun h2 => ?_)
        · skip
          refine T_aload_n (pc := 94) (i := 0) dX10_change_94 rfl rfl ?_
          refine R_getR (pc := 95) (i := 99) fl_X10_15 rfl kc_97 lc_97 rc_97_8 dX10_change_95 ?_
          refine T_iload (pc := 98) (i := 7) dX10_change_98 rfl ?_
          refine R_iald (pc := 100) (x := nI u.1) kc_99 lc_99 (by omega) (by first | decide | assumption) hu2.1 dX10_change_100 ?_
          refine T_aload_n (pc := 101) (i := 0) dX10_change_101 rfl rfl ?_
          refine R_getR (pc := 102) (i := 4) fl_X10_33 rfl kc_97 lc_97 rc_97_0 dX10_change_102 ?_
          refine R_getR (pc := 105) (i := 7) fl_X10_71 rfl (kt_rules rules4) (lt_rules rules4) (rt_rules_leftSize rules4) dX10_change_105 ?_
          refine T_iload (pc := 108) (i := 8) dX10_change_108 rfl ?_
          refine R_iald (pc := 110) (x := nI ((rAt R u.2).1.length)) (kt_rules_leftSize rules4) (lt_rules_leftSize rules4) (by omega) (by first | decide | assumption) ((hR2.row u.2 c3).leftSize) dX10_change_110 ?_
          refine R_iadd (pc := 111) dX10_change_111 ?_
          refine T_istore (pc := 112) (i := 5) (ls' := [some (.ref 97), some (.ref q), some (.int (nI U.length)), some (.int (nI f.1.length)), some (.int ((f.2.1 + 1))), some (.int (nI (u.1 + ((rAt R u.2).1.length)))), some (.int (nI ((N1 ++ List.replicate (rAt R u.2).2.length (nI u.2, f.2.1 + 1)).length))), some (.int (nI i)), some (.int (nI u.2)), some (.int (nI ((rAt R u.2).2.length)))]) dX10_change_112 (by decide) rfl ?_
          refine R_iinc (pc := 114) (i := 7) (n := 1) (ls' := [some (.ref 97), some (.ref q), some (.int (nI U.length)), some (.int (nI f.1.length)), some (.int ((f.2.1 + 1))), some (.int (nI (u.1 + ((rAt R u.2).1.length)))), some (.int (nI ((N1 ++ List.replicate (rAt R u.2).2.length (nI u.2, f.2.1 + 1)).length))), some (.int (nI (i + 1))), some (.int (nI u.2)), some (.int (nI ((rAt R u.2).2.length)))]) dX10_change_114 rfl rfl ?_
          refine T_goto (pc := 117) (tgt := 25) dX10_change_117 (by decide) ?_
          refine T_ls (ls' := [some (.ref 97), some (.ref q), some (.int (nI U.length)), some (.int (nI f.1.length)), some (.int ((f.2.1 + 1))), some (.int (nI (u.1 + ((rAt R u.2).1.length)))), some (.int (nI ((N1 ++ List.replicate (rAt R u.2).2.length (nI u.2, f.2.1 + 1)).length))), some (.int (nI (i + 1))), none, none]) (And.intro rfl (And.intro rfl (And.intro rfl (And.intro rfl (And.intro rfl (And.intro rfl (And.intro rfl (And.intro rfl True.intro)))))))) ?_
          exact ih (i + 1) (u.1 + llR R u.2) (N1 ++ List.replicate (rAt R u.2).2.length (nI u.2, f.2.1 + 1)) m2 hd2 (by omega) hc.2.2.2 c2 hW hM2 hO2
        · exact absurd h2 (by omega)
      | succ g ihg =>
        intro k m2 hk hM2 hO2
        have hR2 := hR.ofs hO2 (fun k h1 h2 => by unfold S34; omega)
        have hr5 := (hR.ok u.2 c3).2.2.2.2
        refine T_iload (pc := 61) (i := 9) dX10_change_61 rfl ?_
        refine T_aload_n (pc := 63) (i := 0) dX10_change_63 rfl rfl ?_
        refine R_getR (pc := 64) (i := 4) fl_X10_33 rfl kc_97 lc_97 rc_97_0 dX10_change_64 ?_
        refine R_getR (pc := 67) (i := 8) fl_X10_84 rfl (kt_rules rules4) (lt_rules rules4) (rt_rules_rightSize rules4) dX10_change_67 ?_
        refine T_iload (pc := 70) (i := 8) dX10_change_70 rfl ?_
        refine R_iald (pc := 72) (x := nI ((rAt R u.2).2.length)) (kt_rules_rightSize rules4) (lt_rules_rightSize rules4) (by omega) (by first | decide | assumption) ((hR2.row u.2 c3).rightSize) dX10_change_72 ?_
        refine R_icmp_ge (pc := 73) (tgt := 94) (by omega) (by omega) dX10_change_73 (by decide) (fun h2 => ?_) (fun h2 => ?_)
        · exact absurd h2 (by omega)
        · skip
          refine T_aload_n (pc := 76) (i := 0) dX10_change_76 rfl rfl ?_
          refine T_iload (pc := 77) (i := 8) dX10_change_77 rfl ?_
          refine T_iload (pc := 79) (i := 4) dX10_change_79 rfl ?_
          refine T_iload (pc := 81) (i := 6) dX10_change_81 rfl ?_
          refine R_callVm1 (pc := 83) (As := [.int (nI u.2), .int ((f.2.1 + 1)), .int (nI ((N1 ++ List.replicate k (nI u.2, f.2.1 + 1)).length))]) (rest := []) (Or.inl lk_X10_137) mk_X10_noteMaker (c_noteMaker hM2 (by rw [List.length_append, List.length_replicate]; omega)) kc_97 ⟨by decide, rfl⟩ lc_97 dX10_change_83 rfl rfl (Nat.le_of_ble_eq_true rfl) (by decide) rfl (Nat.le_refl _) (Nat.le_refl _) (fun m3 k3 => ?_)
          obtain ⟨k4, k5⟩ := k3
          refine T_istore (pc := 86) (i := 6) (ls' := [some (.ref 97), some (.ref q), some (.int (nI U.length)), some (.int (nI f.1.length)), some (.int ((f.2.1 + 1))), some (.int (nI p)), some (.int (nI ((N1 ++ List.replicate k (nI u.2, f.2.1 + 1)).length + 1))), some (.int (nI i)), some (.int (nI u.2)), some (.int (nI k))]) dX10_change_86 (by decide) rfl ?_
          refine R_iinc (pc := 88) (i := 9) (n := 1) (ls' := [some (.ref 97), some (.ref q), some (.int (nI U.length)), some (.int (nI f.1.length)), some (.int ((f.2.1 + 1))), some (.int (nI p)), some (.int (nI ((N1 ++ List.replicate k (nI u.2, f.2.1 + 1)).length + 1))), some (.int (nI i)), some (.int (nI u.2)), some (.int (nI (k + 1)))]) dX10_change_88 rfl rfl ?_
          refine T_goto (pc := 91) (tgt := 61) dX10_change_91 (by decide) ?_
          have h9 := ihg (k + 1) m3 (by omega) (by rw [List.replicate_succ', ← List.append_assoc]; exact k4) (hO2.trans k5)
          rw [List.replicate_succ', ← List.append_assoc, List.length_append (bs := [(nI u.2, f.2.1 + 1)])] at h9
          exact h9
end CH

