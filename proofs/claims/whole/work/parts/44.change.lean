/-! a FIELD goes a STEP; turns -/
def MkAt (m : SM2) (N : List (Int32 × Int32)) : Prop := ∀ i, i < N.length → m.1 103 i = (mAt N i).1 ∧ m.1 104 i = (mAt N i).2
def S34 (k : Nat) : Prop := k = 103 ∨ k = 104
def mkR (R : List Ru) (st : Int32) (r : Nat) : List (Int32 × Int32) := List.replicate (rAt R r).2.length (nI r, st)
def chF (R : List Ru) (f : Fld) (U : List (Nat × Nat)) : Fld := (aftW R f.1 U, f.2.1 + 1, aftG (llR R) (mkR R (f.2.1 + 1)) f.2.2 U 0)
theorem mAt_app {A B : List (Int32 × Int32)} {i : Nat} : mAt (A ++ B) i = if i < A.length then mAt A i else mAt B (i - A.length) := by
  show (A ++ B).getD i _ = _
  rw [List.getD_eq_getElem?_getD]
  by_cases h : i < A.length
  · rw [if_pos h, List.getElem?_append_left h, ← List.getD_eq_getElem?_getD]
  · rw [if_neg h, List.getElem?_append_right (by omega), ← List.getD_eq_getElem?_getD]
theorem MkAt.push {m : SM2} {N : List (Int32 × Int32)} {a b : Int32} (h : MkAt m N) : MkAt (wI (wI m 103 N.length a) 104 N.length b) (N ++ [(a, b)]) := fun i hi => by
  rw [List.length_append] at hi
  have hi2 : i < N.length + 1 := hi
  rw [mAt_app]
  by_cases h1 : i < N.length
  · rw [if_pos h1]
    have e := h i h1
    exact ⟨(n_wI (by omega)).trans ((n_wI (by omega)).trans e.1), (n_wI (by omega)).trans ((n_wI (by omega)).trans e.2)⟩
  · have e : i = N.length := by omega
    subst e
    rw [if_neg h1, Nat.sub_self]
    exact ⟨(n_wI (by omega)).trans (e_wI ⟨rfl, rfl⟩), e_wI ⟨rfl, rfl⟩⟩
theorem MkAt.ofs {S : Nat → Prop} {N : List (Int32 × Int32)} {μ m : SM2} (h : MkAt μ N) (g : OfS S μ m) (h0 : ¬ S 103) (h1 : ¬ S 104) : MkAt m N := fun i hi => ⟨(g.i h0 i).trans (h i hi).1, (g.i h1 i).trans (h i hi).2⟩
section CH
variable {γ : Ga} {μ : SM2}
theorem c_noteMaker {a b : Int32} {N : List (Int32 × Int32)} (h : MkAt μ N) (hp : N.length < 20) : Ex γ 1 0 0 M_X10_noteMaker [.ref 97, .int a, .int b, .int (nI N.length)] (rm μ) (Rm (some (.int (nI (N.length + 1)))) (fun m => MkAt m (N ++ [(a, b)]) ∧ OfS S34 μ m)) := by
  refine Ex.of (by decide +kernel) rfl (Nat.le_of_ble_eq_true rfl) ?_
  show T _ _ _ _ _ _ _ _ _ [some (.ref 97), some (.int (a)), some (.int (b)), some (.int (nI N.length))] [] (rm μ)
  refine T_iload_n (pc := 0) (i := 3) dX10_noteMaker_0 rfl rfl ?_
  refine T_bipush (pc := 1) (v := nI 20) dX10_noteMaker_1 (by decide) ?_
  refine R_icmp_ge (pc := 3) (tgt := 20) (by omega) (by omega) dX10_noteMaker_3 (by decide) (fun h1 => ?_) (fun h1 => ?_)
  · exact absurd h1 (by omega)
  · skip
    refine T_aload_n (pc := 6) (i := 0) dX10_noteMaker_6 rfl rfl ?_
    refine R_getR (pc := 7) (i := 103) fl_X10_27 rfl kc_97 lc_97 rc_97_12 dX10_noteMaker_7 ?_
    refine T_iload_n (pc := 10) (i := 3) dX10_noteMaker_10 rfl rfl ?_
    refine T_iload_n (pc := 11) (i := 1) dX10_noteMaker_11 rfl rfl ?_
    refine R_iast (pc := 12) kc_103 lc_103 (by omega) (by first | decide | assumption) dX10_noteMaker_12 ?_
    refine T_aload_n (pc := 13) (i := 0) dX10_noteMaker_13 rfl rfl ?_
    refine R_getR (pc := 14) (i := 104) fl_X10_30 rfl kc_97 lc_97 rc_97_13 dX10_noteMaker_14 ?_
    refine T_iload_n (pc := 17) (i := 3) dX10_noteMaker_17 rfl rfl ?_
    refine T_iload_n (pc := 18) (i := 2) dX10_noteMaker_18 rfl rfl ?_
    refine R_iast (pc := 19) kc_104 lc_104 (by omega) (by first | decide | assumption) dX10_noteMaker_19 ?_
    refine T_iload_n (pc := 20) (i := 3) dX10_noteMaker_20 rfl rfl ?_
    refine T_iconst (pc := 21) (v := nI 1) dX10_noteMaker_21 (by decide) ?_
    refine R_iadd (pc := 22) dX10_noteMaker_22 ?_
    exact T_iret (pc := 23) (ty := .int) dX10_noteMaker_23 rfl rfl (Nat.le_refl _) (Nat.le_refl _) ⟨_, rfl, rfl, h.push, OfS.sI (OfS.sI (OfS.refl _ _) (Or.inl rfl)) (Or.inr rfl)⟩
theorem c_keepMakers {q a b : Nat} {f : Fld} {N : List (Int32 × Int32)} (hq : isField q) (hq2 : q < 90) (hf : FieldAt μ q f) (h : MkAt μ N) (hab : a ≤ b) (hb : b ≤ f.1.length) (h20 : N.length + (b - a) ≤ 20) : Ex γ 2 0 0 M_X10_keepMakers [.ref 97, .ref q, .int (nI a), .int (nI b), .int (nI N.length)] (rm μ) (Rm (some (.int (nI (N.length + (b - a))))) (fun m => MkAt m (N ++ (f.2.2.take b).drop a) ∧ OfS S34 μ m)) := by
  have hn := hf.mw.1
  have hmk : f.2.2.length = f.1.length := hf.2.1
  have e0 : ∀ j, a ≤ j → j ≤ b → (N ++ (f.2.2.take j).drop a).length = N.length + (j - a) := fun j h1 h2 => by
    rw [List.length_append, List.length_drop, List.length_take]
    omega
  suffices loop : ∀ (g j : Nat) (m : SM2), j + g = b → a ≤ j → MkAt m (N ++ (f.2.2.take j).drop a) → OfS S34 μ m → T γ 2 0 0 M_X10_keepMakers (Rm (some (.int (nI (N.length + (b - a))))) (fun m => MkAt m (N ++ (f.2.2.take b).drop a) ∧ OfS S34 μ m)) 0 0 7 [some (.ref 97), some (.ref q), some (.int (nI a)), some (.int (nI b)), some (.int (nI N.length)), some (.int (nI (N.length + (j - a)))), some (.int (nI j))] [] (rm m) by
    refine Ex.of (by decide +kernel) rfl (Nat.le_of_ble_eq_true rfl) ?_
    show T _ _ _ _ _ _ _ _ _ [some (.ref 97), some (.ref q), some (.int (nI a)), some (.int (nI b)), some (.int (nI N.length)), none, none] [] (rm μ)
    refine T_iload (pc := 0) (i := 4) dX10_keepMakers_0 rfl ?_
    refine T_istore (pc := 2) (i := 5) (ls' := [some (.ref 97), some (.ref q), some (.int (nI a)), some (.int (nI b)), some (.int (nI N.length)), some (.int (nI N.length)), none]) dX10_keepMakers_2 (by decide) rfl ?_
    refine T_iload_n (pc := 4) (i := 2) dX10_keepMakers_4 rfl rfl ?_
    refine T_istore (pc := 5) (i := 6) (ls' := [some (.ref 97), some (.ref q), some (.int (nI a)), some (.int (nI b)), some (.int (nI N.length)), some (.int (nI N.length)), some (.int (nI a))]) dX10_keepMakers_5 (by decide) rfl ?_
    have h9 := loop (b - a) a μ (by omega) (Nat.le_refl _) (by rw [List.drop_of_length_le (by rw [List.length_take]; omega), List.append_nil]; exact h) (OfS.refl _ _)
    rw [Nat.sub_self] at h9
    exact h9
  intro g
  induction g with
  | zero =>
    intro j m hj haj hm hO
    obtain rfl : j = b := by omega
    refine T_iload (pc := 7) (i := 6) dX10_keepMakers_7 rfl ?_
    refine T_iload_n (pc := 9) (i := 3) dX10_keepMakers_9 rfl rfl ?_
    refine R_icmp_ge (pc := 10) (tgt := 41) (by omega) (by omega) dX10_keepMakers_10 (by decide) (fun h1 => ?_) (fun h1 => ?_)
    · skip
      refine T_iload (pc := 41) (i := 5) dX10_keepMakers_41 rfl ?_
      exact T_iret (pc := 43) (ty := .int) dX10_keepMakers_43 rfl rfl (Nat.le_refl _) (Nat.le_refl _) ⟨_, rfl, rfl, hm, hO⟩
    · exact absurd h1 (by omega)
  | succ g ih =>
    intro j m hj haj hm hO
    have hf2 := hf.ofs hO (fun k h1 h2 => by unfold S34; omega)
    have fm := hf2.mk j (by omega)
    have el := e0 j haj (by omega)
    have ed : (f.2.2.take (j + 1)).drop a = (f.2.2.take j).drop a ++ [mAt f.2.2 j] := by
      rw [take_s (0, 0) (by omega), List.drop_append_of_le_length (by rw [List.length_take]; omega)]
    refine T_iload (pc := 7) (i := 6) dX10_keepMakers_7 rfl ?_
    refine T_iload_n (pc := 9) (i := 3) dX10_keepMakers_9 rfl rfl ?_
    refine R_icmp_ge (pc := 10) (tgt := 41) (by omega) (by omega) dX10_keepMakers_10 (by decide) (fun h1 => ?_) (fun h1 => ?_)
    · exact absurd h1 (by omega)
    · skip
      refine T_aload_n (pc := 13) (i := 0) dX10_keepMakers_13 rfl rfl ?_
      refine T_aload_n (pc := 14) (i := 1) dX10_keepMakers_14 rfl rfl ?_
      refine R_getR (pc := 15) (i := (q + 1)) fl_X10_145 rfl (kt_field hq) (lt_field hq) (rt_field_makers hq) dX10_keepMakers_15 ?_
      refine T_iload (pc := 18) (i := 6) dX10_keepMakers_18 rfl ?_
      refine R_iald (pc := 20) (x := ((mAt f.2.2 j).1)) (kt_field_makers hq) (lt_field_makers hq) (by omega) (by first | decide | assumption) fm.1 dX10_keepMakers_20 ?_
      refine T_aload_n (pc := 21) (i := 1) dX10_keepMakers_21 rfl rfl ?_
      refine R_getR (pc := 22) (i := (q + 2)) fl_X10_148 rfl (kt_field hq) (lt_field hq) (rt_field_makings hq) dX10_keepMakers_22 ?_
      refine T_iload (pc := 25) (i := 6) dX10_keepMakers_25 rfl ?_
      refine R_iald (pc := 27) (x := ((mAt f.2.2 j).2)) (kt_field_makings hq) (lt_field_makings hq) (by omega) (by first | decide | assumption) fm.2 dX10_keepMakers_27 ?_
      refine T_iload (pc := 28) (i := 5) dX10_keepMakers_28 rfl ?_
      rw [← el]
      refine R_callVm1 (pc := 30) (As := [.int (((mAt f.2.2 j).1)), .int (((mAt f.2.2 j).2)), .int (nI ((N ++ (f.2.2.take j).drop a).length))]) (rest := []) (Or.inl lk_X10_137) mk_X10_noteMaker (c_noteMaker hm (by omega)) kc_97 ⟨by decide, rfl⟩ lc_97 dX10_keepMakers_30 rfl rfl (Nat.le_of_ble_eq_true rfl) (by decide) rfl (Nat.le_refl _) (Nat.le_refl _) (fun m1 k => ?_)
      obtain ⟨k1, k2⟩ := k
      refine T_istore (pc := 33) (i := 5) (ls' := [some (.ref 97), some (.ref q), some (.int (nI a)), some (.int (nI b)), some (.int (nI N.length)), some (.int (nI ((N ++ (f.2.2.take j).drop a).length + 1))), some (.int (nI j))]) dX10_keepMakers_33 (by decide) rfl ?_
      refine R_iinc (pc := 35) (i := 6) (n := 1) (ls' := [some (.ref 97), some (.ref q), some (.int (nI a)), some (.int (nI b)), some (.int (nI N.length)), some (.int (nI ((N ++ (f.2.2.take j).drop a).length + 1))), some (.int (nI (j + 1)))]) dX10_keepMakers_35 rfl rfl ?_
      refine T_goto (pc := 38) (tgt := 7) dX10_keepMakers_38 (by decide) ?_
      have h9 := ih (j + 1) m1 (by omega) (by omega) (by rw [ed, ← List.append_assoc]; exact k1) (hO.trans k2)
      rw [show N.length + (j + 1 - a) = N.length + (j - a) + 1 by omega, ← el] at h9
      exact h9
end CH

