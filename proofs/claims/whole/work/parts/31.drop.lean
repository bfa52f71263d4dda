/-! a RULE dropped -/
theorem ToldAt.offA {μ m : SM2} {b : Nat} {X : Td} (h : ToldAt μ b X) (g : OffA μ m) (hb : 0 < b ∧ b + 28 ≤ 124) : ToldAt m b X := by
  have g1 : Off 0 1 μ (fun k => if k = 0 then m.1 0 else μ.1 k, fun k => if k = 0 then m.2 0 else μ.2 k) := fun k hk => ⟨if_neg (by omega), if_neg (by omega)⟩
  have g2 : Off 124 448 (fun k => if k = 0 then m.1 0 else μ.1 k, fun k => if k = 0 then m.2 0 else μ.2 k) m := fun k hk => by
    by_cases e : k = 0
    · subst e
      exact ⟨rfl, rfl⟩
    · have h1 := g.1 k (by omega) (by omega)
      exact ⟨h1.1.trans (if_neg e).symm, h1.2.trans (if_neg e).symm⟩
  exact (h.off g1 (by omega)).off g2 (by omega)
theorem ActsAt.off {μ m : SM2} {U : List Td} {a n : Nat} (h : ActsAt μ U) (g : Off a n μ m) (ha : 0 < a ∧ a + n ≤ 124) : ActsAt m U := by
  obtain ⟨nx, hn, e10, e9, hl, hu⟩ := h
  exact ⟨nx, hn, (g.i (by omega) 10).trans e10, (g.i (by omega) 9).trans e9, hl, fun j hj => (hu j hj).off g (by omega)⟩
/-- it throws and the memory stays; or it answers v, and of the memory it leaves P holds -/
def Ax (r : Option String) (v : Value) (μ : SM2) (P : SM2 → Prop) : Out → SMem → Prop := fun o m => match r with
  | some E => m = rm μ ∧ o = .inr E
  | none => ∃ μ', o = .inl (some v) ∧ m = rm μ' ∧ P μ'
theorem Ax_e {c : Prop} [Decidable c] {μ : SM2} {v : Value} {E : String} {P : SM2 → Prop} (h : ¬ c) : Ax (if c then none else some E) v μ P (.inr E) (rm μ) := by
  rw [if_neg h]
  exact ⟨rfl, rfl⟩
theorem Ax_v {c : Prop} [Decidable c] {μ m : SM2} {v : Value} {E : String} {P : SM2 → Prop} (h : c) (g : P m) : Ax (if c then none else some E) v μ P (.inl (some v)) (rm m) := by
  rw [if_pos h]
  exact ⟨m, rfl, rfl, g⟩
/-- cells of what is told now and of the acts may change, no other -/
def OffP (μ m : SM2) : Prop := (∀ k, 0 < k → k < 3 ∨ (31 ≤ k ∧ k < 124) ∨ 572 ≤ k → m.1 k = μ.1 k ∧ m.2 k = μ.2 k) ∧ m.1 0 7 = μ.1 0 7
theorem OffA.p {μ m m' : SM2} {a n : Nat} (h : OffA μ m) (g : Off a n m m') (ha : 3 ≤ a ∧ a + n ≤ 31) : OffP μ m' :=
  ⟨fun k h0 hk => ⟨(g k (by omega)).1.trans (h.1 k h0 (by omega)).1, (g k (by omega)).2.trans (h.1 k h0 (by omega)).2⟩, (g.i (by omega) 7).trans h.2⟩
theorem ToldAt.rules {μ m : SM2} {b : Nat} {X : Td} {R : List Ru} (h : ToldAt μ b X) (g : Off (b + 1) 5 μ m) (hR : RulesAt m (b + 1) R) : ToldAt m b (R, X.2) :=
  ⟨hR, ⟨(g.i (by omega) 2).trans h.2.1.1, h.2.1.2.1, fun i hi => (h.2.1.2.2 i hi).off g (by omega)⟩, ⟨(g.i (by omega) 5).trans h.2.2.1.1, h.2.2.1.2.1, fun i hi => ⟨(h.2.2.1.2.2 i hi).1, (g.l (by omega) i).trans (h.2.2.1.2.2 i hi).2.1, (g.l (by omega) i).trans (h.2.2.1.2.2 i hi).2.2⟩⟩, ⟨h.2.2.2.1.1, fun i hi => ⟨(h.2.2.2.1.2 i hi).1, (g.i (by omega) i).trans (h.2.2.2.1.2 i hi).2⟩⟩, h.2.2.2.2.1, (g.i (by omega) 7).trans h.2.2.2.2.2.1, (g.i (by omega) 8).trans h.2.2.2.2.2.2.1, (g.i (by omega) 9).trans h.2.2.2.2.2.2.2.1, (g.i (by omega) 10).trans h.2.2.2.2.2.2.2.2.1, (g.i (by omega) 11).trans h.2.2.2.2.2.2.2.2.2⟩
section DR
variable {γ : Ga} {μ : SM2}
theorem c_drop {x : Int32} {X : Td} {U : List Td} (hX : ToldAt μ 3 X) (hU : ActsAt μ U) : Ex γ 5 1 6 M_X11_drop [.ref 0, .int x] (rm μ) (Ax (if inB x X.R.length = true then none else some "java/lang/IndexOutOfBoundsException") (.int (nI (X.R.length - 1))) μ (fun m => (ToldAt m 3 (X.R.eraseIdx x.toNatClampNeg, X.2) ∧ ActsAt m ((X :: U).take 16)) ∧ OffP μ m)) := by
  have h12 := hX.1.len
  refine Ex.of (by decide +kernel) rfl (Nat.le_of_ble_eq_true rfl) ?_
  show T _ _ _ _ _ _ _ _ _ [some (.ref 0), some (.int (x))] [] (rm μ)
  refine T_aload_n (pc := 0) (i := 0) dX11_drop_0 rfl rfl ?_
  refine T_iload_n (pc := 1) (i := 1) dX11_drop_1 rfl rfl ?_
  refine R_chkV (pc := 2) (As := [.int (x)]) (rest := []) (Or.inl lk_X11_135) mk_X11_checkRule (c_checkRule hX.1) kc_0 ⟨by decide, rfl⟩ lc_0 dX11_drop_2 rfl rfl (Nat.le_of_ble_eq_true rfl) (by decide) rfl (by decide) (by decide) (fun z => Ax_e (by rw [z]; decide)) (fun hB => ?_)
  obtain ⟨k, hk, rfl⟩ := inB_of (by omega) hB
  rw [nI_clamp (n := k) (by omega)]
  refine T_aload_n (pc := 5) (i := 0) dX11_drop_5 rfl rfl ?_
  refine R_callVm0 (pc := 6) (As := []) (rest := []) (Or.inl lk_X11_208) mk_X11_remember (c_remember hX hU) kc_0 ⟨by decide, rfl⟩ lc_0 dX11_drop_6 rfl rfl (Nat.le_of_ble_eq_true rfl) (by decide) rfl (by decide) (by decide) (fun m h => ?_)
  obtain ⟨hA, hO⟩ := h
  have hX1 := hX.offA hO (by omega)
  refine T_aload_n (pc := 9) (i := 0) dX11_drop_9 rfl rfl ?_
  refine R_getR (pc := 10) (i := 3) fl_X11_19 rfl kc_0 lc_0 rc_0_1 dX11_drop_10 ?_
  refine R_getR (pc := 13) (i := 4) fl_X11_48 rfl (kt_told told3) (lt_told told3) (rt_told_rules told3) dX11_drop_13 ?_
  refine T_iload_n (pc := 16) (i := 1) dX11_drop_16 rfl rfl ?_
  refine R_callVm0 (pc := 17) (As := [.int (nI k)]) (rest := []) (Or.inl lk_X11_234) mk_X6_remove (c_Rules_remove (told_rules told3) hX1.1 hk) (kt_rules rules4) ⟨by decide, rfl⟩ (lt_rules rules4) dX11_drop_17 rfl rfl (Nat.le_of_ble_eq_true rfl) (by decide) rfl (by decide) (by decide) (fun m2 h2 => ?_)
  obtain ⟨hR2, hO2⟩ := h2
  have hl : (X.R.eraseIdx k).length = X.R.length - 1 := by rw [List.length_eraseIdx, if_pos hk]
  refine T_aload_n (pc := 20) (i := 0) dX11_drop_20 rfl rfl ?_
  refine R_getR (pc := 21) (i := 3) fl_X11_19 rfl kc_0 lc_0 rc_0_1 dX11_drop_21 ?_
  refine R_getR (pc := 24) (i := 4) fl_X11_48 rfl (kt_told told3) (lt_told told3) (rt_told_rules told3) dX11_drop_24 ?_
  refine R_getI (pc := 27) (x := nI (X.R.length - 1)) fl_X11_230 rfl (kt_rules rules4) (lt_rules rules4) (hl ▸ hR2.size) dX11_drop_27 ?_
  exact T_iret (pc := 30) (ty := .int) dX11_drop_30 rfl rfl (by decide) (by decide) (Ax_v hB ⟨⟨hX1.rules hO2 hR2, hA.off hO2 (by omega)⟩, hO.p hO2 (by omega)⟩)
end DR

