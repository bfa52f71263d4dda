/-! SCALES: the rows, and whether one holds -/
def SR (k : Nat) : Prop := k = 116 ∨ k = 119 ∨ k = 120
def sumC (l w : List Nat) : Nat → Int
  | 0 => 0
  | b + 1 => sumC l w b + (l.count b : Int) * (w.getD b 0 : Int)
def sumZ (x : Ru) (w : List Nat) : Nat → Int
  | 0 => 0
  | b + 1 => sumZ x w b + zc x b * (w.getD b 0 : Int)
/-- what BEASTS weigh -/
def wtS (w l : List Nat) : Nat := (l.map (fun d => w.getD d 0)).sum
theorem sumC_cons {d : Nat} {l w : List Nat} : ∀ n, sumC (d :: l) w n = sumC l w n + if d < n then (w.getD d 0 : Int) else 0
  | 0 => by
    rw [if_neg (Nat.not_lt_zero _)]
    rfl
  | n + 1 => by
    show sumC (d :: l) w n + ((d :: l).count n : Int) * (w.getD n 0 : Int) = sumC l w n + (l.count n : Int) * (w.getD n 0 : Int) + _
    have hc : (d :: l).count n = l.count n + if d = n then 1 else 0 := by
      rw [List.count_cons]
      by_cases e : d = n
      · rw [if_pos e, if_pos (by simp [e])]
      · rw [if_neg e, if_neg (by simp [e])]
    rw [sumC_cons n, hc]
    by_cases e : d = n
    · subst e
      rw [if_pos (c := d = d) rfl, if_neg (Nat.lt_irrefl _), if_pos (Nat.lt_succ_self _), Int.natCast_add, Int.add_mul]
      generalize (w.getD d 0 : Int) = a
      generalize (l.count d : Int) * a = c
      show sumC l w d + 0 + (c + 1 * a) = _
      omega
    · rw [if_neg e, Nat.add_zero]
      by_cases g : d < n
      · rw [if_pos g, if_pos (Nat.lt_succ_of_lt g)]
        omega
      · rw [if_neg g, if_neg (by omega)]
        omega
theorem sumC_wt {w : List Nat} : ∀ {l : List Nat}, okb l → sumC l w 8 = (wtS w l : Int)
  | [], _ => by
    have h : ∀ n, sumC [] w n = 0 := fun n => by
      induction n with
      | zero => rfl
      | succ n ih =>
        show sumC [] w n + ((0 : Nat) : Int) * _ = 0
        rw [ih]
        simp
    exact h 8
  | d :: l, h => by
    have h8 : d < 8 := h d List.mem_cons_self
    rw [sumC_cons, sumC_wt (fun x hx => h x (List.mem_cons_of_mem _ hx)), if_pos h8]
    show _ = ((w.getD d 0 + wtS w l : Nat) : Int)
    omega
theorem sumZ_C {x : Ru} {w : List Nat} : ∀ n, sumZ x w n = sumC x.1 w n - sumC x.2 w n
  | 0 => rfl
  | n + 1 => by
    show sumZ x w n + zc x n * _ = (sumC x.1 w n + _) - (sumC x.2 w n + _)
    rw [sumZ_C n]
    unfold zc
    rw [Int.sub_mul]
    omega
theorem sumZ_wt {x : Ru} {w : List Nat} (h : okb x.1 ∧ okb x.2) : sumZ x w 8 = (wtS w x.1 : Int) - wtS w x.2 := by rw [sumZ_C, sumC_wt h.1, sumC_wt h.2]
theorem wtS_le {w : List Nat} (hw : ∀ b, w.getD b 0 ≤ 5) : ∀ l : List Nat, wtS w l ≤ 5 * l.length
  | [] => Nat.le_refl _
  | d :: l => by
    have h := wtS_le hw l
    have h2 := hw d
    show w.getD d 0 + wtS w l ≤ 5 * (l.length + 1)
    omega
theorem sumZ_b {x : Ru} {w : List Nat} (h : Mw x.1 ∧ Mw x.2) (hw : ∀ b, w.getD b 0 ≤ 5) : -100 ≤ sumZ x w 8 ∧ sumZ x w 8 ≤ 100 := by
  have h1 := wtS_le hw x.1
  have h2 := wtS_le hw x.2
  have h3 := h.1.1
  have h4 := h.2.1
  rw [sumZ_wt ⟨h.1.2, h.2.2⟩]
  omega
theorem irem_tab : ∀ k : Nat, k < 256 → ∀ m : Nat, m < 6 → 2 ≤ m → (irem (Int32.ofInt ((k : Int) - 128)) (nI m) = 0 ↔ ((k : Int) - 128) % (m : Int) = 0) := by decide +kernel
theorem irem_0 {s : Int} {m : Nat} (h1 : -100 ≤ s) (h2 : s ≤ 100) (hm : m < 6 ∧ 2 ≤ m) : irem (Int32.ofInt s) (nI m) = 0 ↔ s % (m : Int) = 0 := by
  have h := irem_tab (s + 128).toNat (by omega) m hm.1 hm.2
  rw [show (((s + 128).toNat : Nat) : Int) - 128 = s by omega] at h
  exact h
/-- whether a row holds: of falling weights, of one that may not change, of one that must -/
def hoB (md : Nat) (isR : Bool) (x : Ru) (w : List Nat) : Bool := if md = 0 then decide (0 < sumZ x w 8) else if isR = true then decide (sumZ x w 8 % (md : Int) = 0) else !decide (sumZ x w 8 % (md : Int) = 0)
def WgAt (m : SM2) (w : List Nat) : Prop := (w.length = 8 ∧ ∀ b, w.getD b 0 ≤ 5) ∧ ∀ b, b < 8 → m.1 117 b = nI (w.getD b 0)
theorem WgAt.keep {μ m : SM2} {w : List Nat} (h : WgAt μ w) (g : ∀ j, m.1 117 j = μ.1 117 j) : WgAt m w := ⟨h.1, fun b hb => (g b).trans (h.2 b hb)⟩
theorem zc_b {x : Ru} (h : Mw x.1 ∧ Mw x.2) (b : Nat) : -20 ≤ zc x b ∧ zc x b ≤ 20 := by
  have h1 := List.count_le_length (a := b) (l := x.1)
  have h2 := List.count_le_length (a := b) (l := x.2)
  have h3 := h.1.1
  have h4 := h.2.1
  unfold zc
  omega
section SD
variable {γ : Ga} {μ : SM2}
theorem c_loadPair {lst : List Nat} {P : List Ru} {x : Ru} (hx : Mw x.1 ∧ Mw x.2) (hL : ListAt μ lst) (hP : RwAt μ lst P) (h12 : P.length ≤ 12) : Ex γ 3 0 0 M_X7_loadPair [.ref 116, .long (lN (cd x.1)), .long (lN (cd x.2))] (rm μ) (Rm none (fun m => RwAt m lst (P ++ [x]) ∧ (∀ j, j ≠ 5 → m.1 116 j = μ.1 116 j) ∧ OfS SR μ m)) := by
  have hl6 := hL.2.1
  have hp5 := hP.1.1
  refine Ex.of (by decide +kernel) rfl (Nat.le_of_ble_eq_true rfl) ?_
  show T _ _ _ _ _ _ _ _ _ [some (.ref 116), some (.long (lN (cd x.1))), none, some (.long (lN (cd x.2))), none, none] [] (rm μ)
  refine T_aload_n (pc := 0) (i := 0) dX7_loadPair_0 rfl rfl ?_
  refine R_getI (pc := 1) (x := nI P.length) fl_X7_34 rfl kc_116 lc_116 hp5 dX7_loadPair_1 ?_
  refine T_bipush (pc := 4) (v := nI 12) dX7_loadPair_4 (by decide) ?_
  refine R_icmp_le (pc := 6) (tgt := 10) (by omega) (by omega) dX7_loadPair_6 (by decide) (fun h1 => ?_) (fun h1 => ?_)
  · skip
    refine T_aload_n (pc := 10) (i := 0) dX7_loadPair_10 rfl rfl ?_
    refine T_lload_n (pc := 11) (i := 1) dX7_loadPair_11 rfl rfl ?_
    refine T_iconst (pc := 12) (v := nI 1) dX7_loadPair_12 (by decide) ?_
    refine R_callVm0 (pc := 13) (As := [.long (lN (cd x.1)), .int (nI 1)]) (rest := []) (Or.inl lk_X7_62) mk_X7_countBeasts (c_countBeasts hx.1 hp5 h12) kc_116 ⟨by decide, rfl⟩ lc_116 dX7_loadPair_13 rfl rfl (Nat.le_of_ble_eq_true rfl) (by decide) rfl (Nat.le_refl _) (Nat.le_refl _) (fun m1 h2 => ?_)
    obtain ⟨a1, b1, o1⟩ := h2
    have p1 := (o1.i (by omega) 5).trans hp5
    refine T_aload_n (pc := 16) (i := 0) dX7_loadPair_16 rfl rfl ?_
    refine T_lload_n (pc := 17) (i := 3) dX7_loadPair_17 rfl rfl ?_
    refine T_iconst (pc := 18) (v := (-1)) dX7_loadPair_18 (by decide) ?_
    refine R_callVm0 (pc := 19) (As := [.long (lN (cd x.2)), .int ((-1))]) (rest := []) (Or.inl lk_X7_62) mk_X7_countBeasts (c_countBeasts hx.2 p1 h12) kc_116 ⟨by decide, rfl⟩ lc_116 dX7_loadPair_19 rfl rfl (Nat.le_of_ble_eq_true rfl) (by decide) rfl (Nat.le_refl _) (Nat.le_refl _) (fun m2 h3 => ?_)
    obtain ⟨a2, b2, o2⟩ := h3
    have O2 := o1.trans o2
    have p2 := (o2.i (by omega) 5).trans p1
    have cell : ∀ b, b < 8 → m2.1 119 (P.length * 8 + b) = Int32.ofInt (zc x b) := fun b hb => by
      rw [a2 b hb, a1 b hb, hP.2.2.2 _ (by omega) (by omega)]
      exact zc_cell
    have other : ∀ j, j < P.length * 8 ∨ P.length * 8 + 8 ≤ j → m2.1 119 j = μ.1 119 j := fun j hj => (b2 j hj).trans (b1 j hj)
    have L2 := hL.ofs O2 (by omega) (by omega)
    have l2 := L2.1
    refine T_aload_n (pc := 22) (i := 0) dX7_loadPair_22 rfl rfl ?_
    refine R_getR (pc := 23) (i := 120) fl_X7_21 rfl kc_116 lc_116 rc_116_4 dX7_loadPair_23 ?_
    refine T_aload_n (pc := 26) (i := 0) dX7_loadPair_26 rfl rfl ?_
    refine R_getI (pc := 27) (x := nI P.length) fl_X7_34 rfl kc_116 lc_116 p2 dX7_loadPair_27 ?_
    refine T_iconst (pc := 30) (v := nI 0) dX7_loadPair_30 (by decide) ?_
    refine R_iast (pc := 31) kc_120 lc_120 (by omega) (by first | decide | assumption) dX7_loadPair_31 ?_
    refine T_iconst (pc := 32) (v := nI 0) dX7_loadPair_32 (by decide) ?_
    refine T_istore (pc := 33) (i := 5) (ls' := [some (.ref 116), some (.long (lN (cd x.1))), none, some (.long (lN (cd x.2))), none, some (.int (nI 0))]) dX7_loadPair_33 (by decide) rfl ?_
    suffices loop : ∀ (f i : Nat) (m : SM2), i + f = lst.length → m.1 120 P.length = nI (laN lst x i) → (∀ j, j ≠ P.length → m.1 120 j = m2.1 120 j) → OfS (fun k => k = 120) m2 m → T γ 3 0 0 M_X7_loadPair (Rm none (fun m => RwAt m lst (P ++ [x]) ∧ (∀ j, j ≠ 5 → m.1 116 j = μ.1 116 j) ∧ OfS SR μ m)) 0 0 35 [some (.ref 116), some (.long (lN (cd x.1))), none, some (.long (lN (cd x.2))), none, some (.int (nI i))] [] (rm m) by
      exact loop lst.length 0 _ (Nat.zero_add _) (e_wI ⟨rfl, rfl⟩) (fun j hj => n_wI (by omega)) (OfS.sI (OfS.refl _ _) rfl)
    intro f
    induction f with
    | zero =>
      intro i m hi ha ho hO
      have e : i = lst.length := by omega
      subst e
      refine T_iload (pc := 35) (i := 5) dX7_loadPair_35 rfl ?_
      refine T_aload_n (pc := 37) (i := 0) dX7_loadPair_37 rfl rfl ?_
      refine R_getI (pc := 38) (x := nI lst.length) fl_X7_24 rfl kc_116 lc_116 ((hO.i (by omega) 2).trans l2) dX7_loadPair_38 ?_
      refine R_icmp_ge (pc := 41) (tgt := 84) (by omega) (by omega) dX7_loadPair_41 (by decide) (fun h4 => ?_) (fun h4 => ?_)
      · skip
        refine T_aload_n (pc := 84) (i := 0) dX7_loadPair_84 rfl rfl ?_
        refine T_dup (pc := 85) dX7_loadPair_85 rfl ?_
        refine R_getI (pc := 86) (x := nI P.length) fl_X7_34 rfl kc_116 lc_116 ((hO.i (by omega) 5).trans p2) dX7_loadPair_86 ?_
        refine T_iconst (pc := 89) (v := nI 1) dX7_loadPair_89 (by decide) ?_
        refine R_iadd (pc := 90) dX7_loadPair_90 ?_
        refine R_putI (pc := 91) fl_X7_34 ⟨rfl, rfl⟩ (Or.inl rfl) kc_116 lc_116 dX7_loadPair_91 ?_
        have hlen : (P ++ [x]).length = P.length + 1 := List.length_append
        have er : ∀ i, i < P.length + 1 → rAt (P ++ [x]) i = if i < P.length then rAt P i else x := fun i hi => getD_snoc hi
        have c119 : ∀ j, (wI m 116 5 (nI (P.length + 1))).1 119 j = m2.1 119 j := fun j => (n_wI (by omega)).trans (hO.i (by omega) j)
        have c120 : ∀ j, (wI m 116 5 (nI (P.length + 1))).1 120 j = m.1 120 j := fun j => n_wI (by omega)
        have O3 : OfS SR μ (wI m 116 5 (nI (P.length + 1))) := OfS.sI ((O2.mono (fun k hk => Or.inr (Or.inl hk))).trans (hO.mono (fun k hk => Or.inr (Or.inr hk)))) (Or.inl rfl)
        have hfin : RwAt (wI m 116 5 (nI (P.length + 1))) lst (P ++ [x]) := by
          refine ⟨⟨(e_wI ⟨rfl, rfl⟩).trans (by rw [hlen]), by omega⟩, fun i b hi hb => ?_, fun i hi => ?_, fun j h5 h6 => ?_⟩
          · rw [hlen] at hi
            rw [er i hi, c119]
            by_cases g : i < P.length
            · rw [if_pos g, other _ (by omega)]
              exact hP.2.1 i b g hb
            · have e : i = P.length := by omega
              rw [if_neg g, e]
              exact cell b hb
          · rw [hlen] at hi
            rw [er i hi, c120]
            by_cases g : i < P.length
            · rw [if_pos g, ho i (by omega)]
              exact (O2.i (by omega) i).trans (hP.2.2.1 i g)
            · have e : i = P.length := by omega
              rw [if_neg g, e]
              exact ha
          · rw [hlen] at h5
            rw [c119, other j (by omega)]
            exact hP.2.2.2 j (by omega) h6
        exact T_vret dX7_loadPair_94 rfl (Nat.le_refl _) (Nat.le_refl _) ⟨_, rfl, rfl, hfin, fun j hj => (n_wI (by omega)).trans ((hO.i (by omega) j).trans (O2.i (by omega) j)), O3⟩
      · exact absurd h4 (by omega)
    | succ f ih =>
      intro i m hi ha ho hO
      have hli := L2.2.2 i (by omega)
      have hlb := hli.1
      have zb := zc_b hx (lst.getD i 0)
      have ev : laN lst x (i + 1) = if zc x (lst.getD i 0) = 0 then laN lst x i else i := rfl
      refine T_iload (pc := 35) (i := 5) dX7_loadPair_35 rfl ?_
      refine T_aload_n (pc := 37) (i := 0) dX7_loadPair_37 rfl rfl ?_
      refine R_getI (pc := 38) (x := nI lst.length) fl_X7_24 rfl kc_116 lc_116 ((hO.i (by omega) 2).trans l2) dX7_loadPair_38 ?_
      refine R_icmp_ge (pc := 41) (tgt := 84) (by omega) (by omega) dX7_loadPair_41 (by decide) (fun h4 => ?_) (fun h4 => ?_)
      · exact absurd h4 (by omega)
      · skip
        refine T_aload_n (pc := 44) (i := 0) dX7_loadPair_44 rfl rfl ?_
        refine R_getR (pc := 45) (i := 119) fl_X7_18 rfl kc_116 lc_116 rc_116_3 dX7_loadPair_45 ?_
        refine T_aload_n (pc := 48) (i := 0) dX7_loadPair_48 rfl rfl ?_
        refine R_getI (pc := 49) (x := nI P.length) fl_X7_34 rfl kc_116 lc_116 ((hO.i (by omega) 5).trans p2) dX7_loadPair_49 ?_
        refine T_bipush (pc := 52) (v := nI 8) dX7_loadPair_52 (by decide) ?_
        refine R_imul (pc := 54) dX7_loadPair_54 ?_
        refine T_aload_n (pc := 55) (i := 0) dX7_loadPair_55 rfl rfl ?_
        refine R_getR (pc := 56) (i := 118) fl_X7_15 rfl kc_116 lc_116 rc_116_1 dX7_loadPair_56 ?_
        refine T_iload (pc := 59) (i := 5) dX7_loadPair_59 rfl ?_
        refine R_iald (pc := 61) (x := nI (lst.getD i 0)) kc_118 lc_118 (by omega) (by first | decide | assumption) ((hO.i (by omega) i).trans hli.2) dX7_loadPair_61 ?_
        refine R_iadd (pc := 62) dX7_loadPair_62 ?_
        refine R_iald (pc := 63) (x := (Int32.ofInt (zc x (lst.getD i 0)))) kc_119 lc_119 (by omega) (by first | decide | assumption) ((hO.i (by omega) _).trans (cell _ hlb)) dX7_loadPair_63 ?_
        refine T_if_eq (pc := 64) (tgt := 78) dX7_loadPair_64 (by decide) (fun h5 => ?_) (fun h5 => ?_)
        · skip
          have z0 := (ofI_0 (by omega)).mp h5
          rw [if_pos z0] at ev
          refine R_iinc (pc := 78) (i := 5) (n := 1) (ls' := [some (.ref 116), some (.long (lN (cd x.1))), none, some (.long (lN (cd x.2))), none, some (.int (nI (i + 1)))]) dX7_loadPair_78 rfl rfl ?_
          refine T_goto (pc := 81) (tgt := 35) dX7_loadPair_81 (by decide) ?_
          exact ih (i + 1) m (by omega) (by rw [ev]; exact ha) ho hO
        · skip
          have z0 : ¬ zc x (lst.getD i 0) = 0 := fun z => h5 ((ofI_0 (by omega)).mpr z)
          rw [if_neg z0] at ev
          refine T_aload_n (pc := 67) (i := 0) dX7_loadPair_67 rfl rfl ?_
          refine R_getR (pc := 68) (i := 120) fl_X7_21 rfl kc_116 lc_116 rc_116_4 dX7_loadPair_68 ?_
          refine T_aload_n (pc := 71) (i := 0) dX7_loadPair_71 rfl rfl ?_
          refine R_getI (pc := 72) (x := nI P.length) fl_X7_34 rfl kc_116 lc_116 ((hO.i (by omega) 5).trans p2) dX7_loadPair_72 ?_
          refine T_iload (pc := 75) (i := 5) dX7_loadPair_75 rfl ?_
          refine R_iast (pc := 77) kc_120 lc_120 (by omega) (by first | decide | assumption) dX7_loadPair_77 ?_
          refine R_iinc (pc := 78) (i := 5) (n := 1) (ls' := [some (.ref 116), some (.long (lN (cd x.1))), none, some (.long (lN (cd x.2))), none, some (.int (nI (i + 1)))]) dX7_loadPair_78 rfl rfl ?_
          refine T_goto (pc := 81) (tgt := 35) dX7_loadPair_81 (by decide) ?_
          exact ih (i + 1) _ (by omega) (by rw [ev]; exact e_wI ⟨rfl, rfl⟩) (fun j hj => (n_wI (by omega)).trans (ho j hj)) (OfS.sI hO rfl)
  · exact absurd h1 (by omega)
theorem c_loadRules {lst : List Nat} {R : List Ru} (hR : RulesAt μ 4 R) (hL : ListAt μ lst) : Ex γ 4 0 0 M_X7_loadRules [.ref 116, .ref 4] (rm μ) (Rm none (fun m => (RwAt m lst R ∧ m.1 116 6 = nI R.length) ∧ OfS SR μ m ∧ m.1 116 2 = μ.1 116 2)) := by
  have h12 := hR.len
  refine Ex.of (by decide +kernel) rfl (Nat.le_of_ble_eq_true rfl) ?_
  show T _ _ _ _ _ _ _ _ _ [some (.ref 116), some (.ref 4), none] [] (rm μ)
  refine T_aload_n (pc := 0) (i := 0) dX7_loadRules_0 rfl rfl ?_
  refine T_iconst (pc := 1) (v := nI 0) dX7_loadRules_1 (by decide) ?_
  refine R_putI (pc := 2) fl_X7_34 ⟨rfl, rfl⟩ (Or.inl rfl) kc_116 lc_116 dX7_loadRules_2 ?_
  refine T_aload_n (pc := 5) (i := 0) dX7_loadRules_5 rfl rfl ?_
  refine R_getR (pc := 6) (i := 119) fl_X7_18 rfl kc_116 lc_116 rc_116_3 dX7_loadRules_6 ?_
  refine T_iconst (pc := 9) (v := nI 0) dX7_loadRules_9 (by decide) ?_
  refine R_callS0 (pc := 10) (av := [.ref 119, .int (nI 0)]) (rest := []) (Or.inl lk_X7_37) mk_J7_fill_53178 (c_fill kc_119 lc_119 (by decide)) dX7_loadRules_10 rfl rfl (Nat.le_of_ble_eq_true rfl) (by decide) rfl (Nat.le_refl _) (Nat.le_refl _) ?_
  have o1 : OfS SR μ (wF (wI μ 116 5 (nI 0)) 119 104 (nI 0)) := (OfS.sI (OfS.refl _ _) (Or.inl rfl) : OfS SR μ (wI μ 116 5 (nI 0))).trans (fun k hk => ⟨funext (fun j => n_wF (Or.inl (fun z => hk (by rw [z]; exact Or.inr (Or.inl rfl))))), rfl⟩)
  refine T_iconst (pc := 13) (v := nI 0) dX7_loadRules_13 (by decide) ?_
  refine T_istore_n (pc := 14) (i := 2) (ls' := [some (.ref 116), some (.ref 4), some (.int (nI 0))]) dX7_loadRules_14 rfl (by decide) rfl ?_
  suffices loop : ∀ (f i : Nat) (m : SM2), i + f = R.length → RwAt m lst (R.take i) → OfS SR μ m → m.1 116 2 = μ.1 116 2 → T γ 4 0 0 M_X7_loadRules (Rm none (fun m => (RwAt m lst R ∧ m.1 116 6 = nI R.length) ∧ OfS SR μ m ∧ m.1 116 2 = μ.1 116 2)) 0 0 15 [some (.ref 116), some (.ref 4), some (.int (nI i))] [] (rm m) by
    refine loop R.length 0 _ (Nat.zero_add _) ⟨⟨(n_wF (by omega)).trans (e_wI ⟨rfl, rfl⟩), Nat.zero_le _⟩, fun i b hi hb => absurd hi (Nat.not_lt_zero _), fun i hi => absurd hi (Nat.not_lt_zero _), fun j h1 h2 => e_wF ⟨rfl, h2⟩⟩ o1 ((n_wF (by omega)).trans (n_wI (by omega)))
  intro f
  induction f with
  | zero =>
    intro i m hi hP hO h2
    rw [List.take_of_length_le (by omega)] at hP
    refine T_iload_n (pc := 15) (i := 2) dX7_loadRules_15 rfl rfl ?_
    refine T_aload_n (pc := 16) (i := 1) dX7_loadRules_16 rfl rfl ?_
    refine R_getI (pc := 17) (x := nI R.length) fl_X7_43 rfl (kt_rules rules4) (lt_rules rules4) ((hO.i (by unfold SR; omega) 0).trans hR.size) dX7_loadRules_17 ?_
    refine R_icmp_ge (pc := 20) (tgt := 45) (by omega) (by omega) dX7_loadRules_20 (by decide) (fun h3 => ?_) (fun h3 => ?_)
    · skip
      refine T_aload_n (pc := 45) (i := 0) dX7_loadRules_45 rfl rfl ?_
      refine T_aload_n (pc := 46) (i := 0) dX7_loadRules_46 rfl rfl ?_
      refine R_getI (pc := 47) (x := nI R.length) fl_X7_34 rfl kc_116 lc_116 hP.1.1 dX7_loadRules_47 ?_
      refine R_putI (pc := 50) fl_X7_59 ⟨rfl, rfl⟩ (Or.inl rfl) kc_116 lc_116 dX7_loadRules_50 ?_
      exact T_vret dX7_loadRules_53 rfl (Nat.le_refl _) (Nat.le_refl _) ⟨_, rfl, rfl, ⟨hP.keep (n_wI (by omega)) (fun j => n_wI (by omega)) (fun j => n_wI (by omega)), e_wI ⟨rfl, rfl⟩⟩, OfS.sI hO (Or.inl rfl), (n_wI (by omega)).trans h2⟩
    · exact absurd h3 (by omega)
  | succ f ih =>
    intro i m hi hP hO h2
    have hi' : i < R.length := by omega
    have rw4 := hR.row i hi'
    have ok := hR.ok i hi'
    have hlt : (R.take i).length = i := by rw [List.length_take]; omega
    refine T_iload_n (pc := 15) (i := 2) dX7_loadRules_15 rfl rfl ?_
    refine T_aload_n (pc := 16) (i := 1) dX7_loadRules_16 rfl rfl ?_
    refine R_getI (pc := 17) (x := nI R.length) fl_X7_43 rfl (kt_rules rules4) (lt_rules rules4) ((hO.i (by unfold SR; omega) 0).trans hR.size) dX7_loadRules_17 ?_
    refine R_icmp_ge (pc := 20) (tgt := 45) (by omega) (by omega) dX7_loadRules_20 (by decide) (fun h3 => ?_) (fun h3 => ?_)
    · exact absurd h3 (by omega)
    · skip
      refine T_aload_n (pc := 23) (i := 0) dX7_loadRules_23 rfl rfl ?_
      refine T_aload_n (pc := 24) (i := 1) dX7_loadRules_24 rfl rfl ?_
      refine R_getR (pc := 25) (i := 5) fl_X7_48 rfl (kt_rules rules4) (lt_rules rules4) (rt_rules_left rules4) dX7_loadRules_25 ?_
      refine T_iload_n (pc := 28) (i := 2) dX7_loadRules_28 rfl rfl ?_
      refine R_lald (pc := 29) (x := lN (cd (rAt R i).1)) (kt_rules_left rules4) (lt_rules_left rules4) (by omega) (by first | decide | assumption) ((hO.l (by unfold SR; omega) i).trans rw4.1) dX7_loadRules_29 ?_
      refine T_aload_n (pc := 30) (i := 1) dX7_loadRules_30 rfl rfl ?_
      refine R_getR (pc := 31) (i := 6) fl_X7_52 rfl (kt_rules rules4) (lt_rules rules4) (rt_rules_right rules4) dX7_loadRules_31 ?_
      refine T_iload_n (pc := 34) (i := 2) dX7_loadRules_34 rfl rfl ?_
      refine R_lald (pc := 35) (x := lN (cd (rAt R i).2)) (kt_rules_right rules4) (lt_rules_right rules4) (by omega) (by first | decide | assumption) ((hO.l (by unfold SR; omega) i).trans rw4.2.1) dX7_loadRules_35 ?_
      refine R_callVm0 (pc := 36) (As := [.long (lN (cd (rAt R i).1)), .long (lN (cd (rAt R i).2))]) (rest := []) (Or.inl lk_X7_55) mk_X7_loadPair (c_loadPair (x := rAt R i) ⟨ok.l, ok.r⟩ (⟨h2.trans hL.1, hL.2.1, fun j hj => ⟨(hL.2.2 j hj).1, (hO.i (by unfold SR; omega) j).trans (hL.2.2 j hj).2⟩⟩ : ListAt m lst) hP (by omega)) kc_116 ⟨by decide, rfl⟩ lc_116 dX7_loadRules_36 rfl rfl (Nat.le_of_ble_eq_true rfl) (by decide) rfl (Nat.le_refl _) (Nat.le_refl _) (fun m1 h4 => ?_)
      obtain ⟨P1, k1, o2⟩ := h4
      rw [← take_s ([], []) hi'] at P1
      refine R_iinc (pc := 39) (i := 2) (n := 1) (ls' := [some (.ref 116), some (.ref 4), some (.int (nI (i + 1)))]) dX7_loadRules_39 rfl rfl ?_
      refine T_goto (pc := 42) (tgt := 15) dX7_loadRules_42 (by decide) ?_
      exact ih (i + 1) m1 (by omega) P1 (hO.trans o2) ((k1 2 (by decide)).trans h2)
theorem c_holds {lst : List Nat} {P : List Ru} {w : List Nat} {md rc i : Nat} (hP : RwAt μ lst P) (hok : ∀ x ∈ P, Mw x.1 ∧ Mw x.2) (hw : WgAt μ w) (hmd : μ.1 116 9 = nI md) (hm : md = 0 ∨ 2 ≤ md ∧ md < 6) (hrc : μ.1 116 6 = nI rc) (hr : rc ≤ 13) (hi : i < P.length) : Ex γ 1 0 0 M_X7_holds [.ref 116, .int (nI i)] (rm μ) (Fn (some (.int (bI (hoB md (decide (i < rc)) (rAt P i) w)))) μ) := by
  have h13 := hP.1.2
  obtain ⟨x, ex⟩ : ∃ x, rAt P i = x := ⟨_, rfl⟩
  have hx := hok (rAt P i) (by
    show P.getD i ([], []) ∈ P
    rw [List.getD_eq_getElem?_getD, List.getElem?_eq_getElem hi]
    exact List.getElem_mem hi)
  have hz := hP.2.1 i
  rw [ex] at hx hz ⊢
  have hb := sumZ_b hx hw.1.2
  obtain ⟨s, es⟩ : ∃ s, sumZ x w 8 = s := ⟨_, rfl⟩
  have hv : hoB md (decide (i < rc)) x w = if md = 0 then decide (0 < s) else if decide (i < rc) = true then decide (s % (md : Int) = 0) else !decide (s % (md : Int) = 0) := by unfold hoB; rw [es]
  rw [es] at hb
  have eT : (Int32.ofInt s).toInt = s := Int32.toInt_ofInt_of_le (by omega) (by omega)
  rw [hv]
  refine Ex.of (by decide +kernel) rfl (Nat.le_of_ble_eq_true rfl) ?_
  show T _ _ _ _ _ _ _ _ _ [some (.ref 116), some (.int (nI i)), none, none] [] (rm μ)
  refine T_iconst (pc := 0) (v := nI 0) dX7_holds_0 (by decide) ?_
  refine T_istore_n (pc := 1) (i := 2) (ls' := [some (.ref 116), some (.int (nI i)), some (.int (nI 0)), none]) dX7_holds_1 rfl (by decide) rfl ?_
  refine T_iconst (pc := 2) (v := nI 0) dX7_holds_2 (by decide) ?_
  refine T_istore_n (pc := 3) (i := 3) (ls' := [some (.ref 116), some (.int (nI i)), some (.int (nI 0)), some (.int (nI 0))]) dX7_holds_3 rfl (by decide) rfl ?_
  suffices loop : ∀ (f k : Nat), k + f = 8 → T γ 1 0 0 M_X7_holds (Fn (some (.int (bI (if md = 0 then decide (0 < s) else if decide (i < rc) = true then decide (s % (md : Int) = 0) else !decide (s % (md : Int) = 0))))) μ) 0 0 4 [some (.ref 116), some (.int (nI i)), some (.int (Int32.ofInt (sumZ x w k))), some (.int (nI k))] [] (rm μ) by
    exact loop 8 0 rfl
  intro f
  induction f with
  | zero =>
    intro k hk
    have e : k = 8 := by omega
    subst e
    rw [es]
    refine T_iload_n (pc := 4) (i := 3) dX7_holds_4 rfl rfl ?_
    refine T_bipush (pc := 5) (v := nI 8) dX7_holds_5 (by decide) ?_
    refine R_icmp_ge (pc := 7) (tgt := 37) (by omega) (by omega) dX7_holds_7 (by decide) (fun h1 => ?_) (fun h1 => ?_)
    · skip
      refine T_aload_n (pc := 37) (i := 0) dX7_holds_37 rfl rfl ?_
      refine R_getI (pc := 38) (x := nI md) fl_X7_74 rfl kc_116 lc_116 hmd dX7_holds_38 ?_
      refine R_if_ne (pc := 41) (tgt := 54) (by omega) dX7_holds_41 (by decide) (fun h2 => ?_) (fun h2 => ?_)
      · skip
        have hm2 : 2 ≤ md ∧ md < 6 := by omega
        rw [if_neg (by omega)]
        refine T_iload_n (pc := 54) (i := 2) dX7_holds_54 rfl rfl ?_
        refine T_aload_n (pc := 55) (i := 0) dX7_holds_55 rfl rfl ?_
        refine R_getI (pc := 56) (x := nI md) fl_X7_74 rfl kc_116 lc_116 hmd dX7_holds_56 ?_
        refine T_irem (pc := 59) dX7_holds_59 (fun z => nI_ne0 (by omega) (by omega) z) ?_
        refine T_if_ne (pc := 60) (tgt := 67) dX7_holds_60 (by decide) (fun h3 => ?_) (fun h3 => ?_)
        · skip
          have hn : ¬ s % (md : Int) = 0 := fun z => h3 ((irem_0 hb.1 hb.2 ⟨hm2.2, hm2.1⟩).mpr z)
          rw [decide_eq_false hn]
          refine T_iconst (pc := 67) (v := nI 0) dX7_holds_67 (by decide) ?_
          refine T_istore_n (pc := 68) (i := 3) (ls' := [some (.ref 116), some (.int (nI i)), some (.int ((Int32.ofInt s))), some (.int (nI 0))]) dX7_holds_68 rfl (by decide) rfl ?_
          refine T_iload_n (pc := 69) (i := 1) dX7_holds_69 rfl rfl ?_
          refine T_aload_n (pc := 70) (i := 0) dX7_holds_70 rfl rfl ?_
          refine R_getI (pc := 71) (x := nI rc) fl_X7_59 rfl kc_116 lc_116 hrc dX7_holds_71 ?_
          refine R_icmp_ge (pc := 74) (tgt := 81) (by omega) (by omega) dX7_holds_74 (by decide) (fun h4 => ?_) (fun h4 => ?_)
          · skip
            rw [decide_eq_false (by omega)]
            refine T_iload_n (pc := 81) (i := 3) dX7_holds_81 rfl rfl ?_
            refine R_if_ne (pc := 82) (tgt := 89) (by omega) dX7_holds_82 (by decide) (fun h5 => ?_) (fun h5 => ?_)
            · exact absurd h5 (by decide)
            · skip
              refine T_iconst (pc := 85) (v := nI 1) dX7_holds_85 (by decide) ?_
              refine T_goto (pc := 86) (tgt := 90) dX7_holds_86 (by decide) ?_
              exact T_iret (pc := 90) (ty := .boolean) dX7_holds_90 rfl (by decide) (Nat.le_refl _) (Nat.le_refl _) ⟨rfl, rfl⟩
          · skip
            rw [decide_eq_true (by omega)]
            refine T_iload_n (pc := 77) (i := 3) dX7_holds_77 rfl rfl ?_
            refine T_goto (pc := 78) (tgt := 90) dX7_holds_78 (by decide) ?_
            exact T_iret (pc := 90) (ty := .boolean) dX7_holds_90 rfl (by decide) (Nat.le_refl _) (Nat.le_refl _) ⟨rfl, rfl⟩
        · skip
          have hn : s % (md : Int) = 0 := (irem_0 hb.1 hb.2 ⟨hm2.2, hm2.1⟩).mp (by simpa using h3)
          rw [decide_eq_true hn]
          refine T_iconst (pc := 63) (v := nI 1) dX7_holds_63 (by decide) ?_
          refine T_goto (pc := 64) (tgt := 68) dX7_holds_64 (by decide) ?_
          refine T_istore_n (pc := 68) (i := 3) (ls' := [some (.ref 116), some (.int (nI i)), some (.int ((Int32.ofInt s))), some (.int (nI 1))]) dX7_holds_68 rfl (by decide) rfl ?_
          refine T_iload_n (pc := 69) (i := 1) dX7_holds_69 rfl rfl ?_
          refine T_aload_n (pc := 70) (i := 0) dX7_holds_70 rfl rfl ?_
          refine R_getI (pc := 71) (x := nI rc) fl_X7_59 rfl kc_116 lc_116 hrc dX7_holds_71 ?_
          refine R_icmp_ge (pc := 74) (tgt := 81) (by omega) (by omega) dX7_holds_74 (by decide) (fun h4 => ?_) (fun h4 => ?_)
          · skip
            rw [decide_eq_false (by omega)]
            refine T_iload_n (pc := 81) (i := 3) dX7_holds_81 rfl rfl ?_
            refine R_if_ne (pc := 82) (tgt := 89) (by omega) dX7_holds_82 (by decide) (fun h5 => ?_) (fun h5 => ?_)
            · skip
              refine T_iconst (pc := 89) (v := nI 0) dX7_holds_89 (by decide) ?_
              exact T_iret (pc := 90) (ty := .boolean) dX7_holds_90 rfl (by decide) (Nat.le_refl _) (Nat.le_refl _) ⟨rfl, rfl⟩
            · exact absurd h5 (by decide)
          · skip
            rw [decide_eq_true (by omega)]
            refine T_iload_n (pc := 77) (i := 3) dX7_holds_77 rfl rfl ?_
            refine T_goto (pc := 78) (tgt := 90) dX7_holds_78 (by decide) ?_
            exact T_iret (pc := 90) (ty := .boolean) dX7_holds_90 rfl (by decide) (Nat.le_refl _) (Nat.le_refl _) ⟨rfl, rfl⟩
      · skip
        rw [if_pos (by omega)]
        refine T_iload_n (pc := 44) (i := 2) dX7_holds_44 rfl rfl ?_
        refine T_if_le (pc := 45) (tgt := 52) dX7_holds_45 (by decide) (fun h3 => ?_) (fun h3 => ?_)
        · skip
          have hs : ¬ 0 < s := by
            rw [fa_le, eT] at h3
            have e0 : (0 : Int32).toInt = 0 := rfl
            omega
          rw [decide_eq_false hs]
          refine T_iconst (pc := 52) (v := nI 0) dX7_holds_52 (by decide) ?_
          exact T_iret (pc := 53) (ty := .boolean) dX7_holds_53 rfl (by decide) (Nat.le_refl _) (Nat.le_refl _) ⟨rfl, rfl⟩
        · skip
          have hs : 0 < s := by
            rw [fa_le, eT] at h3
            have e0 : (0 : Int32).toInt = 0 := rfl
            omega
          rw [decide_eq_true hs]
          refine T_iconst (pc := 48) (v := nI 1) dX7_holds_48 (by decide) ?_
          refine T_goto (pc := 49) (tgt := 53) dX7_holds_49 (by decide) ?_
          exact T_iret (pc := 53) (ty := .boolean) dX7_holds_53 rfl (by decide) (Nat.le_refl _) (Nat.le_refl _) ⟨rfl, rfl⟩
    · exact absurd h1 (by decide)
  | succ f ih =>
    intro k hk
    refine T_iload_n (pc := 4) (i := 3) dX7_holds_4 rfl rfl ?_
    refine T_bipush (pc := 5) (v := nI 8) dX7_holds_5 (by decide) ?_
    refine R_icmp_ge (pc := 7) (tgt := 37) (by omega) (by omega) dX7_holds_7 (by decide) (fun h1 => ?_) (fun h1 => ?_)
    · exact absurd h1 (by omega)
    · skip
      refine T_iload_n (pc := 10) (i := 2) dX7_holds_10 rfl rfl ?_
      refine T_aload_n (pc := 11) (i := 0) dX7_holds_11 rfl rfl ?_
      refine R_getR (pc := 12) (i := 119) fl_X7_18 rfl kc_116 lc_116 rc_116_3 dX7_holds_12 ?_
      refine T_iload_n (pc := 15) (i := 1) dX7_holds_15 rfl rfl ?_
      refine T_bipush (pc := 16) (v := nI 8) dX7_holds_16 (by decide) ?_
      refine R_imul (pc := 18) dX7_holds_18 ?_
      refine T_iload_n (pc := 19) (i := 3) dX7_holds_19 rfl rfl ?_
      refine R_iadd (pc := 20) dX7_holds_20 ?_
      refine R_iald (pc := 21) (x := (Int32.ofInt (zc x k))) kc_119 lc_119 (by omega) (by first | decide | assumption) (hz k hi (by omega)) dX7_holds_21 ?_
      refine T_aload_n (pc := 22) (i := 0) dX7_holds_22 rfl rfl ?_
      refine R_getR (pc := 23) (i := 117) fl_X7_9 rfl kc_116 lc_116 rc_116_0 dX7_holds_23 ?_
      refine T_iload_n (pc := 26) (i := 3) dX7_holds_26 rfl rfl ?_
      refine R_iald (pc := 27) (x := nI (w.getD k 0)) kc_117 lc_117 (by omega) (by first | decide | assumption) (hw.2 k (by omega)) dX7_holds_27 ?_
      refine T_imul (pc := 28) dX7_holds_28 ?_
      refine T_iadd (pc := 29) dX7_holds_29 ?_
      refine T_topi (v := (Int32.ofInt (sumZ x w (k + 1)))) ((by rw [show sumZ x w (k + 1) = sumZ x w k + zc x k * (w.getD k 0 : Int) from rfl, Int32.ofInt_add, Int32.ofInt_mul, ofI_n])) ?_
      refine T_istore_n (pc := 30) (i := 2) (ls' := [some (.ref 116), some (.int (nI i)), some (.int ((Int32.ofInt (sumZ x w (k + 1))))), some (.int (nI k))]) dX7_holds_30 rfl (by decide) rfl ?_
      refine R_iinc (pc := 31) (i := 3) (n := 1) (ls' := [some (.ref 116), some (.int (nI i)), some (.int ((Int32.ofInt (sumZ x w (k + 1))))), some (.int (nI (k + 1)))]) dX7_holds_31 rfl rfl ?_
      refine T_goto (pc := 34) (tgt := 4) dX7_holds_34 (by decide) ?_
      exact ih (k + 1) (by omega)
end SD

