/-! THE MODEL: THE LAW in its world; a LINE reckoned -/
/-- a sign as the model has it: which step, and its number -/
def sgA (s : Int32) : Int32 := if s = -2 then 0 else if s = -3 then 1 else if s = -4 then 2 else if s = -5 then 3 else if s = -6 then 4 else if s = -7 then 5 else if s = -8 then 10 else if s = -10 then 7 else if s = -11 then 8 else if s = -12 then 9 else if s = -13 then 11 else if s = -14 then 12 else 6
def sgN (s : Int32) : Int32 := if sgA s = 6 then s else 0
def ofL (LL : List (List Int32)) (n : Nat) : Nat := (LL.take n).flatten.length
abbrev lnA (LL : List (List Int32)) (n : Nat) : List Int32 := LL.getD n []
/-- LINES at b of a row of ints -/
def mdL (g : Nat → Int32) (b : Nat) (LL : List (List Int32)) : Prop := (LL.length ≤ 12 ∧ LL.flatten.length ≤ 400) ∧ (∀ n, n < LL.length → g (b + 1 + 2 * n) = nI (ofL LL n) ∧ g (b + 1 + 2 * n + 1) = nI (ofL LL (n + 1))) ∧ ∀ i, i < LL.flatten.length → g (b + 25 + 2 * i) = sgA (LL.flatten.getD i 0) ∧ g (b + 25 + 2 * i + 1) = sgN (LL.flatten.getD i 0)
/-- THE LAW that is told, and how many LINES (-1: none told) -/
def mdH (g : Nat → Int32) (c : Int32) (LL : List (List Int32)) : Prop := ((c = -1 ∧ g 4 = nI 0 ∧ LL = []) ∨ (g 4 = nI 1 ∧ c = nI LL.length ∧ g 339 = nI LL.length)) ∧ mdL g 339 LL
def LawM (g : Nat → Int32) (LL : List (List Int32)) : Prop := ∃ c, mdH g c LL ∧ ∀ ln ∈ LL, wfl ln
/-- RULES and PLACES as the model looks at them -/
def mEnv (μ : SM2) (R : List Ru) (LL : List (List Int32)) (w : Wk) : Prop := mdR (μ.1 573) R ∧ LawM (μ.1 573) LL ∧ (w.1 < 4 ∧ w.2.1 < 2 ^ 12) ∧ (∃ t, t < 2 ^ 12 ∧ μ.1 572 16 = nI t ∧ ∀ r, r < R.length → t.testBit r = !w.2.1.testBit r) ∧ ((μ.1 572 17 = 1 ∧ w.2.2 = brQ R LL (μ.1 573 7)) ∨ (μ.1 572 17 = 0 ∧ ∀ r p n, w.2.2 r p n = false))
/-- what may be another: of the model's own fields F, of the cells S -/
def OfM (F S : Nat → Prop) (μ m : SM2) : Prop := OfS (fun k => k = 572 ∨ S k) μ m ∧ ∀ j, ¬ F j → m.1 572 j = μ.1 572 j ∧ m.2 572 j = μ.2 572 j
theorem OfM.refl (F S : Nat → Prop) (μ : SM2) : OfM F S μ μ := ⟨OfS.refl _ _, fun _ _ => ⟨rfl, rfl⟩⟩
theorem OfM.trans {F S : Nat → Prop} {μ m m' : SM2} (h : OfM F S μ m) (g : OfM F S m m') : OfM F S μ m' := ⟨h.1.trans g.1, fun j hj => ⟨(g.2 j hj).1.trans (h.2 j hj).1, (g.2 j hj).2.trans (h.2 j hj).2⟩⟩
theorem OfM.mono {F S F' S' : Nat → Prop} {μ m : SM2} (h : OfM F S μ m) (g : ∀ j, F j → F' j) (q : ∀ k, S k → S' k) : OfM F' S' μ m := ⟨h.1.mono (fun k hk => hk.elim Or.inl (fun z => Or.inr (q k z))), fun j hj => h.2 j (fun z => hj (g j z))⟩
theorem OfS.m {F S S' : Nat → Prop} {μ m : SM2} (h : OfS S μ m) (g : ∀ k, S k → k ≠ 572 ∧ S' k) : OfM F S' μ m := ⟨h.mono (fun k hk => Or.inr (g k hk).2), fun j _ => ⟨h.i (fun z => (g 572 z).1 rfl) j, h.l (fun z => (g 572 z).1 rfl) j⟩⟩
theorem OfM.c {F S : Nat → Prop} {μ m : SM2} (h : OfM F S μ m) {k : Nat} (h2 : k ≠ 572) (g : ¬ S k) : m.1 k = μ.1 k ∧ m.2 k = μ.2 k := h.1 k (fun z => z.elim h2 g)
theorem OfM.i {F S : Nat → Prop} {μ m : SM2} (h : OfM F S μ m) {k : Nat} (h2 : k ≠ 572) (g : ¬ S k) (j : Nat) : m.1 k j = μ.1 k j := congrFun (h.c h2 g).1 j
theorem OfM.l {F S : Nat → Prop} {μ m : SM2} (h : OfM F S μ m) {k : Nat} (h2 : k ≠ 572) (g : ¬ S k) (j : Nat) : m.2 k j = μ.2 k j := congrFun (h.c h2 g).2 j
theorem OfM.fi {F S : Nat → Prop} {μ m : SM2} (h : OfM F S μ m) {j : Nat} (g : ¬ F j) : m.1 572 j = μ.1 572 j := (h.2 j g).1
theorem OfM.fl {F S : Nat → Prop} {μ m : SM2} (h : OfM F S μ m) {j : Nat} (g : ¬ F j) : m.2 572 j = μ.2 572 j := (h.2 j g).2
theorem OfM.sF {F S : Nat → Prop} {μ m : SM2} {j : Nat} {x : Int32} (h : OfM F S μ m) (g : F j) : OfM F S μ (wI m 572 j x) := ⟨OfS.sI h.1 (Or.inl rfl), fun i hi => ⟨(n_wI (Or.inr (fun z => hi (by rw [z]; exact g)))).trans (h.2 i hi).1, (h.2 i hi).2⟩⟩
theorem OfM.sG {F S : Nat → Prop} {μ m : SM2} {j : Nat} {x : Int64} (h : OfM F S μ m) (g : F j) : OfM F S μ (wL m 572 j x) := ⟨OfS.sL h.1 (Or.inl rfl), fun i hi => ⟨(h.2 i hi).1, (n_wL (Or.inr (fun z => hi (by rw [z]; exact g)))).trans (h.2 i hi).2⟩⟩
theorem OfM.sI {F S : Nat → Prop} {μ m : SM2} {k j : Nat} {x : Int32} (h : OfM F S μ m) (g : S k) (h2 : k ≠ 572) : OfM F S μ (wI m k j x) := ⟨OfS.sI h.1 (Or.inr g), fun i hi => ⟨(n_wI (Or.inl (fun z => h2 z.symm))).trans (h.2 i hi).1, (h.2 i hi).2⟩⟩
theorem OfM.sL {F S : Nat → Prop} {μ m : SM2} {k j : Nat} {x : Int64} (h : OfM F S μ m) (g : S k) (h2 : k ≠ 572) : OfM F S μ (wL m k j x) := ⟨OfS.sL h.1 (Or.inr g), fun i hi => ⟨(h.2 i hi).1, (n_wL (Or.inl (fun z => h2 z.symm))).trans (h.2 i hi).2⟩⟩
theorem mEnv.of {μ m : SM2} {R : List Ru} {LL : List (List Int32)} {w : Wk} (h : mEnv μ R LL w) (e : m.1 573 = μ.1 573) (e1 : m.1 572 16 = μ.1 572 16) (e2 : m.1 572 17 = μ.1 572 17) : mEnv m R LL w := by
  unfold mEnv at h ⊢
  rw [e, e1, e2]
  exact h
theorem mEnv.om {F S : Nat → Prop} {μ m : SM2} {R : List Ru} {LL : List (List Int32)} {w : Wk} (h : mEnv μ R LL w) (g : OfM F S μ m) (h0 : ¬ S 573) (h1 : ¬ F 16) (h2 : ¬ F 17) : mEnv m R LL w := h.of (g.c (by decide) h0).1 (g.fi h1) (g.fi h2)
def S9 (k : Nat) : Prop := k = 579
theorem mEnv.s9 {μ m : SM2} {R : List Ru} {LL : List (List Int32)} {w : Wk} (h : mEnv μ R LL w) (g : OfS S9 μ m) : mEnv m R LL w := h.of (g 573 (by unfold S9; omega)).1 (g.i (by unfold S9; omega) 16) (g.i (by unfold S9; omega) 17)
theorem ofL_s {LL : List (List Int32)} {n : Nat} (h : n < LL.length) : ofL LL (n + 1) = ofL LL n + (lnA LL n).length := by
  unfold ofL lnA
  rw [take_s [] h, List.flatten_append, List.length_append]
  simp
theorem ofL_le (LL : List (List Int32)) (n : Nat) : ofL LL n ≤ LL.flatten.length := by
  unfold ofL
  have h : LL.flatten.length = ((LL.take n) ++ LL.drop n).flatten.length := by rw [List.take_append_drop]
  rw [h, List.flatten_append, List.length_append]
  omega
theorem flat_at : ∀ {LL : List (List Int32)} {n i : Nat}, n < LL.length → i < (lnA LL n).length → LL.flatten.getD (ofL LL n + i) 0 = (lnA LL n).getD i 0
  | [], _, _, h, _ => absurd h (Nat.not_lt_zero _)
  | a :: t, 0, i, _, hi => by
    have hi2 : i < a.length := hi
    show (a ++ t.flatten).getD (0 + i) 0 = a.getD i 0
    rw [Nat.zero_add, List.getD_eq_getElem?_getD, List.getElem?_append_left hi2, ← List.getD_eq_getElem?_getD]
  | a :: t, n + 1, i, h, hi => by
    have hi2 : i < (lnA t n).length := hi
    have ih := flat_at (LL := t) (n := n) (i := i) (by simpa using h) hi2
    have e : ofL (a :: t) (n + 1) = a.length + ofL t n := by
      unfold ofL
      rw [List.take_succ_cons, List.flatten_cons, List.length_append]
    show (a ++ t.flatten).getD (ofL (a :: t) (n + 1) + i) 0 = (lnA t n).getD i 0
    rw [e, ← ih, List.getD_eq_getElem?_getD, List.getElem?_append_right (by omega), ← List.getD_eq_getElem?_getD, show a.length + ofL t n + i - a.length = ofL t n + i by omega]
theorem mdL.at {g : Nat → Int32} {b : Nat} {LL : List (List Int32)} (h : mdL g b LL) {n i : Nat} (hn : n < LL.length) (hi : i < (lnA LL n).length) : (ofL LL n + i < 400) ∧ g (b + 25 + 2 * (ofL LL n + i)) = sgA ((lnA LL n).getD i 0) ∧ g (b + 25 + 2 * (ofL LL n + i) + 1) = sgN ((lnA LL n).getD i 0) := by
  have h1 := ofL_s hn
  have h2 := ofL_le LL (n + 1)
  have h3 := h.1.2
  have h4 := h.2.2 (ofL LL n + i) (by omega)
  rw [flat_at hn hi] at h4
  exact ⟨by omega, h4⟩
theorem sgA_push {s : Int32} (h : -8 < s) : sgA s = 0 ∨ sgA s = 1 ∨ sgA s = 2 ∨ sgA s = 3 ∨ sgA s = 4 ∨ sgA s = 5 ∨ sgA s = 6 := by
  have g : ∀ c : Int32, ¬ -8 < c → s ≠ c := fun c hc z => hc (by rw [← z]; exact h)
  unfold sgA
  rw [if_neg (g (-8) (by decide)), if_neg (g (-10) (by decide)), if_neg (g (-11) (by decide)), if_neg (g (-12) (by decide)), if_neg (g (-13) (by decide)), if_neg (g (-14) (by decide))]
  split
  · exact Or.inl rfl
  split
  · exact Or.inr (Or.inl rfl)
  split
  · exact Or.inr (Or.inr (Or.inl rfl))
  split
  · exact Or.inr (Or.inr (Or.inr (Or.inl rfl)))
  split
  · exact Or.inr (Or.inr (Or.inr (Or.inr (Or.inl rfl))))
  split
  · exact Or.inr (Or.inr (Or.inr (Or.inr (Or.inr (Or.inl rfl)))))
  · exact Or.inr (Or.inr (Or.inr (Or.inr (Or.inr (Or.inr rfl)))))
section ML1
variable {γ : Ga} {μ : SM2}
theorem m_asTold {X : Td} {LL : List (List Int32)} (hX : mdT (μ.1 573) X) (hL : LawM (μ.1 573) LL) : Ex γ 2 0 0 M_X12_asTold [.ref 572] (rm μ) (Rm none (fun m => mEnv m X.R LL (wOf X LL) ∧ OfM (fun j => j = 16 ∨ j = 17) (fun _ => False) μ m)) := by
  have h12 := hX.1.1.2
  have hp : 1 ≤ 1 * 2 ^ X.R.length := by rw [Nat.one_mul]; exact Nat.pow_pos (by decide)
  have hp2 : 2 ^ X.R.length ≤ 2 ^ 12 := Nat.pow_le_pow_right (by decide) h12
  refine Ex.of (by decide +kernel) rfl (Nat.le_of_ble_eq_true rfl) ?_
  show T _ _ _ _ _ _ _ _ _ [some (.ref 572)] [] (rm μ)
  refine T_aload_n (pc := 0) (i := 0) dX12_asTold_0 rfl rfl ?_
  refine T_iconst (pc := 1) (v := nI 1) dX12_asTold_1 (by decide) ?_
  refine T_aload_n (pc := 2) (i := 0) dX12_asTold_2 rfl rfl ?_
  refine R_callV1 (pc := 3) (As := []) (rest := [.int (nI 1), .ref 572]) (Or.inl lk_X12_121) mk_X12_rules (m_rules hX.1) kc_572 ⟨by decide, rfl⟩ lc_572 dX12_asTold_3 rfl rfl (Nat.le_of_ble_eq_true rfl) (by decide) rfl (Nat.le_refl _) (Nat.le_refl _) ?_
  refine R_ishl (pc := 6) (by omega) dX12_asTold_6 ?_
  refine T_iconst (pc := 7) (v := nI 1) dX12_asTold_7 (by decide) ?_
  refine R_isub (pc := 8) hp dX12_asTold_8 ?_
  refine R_putI (pc := 9) fl_X12_305 ⟨rfl, rfl⟩ (Or.inl rfl) kc_572 lc_572 dX12_asTold_9 ?_
  refine T_aload_n (pc := 12) (i := 0) dX12_asTold_12 rfl rfl ?_
  refine T_iconst (pc := 13) (v := nI 1) dX12_asTold_13 (by decide) ?_
  refine R_putI (pc := 14) fl_X12_308 ⟨rfl, rfl⟩ (Or.inr (Or.inr rfl)) kc_572 lc_572 dX12_asTold_14 ?_
  refine T_vret dX12_asTold_17 rfl (Nat.le_refl _) (Nat.le_refl _) ⟨_, rfl, rfl, ⟨?_, ?_, ⟨hX.2.2.2.2.1.2.1, show (0 : Nat) < 2 ^ 12 by decide⟩, ⟨1 * 2 ^ X.R.length - 1, by omega, (n_wI (by omega)).trans (e_wI ⟨rfl, rfl⟩), fun r hr => ?_⟩, Or.inl ⟨e_wI ⟨rfl, rfl⟩, ?_⟩⟩, OfM.sF (OfM.sF (OfM.refl _ _ _) (Or.inl rfl)) (Or.inr rfl)⟩
  · exact hX.1
  · exact hL
  · rw [Nat.one_mul, Nat.testBit_two_pow_sub_one, decide_eq_true hr]
    show true = !(Nat.testBit 0 r)
    rw [Nat.zero_testBit]
    rfl
  · show brQ X.R LL X.year = brQ X.R LL (μ.1 573 7)
    rw [hX.2.2.2.2.2.2.2.2.1]
theorem m_factOf {s y : Int32} {R : List Ru} {r p n : Nat} (hR : mdR (μ.1 573) R) (hr : r < R.length) (hn : n ≤ 20) (hp : p + (rAt R r).1.length ≤ n) (hy : μ.1 573 7 = y) (hs : -8 < s) : Ex γ 5 0 0 M_X12_factOf [.ref 572, .int (sgA s), .int (sgN s), .int (nI r), .int (nI p), .int (nI n)] (rm μ) (Fn (some (.int (sgV (nI r, nI p, nI n, nI (n - p - (rAt R r).1.length), y) s))) μ) := by
  by_cases h2 : s = -2
  · subst h2
    refine Ex.of (by decide +kernel) rfl (Nat.le_of_ble_eq_true rfl) ?_
    show T _ _ _ _ _ _ _ _ _ [some (.ref 572), some (.int (nI 0)), some (.int (nI 0)), some (.int (nI r)), some (.int (nI p)), some (.int (nI n)), none] [] (rm μ)
    refine T_iload (pc := 0) (i := 5) dX12_factOf_0 rfl ?_
    refine T_iload (pc := 2) (i := 4) dX12_factOf_2 rfl ?_
    refine R_isub (pc := 4) (by omega) dX12_factOf_4 ?_
    refine T_aload_n (pc := 5) (i := 0) dX12_factOf_5 rfl rfl ?_
    refine T_iload_n (pc := 6) (i := 3) dX12_factOf_6 rfl rfl ?_
    refine R_callV1 (pc := 7) (As := [.int (nI r)]) (rest := [.int (nI (n - p))]) (Or.inl lk_X12_311) mk_X12_lefts (m_lefts hR hr) kc_572 ⟨by decide, rfl⟩ lc_572 dX12_factOf_7 rfl rfl (Nat.le_of_ble_eq_true rfl) (by decide) rfl (Nat.le_refl _) (Nat.le_refl _) ?_
    refine R_isub (pc := 10) (by omega) dX12_factOf_10 ?_
    refine T_istore (pc := 11) (i := 6) (ls' := [some (.ref 572), some (.int (nI 0)), some (.int (nI 0)), some (.int (nI r)), some (.int (nI p)), some (.int (nI n)), some (.int (nI ((n - p) - ((rAt R r).1.length))))]) dX12_factOf_11 (by decide) rfl ?_
    refine T_iload_n (pc := 13) (i := 1) dX12_factOf_13 rfl rfl ?_
    refine T_tableIn (pc := 14) (tgt := 52) dX12_factOf_14 (by decide) (by decide) rfl (by decide) ?_
    refine T_iload_n (pc := 52) (i := 3) dX12_factOf_52 rfl rfl ?_
    exact T_iret (pc := 53) (ty := .int) dX12_factOf_53 rfl rfl (Nat.le_refl _) (Nat.le_refl _) ⟨rfl, rfl⟩
  by_cases h3 : s = -3
  · subst h3
    refine Ex.of (by decide +kernel) rfl (Nat.le_of_ble_eq_true rfl) ?_
    show T _ _ _ _ _ _ _ _ _ [some (.ref 572), some (.int (nI 1)), some (.int (nI 0)), some (.int (nI r)), some (.int (nI p)), some (.int (nI n)), none] [] (rm μ)
    refine T_iload (pc := 0) (i := 5) dX12_factOf_0 rfl ?_
    refine T_iload (pc := 2) (i := 4) dX12_factOf_2 rfl ?_
    refine R_isub (pc := 4) (by omega) dX12_factOf_4 ?_
    refine T_aload_n (pc := 5) (i := 0) dX12_factOf_5 rfl rfl ?_
    refine T_iload_n (pc := 6) (i := 3) dX12_factOf_6 rfl rfl ?_
    refine R_callV1 (pc := 7) (As := [.int (nI r)]) (rest := [.int (nI (n - p))]) (Or.inl lk_X12_311) mk_X12_lefts (m_lefts hR hr) kc_572 ⟨by decide, rfl⟩ lc_572 dX12_factOf_7 rfl rfl (Nat.le_of_ble_eq_true rfl) (by decide) rfl (Nat.le_refl _) (Nat.le_refl _) ?_
    refine R_isub (pc := 10) (by omega) dX12_factOf_10 ?_
    refine T_istore (pc := 11) (i := 6) (ls' := [some (.ref 572), some (.int (nI 1)), some (.int (nI 0)), some (.int (nI r)), some (.int (nI p)), some (.int (nI n)), some (.int (nI ((n - p) - ((rAt R r).1.length))))]) dX12_factOf_11 (by decide) rfl ?_
    refine T_iload_n (pc := 13) (i := 1) dX12_factOf_13 rfl rfl ?_
    refine T_tableIn (pc := 14) (tgt := 54) dX12_factOf_14 (by decide) (by decide) rfl (by decide) ?_
    refine T_iload (pc := 54) (i := 4) dX12_factOf_54 rfl ?_
    exact T_iret (pc := 56) (ty := .int) dX12_factOf_56 rfl rfl (Nat.le_refl _) (Nat.le_refl _) ⟨rfl, rfl⟩
  by_cases h4 : s = -4
  · subst h4
    refine Ex.of (by decide +kernel) rfl (Nat.le_of_ble_eq_true rfl) ?_
    show T _ _ _ _ _ _ _ _ _ [some (.ref 572), some (.int (nI 2)), some (.int (nI 0)), some (.int (nI r)), some (.int (nI p)), some (.int (nI n)), none] [] (rm μ)
    refine T_iload (pc := 0) (i := 5) dX12_factOf_0 rfl ?_
    refine T_iload (pc := 2) (i := 4) dX12_factOf_2 rfl ?_
    refine R_isub (pc := 4) (by omega) dX12_factOf_4 ?_
    refine T_aload_n (pc := 5) (i := 0) dX12_factOf_5 rfl rfl ?_
    refine T_iload_n (pc := 6) (i := 3) dX12_factOf_6 rfl rfl ?_
    refine R_callV1 (pc := 7) (As := [.int (nI r)]) (rest := [.int (nI (n - p))]) (Or.inl lk_X12_311) mk_X12_lefts (m_lefts hR hr) kc_572 ⟨by decide, rfl⟩ lc_572 dX12_factOf_7 rfl rfl (Nat.le_of_ble_eq_true rfl) (by decide) rfl (Nat.le_refl _) (Nat.le_refl _) ?_
    refine R_isub (pc := 10) (by omega) dX12_factOf_10 ?_
    refine T_istore (pc := 11) (i := 6) (ls' := [some (.ref 572), some (.int (nI 2)), some (.int (nI 0)), some (.int (nI r)), some (.int (nI p)), some (.int (nI n)), some (.int (nI ((n - p) - ((rAt R r).1.length))))]) dX12_factOf_11 (by decide) rfl ?_
    refine T_iload_n (pc := 13) (i := 1) dX12_factOf_13 rfl rfl ?_
    refine T_tableIn (pc := 14) (tgt := 57) dX12_factOf_14 (by decide) (by decide) rfl (by decide) ?_
    refine T_iload (pc := 57) (i := 5) dX12_factOf_57 rfl ?_
    exact T_iret (pc := 59) (ty := .int) dX12_factOf_59 rfl rfl (Nat.le_refl _) (Nat.le_refl _) ⟨rfl, rfl⟩
  by_cases h5 : s = -5
  · subst h5
    refine Ex.of (by decide +kernel) rfl (Nat.le_of_ble_eq_true rfl) ?_
    show T _ _ _ _ _ _ _ _ _ [some (.ref 572), some (.int (nI 3)), some (.int (nI 0)), some (.int (nI r)), some (.int (nI p)), some (.int (nI n)), none] [] (rm μ)
    refine T_iload (pc := 0) (i := 5) dX12_factOf_0 rfl ?_
    refine T_iload (pc := 2) (i := 4) dX12_factOf_2 rfl ?_
    refine R_isub (pc := 4) (by omega) dX12_factOf_4 ?_
    refine T_aload_n (pc := 5) (i := 0) dX12_factOf_5 rfl rfl ?_
    refine T_iload_n (pc := 6) (i := 3) dX12_factOf_6 rfl rfl ?_
    refine R_callV1 (pc := 7) (As := [.int (nI r)]) (rest := [.int (nI (n - p))]) (Or.inl lk_X12_311) mk_X12_lefts (m_lefts hR hr) kc_572 ⟨by decide, rfl⟩ lc_572 dX12_factOf_7 rfl rfl (Nat.le_of_ble_eq_true rfl) (by decide) rfl (Nat.le_refl _) (Nat.le_refl _) ?_
    refine R_isub (pc := 10) (by omega) dX12_factOf_10 ?_
    refine T_istore (pc := 11) (i := 6) (ls' := [some (.ref 572), some (.int (nI 3)), some (.int (nI 0)), some (.int (nI r)), some (.int (nI p)), some (.int (nI n)), some (.int (nI ((n - p) - ((rAt R r).1.length))))]) dX12_factOf_11 (by decide) rfl ?_
    refine T_iload_n (pc := 13) (i := 1) dX12_factOf_13 rfl rfl ?_
    refine T_tableIn (pc := 14) (tgt := 60) dX12_factOf_14 (by decide) (by decide) rfl (by decide) ?_
    refine T_iload (pc := 60) (i := 6) dX12_factOf_60 rfl ?_
    exact T_iret (pc := 62) (ty := .int) dX12_factOf_62 rfl rfl (Nat.le_refl _) (Nat.le_refl _) ⟨rfl, rfl⟩
  by_cases h6 : s = -6
  · subst h6
    refine Ex.of (by decide +kernel) rfl (Nat.le_of_ble_eq_true rfl) ?_
    show T _ _ _ _ _ _ _ _ _ [some (.ref 572), some (.int (nI 4)), some (.int (nI 0)), some (.int (nI r)), some (.int (nI p)), some (.int (nI n)), none] [] (rm μ)
    refine T_iload (pc := 0) (i := 5) dX12_factOf_0 rfl ?_
    refine T_iload (pc := 2) (i := 4) dX12_factOf_2 rfl ?_
    refine R_isub (pc := 4) (by omega) dX12_factOf_4 ?_
    refine T_aload_n (pc := 5) (i := 0) dX12_factOf_5 rfl rfl ?_
    refine T_iload_n (pc := 6) (i := 3) dX12_factOf_6 rfl rfl ?_
    refine R_callV1 (pc := 7) (As := [.int (nI r)]) (rest := [.int (nI (n - p))]) (Or.inl lk_X12_311) mk_X12_lefts (m_lefts hR hr) kc_572 ⟨by decide, rfl⟩ lc_572 dX12_factOf_7 rfl rfl (Nat.le_of_ble_eq_true rfl) (by decide) rfl (Nat.le_refl _) (Nat.le_refl _) ?_
    refine R_isub (pc := 10) (by omega) dX12_factOf_10 ?_
    refine T_istore (pc := 11) (i := 6) (ls' := [some (.ref 572), some (.int (nI 4)), some (.int (nI 0)), some (.int (nI r)), some (.int (nI p)), some (.int (nI n)), some (.int (nI ((n - p) - ((rAt R r).1.length))))]) dX12_factOf_11 (by decide) rfl ?_
    refine T_iload_n (pc := 13) (i := 1) dX12_factOf_13 rfl rfl ?_
    refine T_tableIn (pc := 14) (tgt := 63) dX12_factOf_14 (by decide) (by decide) rfl (by decide) ?_
    refine T_aload_n (pc := 63) (i := 0) dX12_factOf_63 rfl rfl ?_
    refine R_getR (pc := 64) (i := 573) fl_X12_29 rfl kc_572 lc_572 rc_572_1 dX12_factOf_64 ?_
    refine T_bipush (pc := 67) (v := nI 7) dX12_factOf_67 (by decide) ?_
    refine R_iald (pc := 69) (x := y) kc_573 lc_573 (by omega) (by first | decide | assumption) hy dX12_factOf_69 ?_
    exact T_iret (pc := 70) (ty := .int) dX12_factOf_70 rfl rfl (Nat.le_refl _) (Nat.le_refl _) ⟨rfl, rfl⟩
  by_cases h7 : s = -7
  · subst h7
    show Ex γ 5 0 0 M_X12_factOf _ _ (Fn (some (.int (if nI p = 0 ∨ nI (n - p - (rAt R r).1.length) = 0 then 1 else 0))) μ)
    refine Ex.of (by decide +kernel) rfl (Nat.le_of_ble_eq_true rfl) ?_
    show T _ _ _ _ _ _ _ _ _ [some (.ref 572), some (.int (nI 5)), some (.int (nI 0)), some (.int (nI r)), some (.int (nI p)), some (.int (nI n)), none] [] (rm μ)
    refine T_iload (pc := 0) (i := 5) dX12_factOf_0 rfl ?_
    refine T_iload (pc := 2) (i := 4) dX12_factOf_2 rfl ?_
    refine R_isub (pc := 4) (by omega) dX12_factOf_4 ?_
    refine T_aload_n (pc := 5) (i := 0) dX12_factOf_5 rfl rfl ?_
    refine T_iload_n (pc := 6) (i := 3) dX12_factOf_6 rfl rfl ?_
    refine R_callV1 (pc := 7) (As := [.int (nI r)]) (rest := [.int (nI (n - p))]) (Or.inl lk_X12_311) mk_X12_lefts (m_lefts hR hr) kc_572 ⟨by decide, rfl⟩ lc_572 dX12_factOf_7 rfl rfl (Nat.le_of_ble_eq_true rfl) (by decide) rfl (Nat.le_refl _) (Nat.le_refl _) ?_
    refine R_isub (pc := 10) (by omega) dX12_factOf_10 ?_
    refine T_istore (pc := 11) (i := 6) (ls' := [some (.ref 572), some (.int (nI 5)), some (.int (nI 0)), some (.int (nI r)), some (.int (nI p)), some (.int (nI n)), some (.int (nI ((n - p) - ((rAt R r).1.length))))]) dX12_factOf_11 (by decide) rfl ?_
    refine T_iload_n (pc := 13) (i := 1) dX12_factOf_13 rfl rfl ?_
    refine T_tableIn (pc := 14) (tgt := 71) dX12_factOf_14 (by decide) (by decide) rfl (by decide) ?_
    refine T_iload (pc := 71) (i := 4) dX12_factOf_71 rfl ?_
    refine R_if_eq (pc := 73) (tgt := 81) (by omega) dX12_factOf_73 (by decide) (fun h1 => ?_) (fun h1 => ?_)
    · skip
      rw [if_pos (Or.inl (by rw [h1]; rfl))]
      refine T_iconst (pc := 81) (v := nI 1) dX12_factOf_81 (by decide) ?_
      refine T_goto (pc := 82) (tgt := 86) dX12_factOf_82 (by decide) ?_
      exact T_iret (pc := 86) (ty := .int) dX12_factOf_86 rfl rfl (Nat.le_refl _) (Nat.le_refl _) ⟨rfl, rfl⟩
    · skip
      refine T_iload (pc := 76) (i := 6) dX12_factOf_76 rfl ?_
      refine R_if_ne (pc := 78) (tgt := 85) (by omega) dX12_factOf_78 (by decide) (fun h8 => ?_) (fun h8 => ?_)
      · skip
        rw [if_neg (fun z => z.elim (fun q => nI_ne0 (by omega) (by omega) q) (fun q => nI_ne0 (by omega) (by omega) q))]
        refine T_iconst (pc := 85) (v := nI 0) dX12_factOf_85 (by decide) ?_
        exact T_iret (pc := 86) (ty := .int) dX12_factOf_86 rfl rfl (Nat.le_refl _) (Nat.le_refl _) ⟨rfl, rfl⟩
      · skip
        rw [if_pos (Or.inr (by rw [h8]; rfl))]
        refine T_iconst (pc := 81) (v := nI 1) dX12_factOf_81 (by decide) ?_
        refine T_goto (pc := 82) (tgt := 86) dX12_factOf_82 (by decide) ?_
        exact T_iret (pc := 86) (ty := .int) dX12_factOf_86 rfl rfl (Nat.le_refl _) (Nat.le_refl _) ⟨rfl, rfl⟩
  · have e1 : sgA s = nI 6 := by
      have g : ∀ c : Int32, ¬ -8 < c → s ≠ c := fun c hc z => hc (by rw [← z]; exact hs)
      unfold sgA
      rw [if_neg h2, if_neg h3, if_neg h4, if_neg h5, if_neg h6, if_neg h7, if_neg (g (-8) (by decide)), if_neg (g (-10) (by decide)), if_neg (g (-11) (by decide)), if_neg (g (-12) (by decide)), if_neg (g (-13) (by decide)), if_neg (g (-14) (by decide))]
      rfl
    have e2 : sgN s = s := by
      unfold sgN
      rw [e1]
      rfl
    have e3 : sgV (nI r, nI p, nI n, nI (n - p - (rAt R r).1.length), y) s = s := by
      unfold sgV
      rw [if_neg h2, if_neg h3, if_neg h4, if_neg h5, if_neg h6, if_neg h7]
    rw [e1, e2, e3]
    refine Ex.of (by decide +kernel) rfl (Nat.le_of_ble_eq_true rfl) ?_
    show T _ _ _ _ _ _ _ _ _ [some (.ref 572), some (.int (nI 6)), some (.int (s)), some (.int (nI r)), some (.int (nI p)), some (.int (nI n)), none] [] (rm μ)
    refine T_iload (pc := 0) (i := 5) dX12_factOf_0 rfl ?_
    refine T_iload (pc := 2) (i := 4) dX12_factOf_2 rfl ?_
    refine R_isub (pc := 4) (by omega) dX12_factOf_4 ?_
    refine T_aload_n (pc := 5) (i := 0) dX12_factOf_5 rfl rfl ?_
    refine T_iload_n (pc := 6) (i := 3) dX12_factOf_6 rfl rfl ?_
    refine R_callV1 (pc := 7) (As := [.int (nI r)]) (rest := [.int (nI (n - p))]) (Or.inl lk_X12_311) mk_X12_lefts (m_lefts hR hr) kc_572 ⟨by decide, rfl⟩ lc_572 dX12_factOf_7 rfl rfl (Nat.le_of_ble_eq_true rfl) (by decide) rfl (Nat.le_refl _) (Nat.le_refl _) ?_
    refine R_isub (pc := 10) (by omega) dX12_factOf_10 ?_
    refine T_istore (pc := 11) (i := 6) (ls' := [some (.ref 572), some (.int (nI 6)), some (.int (s)), some (.int (nI r)), some (.int (nI p)), some (.int (nI n)), some (.int (nI ((n - p) - ((rAt R r).1.length))))]) dX12_factOf_11 (by decide) rfl ?_
    refine T_iload_n (pc := 13) (i := 1) dX12_factOf_13 rfl rfl ?_
    refine T_tableOut (pc := 14) (tgt := 87) dX12_factOf_14 (Or.inr (by decide)) (by decide) ?_
    refine T_iload_n (pc := 87) (i := 2) dX12_factOf_87 rfl rfl ?_
    exact T_iret (pc := 88) (ty := .int) dX12_factOf_88 rfl rfl (Nat.le_refl _) (Nat.le_refl _) ⟨rfl, rfl⟩
end ML1

