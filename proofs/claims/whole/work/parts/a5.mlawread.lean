/-! THE MODEL: THE LAW's text, signs and sums -/
theorem sm33 : strs[33]? = some ("BeastRulesModel", 281, "bar", wBar) := rfl
theorem sm34 : strs[34]? = some ("BeastRulesModel", 283, "if", wIf) := rfl
theorem sm35 : strs[35]? = some ("BeastRulesModel", 262, "not", wNot) := rfl
theorem sm36 : strs[36]? = some ("BeastRulesModel", 270, "end", wEnd) := rfl
theorem sm37 : strs[37]? = some ("BeastRulesModel", 242, "place", wPlace) := rfl
theorem sm38 : strs[38]? = some ("BeastRulesModel", 244, "long", wLong) := rfl
theorem sm39 : strs[39]? = some ("BeastRulesModel", 246, "behind", wBehind) := rfl
theorem sm40 : strs[40]? = some ("BeastRulesModel", 247, "year", wYear) := rfl
theorem sm41 : strs[41]? = some ("BeastRulesModel", 274, "and", wAnd) := rfl
theorem sm42 : strs[42]? = some ("BeastRulesModel", 279, "or", wOr) := rfl
/-- the point stands at p, or behind blanks that follow -/
def MtS (m : SM2) (B : List Nat) (p : Nat) : Prop := ∃ q, MtQ m B q ∧ tS B q = tS B p
theorem MtQ.s {m : SM2} {B : List Nat} {p : Nat} (h : MtQ m B p) : MtS m B p := ⟨p, h, rfl⟩
theorem MtP.s {m : SM2} {B : List Nat} {p : Nat} (h : MtP m B (tS B p) (tS B p)) : MtS m B p := ⟨tS B p, h.1, tS_tS⟩
theorem lE_c {B : List Nat} {p q : Nat} (e : tS B q = tS B p) : lE B q = lE B p := by
  unfold lE
  rw [e]
theorem tE_c {B : List Nat} {p q : Nat} (e : tS B q = tS B p) : tE B q = tE B p := by rw [← tE_tS (p := q), e, tE_tS]
theorem tK_c {B : List Nat} {p q : Nat} (e : tS B q = tS B p) : tK B q = tK B p := by rw [← tK_tS (p := q), e, tK_tS]
theorem wdB_c {B : List Nat} {p q : Nat} {w : List Int32} (e : tS B q = tS B p) : wdB B q w = wdB B p w := by rw [← wdB_tS (p := q), e, wdB_tS]
theorem rdN_c {B : List Nat} {p q : Nat} {x : Int32} (e : tS B q = tS B p) : rdN B q x = rdN B p x := by rw [← rdN_tS (p := q), e, rdN_tS]
theorem gpE_c {B : List Nat} {p q : Nat} {b : Bool} (e : tS B q = tS B p) : gpE B q b = gpE B p b := by
  unfold gpE
  rw [tE_c e, e]
theorem MtS.b {m : SM2} {B : List Nat} {p : Nat} (h : MtS m B p) : MtB m B := h.elim (fun q z => z.1.1)
/-- signs emitted -/
def Emt (m : SM2) (l : List Int32) : Prop := m.1 572 15 = nI l.length ∧ ∀ i, i < l.length → m.1 573 (1189 + 2 * i) = sgA (l.getD i 0) ∧ m.1 573 (1189 + 2 * i + 1) = sgN (l.getD i 0)
def FD (j : Nat) : Prop := j = 9 ∨ j = 11 ∨ j = 12 ∨ j = 15
def OfD (μ m : SM2) : Prop := OfM FD S573 μ m ∧ ∀ j, j < 1189 → m.1 573 j = μ.1 573 j
theorem OfD.refl (μ : SM2) : OfD μ μ := ⟨OfM.refl _ _ _, fun _ _ => rfl⟩
theorem OfD.trans {a b c : SM2} (h : OfD a b) (g : OfD b c) : OfD a c := ⟨h.1.trans g.1, fun j hj => (g.2 j hj).trans (h.2 j hj)⟩
theorem OfM.d {μ m : SM2} (h : OfM F9 S0 μ m) : OfD μ m := ⟨h.mono (fun j hj => by unfold F9 at hj; unfold FD; omega) (fun _ z => z.elim), fun j _ => h.i (by decide) (fun z => z) j⟩
theorem OfD.f {μ m : SM2} {j : Nat} {x : Int32} (h : OfD μ m) (hj : FD j) : OfD μ (wI m 572 j x) := ⟨OfM.sF h.1 hj, fun i hi => (n_wI (by omega)).trans (h.2 i hi)⟩
theorem OfD.w {μ m : SM2} {j : Nat} {x : Int32} (h : OfD μ m) (hj : 1189 ≤ j) : OfD μ (wI m 573 j x) := ⟨OfM.sI h.1 rfl (by decide), fun i hi => (n_wI (by omega)).trans (h.2 i hi)⟩
theorem Emt.f9 {μ m : SM2} {l : List Int32} (h : Emt μ l) (g : OfM F9 S0 μ m) : Emt m l := ⟨(g.fi (by unfold F9; omega)).trans h.1, fun i hi => ⟨(g.i (by decide) (fun z => z) _).trans (h.2 i hi).1, (g.i (by decide) (fun z => z) _).trans (h.2 i hi).2⟩⟩
theorem Emt.f {m : SM2} {l : List Int32} {j : Nat} {x : Int32} (h : Emt m l) (hj : j ≠ 15) : Emt (wI m 572 j x) l := ⟨(n_wI (by omega)).trans h.1, fun i hi => ⟨(n_wI (by omega)).trans (h.2 i hi).1, (n_wI (by omega)).trans (h.2 i hi).2⟩⟩
abbrev eW (m : SM2) (n : Nat) (x y : Int32) : SM2 := wI (wI (wI m 573 (1189 + 2 * n) x) 573 (1189 + 2 * n + 1) y) 572 15 (nI (n + 1))
theorem Emt.w {m : SM2} {l : List Int32} {s : Int32} (h : Emt m l) : Emt (eW m l.length (sgA s) (sgN s)) (l ++ [s]) := by
  refine ⟨?_, fun i hi => ?_⟩
  · rw [List.length_append, List.length_singleton]
    exact e_wI ⟨rfl, rfl⟩
  · rw [List.length_append, List.length_singleton] at hi
    by_cases e : i = l.length
    · have e9 : (l ++ [s]).getD i 0 = s := by
        rw [e, List.getD_eq_getElem?_getD, List.getElem?_append_right (Nat.le_refl _), Nat.sub_self]
        rfl
      rw [e9, e]
      exact ⟨(n_wI (by omega)).trans ((n_wI (by omega)).trans (e_wI ⟨rfl, rfl⟩)), (n_wI (by omega)).trans (e_wI ⟨rfl, rfl⟩)⟩
    · have e9 : (l ++ [s]).getD i 0 = l.getD i 0 := by
        rw [List.getD_eq_getElem?_getD, List.getElem?_append_left (by omega), ← List.getD_eq_getElem?_getD]
      rw [e9]
      exact ⟨(n_wI (by omega)).trans ((n_wI (by omega)).trans ((n_wI (by omega)).trans (h.2 i (by omega)).1)), (n_wI (by omega)).trans ((n_wI (by omega)).trans ((n_wI (by omega)).trans (h.2 i (by omega)).2))⟩
theorem OfD.e {m : SM2} {n : Nat} {x y : Int32} : OfD m (eW m n x y) := OfD.f (OfD.w (OfD.w (OfD.refl _) (by omega)) (by omega)) (Or.inr (Or.inr (Or.inr rfl)))
theorem eW_f {m : SM2} {n j : Nat} {x y : Int32} (hj : j ≠ 15) : (eW m n x y).1 572 j = m.1 572 j := (n_wI (by omega)).trans ((n_wI (by omega)).trans (n_wI (by omega)))
theorem eW_t {m : SM2} {n : Nat} {x y : Int32} (i : Nat) : (eW m n x y).1 577 i = m.1 577 i := (n_wI (by omega)).trans ((n_wI (by omega)).trans (n_wI (by omega)))
theorem MtQ.e {m : SM2} {B : List Nat} {p n : Nat} {x y : Int32} (h : MtQ m B p) : MtQ (eW m n x y) B p := ⟨⟨⟨(eW_f (by decide)).trans h.1.1.1, h.1.1.2⟩, fun i hi => ⟨(h.1.2 i hi).1, (eW_t i).trans (h.1.2 i hi).2⟩⟩, h.2.1, (eW_f (by decide)).trans h.2.2⟩
theorem MtS.e {m : SM2} {B : List Nat} {p n : Nat} {x y : Int32} (h : MtS m B p) : MtS (eW m n x y) B p := h.elim (fun q z => ⟨q, z.1.e, z.2⟩)
theorem MtQ.f {m : SM2} {B : List Nat} {p j : Nat} {x : Int32} (h : MtQ m B p) (hj : j ≠ 9 ∧ j ≠ 10) : MtQ (wI m 572 j x) B p := ⟨⟨⟨(n_wI (by omega)).trans h.1.1.1, h.1.1.2⟩, fun i hi => ⟨(h.1.2 i hi).1, (n_wI (by omega)).trans (h.1.2 i hi).2⟩⟩, h.2.1, (n_wI (by omega)).trans h.2.2⟩
theorem MtS.f {m : SM2} {B : List Nat} {p j : Nat} {x : Int32} (h : MtS m B p) (hj : j ≠ 9 ∧ j ≠ 10) : MtS (wI m 572 j x) B p := h.elim (fun q z => ⟨q, z.1.f hj, z.2⟩)
def LqMP (B : List Nat) (m : SM2) (l : List Int32) (dp : Nat) : Lv → Prop
  | .inl f => m.1 572 11 = nI f
  | .inr q => MtS m B q.1 ∧ Emt m (l ++ q.2) ∧ m.1 572 12 = nI dp
def LqM (B : List Nat) (μ : SM2) (l : List Int32) (dp : Nat) (r : Lv) : Out → SMem → Prop := Rm (some (.int (bI r.isRight))) (fun m => LqMP B m l dp r ∧ OfD μ m)
/-- a reader -/
def LqMC (γ : Ga) (M : MI) (B : List Nat) (A : Nat → Lv) (dp D : Nat) : Prop := ∀ (μ : SM2) (p : Nat) (l : List Int32), MtS μ B p → p ≤ B.length → Emt μ l → l.length < p → μ.1 572 12 = nI dp → Ex γ D 0 0 M [.ref 572] (rm μ) (LqM B μ l dp (A p))
theorem LqM.bad {B : List Nat} {μ m : SM2} {l : List Int32} {dp f : Nat} (h : m.1 572 11 = nI f) (g : OfD μ m) : LqM B μ l dp (.inl f) (.inl (some (.int (bI false)))) (rm m) := ⟨m, rfl, rfl, h, g⟩
theorem LqM.ok {B : List Nat} {μ m : SM2} {l : List Int32} {dp : Nat} {q : Nat × List Int32} (h : MtS m B q.1) (h2 : Emt m (l ++ q.2)) (h3 : m.1 572 12 = nI dp) (g : OfD μ m) : LqM B μ l dp (.inr q) (.inl (some (.int (bI true)))) (rm m) := ⟨m, rfl, rfl, ⟨h, h2, h3⟩, g⟩
theorem sg_told {n : Nat} (h : n < 1000) : sgA (nI n) = 6 ∧ sgN (nI n) = nI n := by
  have g : ∀ c : Int32, c < 0 → nI n ≠ c := fun c hc z => by
    rw [← z] at hc
    exact nI_pos (by omega) hc
  have e : sgA (nI n) = 6 := by
    unfold sgA
    rw [if_neg (g _ (by decide)), if_neg (g _ (by decide)), if_neg (g _ (by decide)), if_neg (g _ (by decide)), if_neg (g _ (by decide)), if_neg (g _ (by decide)), if_neg (g _ (by decide)), if_neg (g _ (by decide)), if_neg (g _ (by decide)), if_neg (g _ (by decide)), if_neg (g _ (by decide)), if_neg (g _ (by decide))]
  refine ⟨e, ?_⟩
  unfold sgN
  rw [if_pos e]
section MLR
variable {γ : Ga} {μ : SM2}
theorem m_lettersS {B : List Nat} {p : Nat} (hT : MtS μ B p) : Ex γ 3 0 0 M_X12_letters [.ref 572] (rm μ) (Rm none (fun m => MtP m B (tS B p) (lE B p) ∧ OfM F9 S0 μ m)) := by
  obtain ⟨q, h1, h2⟩ := hT
  have h := m_letters (γ := γ) h1
  rw [h2, lE_c h2] at h
  exact h
theorem m_passesS {B : List Nat} {p i : Nat} {q : String × Nat × String × List Int32} (hT : MtS μ B p) (hs : strs[i]? = some q) : Ex γ 6 0 0 M_X12_passes [.ref 572, .ref (XB + (i + 1))] (rm μ) (Rm (some (.int (bI (wdB B p q.2.2.2)))) (fun m => MtP m B (tS B p) (gpE B p (wdB B p q.2.2.2)) ∧ OfM F9 S0 μ m)) := by
  obtain ⟨q', h1, h2⟩ := hT
  have h := m_passes (γ := γ) h1 hs
  rw [h2, wdB_c h2, gpE_c h2] at h
  exact h
theorem m_signS {B : List Nat} {p c : Nat} (hT : MtS μ B p) (hc : c < 128) (hc2 : isL c = false ∧ isD c = false) : Ex γ 3 0 0 M_X12_sign [.ref 572, .int (nI c)] (rm μ) (Rm (some (.int (bI (decide (tK B p = nI c))))) (fun m => MtP m B (tS B p) (gpE B p (decide (tK B p = nI c))) ∧ OfM F9 S0 μ m)) := by
  obtain ⟨q, h1, h2⟩ := hT
  have h := m_sign (γ := γ) h1 hc hc2
  rw [h2, tK_c h2, gpE_c h2] at h
  exact h
theorem m_emits {n : Nat} {x y : Int32} (h : μ.1 572 15 = nI n) (hn : n < 400) : Ex γ 1 0 0 M_X12_emits [.ref 572, .int x, .int y] (rm μ) (Fn none (eW μ n x y)) := by
  refine Ex.of (by decide +kernel) rfl (Nat.le_of_ble_eq_true rfl) ?_
  show T _ _ _ _ _ _ _ _ _ [some (.ref 572), some (.int (x)), some (.int (y))] [] (rm μ)
  refine T_aload_n (pc := 0) (i := 0) dX12_emits_0 rfl rfl ?_
  refine R_getR (pc := 1) (i := 573) fl_X12_29 rfl kc_572 lc_572 rc_572_1 dX12_emits_1 ?_
  refine T_sipush (pc := 4) (v := nI 1189) dX12_emits_4 (by decide) ?_
  refine T_iconst (pc := 7) (v := nI 2) dX12_emits_7 (by decide) ?_
  refine T_aload_n (pc := 8) (i := 0) dX12_emits_8 rfl rfl ?_
  refine R_getI (pc := 9) (x := nI n) fl_X12_235 rfl kc_572 lc_572 h dX12_emits_9 ?_
  refine R_imul (pc := 12) dX12_emits_12 ?_
  refine R_iadd (pc := 13) dX12_emits_13 ?_
  refine T_iload_n (pc := 14) (i := 1) dX12_emits_14 rfl rfl ?_
  refine R_iast (pc := 15) kc_573 lc_573 (by omega) (by first | decide | assumption) dX12_emits_15 ?_
  refine T_aload_n (pc := 16) (i := 0) dX12_emits_16 rfl rfl ?_
  refine R_getR (pc := 17) (i := 573) fl_X12_29 rfl kc_572 lc_572 rc_572_1 dX12_emits_17 ?_
  refine T_sipush (pc := 20) (v := nI 1189) dX12_emits_20 (by decide) ?_
  refine T_iconst (pc := 23) (v := nI 2) dX12_emits_23 (by decide) ?_
  refine T_aload_n (pc := 24) (i := 0) dX12_emits_24 rfl rfl ?_
  refine R_getI (pc := 25) (x := nI n) fl_X12_235 rfl kc_572 lc_572 ((wI_ne (by first | omega | simp)).trans h) dX12_emits_25 ?_
  refine R_imul (pc := 28) dX12_emits_28 ?_
  refine R_iadd (pc := 29) dX12_emits_29 ?_
  refine T_iconst (pc := 30) (v := nI 1) dX12_emits_30 (by decide) ?_
  refine R_iadd (pc := 31) dX12_emits_31 ?_
  refine T_iload_n (pc := 32) (i := 2) dX12_emits_32 rfl rfl ?_
  refine R_iast (pc := 33) kc_573 lc_573 (by omega) (by first | decide | assumption) dX12_emits_33 ?_
  refine T_aload_n (pc := 34) (i := 0) dX12_emits_34 rfl rfl ?_
  refine T_dup (pc := 35) dX12_emits_35 rfl ?_
  refine R_getI (pc := 36) (x := nI n) fl_X12_235 rfl kc_572 lc_572 ((wI_ne (by first | omega | simp)).trans ((wI_ne (by first | omega | simp)).trans h)) dX12_emits_36 ?_
  refine T_iconst (pc := 39) (v := nI 1) dX12_emits_39 (by decide) ?_
  refine R_iadd (pc := 40) dX12_emits_40 ?_
  refine R_putI (pc := 41) fl_X12_235 ⟨rfl, rfl⟩ (Or.inl rfl) kc_572 lc_572 dX12_emits_41 ?_
  exact T_vret dX12_emits_44 rfl (Nat.le_refl _) (Nat.le_refl _) ⟨rfl, rfl⟩
theorem m_readPart {B : List Nat} {p dp : Nat} {l : List Int32} (hT : MtS μ B p) (hp : p ≤ B.length) (hE : Emt μ l) (hn : l.length < p) (hd : μ.1 572 12 = nI dp) : Ex γ 7 0 0 M_X12_readPart [.ref 572] (rm μ) (LqM B μ l dp (lvP B p)) := by
  have hb := hT.b.b
  have h400 := hT.b.1.2
  have hse := tS_le hp
  refine Ex.of (by decide +kernel) rfl (Nat.le_of_ble_eq_true rfl) ?_
  show T _ _ _ _ _ _ _ _ _ [some (.ref 572), none] [] (rm μ)
  refine T_aload_n (pc := 0) (i := 0) dX12_readPart_0 rfl rfl ?_
  refine R_callVm0 (pc := 1) (As := []) (rest := []) (Or.inl lk_X12_164) mk_X12_letters (m_lettersS hT) kc_572 ⟨by decide, rfl⟩ lc_572 dX12_readPart_1 rfl rfl (Nat.le_of_ble_eq_true rfl) (by decide) rfl (Nat.le_refl _) (Nat.le_refl _) (fun m1 h1 => ?_)
  obtain ⟨r1, o1⟩ := h1
  have hE1 := hE.f9 o1
  have hd1 : m1.1 572 12 = nI dp := (o1.fi (by unfold F9; omega)).trans hd
  by_cases hk : tK B p = -2
  · have hlt : tS B p < lE B p := spn_lt ((tK_let hb).mp hk)
    have hle := lE_le hp
    have he : lE B p = tE B p := lE_w hb hk
    have yes : ∀ s : Int32, sgP B p = s → s ≠ -1 → (sgA s).toInt ≥ 0 → sgN s = 0 → T γ 7 0 0 M_X12_readPart (LqM B μ l dp (lvP B p)) 0 0 100 [some (.ref 572), none] [.int (sgA s)] (rm m1) := fun s e1 e2 e3 e4 => by
      have ev : lvP B p = .inr (tE B p, [s]) := by
        unfold lvP
        rw [e1, if_neg e2]
      have hw := hE1.w (s := s)
      rw [e4] at hw
      rw [ev]
      refine T_istore_n (pc := 100) (i := 1) (ls' := [some (.ref 572), some (.int ((sgA s)))]) dX12_readPart_100 rfl (by decide) rfl ?_
      refine T_aload_n (pc := 101) (i := 0) dX12_readPart_101 rfl rfl ?_
      refine T_iload_n (pc := 102) (i := 1) dX12_readPart_102 rfl rfl ?_
      refine T_iconst (pc := 103) (v := nI 0) dX12_readPart_103 (by decide) ?_
      refine R_callV0 (pc := 104) (As := [.int ((sgA s)), .int (nI 0)]) (rest := []) (Or.inl lk_X12_238) mk_X12_emits (m_emits hE1.1 (by omega)) kc_572 ⟨by decide, rfl⟩ lc_572 dX12_readPart_104 rfl rfl (Nat.le_of_ble_eq_true rfl) (by decide) rfl (Nat.le_refl _) (Nat.le_refl _) ?_
      refine T_iload_n (pc := 107) (i := 1) dX12_readPart_107 rfl rfl ?_
      refine T_if_lt (pc := 108) (tgt := 115) dX12_readPart_108 (by decide) (fun g1 => ?_) (fun g1 => ?_)
      · skip
        rw [fa_lt] at g1
        exact absurd g1 (by
          have : (0 : Int32).toInt = 0 := rfl
          omega)
      · skip
        refine T_iconst (pc := 111) (v := nI 1) dX12_readPart_111 (by decide) ?_
        refine T_goto (pc := 112) (tgt := 116) dX12_readPart_112 (by decide) ?_
        exact T_iret (pc := 116) (ty := .boolean) dX12_readPart_116 rfl (by decide) (Nat.le_refl _) (Nat.le_refl _) (LqM.ok (q := (tE B p, [s])) (MtQ.s (MtQ.e (he ▸ r1.1))) hw ((eW_f (by decide)).trans hd1) (o1.d.trans OfD.e))
    have k3 : ¬ tK B p = -3 := fun z => by rw [hk] at z; exact absurd z (by decide)
    refine T_aload_n (pc := 4) (i := 0) dX12_readPart_4 rfl rfl ?_
    refine R_getI (pc := 5) (x := nI (lE B p)) fl_X12_139 rfl kc_572 lc_572 r1.1.2.2 dX12_readPart_5 ?_
    refine T_aload_n (pc := 8) (i := 0) dX12_readPart_8 rfl rfl ?_
    refine R_getI (pc := 9) (x := nI (tS B p)) fl_X12_149 rfl kc_572 lc_572 r1.2 dX12_readPart_9 ?_
    refine R_icmp_ne (pc := 12) (tgt := 34) (by omega) (by omega) dX12_readPart_12 (by decide) (fun g0 => ?_) (fun g0 => ?_)
    · skip
      refine T_aload_n (pc := 34) (i := 0) dX12_readPart_34 rfl rfl ?_
      refine T_ldcS (pc := 35) (i := 22) rfl dX12_readPart_35 ?_
      refine R_callV1 (pc := 37) (As := [.ref (XB + (22 + 1))]) (rest := []) (Or.inl lk_X12_167) mk_X12_isWord (m_isWordL r1 hp sm22) kc_572 ⟨by decide, rfl⟩ lc_572 dX12_readPart_37 rfl rfl (Nat.le_of_ble_eq_true rfl) (by decide) rfl (Nat.le_refl _) (Nat.le_refl _) ?_
      cases e1 : wdB B p wRule with
      | true =>
        refine R_ifb_eq (pc := 40) (tgt := 47) dX12_readPart_40 (by decide) (fun g1 => ?_) (fun g1 => ?_)
        · exact absurd g1 (by decide)
        · skip
          refine T_iconst (pc := 43) (v := nI 0) dX12_readPart_43 (by decide) ?_
          refine T_goto (pc := 44) (tgt := 100) dX12_readPart_44 (by decide) ?_
          exact yes (-2) (by unfold sgP; rw [if_neg k3, e1]; rfl) (by decide) (by decide) (by decide)
      | false =>
        refine R_ifb_eq (pc := 40) (tgt := 47) dX12_readPart_40 (by decide) (fun g1 => ?_) (fun g1 => ?_)
        · skip
          refine T_aload_n (pc := 47) (i := 0) dX12_readPart_47 rfl rfl ?_
          refine T_ldcS (pc := 48) (i := 37) rfl dX12_readPart_48 ?_
          refine R_callV1 (pc := 50) (As := [.ref (XB + (37 + 1))]) (rest := []) (Or.inl lk_X12_167) mk_X12_isWord (m_isWordL r1 hp sm37) kc_572 ⟨by decide, rfl⟩ lc_572 dX12_readPart_50 rfl rfl (Nat.le_of_ble_eq_true rfl) (by decide) rfl (Nat.le_refl _) (Nat.le_refl _) ?_
          cases e2 : wdB B p wPlace with
          | true =>
            refine R_ifb_eq (pc := 53) (tgt := 60) dX12_readPart_53 (by decide) (fun g2 => ?_) (fun g2 => ?_)
            · exact absurd g2 (by decide)
            · skip
              refine T_iconst (pc := 56) (v := nI 1) dX12_readPart_56 (by decide) ?_
              refine T_goto (pc := 57) (tgt := 100) dX12_readPart_57 (by decide) ?_
              exact yes (-3) (by unfold sgP; rw [if_neg k3, e1, e2]; rfl) (by decide) (by decide) (by decide)
          | false =>
            refine R_ifb_eq (pc := 53) (tgt := 60) dX12_readPart_53 (by decide) (fun g2 => ?_) (fun g2 => ?_)
            · skip
              refine T_aload_n (pc := 60) (i := 0) dX12_readPart_60 rfl rfl ?_
              refine T_ldcS (pc := 61) (i := 38) rfl dX12_readPart_61 ?_
              refine R_callV1 (pc := 63) (As := [.ref (XB + (38 + 1))]) (rest := []) (Or.inl lk_X12_167) mk_X12_isWord (m_isWordL r1 hp sm38) kc_572 ⟨by decide, rfl⟩ lc_572 dX12_readPart_63 rfl rfl (Nat.le_of_ble_eq_true rfl) (by decide) rfl (Nat.le_refl _) (Nat.le_refl _) ?_
              cases e3 : wdB B p wLong with
              | true =>
                refine R_ifb_eq (pc := 66) (tgt := 73) dX12_readPart_66 (by decide) (fun g3 => ?_) (fun g3 => ?_)
                · exact absurd g3 (by decide)
                · skip
                  refine T_iconst (pc := 69) (v := nI 2) dX12_readPart_69 (by decide) ?_
                  refine T_goto (pc := 70) (tgt := 100) dX12_readPart_70 (by decide) ?_
                  exact yes (-4) (by unfold sgP; rw [if_neg k3, e1, e2, e3]; rfl) (by decide) (by decide) (by decide)
              | false =>
                refine R_ifb_eq (pc := 66) (tgt := 73) dX12_readPart_66 (by decide) (fun g3 => ?_) (fun g3 => ?_)
                · skip
                  refine T_aload_n (pc := 73) (i := 0) dX12_readPart_73 rfl rfl ?_
                  refine T_ldcS (pc := 74) (i := 39) rfl dX12_readPart_74 ?_
                  refine R_callV1 (pc := 76) (As := [.ref (XB + (39 + 1))]) (rest := []) (Or.inl lk_X12_167) mk_X12_isWord (m_isWordL r1 hp sm39) kc_572 ⟨by decide, rfl⟩ lc_572 dX12_readPart_76 rfl rfl (Nat.le_of_ble_eq_true rfl) (by decide) rfl (Nat.le_refl _) (Nat.le_refl _) ?_
                  cases e4 : wdB B p wBehind with
                  | true =>
                    refine R_ifb_eq (pc := 79) (tgt := 86) dX12_readPart_79 (by decide) (fun g4 => ?_) (fun g4 => ?_)
                    · exact absurd g4 (by decide)
                    · skip
                      refine T_iconst (pc := 82) (v := nI 3) dX12_readPart_82 (by decide) ?_
                      refine T_goto (pc := 83) (tgt := 100) dX12_readPart_83 (by decide) ?_
                      exact yes (-5) (by unfold sgP; rw [if_neg k3, e1, e2, e3, e4]; rfl) (by decide) (by decide) (by decide)
                  | false =>
                    refine R_ifb_eq (pc := 79) (tgt := 86) dX12_readPart_79 (by decide) (fun g4 => ?_) (fun g4 => ?_)
                    · skip
                      refine T_aload_n (pc := 86) (i := 0) dX12_readPart_86 rfl rfl ?_
                      refine T_ldcS (pc := 87) (i := 40) rfl dX12_readPart_87 ?_
                      refine R_callV1 (pc := 89) (As := [.ref (XB + (40 + 1))]) (rest := []) (Or.inl lk_X12_167) mk_X12_isWord (m_isWordL r1 hp sm40) kc_572 ⟨by decide, rfl⟩ lc_572 dX12_readPart_89 rfl rfl (Nat.le_of_ble_eq_true rfl) (by decide) rfl (Nat.le_refl _) (Nat.le_refl _) ?_
                      cases e5 : wdB B p wYear with
                      | true =>
                        refine R_ifb_eq (pc := 92) (tgt := 99) dX12_readPart_92 (by decide) (fun g5 => ?_) (fun g5 => ?_)
                        · exact absurd g5 (by decide)
                        · skip
                          refine T_iconst (pc := 95) (v := nI 4) dX12_readPart_95 (by decide) ?_
                          refine T_goto (pc := 96) (tgt := 100) dX12_readPart_96 (by decide) ?_
                          exact yes (-6) (by unfold sgP; rw [if_neg k3, e1, e2, e3, e4, e5]; rfl) (by decide) (by decide) (by decide)
                      | false =>
                        have ev : lvP B p = .inl (tS B p) := by
                          unfold lvP sgP
                          rw [if_neg k3, e1, e2, e3, e4, e5]
                          rfl
                        rw [ev]
                        refine R_ifb_eq (pc := 92) (tgt := 99) dX12_readPart_92 (by decide) (fun g5 => ?_) (fun g5 => ?_)
                        · skip
                          refine T_iconst (pc := 99) (v := (-1)) dX12_readPart_99 (by decide) ?_
                          refine T_istore_n (pc := 100) (i := 1) (ls' := [some (.ref 572), some (.int ((-1)))]) dX12_readPart_100 rfl (by decide) rfl ?_
                          refine T_aload_n (pc := 101) (i := 0) dX12_readPart_101 rfl rfl ?_
                          refine T_iload_n (pc := 102) (i := 1) dX12_readPart_102 rfl rfl ?_
                          refine T_iconst (pc := 103) (v := nI 0) dX12_readPart_103 (by decide) ?_
                          refine R_callV0 (pc := 104) (As := [.int ((-1)), .int (nI 0)]) (rest := []) (Or.inl lk_X12_238) mk_X12_emits (m_emits hE1.1 (by omega)) kc_572 ⟨by decide, rfl⟩ lc_572 dX12_readPart_104 rfl rfl (Nat.le_of_ble_eq_true rfl) (by decide) rfl (Nat.le_refl _) (Nat.le_refl _) ?_
                          refine T_iload_n (pc := 107) (i := 1) dX12_readPart_107 rfl rfl ?_
                          refine T_if_lt (pc := 108) (tgt := 115) dX12_readPart_108 (by decide) (fun g6 => ?_) (fun g6 => ?_)
                          · skip
                            refine T_iconst (pc := 115) (v := nI 0) dX12_readPart_115 (by decide) ?_
                            exact T_iret (pc := 116) (ty := .boolean) dX12_readPart_116 rfl (by decide) (Nat.le_refl _) (Nat.le_refl _) (LqM.bad ((eW_f (by decide)).trans r1.2) (o1.d.trans OfD.e))
                          · exact absurd (by decide) g6
                        · exact absurd g5 (by decide)
                    · exact absurd g4 (by decide)
                · exact absurd g3 (by decide)
            · exact absurd g2 (by decide)
        · exact absurd g1 (by decide)
    · exact absurd g0 (by omega)
  · have he : lE B p = tS B p := lE_n hb hk
    rw [he] at r1
    have nw : ∀ w, wdB B p w = false := fun w => by
      cases e : wdB B p w with
      | false => rfl
      | true => exact absurd (wd_k e) hk
    have es : sgP B p = if tK B p = -3 then tV B p else -1 := by
      unfold sgP
      rw [nw, nw, nw, nw, nw]
      rfl
    have hq : MtQ m1 B (tS B p) := r1.1
    refine T_aload_n (pc := 4) (i := 0) dX12_readPart_4 rfl rfl ?_
    refine R_getI (pc := 5) (x := nI (tS B p)) fl_X12_139 rfl kc_572 lc_572 r1.1.2.2 dX12_readPart_5 ?_
    refine T_aload_n (pc := 8) (i := 0) dX12_readPart_8 rfl rfl ?_
    refine R_getI (pc := 9) (x := nI (tS B p)) fl_X12_149 rfl kc_572 lc_572 r1.2 dX12_readPart_9 ?_
    refine R_icmp_ne (pc := 12) (tgt := 34) (by omega) (by omega) dX12_readPart_12 (by decide) (fun g0 => ?_) (fun g0 => ?_)
    · exact absurd rfl g0
    · skip
      refine T_aload_n (pc := 15) (i := 0) dX12_readPart_15 rfl rfl ?_
      refine T_iconst (pc := 16) (v := nI 0) dX12_readPart_16 (by decide) ?_
      refine T_sipush (pc := 17) (v := nI 999) dX12_readPart_17 (by decide) ?_
      refine R_callVm1 (pc := 20) (As := [.int (nI 0), .int (nI 999)]) (rest := []) (Or.inl lk_X12_195) mk_X12_number (m_number hq) kc_572 ⟨by decide, rfl⟩ lc_572 dX12_readPart_20 rfl rfl (Nat.le_of_ble_eq_true rfl) (by decide) rfl (Nat.le_refl _) (Nat.le_refl _) (fun m2 h2 => ?_)
      obtain ⟨r2, o2⟩ := h2
      rw [rdN_tS] at r2 ⊢
      have hE2 := hE1.f9 o2
      have hd2 : m2.1 572 12 = nI dp := (o2.fi (by unfold F9; omega)).trans hd1
      cases e7 : rdN B p (nI 999) with
      | none =>
        have ev : lvP B p = .inl (tS B p) := by
          have e8 : sgP B p = -1 := by
            rw [es]
            by_cases h3 : tK B p = -3
            · rw [if_pos h3]
              rcases tV_lt hb h3 with h4 | ⟨n, hn, h4⟩
              · exact h4
              · exfalso
                unfold rdN at e7
                rw [if_pos ⟨h3, by rw [h4, fa_le, nI_toInt (by omega), nI_toInt (by omega)]; omega, fun z => by
                  rw [h4] at z
                  have i1 := nI_toInt (n := n) (by omega)
                  rw [z] at i1
                  have i2 : (-1 : Int32).toInt = -1 := rfl
                  omega⟩] at e7
                cases e7
            · rw [if_neg h3]
          unfold lvP
          rw [e8]
          rfl
        rw [ev]
        refine T_istore_n (pc := 23) (i := 1) (ls' := [some (.ref 572), some (.int ((-1)))]) dX12_readPart_23 rfl (by decide) rfl ?_
        refine T_aload_n (pc := 24) (i := 0) dX12_readPart_24 rfl rfl ?_
        refine T_bipush (pc := 25) (v := nI 6) dX12_readPart_25 (by decide) ?_
        refine T_iload_n (pc := 27) (i := 1) dX12_readPart_27 rfl rfl ?_
        refine R_callV0 (pc := 28) (As := [.int (nI 6), .int ((-1))]) (rest := []) (Or.inl lk_X12_238) mk_X12_emits (m_emits hE2.1 (by omega)) kc_572 ⟨by decide, rfl⟩ lc_572 dX12_readPart_28 rfl rfl (Nat.le_of_ble_eq_true rfl) (by decide) rfl (Nat.le_refl _) (Nat.le_refl _) ?_
        refine T_goto (pc := 31) (tgt := 107) dX12_readPart_31 (by decide) ?_
        refine T_iload_n (pc := 107) (i := 1) dX12_readPart_107 rfl rfl ?_
        refine T_if_lt (pc := 108) (tgt := 115) dX12_readPart_108 (by decide) (fun g6 => ?_) (fun g6 => ?_)
        · skip
          refine T_iconst (pc := 115) (v := nI 0) dX12_readPart_115 (by decide) ?_
          exact T_iret (pc := 116) (ty := .boolean) dX12_readPart_116 rfl (by decide) (Nat.le_refl _) (Nat.le_refl _) (LqM.bad ((eW_f (by decide)).trans (r2.1.trans (by rw [tS_tS]))) ((o1.trans o2).d.trans OfD.e))
        · exact absurd (by decide) g6
      | some v =>
        rw [e7] at r2
        obtain ⟨n, hn9, rfl, _⟩ := rdN_get hb e7
        have hk3 : tK B p = -3 ∧ tV B p = nI n := by
          unfold rdN at e7
          split at e7
          · next g =>
            exact ⟨g.1, Option.some.inj e7⟩
          · cases e7
        have ev : lvP B p = .inr (tE B p, [nI n]) := by
          unfold lvP
          rw [es, if_pos hk3.1, hk3.2, if_neg (fun z => by
            have i1 := nI_toInt (n := n) (by omega)
            rw [z] at i1
            have i2 : (-1 : Int32).toInt = -1 := rfl
            omega)]
        have hw := hE2.w (s := nI n)
        rw [(sg_told hn9).1, (sg_told hn9).2] at hw
        have hq2 := r2.2.2 rfl
        rw [tE_tS] at hq2
        rw [ev]
        refine T_istore_n (pc := 23) (i := 1) (ls' := [some (.ref 572), some (.int (nI n))]) dX12_readPart_23 rfl (by decide) rfl ?_
        refine T_aload_n (pc := 24) (i := 0) dX12_readPart_24 rfl rfl ?_
        refine T_bipush (pc := 25) (v := nI 6) dX12_readPart_25 (by decide) ?_
        refine T_iload_n (pc := 27) (i := 1) dX12_readPart_27 rfl rfl ?_
        refine R_callV0 (pc := 28) (As := [.int (nI 6), .int (nI n)]) (rest := []) (Or.inl lk_X12_238) mk_X12_emits (m_emits hE2.1 (by omega)) kc_572 ⟨by decide, rfl⟩ lc_572 dX12_readPart_28 rfl rfl (Nat.le_of_ble_eq_true rfl) (by decide) rfl (Nat.le_refl _) (Nat.le_refl _) ?_
        refine T_goto (pc := 31) (tgt := 107) dX12_readPart_31 (by decide) ?_
        refine T_iload_n (pc := 107) (i := 1) dX12_readPart_107 rfl rfl ?_
        refine R_if_lt (pc := 108) (tgt := 115) (by omega) dX12_readPart_108 (by decide) (fun g6 => ?_) (fun g6 => ?_)
        · exact g6.elim
        · skip
          refine T_iconst (pc := 111) (v := nI 1) dX12_readPart_111 (by decide) ?_
          refine T_goto (pc := 112) (tgt := 116) dX12_readPart_112 (by decide) ?_
          exact T_iret (pc := 116) (ty := .boolean) dX12_readPart_116 rfl (by decide) (Nat.le_refl _) (Nat.le_refl _) (LqM.ok (q := (tE B p, [nI n])) (MtQ.s (MtQ.e hq2)) hw ((eW_f (by decide)).trans hd2) ((o1.trans o2).d.trans OfD.e))
end MLR

