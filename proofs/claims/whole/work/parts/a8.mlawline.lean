/-! THE MODEL: a LINE of THE LAW, and all of them -/
theorem Emt.lo {m : SM2} {l : List Int32} {j : Nat} {x : Int32} (h : Emt m l) (hj : j < 1189) : Emt (wI m 573 j x) l := ⟨(n_wI (by omega)).trans h.1, fun i hi => ⟨(n_wI (by omega)).trans (h.2 i hi).1, (n_wI (by omega)).trans (h.2 i hi).2⟩⟩
theorem MtS.w573 {m : SM2} {B : List Nat} {p j : Nat} {x : Int32} (h : MtS m B p) : MtS (wI m 573 j x) B p := h.elim (fun q z => ⟨q, z.1.w573, z.2⟩)
def OfX (n : Nat) (μ m : SM2) : Prop := OfM FD S573 μ m ∧ ∀ j, j < 1189 → (j < 1165 + 2 * n ∨ 1165 + 2 * n + 2 ≤ j) → m.1 573 j = μ.1 573 j
theorem OfX.refl (n : Nat) (μ : SM2) : OfX n μ μ := ⟨OfM.refl _ _ _, fun _ _ _ => rfl⟩
theorem OfX.trans {n : Nat} {a b c : SM2} (h : OfX n a b) (g : OfX n b c) : OfX n a c := ⟨h.1.trans g.1, fun j h1 h2 => (g.2 j h1 h2).trans (h.2 j h1 h2)⟩
theorem OfD.x {n : Nat} {μ m : SM2} (h : OfD μ m) : OfX n μ m := ⟨h.1, fun j h1 _ => h.2 j h1⟩
theorem OfX.w {n j : Nat} {μ m : SM2} {x : Int32} (h : OfX n μ m) (hj : j = 1165 + 2 * n ∨ j = 1165 + 2 * n + 1) : OfX n μ (wI m 573 j x) := ⟨OfM.sI h.1 rfl (by decide), fun i h1 h2 => (n_wI (by omega)).trans (h.2 i h1 h2)⟩
theorem OfX.f {n j : Nat} {μ m : SM2} {x : Int32} (h : OfX n μ m) (hj : FD j) : OfX n μ (wI m 572 j x) := ⟨OfM.sF h.1 hj, fun i h1 h2 => (n_wI (by omega)).trans (h.2 i h1 h2)⟩
def LwP (B : List Nat) (m : SM2) (l : List Int32) (n : Nat) : Lv → Prop
  | .inl f => m.1 572 11 = nI f
  | .inr q => MtS m B q.1 ∧ Emt m (l ++ q.2) ∧ m.1 573 (1165 + 2 * n) = nI l.length ∧ m.1 573 (1165 + 2 * n + 1) = nI (l ++ q.2).length
def LwQ (B : List Nat) (μ : SM2) (l : List Int32) (n : Nat) (r : Lv) : Out → SMem → Prop := Rm (some (.int (bI r.isRight))) (fun m => LwP B m l n r ∧ OfX n μ m)
theorem gr_lwL {B : List Nat} : Gr B (lwL B) := fun p q hp h => by
  have h1 := tE_le hp
  have h1s := tS_le hp
  have h2 := tE_le h1.2
  have h2s := tS_le h1.2
  unfold lwL at h
  split at h
  · split at h
    · have h3 := gr_lvOr (gr_lvA 6) (tE B (tE B p)) q h2.2 h
      omega
    · cases h
      exact ⟨by simp only [List.length_nil]; omega, h1.2⟩
  · cases h
theorem wfl_lwL {B : List Nat} {p : Nat} {q : Nat × List Int32} (hB : ∀ i, i < B.length → B.getD i 0 < 256) (h : lwL B p = .inr q) : wfl q.2 := by
  unfold lwL at h
  split at h
  · split at h
    · have h3 := ty_lvOr (B := B) (A := lvA B 6) (b := 0) (ty_lvA hB 6 (Nat.le_refl _)) (tE B (tE B p)) q [] h (Nat.le_refl _)
      exact Or.inr h3
    · cases h
      exact Or.inl rfl
  · cases h
theorem wfl_lwF {B : List Nat} (hB : ∀ i, i < B.length → B.getD i 0 < 256) : ∀ {n p : Nat} {LL LL' : List (List Int32)}, (∀ ln ∈ LL, wfl ln) → lwF B n p LL = .inr LL' → ∀ ln ∈ LL', wfl ln
  | 0, p, LL, LL', _, h => by cases h
  | n + 1, p, LL, LL', h1, h => by
    have ev : lwF B (n + 1) p LL = match lwL B p with | .inl f => .inl f | .inr q => if tK B q.1 = -1 then .inr (LL ++ [q.2]) else if tK B q.1 = nI 59 then lwF B n (tE B q.1) (LL ++ [q.2]) else .inl (tS B q.1) := rfl
    rw [ev] at h
    cases e : lwL B p with
    | inl f => rw [e] at h; cases h
    | inr q =>
      rw [e] at h
      dsimp only at h
      have h2 : ∀ ln ∈ LL ++ [q.2], wfl ln := fun ln hln => by
        rcases List.mem_append.mp hln with g | g
        · exact h1 ln g
        · rw [List.mem_singleton.mp g]
          exact wfl_lwL hB e
      split at h
      · cases h
        exact h2
      · split at h
        · exact wfl_lwF hB h2 h
        · cases h
theorem wfl_lawF {B : List Nat} {LL : List (List Int32)} (hB : ∀ i, i < B.length → B.getD i 0 < 256) (h : lawF B = .inr LL) : ∀ ln ∈ LL, wfl ln := by
  unfold lawF at h
  split at h
  · cases h
    exact fun ln hln => by cases hln
  · exact wfl_lwF hB (fun ln hln => by cases hln) h
/-- LINES that were read -/
def LnsM (m : SM2) (LL : List (List Int32)) : Prop := Emt m LL.flatten ∧ ∀ n, n < LL.length → m.1 573 (1165 + 2 * n) = nI (ofL LL n) ∧ m.1 573 (1165 + 2 * n + 1) = nI (ofL LL (n + 1))
theorem ofL_snoc {LL : List (List Int32)} {x : List Int32} {n : Nat} (h : n ≤ LL.length) : ofL (LL ++ [x]) n = ofL LL n := by
  unfold ofL
  rw [List.take_append_of_le_length h]
theorem ofL_all {LL : List (List Int32)} : ofL LL LL.length = LL.flatten.length := by
  unfold ofL
  rw [List.take_length]
theorem flt_snoc {LL : List (List Int32)} {x : List Int32} : (LL ++ [x]).flatten = LL.flatten ++ x := by
  rw [List.flatten_append]
  simp
def VlM (B : List Nat) (m : SM2) : Ls → Prop
  | .inl f => m.1 572 11 = nI f
  | .inr LL => mdL (m.1 573) 1164 LL
def lsV (r : Ls) : Int32 := match r with
  | .inl _ => -1
  | .inr LL => nI LL.length
def OfY (μ m : SM2) : Prop := OfM FD S573 μ m ∧ ∀ j, j < 1165 → m.1 573 j = μ.1 573 j
theorem OfY.refl (μ : SM2) : OfY μ μ := ⟨OfM.refl _ _ _, fun _ _ => rfl⟩
theorem OfY.trans {a b c : SM2} (h : OfY a b) (g : OfY b c) : OfY a c := ⟨h.1.trans g.1, fun j hj => (g.2 j hj).trans (h.2 j hj)⟩
theorem OfX.y {n : Nat} {μ m : SM2} (h : OfX n μ m) : OfY μ m := ⟨h.1, fun j hj => h.2 j (by omega) (by omega)⟩
theorem OfM.y {μ m : SM2} (h : OfM F9 S0 μ m) : OfY μ m := (h.d.x (n := 0)).y
section MLL
variable {γ : Ga} {μ : SM2}
theorem m_readLawLine {B : List Nat} {p n : Nat} {l : List Int32} (hT : MtP μ B (tS B p) (lE B p)) (hp : p ≤ B.length) (hE : Emt μ l) (hl : l.length ≤ p) (hn : n < 12) : Ex γ 30 0 0 M_X12_readLawLine [.ref 572, .int (nI n)] (rm μ) (LwQ B μ l n (lwL B p)) := by
  have hb := hT.1.1.b
  have h400 := hT.1.1.1.2
  have hte := tE_le hp
  have hts := tS_le hp
  have hte2 := tE_le hte.2
  have hts2 := tS_le hte.2
  refine Ex.of (by decide +kernel) rfl (Nat.le_of_ble_eq_true rfl) ?_
  show T _ _ _ _ _ _ _ _ _ [some (.ref 572), some (.int (nI n)), none] [] (rm μ)
  refine T_sipush (pc := 0) (v := nI 1165) dX12_readLawLine_0 (by decide) ?_
  refine T_iconst (pc := 3) (v := nI 2) dX12_readLawLine_3 (by decide) ?_
  refine T_iload_n (pc := 4) (i := 1) dX12_readLawLine_4 rfl rfl ?_
  refine R_imul (pc := 5) dX12_readLawLine_5 ?_
  refine R_iadd (pc := 6) dX12_readLawLine_6 ?_
  refine T_istore_n (pc := 7) (i := 2) (ls' := [some (.ref 572), some (.int (nI n)), some (.int (nI (1165 + (2 * n))))]) dX12_readLawLine_7 rfl (by decide) rfl ?_
  refine T_aload_n (pc := 8) (i := 0) dX12_readLawLine_8 rfl rfl ?_
  refine T_ldcSw (pc := 9) (i := 33) rfl dX12_readLawLine_9 ?_
  refine R_callV1 (pc := 12) (As := [.ref (XB + (33 + 1))]) (rest := []) (Or.inl lk_X12_167) mk_X12_isWord (m_isWordL hT hp sm33) kc_572 ⟨by decide, rfl⟩ lc_572 dX12_readLawLine_12 rfl rfl (Nat.le_of_ble_eq_true rfl) (by decide) rfl (Nat.le_refl _) (Nat.le_refl _) ?_
  cases e1 : wdB B p wBar with
  | false =>
    have ev : lwL B p = .inl (tS B p) := by
      unfold lwL
      rw [e1]
      rfl
    rw [ev]
    refine R_ifb_ne (pc := 15) (tgt := 20) dX12_readLawLine_15 (by decide) (fun g1 => ?_) (fun g1 => ?_)
    · exact absurd g1 (fun z => by cases z)
    · skip
      refine T_iconst (pc := 18) (v := nI 0) dX12_readLawLine_18 (by decide) ?_
      exact T_iret (pc := 19) (ty := .boolean) dX12_readLawLine_19 rfl (by decide) (Nat.le_refl _) (Nat.le_refl _) ⟨_, rfl, rfl, hT.2, OfX.refl _ _⟩
  | true =>
    have hgt : p < tE B p := wd_gt hp e1
    have q1 : MtQ (wI (wI μ 573 (1165 + 2 * n) (nI l.length)) 572 12 (nI 0)) B (tE B p) := (hT.w e1).w573.f (by decide)
    have E1 : Emt (wI (wI μ 573 (1165 + 2 * n) (nI l.length)) 572 12 (nI 0)) l := (hE.lo (by omega)).f (by decide)
    have O1 : OfX n μ (wI (wI μ 573 (1165 + 2 * n) (nI l.length)) 572 12 (nI 0)) := OfX.f (OfX.w (OfX.refl _ _) (Or.inl rfl)) (Or.inr (Or.inr (Or.inl rfl)))
    have k1 : (wI (wI μ 573 (1165 + 2 * n) (nI l.length)) 572 12 (nI 0)).1 573 (1165 + 2 * n) = nI l.length := (n_wI (by omega)).trans (e_wI ⟨rfl, rfl⟩)
    have d1 : (wI (wI μ 573 (1165 + 2 * n) (nI l.length)) 572 12 (nI 0)).1 572 12 = nI 0 := e_wI ⟨rfl, rfl⟩
    have t54 : ∀ (m : SM2) (q : Nat × List Int32), lwL B p = .inr q → MtS m B q.1 → Emt m (l ++ q.2) → m.1 573 (1165 + 2 * n) = nI l.length → OfX n μ m → T γ 30 0 0 M_X12_readLawLine (LwQ B μ l n (lwL B p)) 0 0 54 [some (.ref 572), some (.int (nI n)), some (.int (nI (1165 + 2 * n)))] [] (rm m) := fun m q ev hS hE hk hO => by
      rw [ev]
      have a1 : LwP B (wI m 573 (1165 + 2 * n + 1) (nI (l ++ q.2).length)) l n (.inr q) := ⟨hS.w573, hE.lo (by omega), (n_wI (by omega)).trans hk, e_wI ⟨rfl, rfl⟩⟩
      refine T_aload_n (pc := 54) (i := 0) dX12_readLawLine_54 rfl rfl ?_
      refine R_getR (pc := 55) (i := 573) fl_X12_29 rfl kc_572 lc_572 rc_572_1 dX12_readLawLine_55 ?_
      refine T_iload_n (pc := 58) (i := 2) dX12_readLawLine_58 rfl rfl ?_
      refine T_iconst (pc := 59) (v := nI 1) dX12_readLawLine_59 (by decide) ?_
      refine R_iadd (pc := 60) dX12_readLawLine_60 ?_
      refine T_aload_n (pc := 61) (i := 0) dX12_readLawLine_61 rfl rfl ?_
      refine R_getI (pc := 62) (x := nI ((l ++ q.2).length)) fl_X12_235 rfl kc_572 lc_572 hE.1 dX12_readLawLine_62 ?_
      refine R_iast (pc := 65) kc_573 lc_573 (by omega) (by first | decide | assumption) dX12_readLawLine_65 ?_
      refine T_iconst (pc := 66) (v := nI 1) dX12_readLawLine_66 (by decide) ?_
      exact T_iret (pc := 67) (ty := .boolean) dX12_readLawLine_67 rfl (by decide) (Nat.le_refl _) (Nat.le_refl _) ⟨_, rfl, rfl, a1, OfX.w hO (Or.inr rfl)⟩
    refine R_ifb_ne (pc := 15) (tgt := 20) dX12_readLawLine_15 (by decide) (fun g1 => ?_) (fun g1 => ?_)
    · skip
      refine T_aload_n (pc := 20) (i := 0) dX12_readLawLine_20 rfl rfl ?_
      refine R_getR (pc := 21) (i := 573) fl_X12_29 rfl kc_572 lc_572 rc_572_1 dX12_readLawLine_21 ?_
      refine T_iload_n (pc := 24) (i := 2) dX12_readLawLine_24 rfl rfl ?_
      refine T_aload_n (pc := 25) (i := 0) dX12_readLawLine_25 rfl rfl ?_
      refine R_getI (pc := 26) (x := nI l.length) fl_X12_235 rfl kc_572 lc_572 hE.1 dX12_readLawLine_26 ?_
      refine R_iast (pc := 29) kc_573 lc_573 (by omega) (by first | decide | assumption) dX12_readLawLine_29 ?_
      refine T_aload_n (pc := 30) (i := 0) dX12_readLawLine_30 rfl rfl ?_
      refine T_iconst (pc := 31) (v := nI 0) dX12_readLawLine_31 (by decide) ?_
      refine R_putI (pc := 32) fl_X12_256 ⟨rfl, rfl⟩ (Or.inl rfl) kc_572 lc_572 dX12_readLawLine_32 ?_
      refine T_aload_n (pc := 35) (i := 0) dX12_readLawLine_35 rfl rfl ?_
      refine T_ldcSw (pc := 36) (i := 34) rfl dX12_readLawLine_36 ?_
      refine R_callVm1 (pc := 39) (As := [.ref (XB + (34 + 1))]) (rest := []) (Or.inl lk_X12_264) mk_X12_passes (m_word (a := ("BeastRulesModel", 283, "if")) q1.s sm34) kc_572 ⟨by decide, rfl⟩ lc_572 dX12_readLawLine_39 rfl rfl (Nat.le_of_ble_eq_true rfl) (by decide) rfl (Nat.le_refl _) (Nat.le_refl _) (fun m2 h2 => ?_)
      obtain ⟨r2, o2⟩ := h2
      have r2' : MtP m2 B (tS B (tE B p)) (gpE B (tE B p) (wdB B (tE B p) wIf)) := r2
      have E2 := E1.f9 o2
      have O2 : OfX n μ m2 := O1.trans o2.d.x
      have k2 : m2.1 573 (1165 + 2 * n) = nI l.length := (o2.i (by decide) (fun z => z) _).trans k1
      have d2 : m2.1 572 12 = nI 0 := (o2.fi (by unfold F9; omega)).trans d1
      cases e2 : wdB B (tE B p) wIf with
      | false =>
        rw [e2] at r2'
        have ev : lwL B p = .inr (tE B p, []) := by
          unfold lwL
          rw [e1, e2]
          rfl
        refine R_ifb_eq (pc := 42) (tgt := 54) dX12_readLawLine_42 (by decide) (fun g2 => ?_) (fun g2 => ?_)
        · exact t54 m2 _ ev (MtP.s r2') (by rw [List.append_nil]; exact E2) k2 O2
        · exact absurd g2 (fun z => by cases z)
      | true =>
        rw [e2] at r2'
        have q2 : MtQ m2 B (tE B (tE B p)) := r2'.1
        have ev : lwL B p = lvOr B (lvA B 6) (tE B (tE B p)) := by
          unfold lwL
          rw [e1, e2]
          rfl
        have hC := m_readCond0 (γ := γ) (B := B) m2 (tE B (tE B p)) l q2.s hte2.2 E2 (by omega) d2
        refine R_ifb_eq (pc := 42) (tgt := 54) dX12_readLawLine_42 (by decide) (fun g2 => ?_) (fun g2 => ?_)
        · exact absurd g2 (fun z => by cases z)
        · skip
          refine T_aload_n (pc := 45) (i := 0) dX12_readLawLine_45 rfl rfl ?_
          refine R_callVm1 (pc := 46) (As := []) (rest := []) (Or.inl lk_X12_259) mk_X12_readCond hC kc_572 ⟨by decide, rfl⟩ lc_572 dX12_readLawLine_46 rfl rfl (Nat.le_of_ble_eq_true rfl) (by decide) rfl (Nat.le_refl _) (Nat.le_refl _) (fun m3 h3 => ?_)
          obtain ⟨r3, o3⟩ := h3
          have r3' : LqMP B m3 l 0 (lvOr B (lvA B 6) (tE B (tE B p))) := r3
          cases e : lvOr B (lvA B 6) (tE B (tE B p)) with
          | inl z =>
            rw [e] at r3'
            rw [ev, e]
            refine R_ifb_ne (pc := 49) (tgt := 54) dX12_readLawLine_49 (by decide) (fun g3 => ?_) (fun g3 => ?_)
            · exact absurd g3 (fun z => by cases z)
            · skip
              refine T_iconst (pc := 52) (v := nI 0) dX12_readLawLine_52 (by decide) ?_
              exact T_iret (pc := 53) (ty := .boolean) dX12_readLawLine_53 rfl (by decide) (Nat.le_refl _) (Nat.le_refl _) ⟨_, rfl, rfl, r3', O2.trans o3.x⟩
          | inr q =>
            rw [e] at r3'
            refine R_ifb_ne (pc := 49) (tgt := 54) dX12_readLawLine_49 (by decide) (fun g3 => ?_) (fun g3 => ?_)
            · exact t54 m3 q (ev.trans e) r3'.1 r3'.2.1 ((o3.2 _ (by omega)).trans k2) (O2.trans o3.x)
            · exact absurd g3 (fun z => by cases z)
    · exact absurd g1 (fun z => by cases z)
theorem m_readLineL {B : List Nat} {p n : Nat} {l : List Int32} (hT : MtS μ B p) (hp : p ≤ B.length) (hE : Emt μ l) (hl : l.length ≤ p) (hn : n ≤ 12) : Ex γ 31 0 0 M_X12_readLine [.ref 572, .int (nI 0), .int (nI n)] (rm μ) (LwQ B μ l n (if n < 12 then lwL B p else .inl (tS B p))) := by
  refine Ex.of (by decide +kernel) rfl (Nat.le_of_ble_eq_true rfl) ?_
  show T _ _ _ _ _ _ _ _ _ [some (.ref 572), some (.int (nI 0)), some (.int (nI n))] [] (rm μ)
  refine T_aload_n (pc := 0) (i := 0) dX12_readLine_0 rfl rfl ?_
  refine R_callVm0 (pc := 1) (As := []) (rest := []) (Or.inl lk_X12_164) mk_X12_letters (m_lettersS hT) kc_572 ⟨by decide, rfl⟩ lc_572 dX12_readLine_1 rfl rfl (Nat.le_of_ble_eq_true rfl) (by decide) rfl (Nat.le_refl _) (Nat.le_refl _) (fun m1 h1 => ?_)
  obtain ⟨r1, o1⟩ := h1
  refine T_iload_n (pc := 4) (i := 2) dX12_readLine_4 rfl rfl ?_
  refine T_iload_n (pc := 5) (i := 1) dX12_readLine_5 rfl rfl ?_
  refine R_if_eq (pc := 6) (tgt := 14) (by omega) dX12_readLine_6 (by decide) (fun g1 => ?_) (fun g1 => ?_)
  · skip
    refine T_bipush (pc := 14) (v := nI 12) dX12_readLine_14 (by decide) ?_
    refine R_icmp_ge (pc := 16) (tgt := 45) (by omega) (by omega) dX12_readLine_16 (by decide) (fun g2 => ?_) (fun g2 => ?_)
    · skip
      rw [if_neg (by omega)]
      refine T_iconst (pc := 45) (v := nI 0) dX12_readLine_45 (by decide) ?_
      exact T_iret (pc := 46) (ty := .boolean) dX12_readLine_46 rfl (by decide) (Nat.le_refl _) (Nat.le_refl _) ⟨_, rfl, rfl, r1.2, o1.d.x⟩
    · skip
      rw [if_pos g2]
      refine T_iload_n (pc := 19) (i := 1) dX12_readLine_19 rfl rfl ?_
      refine R_if_eq (pc := 20) (tgt := 33) (by omega) dX12_readLine_20 (by decide) (fun g3 => ?_) (fun g3 => ?_)
      · skip
        refine T_aload_n (pc := 33) (i := 0) dX12_readLine_33 rfl rfl ?_
        refine T_iload_n (pc := 34) (i := 2) dX12_readLine_34 rfl rfl ?_
        refine R_callVm1 (pc := 35) (As := [.int (nI n)]) (rest := []) (Or.inl lk_X12_288) mk_X12_readLawLine (m_readLawLine r1 hp (hE.f9 o1) hl g2) kc_572 ⟨by decide, rfl⟩ lc_572 dX12_readLine_35 rfl rfl (Nat.le_of_ble_eq_true rfl) (by decide) rfl (Nat.le_refl _) (Nat.le_refl _) (fun m2 h2 => ?_)
        obtain ⟨r2, o2⟩ := h2
        cases e : lwL B p with
        | inl f =>
          rw [e] at r2
          refine R_ifb_eq (pc := 38) (tgt := 45) dX12_readLine_38 (by decide) (fun g4 => ?_) (fun g4 => ?_)
          · skip
            refine T_iconst (pc := 45) (v := nI 0) dX12_readLine_45 (by decide) ?_
            exact T_iret (pc := 46) (ty := .boolean) dX12_readLine_46 rfl (by decide) (Nat.le_refl _) (Nat.le_refl _) ⟨_, rfl, rfl, r2, (o1.d.x).trans o2⟩
          · exact absurd g4 (fun z => by cases z)
        | inr q =>
          rw [e] at r2
          refine R_ifb_eq (pc := 38) (tgt := 45) dX12_readLine_38 (by decide) (fun g4 => ?_) (fun g4 => ?_)
          · exact absurd g4 (fun z => by cases z)
          · skip
            refine T_iconst (pc := 41) (v := nI 1) dX12_readLine_41 (by decide) ?_
            refine T_goto (pc := 42) (tgt := 46) dX12_readLine_42 (by decide) ?_
            exact T_iret (pc := 46) (ty := .boolean) dX12_readLine_46 rfl (by decide) (Nat.le_refl _) (Nat.le_refl _) ⟨_, rfl, rfl, r2, (o1.d.x).trans o2⟩
      · exact absurd rfl g3
  · exact absurd rfl g1
theorem m_readAllL {B : List Nat} (hB : TapeAt μ B) : Ex γ 32 0 0 M_X12_readAll [.ref 572, .int (nI 0)] (rm μ) (Rm (some (.int (lsV (lawF B)))) (fun m => (VlM B m (lawF B) ∧ TapeAt m [] ∧ m.1 572 0 = nI 0) ∧ OfM (fun j => FvA j ∨ j = 12) S573 μ m ∧ ∀ j, j < 1165 → m.1 573 j = μ.1 573 j)) := by
  have loop : ∀ (k p : Nat) (LL : List (List Int32)) (m0 m : SM2) (Q : Out → SMem → Prop), (∀ m9, VlM B m9 (lwF B k p LL) → OfY m0 m9 → Q (.inl (some (.int (lsV (lwF B k p LL))))) (rm m9)) → LL.length + k = 12 → MtS m B p → p ≤ B.length → LnsM m LL → LL.flatten.length ≤ p → OfY m0 m → T γ 32 0 0 M_X12_readAll Q 0 0 28 [some (.ref 572), some (.int (nI 0)), some (.int (nI LL.length))] [] (rm m) := by
    intro k
    induction k with
    | zero =>
      intro p LL m0 m Q hQ hi hT hp hL hl hO
      have h9 := m_readLineL (γ := γ) hT hp hL.1 hl (n := LL.length) (by omega)
      rw [if_neg (by omega)] at h9
      refine T_aload_n (pc := 28) (i := 0) dX12_readAll_28 rfl rfl ?_
      refine T_iload_n (pc := 29) (i := 1) dX12_readAll_29 rfl rfl ?_
      refine T_iload_n (pc := 30) (i := 2) dX12_readAll_30 rfl rfl ?_
      refine R_callVm1 (pc := 31) (As := [.int (nI 0), .int (nI LL.length)]) (rest := []) (Or.inl lk_X12_294) mk_X12_readLine h9 kc_572 ⟨by decide, rfl⟩ lc_572 dX12_readAll_31 rfl rfl (Nat.le_of_ble_eq_true rfl) (by decide) rfl (Nat.le_refl _) (Nat.le_refl _) (fun m1 h1 => ?_)
      obtain ⟨r1, o1⟩ := h1
      refine R_ifb_ne (pc := 34) (tgt := 39) dX12_readAll_34 (by decide) (fun g1 => ?_) (fun g1 => ?_)
      · exact absurd g1 (fun z => by cases z)
      · skip
        refine T_iconst (pc := 37) (v := (-1)) dX12_readAll_37 (by decide) ?_
        exact T_iret (pc := 38) (ty := .int) dX12_readAll_38 rfl rfl (Nat.le_refl _) (Nat.le_refl _) (hQ _ r1 (hO.trans o1.y))
    | succ k ih =>
      intro p LL m0 m Q hQ hi hT hp hL hl hO
      have h9 := m_readLineL (γ := γ) hT hp hL.1 hl (n := LL.length) (by omega)
      rw [if_pos (by omega)] at h9
      have ev : lwF B (k + 1) p LL = match lwL B p with | .inl f => .inl f | .inr q => if tK B q.1 = -1 then .inr (LL ++ [q.2]) else if tK B q.1 = nI 59 then lwF B k (tE B q.1) (LL ++ [q.2]) else .inl (tS B q.1) := rfl
      rw [ev] at hQ
      cases e : lwL B p with
      | inl f =>
        rw [e] at h9 hQ
        refine T_aload_n (pc := 28) (i := 0) dX12_readAll_28 rfl rfl ?_
        refine T_iload_n (pc := 29) (i := 1) dX12_readAll_29 rfl rfl ?_
        refine T_iload_n (pc := 30) (i := 2) dX12_readAll_30 rfl rfl ?_
        refine R_callVm1 (pc := 31) (As := [.int (nI 0), .int (nI LL.length)]) (rest := []) (Or.inl lk_X12_294) mk_X12_readLine h9 kc_572 ⟨by decide, rfl⟩ lc_572 dX12_readAll_31 rfl rfl (Nat.le_of_ble_eq_true rfl) (by decide) rfl (Nat.le_refl _) (Nat.le_refl _) (fun m1 h1 => ?_)
        obtain ⟨r1, o1⟩ := h1
        refine R_ifb_ne (pc := 34) (tgt := 39) dX12_readAll_34 (by decide) (fun g1 => ?_) (fun g1 => ?_)
        · exact absurd g1 (fun z => by cases z)
        · skip
          refine T_iconst (pc := 37) (v := (-1)) dX12_readAll_37 (by decide) ?_
          exact T_iret (pc := 38) (ty := .int) dX12_readAll_38 rfl rfl (Nat.le_refl _) (Nat.le_refl _) (hQ _ r1 (hO.trans o1.y))
      | inr q =>
        rw [e] at h9 hQ
        dsimp only at hQ
        have hgr := gr_lwL p q hp e
        have h400 := hT.b.1.2
        refine T_aload_n (pc := 28) (i := 0) dX12_readAll_28 rfl rfl ?_
        refine T_iload_n (pc := 29) (i := 1) dX12_readAll_29 rfl rfl ?_
        refine T_iload_n (pc := 30) (i := 2) dX12_readAll_30 rfl rfl ?_
        refine R_callVm1 (pc := 31) (As := [.int (nI 0), .int (nI LL.length)]) (rest := []) (Or.inl lk_X12_294) mk_X12_readLine h9 kc_572 ⟨by decide, rfl⟩ lc_572 dX12_readAll_31 rfl rfl (Nat.le_of_ble_eq_true rfl) (by decide) rfl (Nat.le_refl _) (Nat.le_refl _) (fun m1 h1 => ?_)
        obtain ⟨⟨s1, E1, k1, k2⟩, o1⟩ := h1
        have hb := s1.b.b
        have hts := tS_le hgr.2
        have hte := tE_le hgr.2
        have hfl : (LL ++ [q.2]).flatten.length = LL.flatten.length + q.2.length := by rw [flt_snoc, List.length_append]
        have L1 : LnsM m1 (LL ++ [q.2]) := by
          refine ⟨by rw [flt_snoc]; exact E1, fun n hn => ?_⟩
          rw [len_snoc] at hn
          by_cases en : n = LL.length
          · rw [en, ofL_snoc (Nat.le_refl _), ofL_all]
            refine ⟨k1, k2.trans ?_⟩
            rw [show LL.length + 1 = (LL ++ [q.2]).length from len_snoc.symm, ofL_all, flt_snoc]
          · rw [ofL_snoc (by omega), ofL_snoc (by omega)]
            have h5 := hL.2 n (by omega)
            exact ⟨(o1.2 _ (by omega) (by omega)).trans h5.1, (o1.2 _ (by omega) (by omega)).trans h5.2⟩
        have L2 : ∀ m2 : SM2, OfM F9 S0 m1 m2 → LnsM m2 (LL ++ [q.2]) := fun m2 o2 => ⟨L1.1.f9 o2, fun n hn => ⟨(o2.i (by decide) (fun z => z) _).trans (L1.2 n hn).1, (o2.i (by decide) (fun z => z) _).trans (L1.2 n hn).2⟩⟩
        obtain ⟨q', t1, t2⟩ := s1
        refine R_ifb_ne (pc := 34) (tgt := 39) dX12_readAll_34 (by decide) (fun g1 => ?_) (fun g1 => ?_)
        · skip
          refine T_aload_n (pc := 39) (i := 0) dX12_readAll_39 rfl rfl ?_
          refine R_callVm0 (pc := 40) (As := []) (rest := []) (Or.inl lk_X12_152) mk_X12_blanks (m_blanks t1) kc_572 ⟨by decide, rfl⟩ lc_572 dX12_readAll_40 rfl rfl (Nat.le_of_ble_eq_true rfl) (by decide) rfl (Nat.le_refl _) (Nat.le_refl _) (fun m2 h2 => ?_)
          obtain ⟨r2, o2⟩ := h2
          rw [t2] at r2
          refine T_aload_n (pc := 43) (i := 0) dX12_readAll_43 rfl rfl ?_
          refine R_getI (pc := 44) (x := nI (tS B q.1)) fl_X12_139 rfl kc_572 lc_572 r2.1.2.2 dX12_readAll_44 ?_
          refine T_aload_n (pc := 47) (i := 0) dX12_readAll_47 rfl rfl ?_
          refine R_getI (pc := 48) (x := nI B.length) fl_X12_142 rfl kc_572 lc_572 r2.1.1.1.1 dX12_readAll_48 ?_
          refine R_icmp_ne (pc := 51) (tgt := 58) (by omega) (by omega) dX12_readAll_51 (by decide) (fun g2 => ?_) (fun g2 => ?_)
          · skip
            rw [if_neg (fun z => (tK_end hb).mp z (by omega))] at hQ
            refine T_aload_n (pc := 58) (i := 0) dX12_readAll_58 rfl rfl ?_
            refine T_bipush (pc := 59) (v := nI 59) dX12_readAll_59 (by decide) ?_
            refine T_bipush (pc := 61) (v := nI 59) dX12_readAll_61 (by decide) ?_
            refine R_callV1 (pc := 63) (As := [.int (nI 59), .int (nI 59)]) (rest := []) (Or.inl lk_X12_145) mk_X12_isAt (m_isAt r2.1 (by decide) (by decide)) kc_572 ⟨by decide, rfl⟩ lc_572 dX12_readAll_63 rfl rfl (Nat.le_of_ble_eq_true rfl) (by decide) rfl (Nat.le_refl _) (Nat.le_refl _) ?_
            rw [sg_k hb (by decide) (by decide)]
            by_cases h59 : tK B q.1 = nI 59
            · rw [if_pos h59] at hQ
              rw [decide_eq_true h59]
              have e9 := sg_e (p := q.1) hb (c := 59) (by decide) (by decide) h59
              have ho9 : OfM F9 S0 m1 (wI m2 572 9 (nI (tS B q.1 + 1))) := OfM.sF o2 (Or.inl rfl)
              have h8 := ih (tE B q.1) (LL ++ [q.2]) m0 (wI m2 572 9 (nI (tS B q.1 + 1))) Q hQ (by rw [len_snoc]; omega) (MtQ.s (by rw [e9]; exact r2.1.p (by omega))) hte.2 (L2 _ ho9) (by omega) ((hO.trans o1.y).trans ho9.y)
              rw [len_snoc] at h8
              refine R_ifb_ne (pc := 66) (tgt := 71) dX12_readAll_66 (by decide) (fun g3 => ?_) (fun g3 => ?_)
              · skip
                refine T_aload_n (pc := 71) (i := 0) dX12_readAll_71 rfl rfl ?_
                refine T_dup (pc := 72) dX12_readAll_72 rfl ?_
                refine R_getI (pc := 73) (x := nI (tS B q.1)) fl_X12_139 rfl kc_572 lc_572 r2.1.2.2 dX12_readAll_73 ?_
                refine T_iconst (pc := 76) (v := nI 1) dX12_readAll_76 (by decide) ?_
                refine R_iadd (pc := 77) dX12_readAll_77 ?_
                refine R_putI (pc := 78) fl_X12_139 ⟨rfl, rfl⟩ (Or.inl rfl) kc_572 lc_572 dX12_readAll_78 ?_
                refine R_iinc (pc := 81) (i := 2) (n := 1) (ls' := [some (.ref 572), some (.int (nI 0)), some (.int (nI (LL.length + 1)))]) dX12_readAll_81 rfl rfl ?_
                refine T_goto (pc := 84) (tgt := 28) dX12_readAll_84 (by decide) ?_
                exact h8
              · exact absurd g3 (fun z => by cases z)
            · rw [if_neg h59] at hQ
              rw [decide_eq_false h59]
              refine R_ifb_ne (pc := 66) (tgt := 71) dX12_readAll_66 (by decide) (fun g3 => ?_) (fun g3 => ?_)
              · exact absurd g3 (fun z => by cases z)
              · skip
                refine T_iconst (pc := 69) (v := (-1)) dX12_readAll_69 (by decide) ?_
                exact T_iret (pc := 70) (ty := .int) dX12_readAll_70 rfl rfl (Nat.le_refl _) (Nat.le_refl _) (hQ _ r2.2 ((hO.trans o1.y).trans o2.y))
          · skip
            have ee : tK B q.1 = -1 := (tK_end hb).mpr (by omega)
            rw [if_pos ee] at hQ
            have L3 := L2 m2 o2
            have a1 : VlM B m2 (.inr (LL ++ [q.2])) := ⟨⟨by rw [len_snoc]; omega, by omega⟩, L3.2, L3.1.2⟩
            have h8 := hQ m2 a1 ((hO.trans o1.y).trans o2.y)
            rw [show lsV (.inr (LL ++ [q.2])) = nI (LL.length + 1) from congrArg nI len_snoc] at h8
            refine T_iload_n (pc := 54) (i := 2) dX12_readAll_54 rfl rfl ?_
            refine T_iconst (pc := 55) (v := nI 1) dX12_readAll_55 (by decide) ?_
            refine R_iadd (pc := 56) dX12_readAll_56 ?_
            exact T_iret (pc := 57) (ty := .int) dX12_readAll_57 rfl rfl (Nat.le_refl _) (Nat.le_refl _) h8
        · exact absurd g1 (fun z => by cases z)
  refine Ex.of (by decide +kernel) rfl (Nat.le_of_ble_eq_true rfl) ?_
  show T _ _ _ _ _ _ _ _ _ [some (.ref 572), some (.int (nI 0)), none] [] (rm μ)
  refine T_aload_n (pc := 0) (i := 0) dX12_readAll_0 rfl rfl ?_
  refine R_callVm0 (pc := 1) (As := []) (rest := []) (Or.inl lk_X12_291) mk_X12_uses (m_uses hB) kc_572 ⟨by decide, rfl⟩ lc_572 dX12_readAll_1 rfl rfl (Nat.le_of_ble_eq_true rfl) (by decide) rfl (Nat.le_refl _) (Nat.le_refl _) (fun m1 h1 => ?_)
  obtain ⟨⟨r1, t1, z1⟩, o1⟩ := h1
  refine T_aload_n (pc := 4) (i := 0) dX12_readAll_4 rfl rfl ?_
  refine T_iconst (pc := 5) (v := nI 0) dX12_readAll_5 (by decide) ?_
  refine R_putI (pc := 6) fl_X12_235 ⟨rfl, rfl⟩ (Or.inl rfl) kc_572 lc_572 dX12_readAll_6 ?_
  refine T_aload_n (pc := 9) (i := 0) dX12_readAll_9 rfl rfl ?_
  have r2 : MtQ (wI m1 572 15 (nI 0)) B 0 := r1.f (by decide)
  refine R_callVm0 (pc := 10) (As := []) (rest := []) (Or.inl lk_X12_152) mk_X12_blanks (m_blanks r2) kc_572 ⟨by decide, rfl⟩ lc_572 dX12_readAll_10 rfl rfl (Nat.le_of_ble_eq_true rfl) (by decide) rfl (Nat.le_refl _) (Nat.le_refl _) (fun m2 h2 => ?_)
  obtain ⟨r3, o3⟩ := h2
  have hb := r1.1.b
  have hte := tS_le r1.2.1
  have h400 := r1.1.1.2
  have oA : OfM FvA S0 μ m2 := ((OfM.sF (o1.mono (F' := FvA) (fun j hj => Or.inl hj) (fun _ z => z)) (Or.inr (Or.inr rfl))).trans (o3.mono (fun j hj => by unfold F9 at hj; unfold FvA Fus; omega) (fun _ z => z)))
  have t2 : TapeAt m2 [] := t1.of ((o3.fi (by unfold F9; omega)).trans (n_wI (by omega))) ((o3.c (by decide) (fun z => z)).1.trans (funext (fun j => n_wI (by omega))))
  have z2 : m2.1 572 0 = nI 0 := ((o3.fi (by unfold F9; omega)).trans (n_wI (by omega))).trans z1
  have st0 : m2.1 572 15 = nI 0 := (o3.fi (by unfold F9; omega)).trans (e_wI ⟨rfl, rfl⟩)
  have L0 : LnsM m2 [] := ⟨⟨st0, fun i hi => absurd hi (Nat.not_lt_zero _)⟩, fun i hi => absurd hi (Nat.not_lt_zero _)⟩
  refine T_aload_n (pc := 13) (i := 0) dX12_readAll_13 rfl rfl ?_
  refine R_getI (pc := 14) (x := nI (tS B 0)) fl_X12_139 rfl kc_572 lc_572 r3.1.2.2 dX12_readAll_14 ?_
  refine T_aload_n (pc := 17) (i := 0) dX12_readAll_17 rfl rfl ?_
  refine R_getI (pc := 18) (x := nI B.length) fl_X12_142 rfl kc_572 lc_572 r3.1.1.1.1 dX12_readAll_18 ?_
  unfold lawF
  refine R_icmp_ne (pc := 21) (tgt := 26) (by omega) (by omega) dX12_readAll_21 (by decide) (fun g1 => ?_) (fun g1 => ?_)
  · skip
    have ee : ¬ tK B 0 = -1 := fun z => (tK_end hb).mp z (by omega)
    rw [if_neg ee]
    refine T_iconst (pc := 26) (v := nI 0) dX12_readAll_26 (by decide) ?_
    refine T_istore_n (pc := 27) (i := 2) (ls' := [some (.ref 572), some (.int (nI 0)), some (.int (nI 0))]) dX12_readAll_27 rfl (by decide) rfl ?_
    refine loop 12 0 [] m2 m2 _ (fun m9 h1 h2 => ?_) rfl (MtP.s r3) r1.2.1 L0 (Nat.le_refl _) (OfY.refl _)
    exact ⟨m9, rfl, rfl, ⟨h1, t2.of (h2.1.fi (by unfold FD; omega)) (h2.1.c (by decide) (by unfold S573; omega)).1, (h2.1.fi (by unfold FD; omega)).trans z2⟩, ⟨(oA.mono (F' := fun j => FvA j ∨ j = 12) (S' := S573) (fun _ z => Or.inl z) (fun _ z => z.elim)).trans (h2.1.mono (fun j hj => by unfold FD at hj; unfold FvA Fus; omega) (fun _ z => z)), fun j hj => (h2.2 j hj).trans (oA.i (by decide) (fun z => z) j)⟩⟩
  · skip
    have ee : tK B 0 = -1 := (tK_end hb).mpr (by omega)
    rw [if_pos ee]
    have a1 : VlM B m2 (.inr []) := ⟨⟨Nat.zero_le _, Nat.zero_le _⟩, L0.2, L0.1.2⟩
    refine T_iconst (pc := 24) (v := nI 0) dX12_readAll_24 (by decide) ?_
    exact T_iret (pc := 25) (ty := .int) dX12_readAll_25 rfl rfl (Nat.le_refl _) (Nat.le_refl _) ⟨_, rfl, rfl, ⟨a1, t2, z2⟩, oA.mono (fun _ z => Or.inl z) (fun _ z => z.elim), fun j _ => oA.i (by decide) (fun z => z) j⟩
end MLL

