/-! SCALES: which BEASTS, which rows -/
def SSc (k : Nat) : Prop := 116 ≤ k ∧ k < 121
def lsB (K : Nat) : Nat → List Nat
  | 0 => []
  | i + 1 => if K / 2 ^ i % 2 = 1 then lsB K i ++ [i] else lsB K i
theorem lsB_len (K : Nat) : ∀ i, (lsB K i).length = pcn K i
  | 0 => rfl
  | i + 1 => by
    have h := lsB_len K i
    have h2 : K / 2 ^ i % 2 < 2 := Nat.mod_lt _ (by decide)
    show (if K / 2 ^ i % 2 = 1 then lsB K i ++ [i] else lsB K i).length = pcn K i + K / 2 ^ i % 2
    split
    · next g =>
      rw [List.length_append, h, g]
      rfl
    · rw [h]
      omega
theorem lsB_mem {K b : Nat} : ∀ i, b ∈ lsB K i ↔ b < i ∧ K / 2 ^ b % 2 = 1
  | 0 => ⟨fun h => absurd h List.not_mem_nil, fun h => absurd h.1 (Nat.not_lt_zero _)⟩
  | i + 1 => by
    have h := lsB_mem (K := K) (b := b) i
    show b ∈ (if K / 2 ^ i % 2 = 1 then lsB K i ++ [i] else lsB K i) ↔ _
    split
    · next g =>
      rw [List.mem_append, List.mem_singleton, h]
      constructor
      · rintro (h1 | rfl)
        · exact ⟨by omega, h1.2⟩
        · exact ⟨Nat.lt_succ_self _, g⟩
      · rintro ⟨h1, h2⟩
        by_cases e : b = i
        · exact Or.inr e
        · exact Or.inl ⟨by omega, h2⟩
    · next g =>
      rw [h]
      constructor
      · rintro ⟨h1, h2⟩
        exact ⟨by omega, h2⟩
      · rintro ⟨h1, h2⟩
        by_cases e : b = i
        · rw [e] at h2
          exact absurd h2 g
        · exact ⟨by omega, h2⟩
theorem pcn_8 {K : Nat} (h : K < 2 ^ 8) : pcn K 12 = pcn K 8 := by
  have e : ∀ f, 8 ≤ f → K / 2 ^ f % 2 = 0 := fun f hf => by
    have : 2 ^ 8 ≤ 2 ^ f := Nat.pow_le_pow_right (by decide) hf
    rw [Nat.div_eq_of_lt (by omega)]
  show pcn K 8 + K / 2 ^ 8 % 2 + K / 2 ^ 9 % 2 + K / 2 ^ 10 % 2 + K / 2 ^ 11 % 2 = pcn K 8
  rw [e 8 (by decide), e 9 (by decide), e 10 (by decide), e 11 (by decide)]
  rfl
theorem pcn_mono (K : Nat) : ∀ {i j}, i ≤ j → pcn K i ≤ pcn K j := fun {i j} h => by
  induction j with
  | zero => rw [Nat.le_zero.mp h]; exact Nat.le_refl _
  | succ j ih =>
    by_cases e : i = j + 1
    · rw [e]
      exact Nat.le_refl _
    · exact Nat.le_trans (ih (by omega)) (Nat.le_add_right _ _)
def ListAt (m : SM2) (lst : List Nat) : Prop := m.1 116 2 = nI lst.length ∧ lst.length ≤ 6 ∧ ∀ i, i < lst.length → lst.getD i 0 < 8 ∧ m.1 118 i = nI (lst.getD i 0)
theorem ListAt.ofs {S : Nat → Prop} {μ m : SM2} {lst : List Nat} (h : ListAt μ lst) (g : OfS S μ m) (h1 : ¬ S 116) (h2 : ¬ S 118) : ListAt m lst := ⟨(g.i h1 2).trans h.1, h.2.1, fun i hi => ⟨(h.2.2 i hi).1, (g.i h2 i).trans (h.2.2 i hi).2⟩⟩
/-- how many more of a BEAST stand in LEFT -/
def zc (x : Ru) (b : Nat) : Int := (x.1.count b : Int) - x.2.count b
/-- behind which of those listed all that it asks for are weighed -/
def laN (lst : List Nat) (x : Ru) : Nat → Nat
  | 0 => 0
  | k + 1 => if zc x (lst.getD k 0) = 0 then laN lst x k else k
def RwAt (m : SM2) (lst : List Nat) (P : List Ru) : Prop := (m.1 116 5 = nI P.length ∧ P.length ≤ 13) ∧ (∀ i b, i < P.length → b < 8 → m.1 119 (i * 8 + b) = Int32.ofInt (zc (rAt P i) b)) ∧ (∀ i, i < P.length → m.1 120 i = nI (laN lst (rAt P i) lst.length)) ∧ ∀ j, P.length * 8 ≤ j → j < 104 → m.1 119 j = 0
theorem RwAt.keep {μ m : SM2} {lst : List Nat} {P : List Ru} (h : RwAt μ lst P) (h0 : m.1 116 5 = μ.1 116 5) (h1 : ∀ j, m.1 119 j = μ.1 119 j) (h2 : ∀ j, m.1 120 j = μ.1 120 j) : RwAt m lst P := ⟨⟨h0.trans h.1.1, h.1.2⟩, fun i b hi hb => (h1 _).trans (h.2.1 i b hi hb), fun i hi => (h2 _).trans (h.2.2.1 i hi), fun j h3 h4 => (h1 _).trans (h.2.2.2 j h3 h4)⟩
theorem okb_gd {l : List Nat} (h : okb l) {i : Nat} (hi : i < l.length) : l.getD i 0 < 8 := h _ (by rw [List.getD_eq_getElem?_getD, List.getElem?_eq_getElem hi]; exact List.getElem_mem hi)
theorem ofI_n (n : Nat) : Int32.ofInt (n : Int) = nI n := Int32.ofInt_eq_ofNat
theorem zc_cell {a c : Nat} : (0 : Int32) + nI a * 1 + nI c * (-1) = Int32.ofInt ((a : Int) - c) := by
  rw [Int32.mul_neg, Int32.mul_one, Int32.mul_one, Int32.zero_add, Int32.ofInt_sub, ofI_n, ofI_n, Int32.sub_eq_add_neg]
theorem nI_s (n : Nat) : nI (n + 1) = nI n + 1 := by
  rw [← ofI_n, ← ofI_n, Int.natCast_add, Int32.ofInt_add]
  rfl
theorem ofI_0 {z : Int} (h : -2147483648 ≤ z ∧ z < 2147483648) : Int32.ofInt z = 0 ↔ z = 0 := by
  have e : (Int32.ofInt z).toInt = z := Int32.toInt_ofInt_of_le (by omega) (by omega)
  rw [fa_eq, e]
  exact Iff.rfl
theorem count_snoc {l : List Nat} {d b : Nat} : (l ++ [d]).count b = l.count b + if d = b then 1 else 0 := by
  rw [List.count_append, List.count_singleton]
  by_cases e : d = b
  · rw [if_pos e, if_pos (by simp [e])]
  · rw [if_neg e, if_neg (by simp [e])]
section SC
variable {γ : Ga} {μ : SM2}
theorem c_list {K : Nat} (hK : K < 2 ^ 8) : Ex γ 2 0 0 M_X7_list [.ref 116, .int (nI K)] (rm μ) (Rm (some (.int (bI (decide (pcn K 12 ≤ 6))))) (fun m => (pcn K 12 ≤ 6 → ListAt m (lsB K 8)) ∧ OfS SSc μ m)) := by
  refine Ex.of (by decide +kernel) rfl (Nat.le_of_ble_eq_true rfl) ?_
  show T _ _ _ _ _ _ _ _ _ [some (.ref 116), some (.int (nI K)), none] [] (rm μ)
  refine T_aload_n (pc := 0) (i := 0) dX7_list_0 rfl rfl ?_
  refine T_iconst (pc := 1) (v := nI 0) dX7_list_1 (by decide) ?_
  refine R_putI (pc := 2) fl_X7_24 ⟨rfl, rfl⟩ (Or.inl rfl) kc_116 lc_116 dX7_list_2 ?_
  refine T_iload_n (pc := 5) (i := 1) dX7_list_5 rfl rfl ?_
  refine R_callS1 (pc := 6) (av := [.int (nI K)]) (rest := []) (Or.inl lk_X7_28) mk_J6_bitCount_0f7a4 (c_bitCount (by omega)) dX7_list_6 rfl rfl (Nat.le_of_ble_eq_true rfl) (by decide) rfl (Nat.le_refl _) (Nat.le_refl _) ?_
  have h12 : pcn K 12 ≤ 8 := by
    rw [pcn_8 hK, ← lsB_len]
    have : ∀ i, (lsB K i).length ≤ i := fun i => by
      induction i with
      | zero => exact Nat.le_refl _
      | succ i ih =>
        show (if K / 2 ^ i % 2 = 1 then lsB K i ++ [i] else lsB K i).length ≤ i + 1
        split
        · rw [List.length_append]
          show _ + 1 ≤ _
          omega
        · omega
    exact this 8
  have o1 : OfS SSc μ (wI μ 116 2 (nI 0)) := OfS.sI (OfS.refl _ _) (by unfold SSc; omega)
  refine T_bipush (pc := 9) (v := nI 6) dX7_list_9 (by decide) ?_
  refine R_icmp_le (pc := 11) (tgt := 16) (by omega) (by omega) dX7_list_11 (by decide) (fun h1 => ?_) (fun h1 => ?_)
  · skip
    rw [decide_eq_true h1]
    refine T_iconst (pc := 16) (v := nI 0) dX7_list_16 (by decide) ?_
    refine T_istore_n (pc := 17) (i := 2) (ls' := [some (.ref 116), some (.int (nI K)), some (.int (nI 0))]) dX7_list_17 rfl (by decide) rfl ?_
    suffices loop : ∀ (f i : Nat) (m : SM2), i + f = 8 → ListAt m (lsB K i) → OfS SSc μ m → T γ 2 0 0 M_X7_list (Rm (some (.int (bI true))) (fun m => (pcn K 12 ≤ 6 → ListAt m (lsB K 8)) ∧ OfS SSc μ m)) 0 0 18 [some (.ref 116), some (.int (nI K)), some (.int (nI i))] [] (rm m) by
      exact loop 8 0 _ rfl ⟨e_wI ⟨rfl, rfl⟩, Nat.zero_le _, fun i hi => absurd hi (Nat.not_lt_zero _)⟩ o1
    intro f
    induction f with
    | zero =>
      intro i m hi hl hO
      have e : i = 8 := by omega
      subst e
      refine T_iload_n (pc := 18) (i := 2) dX7_list_18 rfl rfl ?_
      refine T_bipush (pc := 19) (v := nI 8) dX7_list_19 (by decide) ?_
      refine R_icmp_ge (pc := 21) (tgt := 67) (by omega) (by omega) dX7_list_21 (by decide) (fun h2 => ?_) (fun h2 => ?_)
      · skip
        refine T_iconst (pc := 67) (v := nI 1) dX7_list_67 (by decide) ?_
        exact T_iret (pc := 68) (ty := .boolean) dX7_list_68 rfl (by decide) (Nat.le_refl _) (Nat.le_refl _) ⟨_, rfl, rfl, fun _ => hl, hO⟩
      · exact absurd h2 (by decide)
    | succ f ih =>
      intro i m hi hl hO
      have hle : (lsB K (i + 1)).length ≤ 6 := by
        rw [lsB_len]
        exact Nat.le_trans (pcn_mono K (by omega)) h1
      have hl0 := hl.1
      have ev : lsB K (i + 1) = if K / 2 ^ i % 2 = 1 then lsB K i ++ [i] else lsB K i := rfl
      have h22 : K / 2 ^ i % 2 < 2 := Nat.mod_lt _ (by decide)
      refine T_iload_n (pc := 18) (i := 2) dX7_list_18 rfl rfl ?_
      refine T_bipush (pc := 19) (v := nI 8) dX7_list_19 (by decide) ?_
      refine R_icmp_ge (pc := 21) (tgt := 67) (by omega) (by omega) dX7_list_21 (by decide) (fun h2 => ?_) (fun h2 => ?_)
      · exact absurd h2 (by omega)
      · skip
        refine T_iload_n (pc := 24) (i := 1) dX7_list_24 rfl rfl ?_
        refine T_iload_n (pc := 25) (i := 2) dX7_list_25 rfl rfl ?_
        refine R_ishr (pc := 26) (by omega) dX7_list_26 ?_
        refine T_iconst (pc := 27) (v := nI 1) dX7_list_27 (by decide) ?_
        refine R_iand (pc := 28) dX7_list_28 ?_
        refine T_topi (v := nI (K / 2 ^ i % 2)) (congrArg nI (Nat.and_one_is_mod _)) ?_
        refine R_if_eq (pc := 29) (tgt := 61) (by omega) dX7_list_29 (by decide) (fun h3 => ?_) (fun h3 => ?_)
        · skip
          rw [if_neg (by omega)] at ev
          refine R_iinc (pc := 61) (i := 2) (n := 1) (ls' := [some (.ref 116), some (.int (nI K)), some (.int (nI (i + 1)))]) dX7_list_61 rfl rfl ?_
          refine T_goto (pc := 64) (tgt := 18) dX7_list_64 (by decide) ?_
          exact ih (i + 1) m (by omega) (by rw [ev]; exact hl) hO
        · skip
          rw [if_pos (by omega)] at ev
          have hlen : (lsB K i ++ [i]).length = (lsB K i).length + 1 := List.length_append
          rw [ev, hlen] at hle
          refine T_aload_n (pc := 32) (i := 0) dX7_list_32 rfl rfl ?_
          refine R_getI (pc := 33) (x := nI ((lsB K i).length)) fl_X7_24 rfl kc_116 lc_116 hl0 dX7_list_33 ?_
          refine T_bipush (pc := 36) (v := nI 6) dX7_list_36 (by decide) ?_
          refine R_icmp_ge (pc := 38) (tgt := 61) (by omega) (by omega) dX7_list_38 (by decide) (fun h4 => ?_) (fun h4 => ?_)
          · exact absurd h4 (by omega)
          · skip
            refine T_aload_n (pc := 41) (i := 0) dX7_list_41 rfl rfl ?_
            refine R_getR (pc := 42) (i := 118) fl_X7_15 rfl kc_116 lc_116 rc_116_1 dX7_list_42 ?_
            refine T_aload_n (pc := 45) (i := 0) dX7_list_45 rfl rfl ?_
            refine R_getI (pc := 46) (x := nI ((lsB K i).length)) fl_X7_24 rfl kc_116 lc_116 hl0 dX7_list_46 ?_
            refine T_iload_n (pc := 49) (i := 2) dX7_list_49 rfl rfl ?_
            refine R_iast (pc := 50) kc_118 lc_118 (by omega) (by first | decide | assumption) dX7_list_50 ?_
            refine T_aload_n (pc := 51) (i := 0) dX7_list_51 rfl rfl ?_
            refine T_dup (pc := 52) dX7_list_52 rfl ?_
            refine R_getI (pc := 53) (x := nI ((lsB K i).length)) fl_X7_24 rfl kc_116 lc_116 ((wI_ne (by first | omega | simp)).trans hl0) dX7_list_53 ?_
            refine T_iconst (pc := 56) (v := nI 1) dX7_list_56 (by decide) ?_
            refine R_iadd (pc := 57) dX7_list_57 ?_
            refine R_putI (pc := 58) fl_X7_24 ⟨rfl, rfl⟩ (Or.inl rfl) kc_116 lc_116 dX7_list_58 ?_
            refine R_iinc (pc := 61) (i := 2) (n := 1) (ls' := [some (.ref 116), some (.int (nI K)), some (.int (nI (i + 1)))]) dX7_list_61 rfl rfl ?_
            refine T_goto (pc := 64) (tgt := 18) dX7_list_64 (by decide) ?_
            refine ih (i + 1) _ (by omega) ?_ (OfS.sI (OfS.sI hO (by unfold SSc; omega)) (by unfold SSc; omega))
            rw [ev]
            refine ⟨(e_wI ⟨rfl, rfl⟩).trans (by rw [hlen]), by omega, fun j hj => ?_⟩
            rw [hlen] at hj
            rw [getD_snoc hj]
            by_cases e : j < (lsB K i).length
            · rw [if_pos e]
              refine ⟨(hl.2.2 j e).1, ?_⟩
              simp (disch := omega) only [n_wI, e_wI, n_wL, e_wL, m_wI2, m_wL1, n_wCI, e_wCI, n_wCL, e_wCL, m_wCI2, m_wCL1, n_wF, e_wF, m_wF2]
              exact (hl.2.2 j e).2
            · rw [if_neg e]
              refine ⟨by omega, ?_⟩
              simp (disch := omega) only [n_wI, e_wI, n_wL, e_wL, m_wI2, m_wL1, n_wCI, e_wCI, n_wCL, e_wCL, m_wCI2, m_wCL1, n_wF, e_wF, m_wF2]
  · skip
    have h1' : ¬ pcn K 12 ≤ 6 := by omega
    rw [decide_eq_false h1']
    refine T_iconst (pc := 14) (v := nI 0) dX7_list_14 (by decide) ?_
    exact T_iret (pc := 15) (ty := .boolean) dX7_list_15 rfl (by decide) (Nat.le_refl _) (Nat.le_refl _) ⟨_, rfl, rfl, fun z => absurd z h1', o1⟩
theorem c_countBeasts {l : List Nat} (hl : Mw l) {r : Nat} (h5 : μ.1 116 5 = nI r) (hr : r ≤ 12) {e : Int32} : Ex γ 2 0 0 M_X7_countBeasts [.ref 116, .long (lN (cd l)), .int e] (rm μ) (Rm none (fun m => (∀ b, b < 8 → m.1 119 (r * 8 + b) = μ.1 119 (r * 8 + b) + nI (l.count b) * e) ∧ (∀ j, j < r * 8 ∨ r * 8 + 8 ≤ j → m.1 119 j = μ.1 119 j) ∧ OfS (fun k => k = 119) μ m)) := by
  have hl20 := hl.1
  refine Ex.of (by decide +kernel) rfl (Nat.le_of_ble_eq_true rfl) ?_
  show T _ _ _ _ _ _ _ _ _ [some (.ref 116), some (.long (lN (cd l))), none, some (.int (e)), none, none] [] (rm μ)
  refine T_lload_n (pc := 0) (i := 1) dX7_countBeasts_0 rfl rfl ?_
  refine R_callS1 (pc := 1) (av := [.long (lN (cd l))]) (rest := []) (Or.inr lk_X7_66) mk_X11_sizeOf (c_sizeOf_cd hl) dX7_countBeasts_1 rfl rfl (Nat.le_of_ble_eq_true rfl) (by decide) rfl (Nat.le_refl _) (Nat.le_refl _) ?_
  refine T_istore (pc := 4) (i := 4) (ls' := [some (.ref 116), some (.long (lN (cd l))), none, some (.int (e)), some (.int (nI l.length)), none]) dX7_countBeasts_4 (by decide) rfl ?_
  refine T_iconst (pc := 6) (v := nI 0) dX7_countBeasts_6 (by decide) ?_
  refine T_istore (pc := 7) (i := 5) (ls' := [some (.ref 116), some (.long (lN (cd l))), none, some (.int (e)), some (.int (nI l.length)), some (.int (nI 0))]) dX7_countBeasts_7 (by decide) rfl ?_
  suffices loop : ∀ (f i : Nat) (m : SM2), i + f = l.length → (∀ b, b < 8 → m.1 119 (r * 8 + b) = μ.1 119 (r * 8 + b) + nI ((l.take i).count b) * e) → (∀ j, j < r * 8 ∨ r * 8 + 8 ≤ j → m.1 119 j = μ.1 119 j) → OfS (fun k => k = 119) μ m → T γ 2 0 0 M_X7_countBeasts (Rm none (fun m => (∀ b, b < 8 → m.1 119 (r * 8 + b) = μ.1 119 (r * 8 + b) + nI (l.count b) * e) ∧ (∀ j, j < r * 8 ∨ r * 8 + 8 ≤ j → m.1 119 j = μ.1 119 j) ∧ OfS (fun k => k = 119) μ m)) 0 0 9 [some (.ref 116), some (.long (lN (cd l))), none, some (.int e), some (.int (nI l.length)), some (.int (nI i))] [] (rm m) by
    refine loop l.length 0 μ (Nat.zero_add _) (fun b hb => ?_) (fun j hj => rfl) (OfS.refl _ _)
    show _ = _ + nI 0 * e
    rw [show nI 0 = 0 from rfl, Int32.zero_mul, Int32.add_zero]
  intro f
  induction f with
  | zero =>
    intro i m hi hc ho hO
    refine T_iload (pc := 9) (i := 5) dX7_countBeasts_9 rfl ?_
    refine T_iload (pc := 11) (i := 4) dX7_countBeasts_11 rfl ?_
    refine R_icmp_ge (pc := 13) (tgt := 47) (by omega) (by omega) dX7_countBeasts_13 (by decide) (fun h2 => ?_) (fun h2 => ?_)
    · skip
      exact T_vret dX7_countBeasts_47 rfl (Nat.le_refl _) (Nat.le_refl _) ⟨_, rfl, rfl, fun b hb => by rw [hc b hb, List.take_of_length_le (by omega)], ho, hO⟩
    · exact absurd h2 (by omega)
  | succ f ih =>
    intro i m hi hc ho hO
    have hd := okb_gd hl.2 (i := i) (by omega)
    refine T_iload (pc := 9) (i := 5) dX7_countBeasts_9 rfl ?_
    refine T_iload (pc := 11) (i := 4) dX7_countBeasts_11 rfl ?_
    refine R_icmp_ge (pc := 13) (tgt := 47) (by omega) (by omega) dX7_countBeasts_13 (by decide) (fun h2 => ?_) (fun h2 => ?_)
    · exact absurd h2 (by omega)
    · skip
      refine T_aload_n (pc := 16) (i := 0) dX7_countBeasts_16 rfl rfl ?_
      refine R_getR (pc := 17) (i := 119) fl_X7_18 rfl kc_116 lc_116 rc_116_3 dX7_countBeasts_17 ?_
      refine T_aload_n (pc := 20) (i := 0) dX7_countBeasts_20 rfl rfl ?_
      refine R_getI (pc := 21) (x := nI r) fl_X7_34 rfl kc_116 lc_116 ((hO.i (by omega) 5).trans h5) dX7_countBeasts_21 ?_
      refine T_bipush (pc := 24) (v := nI 8) dX7_countBeasts_24 (by decide) ?_
      refine R_imul (pc := 26) dX7_countBeasts_26 ?_
      refine T_lload_n (pc := 27) (i := 1) dX7_countBeasts_27 rfl rfl ?_
      refine T_iload (pc := 28) (i := 4) dX7_countBeasts_28 rfl ?_
      refine T_iload (pc := 30) (i := 5) dX7_countBeasts_30 rfl ?_
      refine R_callS1 (pc := 32) (av := [.long (lN (cd l)), .int (nI l.length), .int (nI i)]) (rest := [.int (nI (r * 8)), .ref 119]) (Or.inr lk_X7_70) mk_X11_beastAt (c_beastAt hl (by omega)) dX7_countBeasts_32 rfl rfl (Nat.le_of_ble_eq_true rfl) (by decide) rfl (Nat.le_refl _) (Nat.le_refl _) ?_
      refine R_iadd (pc := 35) dX7_countBeasts_35 ?_
      refine T_dup2 (pc := 36) dX7_countBeasts_36 rfl rfl ?_
      refine R_iald (pc := 37) (x := (μ.1 119 (r * 8 + l.getD i 0) + nI ((l.take i).count (l.getD i 0)) * e)) kc_119 lc_119 (by omega) (by first | decide | assumption) (hc _ hd) dX7_countBeasts_37 ?_
      refine T_iload_n (pc := 38) (i := 3) dX7_countBeasts_38 rfl rfl ?_
      refine T_iadd (pc := 39) dX7_countBeasts_39 ?_
      refine R_iast (pc := 40) kc_119 lc_119 (by omega) (by first | decide | assumption) dX7_countBeasts_40 ?_
      refine R_iinc (pc := 41) (i := 5) (n := 1) (ls' := [some (.ref 116), some (.long (lN (cd l))), none, some (.int (e)), some (.int (nI l.length)), some (.int (nI (i + 1)))]) dX7_countBeasts_41 rfl rfl ?_
      refine T_goto (pc := 44) (tgt := 9) dX7_countBeasts_44 (by decide) ?_
      refine ih (i + 1) _ (by omega) (fun b hb => ?_) (fun j hj => (n_wI (by omega)).trans (ho j hj)) (OfS.sI hO rfl)
      rw [take_s 0 (by omega), count_snoc]
      by_cases eb : l.getD i 0 = b
      · rw [if_pos eb, e_wI ⟨rfl, by omega⟩, eb, nI_s, Int32.add_mul, Int32.one_mul, Int32.add_assoc]
      · rw [if_neg eb, n_wI (by omega), Nat.add_zero]
        exact hc b hb
end SC

