/-! a table of MEADOWS, by open places; the herd -/
abbrev hK (K : List (List Nat)) (i : Nat) : List Nat := K.getD i []
def TabOk (hk : List Nat → Nat) (tb : Nat → Nat) (K : List (List Nat)) : Prop := (∀ j, j < 4096 → tb j ≤ K.length) ∧ (∀ i j, i < 4096 → j < 4096 → tb i ≠ 0 → tb i = tb j → i = j) ∧ (∀ i, i < K.length → ∃ t, t < 4096 ∧ tb ((hk (hK K i) + t) % 4096) = i + 1 ∧ ∀ u, u < t → tb ((hk (hK K i) + u) % 4096) ≠ 0) ∧ ∀ i j, i < K.length → j < K.length → hK K i = hK K j → i = j
/-- where one is among all -/
def inK (K : List (List Nat)) (l : List Nat) : Option Nat := ff (fun i => if hK K i = l then some i else none) 0 K.length
theorem ff_none {α : Type} {g : Nat → Option α} : ∀ {f i : Nat}, (∀ j, i ≤ j → j < i + f → g j = none) → ff g i f = none
  | 0, _, _ => rfl
  | f + 1, i, h => by
    rw [ff_s (h i (Nat.le_refl _) (by omega))]
    exact ff_none (fun j h1 h2 => h j (by omega) (by omega))
theorem ff_some {α : Type} {g : Nat → Option α} {k : Nat} {a : α} (hk : g k = some a) : ∀ {f i : Nat}, i ≤ k → k < i + f → (∀ j, i ≤ j → j < k → g j = none) → ff g i f = some a
  | 0, i, h1, h2, _ => absurd h2 (by omega)
  | f + 1, i, h1, h2, h3 => by
    by_cases e : i = k
    · rw [e]
      exact ff_y hk
    · rw [ff_s (h3 i (Nat.le_refl _) (by omega))]
      exact ff_some hk (by omega) (by omega) (fun j h4 h5 => h3 j (by omega) h5)
theorem inK_none {K : List (List Nat)} {l : List Nat} (h : ∀ i, i < K.length → hK K i ≠ l) : inK K l = none := ff_none (fun j _ hj => if_neg (h j (by omega)))
theorem inK_some {hk : List Nat → Nat} {tb : Nat → Nat} {K : List (List Nat)} {l : List Nat} {i : Nat} (ht : TabOk hk tb K) (hi : i < K.length) (h : hK K i = l) : inK K l = some i :=
  ff_some (k := i) (if_pos h) (Nat.zero_le _) (by omega) (fun j _ hj => if_neg (fun z => absurd (ht.2.2.2 j i (by omega) hi (z.trans h.symm)) (by omega)))
theorem inK_of {K : List (List Nat)} {l : List Nat} : (∃ i, i < K.length ∧ hK K i = l ∧ inK K l = some i) ∨ ((∀ i, i < K.length → hK K i ≠ l) ∧ inK K l = none) := by
  by_cases h : ∃ i, i < K.length ∧ hK K i = l
  · obtain ⟨i, hi, h1, h2⟩ := fb_first h
    refine Or.inl ⟨i, hi, h1, ?_⟩
    exact ff_some (k := i) (if_pos h1) (Nat.zero_le _) (by omega) (fun j _ hj => if_neg (fun z => h2 j hj z))
  · have h2 : ∀ i, i < K.length → hK K i ≠ l := fun i hi e => h ⟨i, hi, e⟩
    exact Or.inr ⟨h2, inK_none h2⟩
def prP (hk : List Nat → Nat) (tb : Nat → Nat) (K : List (List Nat)) (l : List Nat) (t : Nat) : Bool := decide (tb ((hk l + t) % 4096) = 0) || decide (hK K (tb ((hk l + t) % 4096) - 1) = l)
def slT (hk : List Nat → Nat) (tb : Nat → Nat) (K : List (List Nat)) (l : List Nat) : Nat := fa_first (prP hk tb K l) 4096
def slS (hk : List Nat → Nat) (tb : Nat → Nat) (K : List (List Nat)) (l : List Nat) : Nat := (hk l + slT hk tb K l) % 4096
theorem slT_lt {hk : List Nat → Nat} {tb : Nat → Nat} {K : List (List Nat)} (ht : TabOk hk tb K) (hn : K.length ≤ 1501) (l : List Nat) : slT hk tb K l < 4096 := by
  have h1 := fa_first_le (prP hk tb K l) 4096
  rcases Nat.lt_or_ge (slT hk tb K l) 4096 with h | h
  · exact h
  · have e : fa_first (prP hk tb K l) 4096 = 4096 := Nat.le_antisymm h1 h
    have hno := fa_first_no (prP hk tb K l) 4096
    rw [e] at hno
    have hz : ∀ t, t < 4096 → tb ((hk l + t) % 4096) ≠ 0 := fun t h4 z => by
      have := hno t h4
      unfold prP at this
      rw [decide_eq_true z] at this
      cases this
    have := fb_holes 1501 4096 (fun t => tb ((hk l + t) % 4096) - 1) (fun t h4 => by
      have h5 := ht.1 ((hk l + t) % 4096) (Nat.mod_lt _ (by decide))
      have h6 := hz t h4
      show tb ((hk l + t) % 4096) - 1 < 1501
      omega) (fun i j h5 h6 h7 => by
      have h8 := hz i (by omega)
      have h9 := hz j h6
      have h7' : tb ((hk l + i) % 4096) - 1 = tb ((hk l + j) % 4096) - 1 := h7
      have := ht.2.1 _ _ (Nat.mod_lt _ (by decide)) (Nat.mod_lt _ (by decide)) h8 (show tb ((hk l + i) % 4096) = tb ((hk l + j) % 4096) by omega)
      omega)
    omega
theorem sl_at {hk : List Nat → Nat} {tb : Nat → Nat} {K : List (List Nat)} (ht : TabOk hk tb K) (hn : K.length ≤ 1501) (l : List Nat) : tb (slS hk tb K l) = match inK K l with
    | some i => i + 1
    | none => 0 := by
  have hT := slT_lt ht hn l
  have hy : prP hk tb K l (slT hk tb K l) = true := fa_first_yes (prP hk tb K l) 4096 hT
  have hno := fa_first_no (prP hk tb K l) 4096
  rcases inK_of (K := K) (l := l) with ⟨i, hi, h1, h2⟩ | ⟨h1, h2⟩
  · rw [h2]
    show tb (slS hk tb K l) = i + 1
    obtain ⟨t, t1, t2, t3⟩ := ht.2.2.1 i hi
    rw [h1] at t2 t3
    have hPt : prP hk tb K l t = true := by
      unfold prP
      rw [t2, Nat.add_sub_cancel, decide_eq_true h1, Bool.or_true]
    have hle : slT hk tb K l ≤ t := Nat.le_of_not_lt fun z => by
      rw [hno t z] at hPt
      cases hPt
    have hnz : tb (slS hk tb K l) ≠ 0 := by
      rcases Nat.lt_or_ge (slT hk tb K l) t with z | z
      · exact t3 _ z
      · have e : slT hk tb K l = t := by omega
        unfold slS
        rw [e, t2]
        omega
    unfold prP at hy
    rw [decide_eq_false (p := tb ((hk l + slT hk tb K l) % 4096) = 0) hnz, Bool.false_or] at hy
    have hy2 := of_decide_eq_true hy
    have hb := ht.1 (slS hk tb K l) (Nat.mod_lt _ (by decide))
    have hu := ht.2.2.2 (tb (slS hk tb K l) - 1) i (by omega) hi (hy2.trans h1.symm)
    omega
  · rw [h2]
    show tb (slS hk tb K l) = 0
    unfold prP at hy
    by_cases e : tb ((hk l + slT hk tb K l) % 4096) = 0
    · exact e
    · rw [decide_eq_false e, Bool.false_or] at hy
      have hb := ht.1 (slS hk tb K l) (Nat.mod_lt _ (by decide))
      exact absurd (of_decide_eq_true hy) (h1 _ (by show tb (slS hk tb K l) - 1 < _; have : tb (slS hk tb K l) ≠ 0 := e; omega))
theorem hK_snoc {K : List (List Nat)} {l : List Nat} {i : Nat} (h : i < K.length + 1) : hK (K ++ [l]) i = if i < K.length then hK K i else l := getD_snoc h
theorem Tab_put {hk : List Nat → Nat} {tb : Nat → Nat} {K : List (List Nat)} {l : List Nat} (ht : TabOk hk tb K) (hn : K.length ≤ 1501) (h : inK K l = none) : TabOk hk (fun j => if j = slS hk tb K l then K.length + 1 else tb j) (K ++ [l]) := by
  have hs := sl_at ht hn l
  rw [h] at hs
  have hs0 : tb (slS hk tb K l) = 0 := hs
  have hT := slT_lt ht hn l
  have hno := fa_first_no (prP hk tb K l) 4096
  have hl : (K ++ [l]).length = K.length + 1 := by rw [List.length_append]; rfl
  have hnot : ∀ i, i < K.length → hK K i ≠ l := by
    rcases inK_of (K := K) (l := l) with ⟨i, _, _, h2⟩ | ⟨h1, _⟩
    · rw [h2] at h
      cases h
    · exact h1
  refine ⟨fun j hj => ?_, fun i j hi hj h1 h2 => ?_, fun i hi => ?_, fun i j hi hj e => ?_⟩
  · rw [hl]
    have := ht.1 j hj
    dsimp only
    split <;> omega
  · dsimp only at h1 h2
    have b1 := ht.1 i hi
    have b2 := ht.1 j hj
    by_cases e1 : i = slS hk tb K l
    · rw [if_pos e1] at h2
      by_cases e2 : j = slS hk tb K l
      · rw [e1, e2]
      · rw [if_neg e2] at h2
        omega
    · rw [if_neg e1] at h1 h2
      by_cases e2 : j = slS hk tb K l
      · rw [if_pos e2] at h2
        omega
      · rw [if_neg e2] at h2
        exact ht.2.1 i j hi hj h1 h2
  · rw [hl] at hi
    rw [hK_snoc hi]
    dsimp only
    by_cases e : i < K.length
    · rw [if_pos e]
      obtain ⟨t, t1, t2, t3⟩ := ht.2.2.1 i e
      refine ⟨t, t1, ?_, fun u hu => ?_⟩
      · rw [if_neg (fun z => by rw [z, hs0] at t2; omega), t2]
      · have := t3 u hu
        split <;> omega
    · rw [if_neg e]
      refine ⟨slT hk tb K l, hT, ?_, fun u hu => ?_⟩
      · rw [if_pos (show (hk l + slT hk tb K l) % 4096 = slS hk tb K l from rfl)]
        omega
      · have h1 := hno u hu
        unfold prP at h1
        have h2 : tb ((hk l + u) % 4096) ≠ 0 := fun z => by
          rw [decide_eq_true z] at h1
          cases h1
        split <;> omega
  · rw [hl] at hi hj
    rw [hK_snoc hi, hK_snoc hj] at e
    by_cases e1 : i < K.length
    · rw [if_pos e1] at e
      by_cases e2 : j < K.length
      · rw [if_pos e2] at e
        exact ht.2.2.2 i j e1 e2 e
      · rw [if_neg e2] at e
        exact absurd e (hnot i e1)
    · rw [if_neg e1] at e
      by_cases e2 : j < K.length
      · rw [if_pos e2] at e
        exact absurd e.symm (hnot j e2)
      · omega
/-- MEADOWS that were come to, and in how many STEPS -/
abbrev Hd : Type := List (List Nat × Nat)
abbrev hA (H : Hd) (i : Nat) : List Nat × Nat := H.getD i ([], 0)
abbrev hKs (H : Hd) : List (List Nat) := H.map (fun x => x.1)
theorem hK_hA {H : Hd} {i : Nat} (hi : i < H.length) : hK (hKs H) i = (hA H i).1 := by
  show (H.map (fun x => x.1)).getD i [] = (H.getD i ([], 0)).1
  rw [List.getD_eq_getElem?_getD, List.getElem?_map, List.getD_eq_getElem?_getD, List.getElem?_eq_getElem hi]
  rfl
/-- one more that is come to; none, if it is one too many -/
def tk1 (H : Hd) (d : Nat) (l : List Nat) : Option Hd := match inK (hKs H) l with
  | some _ => some H
  | none => if H.length < 1500 then some (H ++ [(l, d)]) else none
def hsC (c : Nat) : Nat := uN (lN c * (-7046029254386353131)) / 2 ^ 52
theorem hsC_eq (c : Nat) : lushr (lN c * (-7046029254386353131)) (nI 52) = lN (hsC c) := by
  unfold hsC
  obtain ⟨n, hn, e⟩ := wb_of (lN c * (-7046029254386353131))
  rw [e, show uN (lN n) = n from wb_tn hn]
  exact lushr_n hn (by decide)
theorem hsC_lt (c : Nat) : hsC c < 4096 := by
  unfold hsC
  have := uN_lt (lN c * (-7046029254386353131))
  exact Nat.div_lt_of_lt_mul (by omega)
def hsM (l : List Nat) : Nat := hsC (cd l)
def HerdT (m : SM2) (h : Nat) (H : Hd) (tb : Nat → Nat) : Prop := (m.1 h 0 = nI H.length ∧ H.length ≤ 1500) ∧ (∀ i, i < H.length → Mw (hA H i).1 ∧ m.2 (h + 1) i = lN (cd (hA H i).1) ∧ m.1 (h + 2) i = nI (hA H i).2) ∧ (∀ j, j < 4096 → m.1 (h + 3) j = nI (tb j)) ∧ TabOk hsM tb (hKs H)
def HerdAt (m : SM2) (h : Nat) (H : Hd) : Prop := ∃ tb, HerdT m h H tb
theorem HerdT.ofs {S : Nat → Prop} {h : Nat} {H : Hd} {tb : Nat → Nat} {μ m : SM2} (g : HerdT μ h H tb) (o : OfS S μ m) (hs : ∀ k, h ≤ k → k < h + 4 → ¬ S k) : HerdT m h H tb :=
  ⟨⟨(o.i (hs _ (by omega) (by omega)) 0).trans g.1.1, g.1.2⟩, fun i hi => ⟨(g.2.1 i hi).1, (o.l (hs _ (by omega) (by omega)) i).trans (g.2.1 i hi).2.1, (o.i (hs _ (by omega) (by omega)) i).trans (g.2.1 i hi).2.2⟩, fun j hj => (o.i (hs _ (by omega) (by omega)) j).trans (g.2.2.1 j hj), g.2.2.2⟩
theorem HerdAt.ofs {S : Nat → Prop} {h : Nat} {H : Hd} {μ m : SM2} (g : HerdAt μ h H) (o : OfS S μ m) (hs : ∀ k, h ≤ k → k < h + 4 → ¬ S k) : HerdAt m h H := by
  obtain ⟨tb, g⟩ := g
  exact ⟨tb, g.ofs o hs⟩
theorem HerdAt.len {m : SM2} {h : Nat} {H : Hd} (g : HerdAt m h H) : H.length ≤ 1500 := by
  obtain ⟨tb, g⟩ := g
  exact g.1.2
theorem HerdAt.size {m : SM2} {h : Nat} {H : Hd} (g : HerdAt m h H) : m.1 h 0 = nI H.length := by
  obtain ⟨tb, g⟩ := g
  exact g.1.1
theorem HerdAt.row {m : SM2} {h : Nat} {H : Hd} (g : HerdAt m h H) : ∀ i, i < H.length → Mw (hA H i).1 ∧ m.2 (h + 1) i = lN (cd (hA H i).1) ∧ m.1 (h + 2) i = nI (hA H i).2 := by
  obtain ⟨tb, g⟩ := g
  exact g.2.1
def Sh (h k : Nat) : Prop := h ≤ k ∧ k < h + 4
section HE
variable {γ : Ga} {μ : SM2}
theorem c_slotOf {h : Nat} {H : Hd} {tb : Nat → Nat} {l : List Nat} (hh : isHerd h) (hT : HerdT μ h H tb) (hl : Mw l) : Ex γ 1 0 0 M_X4_slotOf [.ref h, .long (lN (cd l))] (rm μ) (Fn (some (.int (nI (slS hsM tb (hKs H) l)))) μ) := by
  have h15 := hT.1.2
  have hbl := cd_lt hl
  have hKl : (hKs H).length = H.length := List.length_map _
  have hlt := slT_lt hT.2.2.2 (by omega) l
  have hhs := hsC_lt (cd l)
  have ehs : hsM l = hsC (cd l) := rfl
  suffices loop : ∀ f t, t + f = slT hsM tb (hKs H) l → T γ 1 0 0 M_X4_slotOf (Fn (some (.int (nI (slS hsM tb (hKs H) l)))) μ) 0 0 13 [some (.ref h), some (.long (lN (cd l))), none, some (.int (nI ((hsM l + t) % 4096))), some (.int (nI t)), none] [] (rm μ) by
    refine Ex.of (by decide +kernel) rfl (Nat.le_of_ble_eq_true rfl) ?_
    show T _ _ _ _ _ _ _ _ _ [some (.ref h), some (.long (lN (cd l))), none, none, none, none] [] (rm μ)
    refine T_lload_n (pc := 0) (i := 1) dX4_slotOf_0 rfl rfl ?_
    refine T_ldc2 (pc := 1) dX4_slotOf_1 cn_X4_46 ?_
    refine T_lmul (pc := 4) dX4_slotOf_4 ?_
    refine T_bipush (pc := 5) (v := nI 52) dX4_slotOf_5 (by decide) ?_
    refine T_lushr (pc := 7) dX4_slotOf_7 ?_
    refine T_topl (v := lN (hsC (cd l))) (hsC_eq (cd l)) ?_
    refine R_l2i (pc := 8) dX4_slotOf_8 ?_
    refine T_istore_n (pc := 9) (i := 3) (ls' := [some (.ref h), some (.long (lN (cd l))), none, some (.int (nI (hsC (cd l)))), none, none]) dX4_slotOf_9 rfl (by decide) rfl ?_
    refine T_iconst (pc := 10) (v := nI 0) dX4_slotOf_10 (by decide) ?_
    refine T_istore (pc := 11) (i := 4) (ls' := [some (.ref h), some (.long (lN (cd l))), none, some (.int (nI (hsC (cd l)))), some (.int (nI 0)), none]) dX4_slotOf_11 (by decide) rfl ?_
    have h9 := loop (slT hsM tb (hKs H) l) 0 (Nat.zero_add _)
    rw [Nat.add_zero, Nat.mod_eq_of_lt (by omega)] at h9
    exact h9
  intro f
  induction f with
  | zero =>
    intro t ht
    have et : slT hsM tb (hKs H) l = t := ht.symm
    have hy : prP hsM tb (hKs H) l t = true := by
      rw [← et]
      exact fa_first_yes (prP hsM tb (hKs H) l) 4096 hlt
    have hm := hT.2.2.1 ((hsM l + t) % 4096) (Nat.mod_lt _ (by decide))
    have hb := hT.2.2.2.1 ((hsM l + t) % 4096) (Nat.mod_lt _ (by decide))
    unfold prP at hy
    have e9 : slS hsM tb (hKs H) l = (hsM l + t) % 4096 := by
      unfold slS
      rw [et]
    rw [e9]
    rw [et] at hlt
    generalize (hsM l + t) % 4096 = s at *
    have hs4 : s < 4096 := by
      rw [← e9]
      exact Nat.mod_lt _ (by decide)
    by_cases e0 : tb s = 0
    · skip
      refine T_iload (pc := 13) (i := 4) dX4_slotOf_13 rfl ?_
      refine T_sipush (pc := 15) (v := nI 4096) dX4_slotOf_15 (by decide) ?_
      refine R_icmp_ge (pc := 18) (tgt := 64) (by omega) (by omega) dX4_slotOf_18 (by decide) (fun h1 => ?_) (fun h1 => ?_)
      · exact absurd h1 (by omega)
      · skip
        refine T_aload_n (pc := 21) (i := 0) dX4_slotOf_21 rfl rfl ?_
        refine R_getR (pc := 22) (i := (h + 3)) fl_X4_19 rfl (kt_herd hh) (lt_herd hh) (rt_herd_slots hh) dX4_slotOf_22 ?_
        refine T_iload_n (pc := 25) (i := 3) dX4_slotOf_25 rfl rfl ?_
        refine R_iald (pc := 26) (x := nI (tb s)) (kt_herd_slots hh) (lt_herd_slots hh) (by omega) (by first | decide | assumption) hm dX4_slotOf_26 ?_
        refine T_iconst (pc := 27) (v := nI 1) dX4_slotOf_27 (by decide) ?_
        refine T_isub (pc := 28) dX4_slotOf_28 ?_
        refine T_istore (pc := 29) (i := 5) (ls' := [some (.ref h), some (.long (lN (cd l))), none, some (.int (nI s)), some (.int (nI t)), some (.int (((nI (tb s)) - (nI 1))))]) dX4_slotOf_29 (by decide) rfl ?_
        refine T_iload (pc := 31) (i := 5) dX4_slotOf_31 rfl ?_
        rw [e0]
        refine T_if_lt (pc := 33) (tgt := 48) dX4_slotOf_33 (by decide) (fun h2 => ?_) (fun h2 => ?_)
        · skip
          refine T_iload_n (pc := 48) (i := 3) dX4_slotOf_48 rfl rfl ?_
          exact T_iret (pc := 49) (ty := .int) dX4_slotOf_49 rfl rfl (Nat.le_refl _) (Nat.le_refl _) ⟨rfl, rfl⟩
        · exact absurd (show nI 0 - nI 1 < 0 by decide) h2
    · rw [decide_eq_false e0, Bool.false_or] at hy
      have hy2 := of_decide_eq_true hy
      have hi : tb s - 1 < H.length := by omega
      have hrow := hT.2.1 (tb s - 1) hi
      rw [hK_hA hi] at hy2
      have hb2 := cd_lt hrow.1
      refine T_iload (pc := 13) (i := 4) dX4_slotOf_13 rfl ?_
      refine T_sipush (pc := 15) (v := nI 4096) dX4_slotOf_15 (by decide) ?_
      refine R_icmp_ge (pc := 18) (tgt := 64) (by omega) (by omega) dX4_slotOf_18 (by decide) (fun h1 => ?_) (fun h1 => ?_)
      · exact absurd h1 (by omega)
      · skip
        refine T_aload_n (pc := 21) (i := 0) dX4_slotOf_21 rfl rfl ?_
        refine R_getR (pc := 22) (i := (h + 3)) fl_X4_19 rfl (kt_herd hh) (lt_herd hh) (rt_herd_slots hh) dX4_slotOf_22 ?_
        refine T_iload_n (pc := 25) (i := 3) dX4_slotOf_25 rfl rfl ?_
        refine R_iald (pc := 26) (x := nI (tb s)) (kt_herd_slots hh) (lt_herd_slots hh) (by omega) (by first | decide | assumption) hm dX4_slotOf_26 ?_
        refine T_iconst (pc := 27) (v := nI 1) dX4_slotOf_27 (by decide) ?_
        refine R_isub (pc := 28) (by omega) dX4_slotOf_28 ?_
        refine T_istore (pc := 29) (i := 5) (ls' := [some (.ref h), some (.long (lN (cd l))), none, some (.int (nI s)), some (.int (nI t)), some (.int (nI ((tb s) - 1)))]) dX4_slotOf_29 (by decide) rfl ?_
        refine T_iload (pc := 31) (i := 5) dX4_slotOf_31 rfl ?_
        refine R_if_lt (pc := 33) (tgt := 48) (by omega) dX4_slotOf_33 (by decide) (fun h2 => ?_) (fun h2 => ?_)
        · exact h2.elim
        · skip
          refine T_aload_n (pc := 36) (i := 0) dX4_slotOf_36 rfl rfl ?_
          refine R_getR (pc := 37) (i := (h + 1)) fl_X4_11 rfl (kt_herd hh) (lt_herd hh) (rt_herd_codes hh) dX4_slotOf_37 ?_
          refine T_iload (pc := 40) (i := 5) dX4_slotOf_40 rfl ?_
          refine R_lald (pc := 42) (x := lN (cd (hA H (tb s - 1)).1)) (kt_herd_codes hh) (lt_herd_codes hh) (by omega) (by first | decide | assumption) hrow.2.1 dX4_slotOf_42 ?_
          refine T_lload_n (pc := 43) (i := 1) dX4_slotOf_43 rfl rfl ?_
          refine T_lcmp (pc := 44) dX4_slotOf_44 ?_
          refine R_ln_ne (pc := 45) (tgt := 50) (by omega) (by omega) dX4_slotOf_45 (by decide) (fun h3 => ?_) (fun h3 => ?_)
          · exact absurd (by rw [hy2]) h3
          · skip
            refine T_iload_n (pc := 48) (i := 3) dX4_slotOf_48 rfl rfl ?_
            exact T_iret (pc := 49) (ty := .int) dX4_slotOf_49 rfl rfl (Nat.le_refl _) (Nat.le_refl _) ⟨rfl, rfl⟩
  | succ f ih =>
    intro t ht
    have hno := fa_first_no (prP hsM tb (hKs H) l) 4096 t (by unfold slT at ht; omega)
    have hm := hT.2.2.1 ((hsM l + t) % 4096) (Nat.mod_lt _ (by decide))
    have hb := hT.2.2.2.1 ((hsM l + t) % 4096) (Nat.mod_lt _ (by decide))
    have h9 := ih (t + 1) (by omega)
    rw [show (hsM l + (t + 1)) % 4096 = ((hsM l + t) % 4096 + 1) % 4096 by omega] at h9
    unfold prP at hno
    have hs4 : (hsM l + t) % 4096 < 4096 := Nat.mod_lt _ (by decide)
    generalize (hsM l + t) % 4096 = s at *
    simp only [Bool.or_eq_false_iff, decide_eq_false_iff_not] at hno
    have hi : tb s - 1 < H.length := by omega
    have hrow := hT.2.1 (tb s - 1) hi
    have hn2 := hno.2
    rw [hK_hA hi] at hn2
    have hb2 := cd_lt hrow.1
    refine T_iload (pc := 13) (i := 4) dX4_slotOf_13 rfl ?_
    refine T_sipush (pc := 15) (v := nI 4096) dX4_slotOf_15 (by decide) ?_
    refine R_icmp_ge (pc := 18) (tgt := 64) (by omega) (by omega) dX4_slotOf_18 (by decide) (fun h1 => ?_) (fun h1 => ?_)
    · exact absurd h1 (by omega)
    · skip
      refine T_aload_n (pc := 21) (i := 0) dX4_slotOf_21 rfl rfl ?_
      refine R_getR (pc := 22) (i := (h + 3)) fl_X4_19 rfl (kt_herd hh) (lt_herd hh) (rt_herd_slots hh) dX4_slotOf_22 ?_
      refine T_iload_n (pc := 25) (i := 3) dX4_slotOf_25 rfl rfl ?_
      refine R_iald (pc := 26) (x := nI (tb s)) (kt_herd_slots hh) (lt_herd_slots hh) (by omega) (by first | decide | assumption) hm dX4_slotOf_26 ?_
      refine T_iconst (pc := 27) (v := nI 1) dX4_slotOf_27 (by decide) ?_
      refine R_isub (pc := 28) (by omega) dX4_slotOf_28 ?_
      refine T_istore (pc := 29) (i := 5) (ls' := [some (.ref h), some (.long (lN (cd l))), none, some (.int (nI s)), some (.int (nI t)), some (.int (nI ((tb s) - 1)))]) dX4_slotOf_29 (by decide) rfl ?_
      refine T_iload (pc := 31) (i := 5) dX4_slotOf_31 rfl ?_
      refine R_if_lt (pc := 33) (tgt := 48) (by omega) dX4_slotOf_33 (by decide) (fun h2 => ?_) (fun h2 => ?_)
      · exact h2.elim
      · skip
        refine T_aload_n (pc := 36) (i := 0) dX4_slotOf_36 rfl rfl ?_
        refine R_getR (pc := 37) (i := (h + 1)) fl_X4_11 rfl (kt_herd hh) (lt_herd hh) (rt_herd_codes hh) dX4_slotOf_37 ?_
        refine T_iload (pc := 40) (i := 5) dX4_slotOf_40 rfl ?_
        refine R_lald (pc := 42) (x := lN (cd (hA H (tb s - 1)).1)) (kt_herd_codes hh) (lt_herd_codes hh) (by omega) (by first | decide | assumption) hrow.2.1 dX4_slotOf_42 ?_
        refine T_lload_n (pc := 43) (i := 1) dX4_slotOf_43 rfl rfl ?_
        refine T_lcmp (pc := 44) dX4_slotOf_44 ?_
        refine R_ln_ne (pc := 45) (tgt := 50) (by omega) (by omega) dX4_slotOf_45 (by decide) (fun h3 => ?_) (fun h3 => ?_)
        · skip
          refine T_iload_n (pc := 50) (i := 3) dX4_slotOf_50 rfl rfl ?_
          refine T_iconst (pc := 51) (v := nI 1) dX4_slotOf_51 (by decide) ?_
          refine R_iadd (pc := 52) dX4_slotOf_52 ?_
          refine T_sipush (pc := 53) (v := nI 4096) dX4_slotOf_53 (by decide) ?_
          refine R_irem (pc := 56) ⟨by decide, by decide, by omega⟩ dX4_slotOf_56 ?_
          refine T_istore_n (pc := 57) (i := 3) (ls' := [some (.ref h), some (.long (lN (cd l))), none, some (.int (nI ((s + 1) % 4096))), some (.int (nI t)), some (.int (nI ((tb s) - 1)))]) dX4_slotOf_57 rfl (by decide) rfl ?_
          refine R_iinc (pc := 58) (i := 4) (n := 1) (ls' := [some (.ref h), some (.long (lN (cd l))), none, some (.int (nI ((s + 1) % 4096))), some (.int (nI (t + 1))), some (.int (nI ((tb s) - 1)))]) dX4_slotOf_58 rfl rfl ?_
          refine T_goto (pc := 61) (tgt := 13) dX4_slotOf_61 (by decide) ?_
          refine T_ls (ls' := [some (.ref h), some (.long (lN (cd l))), none, some (.int (nI ((s + 1) % 4096))), some (.int (nI (t + 1))), none]) (And.intro rfl (And.intro rfl (And.intro rfl (And.intro rfl True.intro)))) ?_
          exact h9
        · exact absurd (cd_inj hrow.1.2 hl.2 h3) hn2
theorem c_indexOf {h : Nat} {H : Hd} {l : List Nat} (hh : isHerd h) (hT : HerdAt μ h H) (hl : Mw l) : Ex γ 2 0 0 M_X4_indexOf [.ref h, .long (lN (cd l))] (rm μ) (Fn (some (.int (oN (inK (hKs H) l)))) μ) := by
  obtain ⟨tb, hT⟩ := hT
  have h15 := hT.1.2
  have hKl : (hKs H).length = H.length := List.length_map _
  have hat := sl_at hT.2.2.2 (by omega) l
  have hs4 : slS hsM tb (hKs H) l < 4096 := Nat.mod_lt _ (by decide)
  refine Ex.of (by decide +kernel) rfl (Nat.le_of_ble_eq_true rfl) ?_
  show T _ _ _ _ _ _ _ _ _ [some (.ref h), some (.long (lN (cd l))), none] [] (rm μ)
  refine T_aload_n (pc := 0) (i := 0) dX4_indexOf_0 rfl rfl ?_
  refine R_getR (pc := 1) (i := (h + 3)) fl_X4_19 rfl (kt_herd hh) (lt_herd hh) (rt_herd_slots hh) dX4_indexOf_1 ?_
  refine T_aload_n (pc := 4) (i := 0) dX4_indexOf_4 rfl rfl ?_
  refine T_lload_n (pc := 5) (i := 1) dX4_indexOf_5 rfl rfl ?_
  refine R_callV1 (pc := 6) (As := [.long (lN (cd l))]) (rest := [.ref (h + 3)]) (Or.inl lk_X4_42) mk_X4_slotOf (c_slotOf hh hT hl) (kt_herd hh) ⟨by decide, rfl⟩ (lt_herd hh) dX4_indexOf_6 rfl rfl (Nat.le_of_ble_eq_true rfl) (by decide) rfl (Nat.le_refl _) (Nat.le_refl _) ?_
  refine R_iald (pc := 9) (x := nI (tb (slS hsM tb (hKs H) l))) (kt_herd_slots hh) (lt_herd_slots hh) (by omega) (by first | decide | assumption) (hT.2.2.1 _ hs4) dX4_indexOf_9 ?_
  refine T_iconst (pc := 10) (v := nI 1) dX4_indexOf_10 (by decide) ?_
  refine T_isub (pc := 11) dX4_indexOf_11 ?_
  rw [hat]
  cases e : inK (hKs H) l with
  | none =>
    exact T_iret (pc := 12) (ty := .int) dX4_indexOf_12 rfl rfl (Nat.le_refl _) (Nat.le_refl _) ⟨rfl, rfl⟩
  | some i =>
    refine T_topi (v := nI i) (pk_sub (show 1 ≤ i + 1 by omega)) ?_
    exact T_iret (pc := 12) (ty := .int) dX4_indexOf_12 rfl rfl (Nat.le_refl _) (Nat.le_refl _) ⟨rfl, rfl⟩
theorem c_take {h d : Nat} {H : Hd} {l : List Nat} (hh : isHerd h) (hT : HerdAt μ h H) (hl : Mw l) : Ex γ 2 0 0 M_X4_take [.ref h, .long (lN (cd l)), .int (nI d)] (rm μ) (Rm (some (.int (bI (tk1 H d l).isSome))) (fun m => (HerdAt m h ((tk1 H d l).getD H) ∧ m.1 h 4 = μ.1 h 4 ∧ m.1 h 5 = μ.1 h 5) ∧ OfS (Sh h) μ m)) := by
  obtain ⟨tb, hT⟩ := hT
  have h15 := hT.1.2
  have hKl : (hKs H).length = H.length := List.length_map _
  have hat := sl_at hT.2.2.2 (by omega) l
  have hs4 : slS hsM tb (hKs H) l < 4096 := Nat.mod_lt _ (by decide)
  have htb := hT.2.2.1 _ hs4
  have hbb := hT.2.2.2.1 _ hs4
  refine Ex.of (by decide +kernel) rfl (Nat.le_of_ble_eq_true rfl) ?_
  show T _ _ _ _ _ _ _ _ _ [some (.ref h), some (.long (lN (cd l))), none, some (.int (nI d)), none] [] (rm μ)
  refine T_aload_n (pc := 0) (i := 0) dX4_take_0 rfl rfl ?_
  refine T_lload_n (pc := 1) (i := 1) dX4_take_1 rfl rfl ?_
  refine R_callV1 (pc := 2) (As := [.long (lN (cd l))]) (rest := []) (Or.inl lk_X4_42) mk_X4_slotOf (c_slotOf hh hT hl) (kt_herd hh) ⟨by decide, rfl⟩ (lt_herd hh) dX4_take_2 rfl rfl (Nat.le_of_ble_eq_true rfl) (by decide) rfl (Nat.le_refl _) (Nat.le_refl _) ?_
  refine T_istore (pc := 5) (i := 4) (ls' := [some (.ref h), some (.long (lN (cd l))), none, some (.int (nI d)), some (.int (nI (slS hsM tb (hKs H) l)))]) dX4_take_5 (by decide) rfl ?_
  refine T_aload_n (pc := 7) (i := 0) dX4_take_7 rfl rfl ?_
  refine R_getR (pc := 8) (i := (h + 3)) fl_X4_19 rfl (kt_herd hh) (lt_herd hh) (rt_herd_slots hh) dX4_take_8 ?_
  refine T_iload (pc := 11) (i := 4) dX4_take_11 rfl ?_
  refine R_iald (pc := 13) (x := nI (tb (slS hsM tb (hKs H) l))) (kt_herd_slots hh) (lt_herd_slots hh) (by omega) (by first | decide | assumption) htb dX4_take_13 ?_
  refine R_if_eq (pc := 14) (tgt := 19) (by omega) dX4_take_14 (by decide) (fun h1 => ?_) (fun h1 => ?_)
  · skip
    cases e : inK (hKs H) l with
    | some i =>
      rw [e] at hat
      have hat2 : tb (slS hsM tb (hKs H) l) = i + 1 := hat
      omega
    | none =>
      refine T_aload_n (pc := 19) (i := 0) dX4_take_19 rfl rfl ?_
      refine R_getI (pc := 20) (x := nI H.length) fl_X4_28 rfl (kt_herd hh) (lt_herd hh) hT.1.1 dX4_take_20 ?_
      refine T_sipush (pc := 23) (v := nI 1500) dX4_take_23 (by decide) ?_
      refine R_icmp_lt (pc := 26) (tgt := 31) (by omega) (by omega) dX4_take_26 (by decide) (fun h2 => ?_) (fun h2 => ?_)
      · skip
        refine T_aload_n (pc := 31) (i := 0) dX4_take_31 rfl rfl ?_
        refine R_getR (pc := 32) (i := (h + 1)) fl_X4_11 rfl (kt_herd hh) (lt_herd hh) (rt_herd_codes hh) dX4_take_32 ?_
        refine T_aload_n (pc := 35) (i := 0) dX4_take_35 rfl rfl ?_
        refine R_getI (pc := 36) (x := nI H.length) fl_X4_28 rfl (kt_herd hh) (lt_herd hh) hT.1.1 dX4_take_36 ?_
        refine T_lload_n (pc := 39) (i := 1) dX4_take_39 rfl rfl ?_
        refine R_last (pc := 40) (kt_herd_codes hh) (lt_herd_codes hh) (by omega) (by first | decide | assumption) dX4_take_40 ?_
        refine T_aload_n (pc := 41) (i := 0) dX4_take_41 rfl rfl ?_
        refine R_getR (pc := 42) (i := (h + 2)) fl_X4_15 rfl (kt_herd hh) (lt_herd hh) (rt_herd_far hh) dX4_take_42 ?_
        refine T_aload_n (pc := 45) (i := 0) dX4_take_45 rfl rfl ?_
        refine R_getI (pc := 46) (x := nI H.length) fl_X4_28 rfl (kt_herd hh) (lt_herd hh) hT.1.1 dX4_take_46 ?_
        refine T_iload_n (pc := 49) (i := 3) dX4_take_49 rfl rfl ?_
        refine R_iast (pc := 50) (kt_herd_far hh) (lt_herd_far hh) (by omega) (by first | decide | assumption) dX4_take_50 ?_
        refine T_aload_n (pc := 51) (i := 0) dX4_take_51 rfl rfl ?_
        refine T_dup (pc := 52) dX4_take_52 rfl ?_
        refine R_getI (pc := 53) (x := nI H.length) fl_X4_28 rfl (kt_herd hh) (lt_herd hh) ((wI_ne (by first | omega | simp)).trans hT.1.1) dX4_take_53 ?_
        refine T_iconst (pc := 56) (v := nI 1) dX4_take_56 (by decide) ?_
        refine R_iadd (pc := 57) dX4_take_57 ?_
        refine R_putI (pc := 58) fl_X4_28 ⟨rfl, rfl⟩ (Or.inl rfl) (kt_herd hh) (lt_herd hh) dX4_take_58 ?_
        refine T_aload_n (pc := 61) (i := 0) dX4_take_61 rfl rfl ?_
        refine R_getR (pc := 62) (i := (h + 3)) fl_X4_19 rfl (kt_herd hh) (lt_herd hh) (rt_herd_slots hh) dX4_take_62 ?_
        refine T_iload (pc := 65) (i := 4) dX4_take_65 rfl ?_
        refine T_aload_n (pc := 67) (i := 0) dX4_take_67 rfl rfl ?_
        refine R_getI (pc := 68) (x := nI (H.length + 1)) fl_X4_28 rfl (kt_herd hh) (lt_herd hh) wI_eq dX4_take_68 ?_
        refine R_iast (pc := 71) (kt_herd_slots hh) (lt_herd_slots hh) (by omega) (by first | decide | assumption) dX4_take_71 ?_
        refine T_iconst (pc := 72) (v := nI 1) dX4_take_72 (by decide) ?_
        have ek : tk1 H d l = some (H ++ [(l, d)]) := by unfold tk1; rw [e]; exact if_pos h2
        rw [ek, Option.getD_some, Option.isSome_some]
        have hal : (H ++ [(l, d)]).length = H.length + 1 := by rw [List.length_append]; rfl
        have hks : hKs (H ++ [(l, d)]) = hKs H ++ [l] := by unfold hKs; rw [List.map_append]; rfl
        have hp := Tab_put hT.2.2.2 (by omega) e
        rw [hKl] at hp
        generalize slS hsM tb (hKs H) l = s at *
        refine T_iret (pc := 73) (ty := .boolean) dX4_take_73 rfl (by decide) (Nat.le_refl _) (Nat.le_refl _) ⟨_, rfl, rfl, ⟨⟨(fun j => if j = s then H.length + 1 else tb j), ⟨?_, by omega⟩, fun i hi => ?_, fun j hj => ?_, by rw [hks]; exact hp⟩, ?_, ?_⟩, OfS.sI (OfS.sI (OfS.sI (OfS.sL (OfS.refl _ _) (by unfold Sh; omega)) (by unfold Sh; omega)) (by unfold Sh; omega)) (by unfold Sh; omega)⟩
        · rw [hal]
          simp (disch := omega) only [n_wI, e_wI, n_wL, e_wL, m_wI2, m_wL1, n_wCI, e_wCI, n_wCL, e_wCL, m_wCI2, m_wCL1, n_wF, e_wF, m_wF2]
        · rw [hal] at hi
          rw [show hA (H ++ [(l, d)]) i = if i < H.length then hA H i else (l, d) from getD_snoc hi]
          by_cases hi2 : i < H.length
          · rw [if_pos hi2]
            have e3 := hT.2.1 i hi2
            refine ⟨e3.1, ?_, ?_⟩
            · skip
              simp (disch := omega) only [n_wI, e_wI, n_wL, e_wL, m_wI2, m_wL1, n_wCI, e_wCI, n_wCL, e_wCL, m_wCI2, m_wCL1, n_wF, e_wF, m_wF2]
              exact e3.2.1
            · skip
              simp (disch := omega) only [n_wI, e_wI, n_wL, e_wL, m_wI2, m_wL1, n_wCI, e_wCI, n_wCL, e_wCL, m_wCI2, m_wCL1, n_wF, e_wF, m_wF2]
              exact e3.2.2
          · rw [if_neg hi2]
            have e4 : i = H.length := by omega
            refine ⟨hl, ?_, ?_⟩
            · skip
              simp (disch := omega) only [n_wI, e_wI, n_wL, e_wL, m_wI2, m_wL1, n_wCI, e_wCI, n_wCL, e_wCL, m_wCI2, m_wCL1, n_wF, e_wF, m_wF2]
            · skip
              simp (disch := omega) only [n_wI, e_wI, n_wL, e_wL, m_wI2, m_wL1, n_wCI, e_wCI, n_wCL, e_wCL, m_wCI2, m_wCL1, n_wF, e_wF, m_wF2]
        · dsimp only
          by_cases e5 : j = s
          · rw [if_pos e5]
            simp (disch := omega) only [n_wI, e_wI, n_wL, e_wL, m_wI2, m_wL1, n_wCI, e_wCI, n_wCL, e_wCL, m_wCI2, m_wCL1, n_wF, e_wF, m_wF2]
          · rw [if_neg e5]
            have e6 := hT.2.2.1 j hj
            simp (disch := omega) only [n_wI, e_wI, n_wL, e_wL, m_wI2, m_wL1, n_wCI, e_wCI, n_wCL, e_wCL, m_wCI2, m_wCL1, n_wF, e_wF, m_wF2]
            exact e6
        · skip
          simp (disch := omega) only [n_wI, e_wI, n_wL, e_wL, m_wI2, m_wL1, n_wCI, e_wCI, n_wCL, e_wCL, m_wCI2, m_wCL1, n_wF, e_wF, m_wF2]
        · skip
          simp (disch := omega) only [n_wI, e_wI, n_wL, e_wL, m_wI2, m_wL1, n_wCI, e_wCI, n_wCL, e_wCL, m_wCI2, m_wCL1, n_wF, e_wF, m_wF2]
      · skip
        refine T_iconst (pc := 29) (v := nI 0) dX4_take_29 (by decide) ?_
        have ek : tk1 H d l = none := by unfold tk1; rw [e]; exact if_neg (by omega)
        rw [ek]
        exact T_iret (pc := 30) (ty := .boolean) dX4_take_30 rfl (by decide) (Nat.le_refl _) (Nat.le_refl _) ⟨_, rfl, rfl, ⟨⟨tb, hT⟩, rfl, rfl⟩, OfS.refl _ _⟩
  · skip
    cases e : inK (hKs H) l with
    | none =>
      rw [e] at hat
      exact absurd hat h1
    | some i =>
      refine T_iconst (pc := 17) (v := nI 1) dX4_take_17 (by decide) ?_
      have ek : tk1 H d l = some H := by unfold tk1; rw [e]
      rw [ek]
      exact T_iret (pc := 18) (ty := .boolean) dX4_take_18 rfl (by decide) (Nat.le_refl _) (Nat.le_refl _) ⟨_, rfl, rfl, ⟨⟨tb, hT⟩, rfl, rfl⟩, OfS.refl _ _⟩
end HE

