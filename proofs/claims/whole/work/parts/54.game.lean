/-! the game of two drovers -/
def plS (V : List Nat → Int32) (R : List Ru) (l : List Nat) (o : Int32 × Int32) (u : Nat) : Int32 × Int32 := if o.1 < -(V (trn R l u)) then (-(V (trn R l u)), nI u) else o
def plI (T : List Nat) : Int32 × Int32 := (-1, match T with
  | [] => -1
  | u :: _ => nI u)
/-- how one does who goes on, by what the other one does then; the first such turn -/
def plB (V : List Nat → Int32) (R : List Ru) (w : Wk) (l : List Nat) : Int32 × Int32 := (tuW R w l).foldl (plS V R l) (plI (tuW R w l))
def plV (R : List Ru) (w : Wk) : Nat → List Nat → Int32
  | 0 => fun _ => 0
  | t + 1 => fun l => (plB (plV R w t) R w l).1
def in3 (x : Int32) : Prop := x = -1 ∨ x = 0 ∨ x = 1
theorem in3_neg {x : Int32} (h : in3 x) : in3 (-x) := by
  rcases h with rfl | rfl | rfl
  · exact Or.inr (Or.inr (by decide))
  · exact Or.inr (Or.inl (by decide))
  · exact Or.inl (by decide)
theorem plS_3 {V : List Nat → Int32} {R : List Ru} {l : List Nat} (hV : ∀ x, in3 (V x)) : ∀ (T : List Nat) (o : Int32 × Int32), in3 o.1 → in3 (T.foldl (plS V R l) o).1
  | [], _, h => h
  | u :: t, o, h => plS_3 hV t _ (by
    unfold plS
    split
    · exact in3_neg (hV _)
    · exact h)
theorem plV_3 {R : List Ru} {w : Wk} : ∀ t x, in3 (plV R w t x)
  | 0, _ => Or.inr (Or.inl rfl)
  | t + 1, x => plS_3 (fun y => plV_3 t y) _ _ (Or.inl rfl)
theorem plS_stop {V : List Nat → Int32} {R : List Ru} {l : List Nat} (hV : ∀ x, in3 (V x)) : ∀ (T : List Nat) (o : Int32 × Int32), ¬ o.1 < 1 → T.foldl (plS V R l) o = o
  | [], _, _ => rfl
  | u :: t, o, h => by
    have e : plS V R l o u = o := by
      unfold plS
      rw [if_neg]
      intro z
      apply h
      rw [fa_lt] at z ⊢
      have h1 : (1 : Int32).toInt = 1 := rfl
      rcases in3_neg (hV (trn R l u)) with e | e | e
      · rw [e] at z
        have h2 : (-1 : Int32).toInt = -1 := rfl
        omega
      · rw [e] at z
        have h2 : (0 : Int32).toInt = 0 := rfl
        omega
      · rw [e] at z
        omega
    show t.foldl (plS V R l) (plS V R l o u) = o
    rw [e]
    exact plS_stop hV t o h
/-! what a search has come to -/
theorem tk1_in {H H' : Hd} {d : Nat} {l : List Nat} (h : tk1 H d l = some H') : (∃ j, j < H'.length ∧ (hA H' j).1 = l) ∧ ∀ i, H.length ≤ i → i < H'.length → (hA H' i).2 = d := by
  unfold tk1 at h
  cases e : inK (hKs H) l with
  | some i =>
    rw [e] at h
    cases h
    obtain ⟨h1, h2⟩ := inK_lt e
    rw [List.length_map] at h1
    rw [hK_hA h1] at h2
    exact ⟨⟨i, h1, h2⟩, fun i h3 h4 => absurd h4 (by omega)⟩
  | none =>
    rw [e] at h
    have h2 : (if H.length < 1500 then some (H ++ [(l, d)]) else none) = some H' := h
    by_cases e2 : H.length < 1500
    · rw [if_pos e2] at h2
      cases h2
      have hal : (H ++ [(l, d)]).length = H.length + 1 := by rw [List.length_append]; rfl
      refine ⟨⟨H.length, by omega, ?_⟩, fun i h3 h4 => ?_⟩
      · rw [show hA (H ++ [(l, d)]) H.length = if H.length < H.length then hA H H.length else (l, d) from getD_snoc (by omega), if_neg (by omega)]
      · rw [hal] at h4
        rw [show hA (H ++ [(l, d)]) i = if i < H.length then hA H i else (l, d) from getD_snoc h4, if_neg (by omega)]
    · rw [if_neg e2] at h2
      cases h2
theorem tkL_in {d : Nat} : ∀ {V : List (List Nat)} {H H' : Hd}, tkL d H V = some H' → (∀ v ∈ V, ∃ j, j < H'.length ∧ (hA H' j).1 = v) ∧ ∀ i, H.length ≤ i → i < H'.length → (hA H' i).2 = d
  | [], H, H', h => by
    cases h
    exact ⟨fun v hv => (by cases hv), fun i h3 h4 => absurd h4 (by omega)⟩
  | l :: t, H, H', h => by
    have h2 : (tk1 H d l).bind (fun H' => tkL d H' t) = some H' := h
    cases e : tk1 H d l with
    | none =>
      rw [e] at h2
      cases h2
    | some H1 =>
      rw [e] at h2
      obtain ⟨⟨j, j1, j2⟩, a2⟩ := tk1_in e
      obtain ⟨b1, b2⟩ := tkL_in (V := t) (H := H1) h2
      have g1 := tk1_get e
      have g2 := tkL_get (V := t) (H := H1) h2
      refine ⟨fun v hv => ?_, fun i h3 h4 => ?_⟩
      · rcases List.mem_cons.mp hv with rfl | hv
        · exact ⟨j, by omega, by rw [g2.2 j j1]; exact j2⟩
        · exact b1 v hv
      · by_cases h5 : i < H1.length
        · rw [g2.2 i h5]
          exact a2 i h3 h5
        · exact b2 i (by omega) h4
theorem spI_in {R : List Ru} {w : Wk} {d : Nat} : ∀ {f i : Nat} {H H' : Hd}, spI R w d H i f = some H' → i + f ≤ H.length → (∀ k, i ≤ k → k < i + f → ∀ v ∈ sucW R w (hA H k).1, ∃ j, j < H'.length ∧ (hA H' j).1 = v) ∧ ∀ i, H.length ≤ i → i < H'.length → (hA H' i).2 = d
  | 0, i, H, H', h, hi => by
    cases h
    exact ⟨fun k h1 h2 => absurd h2 (by omega), fun i h3 h4 => absurd h4 (by omega)⟩
  | f + 1, i, H, H', h, hi => by
    have h2 : (tkL d H (sucW R w (hA H i).1)).bind (fun H' => spI R w d H' (i + 1) f) = some H' := h
    cases e : tkL d H (sucW R w (hA H i).1) with
    | none =>
      rw [e] at h2
      cases h2
    | some H1 =>
      rw [e] at h2
      obtain ⟨a1, a2⟩ := tkL_in e
      have g1 := tkL_get e
      obtain ⟨b1, b2⟩ := spI_in (f := f) (i := i + 1) (H := H1) h2 (by omega)
      have g2 := spI_get (f := f) (i := i + 1) (H := H1) h2
      refine ⟨fun k h3 h4 v hv => ?_, fun k h3 h4 => ?_⟩
      · by_cases h5 : k = i
        · subst h5
          obtain ⟨j, j1, j2⟩ := a1 v hv
          exact ⟨j, by omega, by rw [g2.2 j j1]; exact j2⟩
        · exact b1 k (by omega) (by omega) v (by rw [g1.2 k (by omega)]; exact hv)
      · by_cases h5 : k < H1.length
        · rw [g2.2 k h5]
          exact a2 k h3 h5
        · exact b2 k (by omega) h4
/-- what holds of a search: by STEPS; whom one comes to from those less than n STEPS away is there -/
def Bfs (R : List Ru) (w : Wk) (H : Hd) (n : Nat) : Prop := (∀ i j, i ≤ j → j < H.length → (hA H i).2 ≤ (hA H j).2) ∧ ∀ i, i < H.length → (hA H i).2 < n → ∀ v ∈ sucW R w (hA H i).1, ∃ j, j < H.length ∧ (hA H j).1 = v ∧ (hA H j).2 ≤ (hA H i).2 + 1
theorem lvR_bfs {R : List Ru} {w : Wk} : ∀ {f : Nat} {H H' : Hd} {lb ls : Nat}, lvR R w f H lb ls = some H' → lb ≤ H.length → (∀ i j, i ≤ j → j < H.length → (hA H i).2 ≤ (hA H j).2) → (∀ i, lb ≤ i → i < H.length → (hA H i).2 = ls) → (∀ i, i < lb → (hA H i).2 ≤ ls ∧ ∀ v ∈ sucW R w (hA H i).1, ∃ j, j < H.length ∧ (hA H j).1 = v ∧ (hA H j).2 ≤ (hA H i).2 + 1) → Bfs R w H' (ls + f) ∧ (H.length ≤ H'.length ∧ ∀ i, i < H.length → hA H' i = hA H i)
  | 0, H, H', lb, ls, h, hlb, hs, h1, h2 => by
    cases h
    refine ⟨⟨hs, fun i hi hn => ?_⟩, Nat.le_refl _, fun _ _ => rfl⟩
    by_cases e : i < lb
    · exact (h2 i e).2
    · rw [h1 i (by omega) hi] at hn
      omega
  | f + 1, H, H', lb, ls, h, hlb, hs, h1, h2 => by
    have h3 : (if lb < H.length then (spI R w (ls + 1) H lb (H.length - lb)).bind (fun H' => lvR R w f H' H.length (ls + 1)) else some H) = some H' := h
    by_cases e2 : lb < H.length
    · rw [if_pos e2] at h3
      cases e : spI R w (ls + 1) H lb (H.length - lb) with
      | none =>
        rw [e] at h3
        cases h3
      | some H1 =>
        rw [e] at h3
        obtain ⟨a1, a2⟩ := spI_in e (by omega)
        have g := spI_get e
        have hd : ∀ i, i < H.length → (hA H i).2 ≤ ls := fun i hi => by
          by_cases e3 : i < lb
          · exact (h2 i e3).1
          · rw [h1 i (by omega) hi]
            exact Nat.le_refl _
        have hd1 : ∀ i, i < H1.length → (hA H1 i).2 ≤ ls + 1 := fun i hi => by
          by_cases e3 : i < H.length
          · rw [g.2 i e3]
            have := hd i e3
            omega
          · rw [a2 i (by omega) hi]
            exact Nat.le_refl _
        have hh := lvR_bfs (f := f) (H := H1) (lb := H.length) h3 g.1 (fun i j hij hj => by
          by_cases e3 : j < H.length
          · rw [g.2 i (by omega), g.2 j e3]
            exact hs i j hij e3
          · rw [a2 j (by omega) hj]
            exact hd1 i (by omega)) (fun i hi1 hi2 => a2 i hi1 hi2) (fun i hi => by
          rw [g.2 i hi]
          have hdi := hd i hi
          refine ⟨by omega, fun v hv => ?_⟩
          by_cases e3 : i < lb
          · obtain ⟨j, j1, j2, j3⟩ := (h2 i e3).2 v hv
            exact ⟨j, by omega, by rw [g.2 j j1]; exact j2, by rw [g.2 j j1]; exact j3⟩
          · obtain ⟨j, j1, j2⟩ := a1 i (by omega) (by omega) v hv
            refine ⟨j, j1, j2, ?_⟩
            rw [h1 i (by omega) hi]
            exact hd1 j j1)
        rw [show ls + 1 + f = ls + (f + 1) by omega] at hh
        exact ⟨hh.1, by omega, fun i hi => (hh.2.2 i (by omega)).trans (g.2 i hi)⟩
    · rw [if_neg e2] at h3
      cases h3
      refine ⟨⟨hs, fun i hi hn => (h2 i (by omega)).2⟩, Nat.le_refl _, fun _ _ => rfl⟩
theorem spd_bfs {R : List Ru} {w : Wk} {l : List Nat} {n : Nat} {H : Hd} (h : spd R w l n = some H) : Bfs R w H n ∧ 0 < H.length ∧ hA H 0 = (l, 0) := by
  have := lvR_bfs h (Nat.zero_le _) (fun i j hij hj => by
    have hj2 : j < 1 := hj
    obtain rfl : j = 0 := by omega
    obtain rfl : i = 0 := by omega
    exact Nat.le_refl _) (fun i _ hi => by
    have hi2 : i < 1 := hi
    obtain rfl : i = 0 := by omega
    rfl) (fun i hi => absurd hi (Nat.not_lt_zero _))
  rw [Nat.zero_add] at this
  exact ⟨this.1, this.2.1, this.2.2 0 Nat.one_pos⟩
theorem HerdAt.inK {m : SM2} {h : Nat} {H : Hd} (g : HerdAt m h H) {j : Nat} {v : List Nat} (hj : j < H.length) (e : (hA H j).1 = v) : inK (hKs H) v = some j := by
  obtain ⟨tb, g⟩ := g
  exact inK_some g.2.2.2 (by rw [List.length_map]; exact hj) ((hK_hA hj).trans e)
def SG (k : Nat) : Prop := SW k ∨ k = 113
section GM
variable {γ : Ga} {μ : SM2}
theorem c_weigh {H : Hd} {R : List Ru} {LL : List (List Int32)} {w : Wk} {l : List Nat} {V : List Nat → Int32} (hT : HerdAt μ 105 H) (hE : EnvW μ R LL w) (hl : Mw l) (hV : ∀ x, in3 (V x)) (hless : ∀ u ∈ tuW R w l, ∃ j, j < H.length ∧ inK (hKs H) (trn R l u) = some j ∧ μ.1 114 j = V (trn R l u)) : Ex γ 5 0 0 M_X2_weigh [.ref 113, .ref 97, .ref 105, .long (lN (cd l))] (rm μ) (Rm none (fun m => (m.1 113 0 = (plB V R w l).1 ∧ m.1 113 1 = (plB V R w l).2) ∧ EnvW m R LL w ∧ OfS SG μ m)) := by
  have h15 := hT.len
  have hTl := tuP_len (R := R) (w := w) (l := l) hE.1.len l.length
  have hl20 := hl.1
  have hTl2 : (tuW R w l).length ≤ 240 := by unfold tuW; omega
  suffices loop : ∀ (Y : List Nat) (i : Nat) (o : Int32 × Int32) (m : SM2), (tuW R w l).drop i = Y → i ≤ (tuW R w l).length → Y.foldl (plS V R l) o = plB V R w l → in3 o.1 → m.1 113 0 = o.1 → m.1 113 1 = o.2 → EnvW m R LL w → TurnsAt m (tuW R w l) → OfS SG μ m → T γ 5 0 0 M_X2_weigh (Rm none (fun m => (m.1 113 0 = (plB V R w l).1 ∧ m.1 113 1 = (plB V R w l).2) ∧ EnvW m R LL w ∧ OfS SG μ m)) 0 0 34 [some (.ref 113), some (.ref 97), some (.ref 105), some (.long (lN (cd l))), none, some (.int (nI (tuW R w l).length)), some (.int (nI i)), none] [] (rm m) by
    refine Ex.of (by decide +kernel) rfl (Nat.le_of_ble_eq_true rfl) ?_
    show T _ _ _ _ _ _ _ _ _ [some (.ref 113), some (.ref 97), some (.ref 105), some (.long (lN (cd l))), none, none, none, none] [] (rm μ)
    refine T_aload_n (pc := 0) (i := 1) dX2_weigh_0 rfl rfl ?_
    refine T_lload_n (pc := 1) (i := 3) dX2_weigh_1 rfl rfl ?_
    refine R_callVm1 (pc := 2) (As := [.long (lN (cd l))]) (rest := []) (Or.inl lk_X2_50) mk_X10_listTurns (c_listTurns hE hl) kc_97 ⟨by decide, rfl⟩ lc_97 dX2_weigh_2 rfl rfl (Nat.le_of_ble_eq_true rfl) (by decide) rfl (Nat.le_refl _) (Nat.le_refl _) (fun m k => ?_)
    obtain ⟨kE, kO, kT⟩ := k
    have begin9 : ∀ x : Int32, x = (plI (tuW R w l)).2 → T γ 5 0 0 M_X2_weigh (Rm none (fun m => (m.1 113 0 = (plB V R w l).1 ∧ m.1 113 1 = (plB V R w l).2) ∧ EnvW m R LL w ∧ OfS SG μ m)) 0 0 28 [some (.ref 113), some (.ref 97), some (.ref 105), some (.long (lN (cd l))), none, some (.int (nI (tuW R w l).length)), none, none] [.int x, .ref 113] (rm (wI m 113 0 (-1))) := fun x ex => by
      refine R_putI (pc := 28) fl_X2_59 ⟨rfl, rfl⟩ (Or.inl rfl) kc_113 lc_113 dX2_weigh_28 ?_
      refine T_iconst (pc := 31) (v := nI 0) dX2_weigh_31 (by decide) ?_
      refine T_istore (pc := 32) (i := 6) (ls' := [some (.ref 113), some (.ref 97), some (.ref 105), some (.long (lN (cd l))), none, some (.int (nI ((tuW R w l).length))), some (.int (nI 0)), none]) dX2_weigh_32 (by decide) rfl ?_
      have o1 : OfS (fun k => k = 113) m (wI (wI m 113 0 (-1)) 113 1 x) := OfS.sI (OfS.sI (OfS.refl _ _) rfl) rfl
      exact loop (tuW R w l) 0 (plI (tuW R w l)) _ rfl (Nat.zero_le _) rfl (Or.inl rfl) ((n_wI (by omega)).trans (e_wI ⟨rfl, rfl⟩)) ((e_wI ⟨rfl, rfl⟩).trans ex) (kE.ofs o1 (fun k hk => by omega)) (kT.ofs o1 (by omega)) ((kO.mono (fun c hc => Or.inl hc)).trans (o1.mono (fun c hc => Or.inr hc)))
    refine T_istore (pc := 5) (i := 5) (ls' := [some (.ref 113), some (.ref 97), some (.ref 105), some (.long (lN (cd l))), none, some (.int (nI ((tuW R w l).length))), none, none]) dX2_weigh_5 (by decide) rfl ?_
    refine T_aload_n (pc := 7) (i := 0) dX2_weigh_7 rfl rfl ?_
    refine T_iconst (pc := 8) (v := (-1)) dX2_weigh_8 (by decide) ?_
    refine R_putI (pc := 9) fl_X2_41 ⟨rfl, rfl⟩ (Or.inl rfl) kc_113 lc_113 dX2_weigh_9 ?_
    refine T_aload_n (pc := 12) (i := 0) dX2_weigh_12 rfl rfl ?_
    refine T_iload (pc := 13) (i := 5) dX2_weigh_13 rfl ?_
    refine R_if_ne (pc := 15) (tgt := 22) (by omega) dX2_weigh_15 (by decide) (fun h1 => ?_) (fun h1 => ?_)
    · skip
      obtain ⟨u, t, eT⟩ : ∃ u t, tuW R w l = u :: t := by
        cases e : tuW R w l with
        | nil => rw [e] at h1; exact absurd rfl h1
        | cons u t => exact ⟨u, t, rfl⟩
      have hu : m.1 98 0 = nI u := by
        have := kT 0 (by rw [eT]; exact Nat.succ_pos _)
        rw [eT] at this
        exact this
      refine T_aload_n (pc := 22) (i := 1) dX2_weigh_22 rfl rfl ?_
      refine R_getR (pc := 23) (i := 98) fl_X2_56 rfl kc_97 lc_97 rc_97_7 dX2_weigh_23 ?_
      refine T_iconst (pc := 26) (v := nI 0) dX2_weigh_26 (by decide) ?_
      refine R_iald (pc := 27) (x := nI u) kc_98 lc_98 (by omega) (by first | decide | assumption) ((wI_ne (by decide)).trans hu) dX2_weigh_27 ?_
      exact begin9 (nI u) (by rw [eT]; rfl)
    · skip
      refine T_iconst (pc := 18) (v := (-1)) dX2_weigh_18 (by decide) ?_
      refine T_goto (pc := 19) (tgt := 28) dX2_weigh_19 (by decide) ?_
      refine begin9 (-1) ?_
      cases e : tuW R w l with
      | nil => rfl
      | cons u t => rw [e] at h1; cases h1
  intro Y
  induction Y with
  | nil =>
    intro i o m hd hi ho h3 e0 e1 iE iT iO
    have hi2 := List.drop_eq_nil_iff.mp hd
    refine T_iload (pc := 34) (i := 6) dX2_weigh_34 rfl ?_
    refine T_iload (pc := 36) (i := 5) dX2_weigh_36 rfl ?_
    refine R_icmp_ge (pc := 38) (tgt := 116) (by omega) (by omega) dX2_weigh_38 (by decide) (fun h1 => ?_) (fun h1 => ?_)
    · skip
      have ho2 : o = plB V R w l := ho
      rw [← ho2]
      exact T_vret dX2_weigh_116 rfl (Nat.le_refl _) (Nat.le_refl _) ⟨_, rfl, rfl, ⟨e0, e1⟩, iE, iO⟩
    · exact absurd h1 (by omega)
  | cons u t ih =>
    intro i o m hd hi ho h33 e0 e1 iE iT iO
    obtain ⟨hi1, hu, hd2⟩ := drop_g 0 hd
    have hut := iT i hi1
    rw [hu] at hut
    have hmem : u ∈ tuW R w l := by rw [← hu]; exact getD_mem hi1
    obtain ⟨t1, t2, t3⟩ := tuW_mem iE.1.len hmem
    have t4 := fitB_get t3
    have htr := trn_mw hl iE.1.ok t1 t3
    obtain ⟨j, j1, j2, j3⟩ := hless u hmem
    have jm : m.1 114 j = V (trn R l u) := (iO.i (by unfold SG SW; omega) j).trans j3
    have iH : HerdAt m 105 H := hT.ofs iO (fun c h1 h2 => by unfold SG SW; omega)
    have r12 := iE.1.len
    refine T_iload (pc := 34) (i := 6) dX2_weigh_34 rfl ?_
    refine T_iload (pc := 36) (i := 5) dX2_weigh_36 rfl ?_
    refine R_icmp_ge (pc := 38) (tgt := 116) (by omega) (by omega) dX2_weigh_38 (by decide) (fun h1 => ?_) (fun h1 => ?_)
    · exact absurd h1 (by omega)
    · skip
      refine T_aload_n (pc := 41) (i := 0) dX2_weigh_41 rfl rfl ?_
      refine R_getI (pc := 42) (x := o.1) fl_X2_41 rfl kc_113 lc_113 e0 dX2_weigh_42 ?_
      refine T_iconst (pc := 45) (v := nI 1) dX2_weigh_45 (by decide) ?_
      refine T_icmp_ge (pc := 46) (tgt := 116) dX2_weigh_46 (by decide) (fun h2 => ?_) (fun h2 => ?_)
      · skip
        have ho2 := plS_stop (R := R) (l := l) hV (u :: t) o (i_nlt.mpr h2)
        rw [ho2] at ho
        rw [← ho]
        exact T_vret dX2_weigh_116 rfl (Nat.le_refl _) (Nat.le_refl _) ⟨_, rfl, rfl, ⟨e0, e1⟩, iE, iO⟩
      · skip
        refine T_aload_n (pc := 49) (i := 2) dX2_weigh_49 rfl rfl ?_
        refine T_aload_n (pc := 50) (i := 1) dX2_weigh_50 rfl rfl ?_
        refine T_lload_n (pc := 51) (i := 3) dX2_weigh_51 rfl rfl ?_
        refine T_aload_n (pc := 52) (i := 1) dX2_weigh_52 rfl rfl ?_
        refine R_getR (pc := 53) (i := 98) fl_X2_56 rfl kc_97 lc_97 rc_97_7 dX2_weigh_53 ?_
        refine T_iload (pc := 56) (i := 6) dX2_weigh_56 rfl ?_
        refine R_iald (pc := 58) (x := nI u) kc_98 lc_98 (by omega) (by first | decide | assumption) hut dX2_weigh_58 ?_
        have ht31 : u < 2 ^ 31 := by omega
        refine R_callV1 (pc := 59) (As := [.long (lN (cd l)), .int (nI u)]) (rest := [.ref 105]) (Or.inl lk_X2_62) mk_X10_afterTurn (c_afterTurn iE.1 hl ht31 t1 t4.2.1) kc_97 ⟨by decide, rfl⟩ lc_97 dX2_weigh_59 rfl rfl (Nat.le_of_ble_eq_true rfl) (by decide) rfl (Nat.le_refl _) (Nat.le_refl _) ?_
        refine R_callV1 (pc := 62) (As := [.long (lN (cd (trn R l u)))]) (rest := []) (Or.inl lk_X2_66) mk_X4_indexOf (c_indexOf herd105 iH htr) (kt_herd herd105) ⟨by decide, rfl⟩ (lt_herd herd105) dX2_weigh_62 rfl rfl (Nat.le_of_ble_eq_true rfl) (by decide) rfl (Nat.le_refl _) (Nat.le_refl _) ?_
        rw [j2]
        refine T_istore (pc := 65) (i := 7) (ls' := [some (.ref 113), some (.ref 97), some (.ref 105), some (.long (lN (cd l))), none, some (.int (nI ((tuW R w l).length))), some (.int (nI i)), some (.int (nI j))]) dX2_weigh_65 (by decide) rfl ?_
        refine T_iload (pc := 67) (i := 7) dX2_weigh_67 rfl ?_
        refine R_if_lt (pc := 69) (tgt := 110) (by omega) dX2_weigh_69 (by decide) (fun h3 => ?_) (fun h3 => ?_)
        · exact h3.elim
        · skip
          refine T_aload_n (pc := 72) (i := 0) dX2_weigh_72 rfl rfl ?_
          refine R_getR (pc := 73) (i := 114) fl_X2_9 rfl kc_113 lc_113 rc_113_2 dX2_weigh_73 ?_
          refine T_iload (pc := 76) (i := 7) dX2_weigh_76 rfl ?_
          refine R_iald (pc := 78) (x := (V (trn R l u))) kc_114 lc_114 (by omega) (by first | decide | assumption) jm dX2_weigh_78 ?_
          refine T_ineg (pc := 79) dX2_weigh_79 ?_
          refine T_aload_n (pc := 80) (i := 0) dX2_weigh_80 rfl rfl ?_
          refine R_getI (pc := 81) (x := o.1) fl_X2_41 rfl kc_113 lc_113 e0 dX2_weigh_81 ?_
          refine T_icmp_le (pc := 84) (tgt := 110) dX2_weigh_84 (by decide) (fun h4 => ?_) (fun h4 => ?_)
          · skip
            have es : plS V R l o u = o := by unfold plS; rw [if_neg (i_nlt.mpr h4)]
            refine R_iinc (pc := 110) (i := 6) (n := 1) (ls' := [some (.ref 113), some (.ref 97), some (.ref 105), some (.long (lN (cd l))), none, some (.int (nI ((tuW R w l).length))), some (.int (nI (i + 1))), some (.int (nI j))]) dX2_weigh_110 rfl rfl ?_
            refine T_goto (pc := 113) (tgt := 34) dX2_weigh_113 (by decide) ?_
            refine T_ls (ls' := [some (.ref 113), some (.ref 97), some (.ref 105), some (.long (lN (cd l))), none, some (.int (nI ((tuW R w l).length))), some (.int (nI (i + 1))), none]) (And.intro rfl (And.intro rfl (And.intro rfl (And.intro rfl (And.intro rfl (And.intro rfl True.intro)))))) ?_
            exact ih (i + 1) o m hd2 (by omega) (by have h9 : t.foldl (plS V R l) (plS V R l o u) = plB V R w l := ho; rw [es] at h9; exact h9) h33 e0 e1 iE iT iO
          · skip
            have es : plS V R l o u = (-(V (trn R l u)), nI u) := by unfold plS; rw [if_pos (i_nle.mp h4)]
            refine T_aload_n (pc := 87) (i := 0) dX2_weigh_87 rfl rfl ?_
            refine T_aload_n (pc := 88) (i := 0) dX2_weigh_88 rfl rfl ?_
            refine R_getR (pc := 89) (i := 114) fl_X2_9 rfl kc_113 lc_113 rc_113_2 dX2_weigh_89 ?_
            refine T_iload (pc := 92) (i := 7) dX2_weigh_92 rfl ?_
            refine R_iald (pc := 94) (x := (V (trn R l u))) kc_114 lc_114 (by omega) (by first | decide | assumption) jm dX2_weigh_94 ?_
            refine T_ineg (pc := 95) dX2_weigh_95 ?_
            refine R_putI (pc := 96) fl_X2_41 ⟨rfl, rfl⟩ (Or.inl rfl) kc_113 lc_113 dX2_weigh_96 ?_
            refine T_aload_n (pc := 99) (i := 0) dX2_weigh_99 rfl rfl ?_
            refine T_aload_n (pc := 100) (i := 1) dX2_weigh_100 rfl rfl ?_
            refine R_getR (pc := 101) (i := 98) fl_X2_56 rfl kc_97 lc_97 rc_97_7 dX2_weigh_101 ?_
            refine T_iload (pc := 104) (i := 6) dX2_weigh_104 rfl ?_
            refine R_iald (pc := 106) (x := nI u) kc_98 lc_98 (by omega) (by first | decide | assumption) ((wI_ne (by first | omega | simp)).trans hut) dX2_weigh_106 ?_
            refine R_putI (pc := 107) fl_X2_59 ⟨rfl, rfl⟩ (Or.inl rfl) kc_113 lc_113 dX2_weigh_107 ?_
            refine R_iinc (pc := 110) (i := 6) (n := 1) (ls' := [some (.ref 113), some (.ref 97), some (.ref 105), some (.long (lN (cd l))), none, some (.int (nI ((tuW R w l).length))), some (.int (nI (i + 1))), some (.int (nI j))]) dX2_weigh_110 rfl rfl ?_
            refine T_goto (pc := 113) (tgt := 34) dX2_weigh_113 (by decide) ?_
            refine T_ls (ls' := [some (.ref 113), some (.ref 97), some (.ref 105), some (.long (lN (cd l))), none, some (.int (nI ((tuW R w l).length))), some (.int (nI (i + 1))), none]) (And.intro rfl (And.intro rfl (And.intro rfl (And.intro rfl (And.intro rfl (And.intro rfl True.intro)))))) ?_
            have o1 : OfS (fun k => k = 113) m (wI (wI m 113 0 (-(V (trn R l u)))) 113 1 (nI u)) := OfS.sI (OfS.sI (OfS.refl _ _) rfl) rfl
            exact ih (i + 1) (-(V (trn R l u)), nI u) _ hd2 (by omega) (by have h9 : t.foldl (plS V R l) (plS V R l o u) = plB V R w l := ho; rw [es] at h9; exact h9) (in3_neg (hV _)) ((n_wI (by omega)).trans (e_wI ⟨rfl, rfl⟩)) (e_wI ⟨rfl, rfl⟩) (iE.ofs o1 (fun k hk => by omega)) (iT.ofs o1 (by omega)) (iO.trans (o1.mono (fun c hc => Or.inr hc)))
def SP3 (k : Nat) : Prop := SW k ∨ (113 ≤ k ∧ k < 116)
theorem c_Game_play {H : Hd} {R : List Ru} {LL : List (List Int32)} {w : Wk} {l : List Nat} {N : Nat} (hT : HerdAt μ 105 H) (hE : EnvW μ R LL w) (hb : Bfs R w H N) (h0 : 0 < H.length ∧ hA H 0 = (l, 0)) (hN : 1 ≤ N ∧ N ≤ 8) (hfar : ∀ i, i < H.length → (hA H i).2 ≤ N) : Ex γ 6 0 0 M_X2_play [.ref 113, .ref 97, .ref 105, .int (nI N)] (rm μ) (Rm none (fun m => (m.1 113 0 = (plB (plV R w (N - 1)) R w l).1 ∧ m.1 113 1 = (plB (plV R w (N - 1)) R w l).2) ∧ OfS SP3 μ m)) := by
  have h15 := hT.len
  have succ : ∀ (m : SM2) (k i : Nat), HerdAt m 105 H → i < H.length → k < N → (hA H i).2 ≤ N - (k + 1) → (∀ j, j < H.length → (hA H j).2 ≤ N - k → m.1 114 j = plV R w k (hA H j).1) → ∀ u ∈ tuW R w (hA H i).1, ∃ j, j < H.length ∧ inK (hKs H) (trn R (hA H i).1 u) = some j ∧ m.1 114 j = plV R w k (trn R (hA H i).1 u) := fun m k i g hi hk hd hl u hu => by
    obtain ⟨j, j1, j2, j3⟩ := hb.2 i hi (by omega) (trn R (hA H i).1 u) (List.mem_map.mpr ⟨u, hu, rfl⟩)
    refine ⟨j, j1, g.inK j1 j2, ?_⟩
    rw [hl j j1 (by omega), j2]
  suffices outer : ∀ (g k : Nat) (m : SM2), k + 1 + g = N → (∀ j, j < H.length → (hA H j).2 ≤ N - k → m.1 114 j = plV R w k (hA H j).1) → EnvW m R LL w → OfS SP3 μ m → T γ 6 0 0 M_X2_play (Rm none (fun m => (m.1 113 0 = (plB (plV R w (N - 1)) R w l).1 ∧ m.1 113 1 = (plB (plV R w (N - 1)) R w l).2) ∧ OfS SP3 μ m)) 0 0 11 [some (.ref 113), some (.ref 97), some (.ref 105), some (.int (nI N)), some (.int (nI (k + 1))), none] [] (rm m) by
    refine Ex.of (by decide +kernel) rfl (Nat.le_of_ble_eq_true rfl) ?_
    show T _ _ _ _ _ _ _ _ _ [some (.ref 113), some (.ref 97), some (.ref 105), some (.int (nI N)), none, none] [] (rm μ)
    refine T_aload_n (pc := 0) (i := 0) dX2_play_0 rfl rfl ?_
    refine R_getR (pc := 1) (i := 114) fl_X2_9 rfl kc_113 lc_113 rc_113_2 dX2_play_1 ?_
    refine T_iconst (pc := 4) (v := nI 0) dX2_play_4 (by decide) ?_
    refine R_callS0 (pc := 5) (av := [.ref 114, .int (nI 0)]) (rest := []) (Or.inl lk_X2_18) mk_J7_fill_53178 (c_fill kc_114 lc_114 (by decide)) dX2_play_5 rfl rfl (Nat.le_of_ble_eq_true rfl) (by decide) rfl (Nat.le_refl _) (Nat.le_refl _) ?_
    refine T_iconst (pc := 8) (v := nI 1) dX2_play_8 (by decide) ?_
    refine T_istore (pc := 9) (i := 4) (ls' := [some (.ref 113), some (.ref 97), some (.ref 105), some (.int (nI N)), some (.int (nI 1)), none]) dX2_play_9 (by decide) rfl ?_
    have o1 : OfS (fun k => k = 114) μ (wF μ 114 1500 (nI 0)) := OfS.sF (OfS.refl _ _) rfl
    exact outer (N - 1) 0 _ (by omega) (fun j hj _ => e_wF ⟨rfl, by omega⟩) (hE.ofs o1 (fun k hk => by omega)) (o1.mono (fun c hc => Or.inr (by omega)))
  intro g
  induction g with
  | zero =>
    intro k m hk hl iE iO
    have iT : HerdAt m 105 H := hT.ofs iO (fun c h1 h2 => by unfold SP3 SW; omega)
    have row := iT.row 0 h0.1
    have e0 : (hA H 0).1 = l := by rw [h0.2]
    have hs := succ m k 0 iT h0.1 (by omega) (by rw [h0.2]; exact Nat.zero_le _) hl
    rw [e0] at hs row
    refine T_iload (pc := 11) (i := 4) dX2_play_11 rfl ?_
    refine T_iload_n (pc := 13) (i := 3) dX2_play_13 rfl rfl ?_
    refine R_icmp_ge (pc := 14) (tgt := 96) (by omega) (by omega) dX2_play_14 (by decide) (fun h1 => ?_) (fun h1 => ?_)
    · skip
      refine T_aload_n (pc := 96) (i := 0) dX2_play_96 rfl rfl ?_
      refine T_aload_n (pc := 97) (i := 1) dX2_play_97 rfl rfl ?_
      refine T_aload_n (pc := 98) (i := 2) dX2_play_98 rfl rfl ?_
      refine T_aload_n (pc := 99) (i := 2) dX2_play_99 rfl rfl ?_
      refine R_getR (pc := 100) (i := 106) fl_X2_33 rfl (kt_herd herd105) (lt_herd herd105) (rt_herd_codes herd105) dX2_play_100 ?_
      refine T_iconst (pc := 103) (v := nI 0) dX2_play_103 (by decide) ?_
      refine R_lald (pc := 104) (x := lN (cd l)) (kt_herd_codes herd105) (lt_herd_codes herd105) (by omega) (by first | decide | assumption) row.2.1 dX2_play_104 ?_
      refine R_callVm0 (pc := 105) (As := [.ref 97, .ref 105, .long (lN (cd l))]) (rest := []) (Or.inl lk_X2_37) mk_X2_weigh (c_weigh iT iE row.1 (plV_3 k) hs) kc_113 ⟨by decide, rfl⟩ lc_113 dX2_play_105 rfl rfl (Nat.le_of_ble_eq_true rfl) (by decide) rfl (Nat.le_refl _) (Nat.le_refl _) (fun m2 q => ?_)
      obtain ⟨⟨q1, q2⟩, q3, q4⟩ := q
      rw [show N - 1 = k by omega]
      exact T_vret dX2_play_108 rfl (Nat.le_refl _) (Nat.le_refl _) ⟨_, rfl, rfl, ⟨q1, q2⟩, iO.trans (q4.mono (fun c hc => by unfold SG SW at hc; unfold SP3 SW; omega))⟩
    · exact absurd h1 (by omega)
  | succ g ih =>
    intro k m hk hl iE iO
    refine T_iload (pc := 11) (i := 4) dX2_play_11 rfl ?_
    refine T_iload_n (pc := 13) (i := 3) dX2_play_13 rfl rfl ?_
    refine R_icmp_ge (pc := 14) (tgt := 96) (by omega) (by omega) dX2_play_14 (by decide) (fun h1 => ?_) (fun h1 => ?_)
    · exact absurd h1 (by omega)
    · skip
      refine T_iconst (pc := 17) (v := nI 0) dX2_play_17 (by decide) ?_
      refine T_istore (pc := 18) (i := 5) (ls' := [some (.ref 113), some (.ref 97), some (.ref 105), some (.int (nI N)), some (.int (nI (k + 1))), some (.int (nI 0))]) dX2_play_18 (by decide) rfl ?_
      suffices inner : ∀ (f i : Nat) (m : SM2), i + f = H.length → (∀ j, j < i → m.1 115 j = plV R w (k + 1) (hA H j).1) → (∀ j, j < H.length → (hA H j).2 ≤ N - k → m.1 114 j = plV R w k (hA H j).1) → EnvW m R LL w → OfS SP3 μ m → T γ 6 0 0 M_X2_play (Rm none (fun m => (m.1 113 0 = (plB (plV R w (N - 1)) R w l).1 ∧ m.1 113 1 = (plB (plV R w (N - 1)) R w l).2) ∧ OfS SP3 μ m)) 0 0 20 [some (.ref 113), some (.ref 97), some (.ref 105), some (.int (nI N)), some (.int (nI (k + 1))), some (.int (nI i))] [] (rm m) by
        exact inner H.length 0 m (Nat.zero_add _) (fun j hj => absurd hj (Nat.not_lt_zero _)) hl iE iO
      have tail : ∀ (i : Nat) (m : SM2), (∀ j, j < H.length → (hA H j).2 ≤ N - (k + 1) → m.1 115 j = plV R w (k + 1) (hA H j).1) → EnvW m R LL w → OfS SP3 μ m → T γ 6 0 0 M_X2_play (Rm none (fun m => (m.1 113 0 = (plB (plV R w (N - 1)) R w l).1 ∧ m.1 113 1 = (plB (plV R w (N - 1)) R w l).2) ∧ OfS SP3 μ m)) 0 0 73 [some (.ref 113), some (.ref 97), some (.ref 105), some (.int (nI N)), some (.int (nI (k + 1))), some (.int (nI i))] [] (rm m) := fun i m hm jE jO => by
        have jT : HerdAt m 105 H := hT.ofs jO (fun c h1 h2 => by unfold SP3 SW; omega)
        refine T_aload_n (pc := 73) (i := 0) dX2_play_73 rfl rfl ?_
        refine R_getR (pc := 74) (i := 115) fl_X2_15 rfl kc_113 lc_113 rc_113_3 dX2_play_74 ?_
        refine T_iconst (pc := 77) (v := nI 0) dX2_play_77 (by decide) ?_
        refine T_aload_n (pc := 78) (i := 0) dX2_play_78 rfl rfl ?_
        refine R_getR (pc := 79) (i := 114) fl_X2_9 rfl kc_113 lc_113 rc_113_2 dX2_play_79 ?_
        refine T_iconst (pc := 82) (v := nI 0) dX2_play_82 (by decide) ?_
        refine T_aload_n (pc := 83) (i := 2) dX2_play_83 rfl rfl ?_
        refine R_getI (pc := 84) (x := nI H.length) fl_X2_24 rfl (kt_herd herd105) (lt_herd herd105) jT.size dX2_play_84 ?_
        refine R_copyI (pc := 87) cp_X2_44 kc_115 kc_114 lc_115 lc_114 (by omega) (by omega) (by decide) (by decide) dX2_play_87 ?_
        refine R_iinc (pc := 90) (i := 4) (n := 1) (ls' := [some (.ref 113), some (.ref 97), some (.ref 105), some (.int (nI N)), some (.int (nI (k + 1 + 1))), some (.int (nI i))]) dX2_play_90 rfl rfl ?_
        refine T_goto (pc := 93) (tgt := 11) dX2_play_93 (by decide) ?_
        refine T_ls (ls' := [some (.ref 113), some (.ref 97), some (.ref 105), some (.int (nI N)), some (.int (nI (k + 1 + 1))), none]) (And.intro rfl (And.intro rfl (And.intro rfl (And.intro rfl (And.intro rfl True.intro))))) ?_
        have o1 : OfS (fun k => k = 114) m (wCI m 115 114 0 0 H.length) := OfS.sCI (OfS.refl _ _) rfl
        exact ih (k + 1) _ (by omega) (fun j hj hd => (e_wCI ⟨rfl, hj⟩).trans (hm j hj hd)) (jE.ofs o1 (fun k hk => by omega)) (jO.trans (o1.mono (fun c hc => Or.inr (by omega))))
      intro f
      induction f with
      | zero =>
        intro i m2 hi hm hl2 jE jO
        have jT : HerdAt m2 105 H := hT.ofs jO (fun c h1 h2 => by unfold SP3 SW; omega)
        refine T_iload (pc := 20) (i := 5) dX2_play_20 rfl ?_
        refine T_aload_n (pc := 22) (i := 2) dX2_play_22 rfl rfl ?_
        refine R_getI (pc := 23) (x := nI H.length) fl_X2_24 rfl (kt_herd herd105) (lt_herd herd105) jT.size dX2_play_23 ?_
        refine R_icmp_ge (pc := 26) (tgt := 73) (by omega) (by omega) dX2_play_26 (by decide) (fun h2 => ?_) (fun h2 => ?_)
        · exact tail i m2 (fun j hj _ => hm j (by omega)) jE jO
        · exact absurd h2 (by omega)
      | succ f ihf =>
        intro i m2 hi hm hl2 jE jO
        have jT : HerdAt m2 105 H := hT.ofs jO (fun c h1 h2 => by unfold SP3 SW; omega)
        have row := jT.row i (by omega)
        have hfi := hfar i (by omega)
        refine T_iload (pc := 20) (i := 5) dX2_play_20 rfl ?_
        refine T_aload_n (pc := 22) (i := 2) dX2_play_22 rfl rfl ?_
        refine R_getI (pc := 23) (x := nI H.length) fl_X2_24 rfl (kt_herd herd105) (lt_herd herd105) jT.size dX2_play_23 ?_
        refine R_icmp_ge (pc := 26) (tgt := 73) (by omega) (by omega) dX2_play_26 (by decide) (fun h2 => ?_) (fun h2 => ?_)
        · exact absurd h2 (by omega)
        · skip
          refine T_aload_n (pc := 29) (i := 2) dX2_play_29 rfl rfl ?_
          refine R_getR (pc := 30) (i := 107) fl_X2_30 rfl (kt_herd herd105) (lt_herd herd105) (rt_herd_far herd105) dX2_play_30 ?_
          refine T_iload (pc := 33) (i := 5) dX2_play_33 rfl ?_
          refine R_iald (pc := 35) (x := nI ((hA H i).2)) (kt_herd_far herd105) (lt_herd_far herd105) (by omega) (by first | decide | assumption) row.2.2 dX2_play_35 ?_
          refine T_iload_n (pc := 36) (i := 3) dX2_play_36 rfl rfl ?_
          refine T_iload (pc := 37) (i := 4) dX2_play_37 rfl ?_
          refine R_isub (pc := 39) (by omega) dX2_play_39 ?_
          refine R_icmp_gt (pc := 40) (tgt := 73) (by omega) (by omega) dX2_play_40 (by decide) (fun h3 => ?_) (fun h3 => ?_)
          · refine tail i m2 (fun j hj hd => ?_) jE jO
            by_cases e : j < i
            · exact hm j e
            · have := hb.1 i j (by omega) hj
              omega
          · skip
            refine T_aload_n (pc := 43) (i := 0) dX2_play_43 rfl rfl ?_
            refine T_aload_n (pc := 44) (i := 1) dX2_play_44 rfl rfl ?_
            refine T_aload_n (pc := 45) (i := 2) dX2_play_45 rfl rfl ?_
            refine T_aload_n (pc := 46) (i := 2) dX2_play_46 rfl rfl ?_
            refine R_getR (pc := 47) (i := 106) fl_X2_33 rfl (kt_herd herd105) (lt_herd herd105) (rt_herd_codes herd105) dX2_play_47 ?_
            refine T_iload (pc := 50) (i := 5) dX2_play_50 rfl ?_
            refine R_lald (pc := 52) (x := lN (cd (hA H i).1)) (kt_herd_codes herd105) (lt_herd_codes herd105) (by omega) (by first | decide | assumption) row.2.1 dX2_play_52 ?_
            refine R_callVm0 (pc := 53) (As := [.ref 97, .ref 105, .long (lN (cd (hA H i).1))]) (rest := []) (Or.inl lk_X2_37) mk_X2_weigh (c_weigh jT jE row.1 (plV_3 k) (succ m2 k i jT h2 (by omega) h3 hl2)) kc_113 ⟨by decide, rfl⟩ lc_113 dX2_play_53 rfl rfl (Nat.le_of_ble_eq_true rfl) (by decide) rfl (Nat.le_refl _) (Nat.le_refl _) (fun m3 q => ?_)
            obtain ⟨⟨q1, q2⟩, q3, q4⟩ := q
            refine T_aload_n (pc := 56) (i := 0) dX2_play_56 rfl rfl ?_
            refine R_getR (pc := 57) (i := 115) fl_X2_15 rfl kc_113 lc_113 rc_113_3 dX2_play_57 ?_
            refine T_iload (pc := 60) (i := 5) dX2_play_60 rfl ?_
            refine T_aload_n (pc := 62) (i := 0) dX2_play_62 rfl rfl ?_
            refine R_getI (pc := 63) (x := ((plB (plV R w k) R w (hA H i).1).1)) fl_X2_41 rfl kc_113 lc_113 q1 dX2_play_63 ?_
            refine R_iast (pc := 66) kc_115 lc_115 (by omega) (by first | decide | assumption) dX2_play_66 ?_
            refine R_iinc (pc := 67) (i := 5) (n := 1) (ls' := [some (.ref 113), some (.ref 97), some (.ref 105), some (.int (nI N)), some (.int (nI (k + 1))), some (.int (nI (i + 1)))]) dX2_play_67 rfl rfl ?_
            refine T_goto (pc := 70) (tgt := 20) dX2_play_70 (by decide) ?_
            have o1 : OfS (fun k => k = 115) m3 (wI m3 115 i (plB (plV R w k) R w (hA H i).1).1) := OfS.sI (OfS.refl _ _) rfl
            refine ihf (i + 1) _ (by omega) (fun j hj => ?_) (fun j hj hd => ?_) (q3.ofs o1 (fun k hk => by omega)) (jO.trans ((q4.mono (fun c hc => by unfold SG SW at hc; unfold SP3 SW; omega)).trans (o1.mono (fun c hc => Or.inr (by omega)))))
            · by_cases e : j = i
              · subst e
                exact e_wI ⟨rfl, rfl⟩
              · rw [n_wI (by omega), q4.i (by unfold SG SW; omega)]
                exact hm j (by omega)
            · rw [n_wI (by omega), q4.i (by unfold SG SW; omega)]
              exact hl2 j hj hd
def gmV (R : List Ru) (w : Wk) (l : List Nat) (n : Nat) : Option (Int32 × Int32) := (spd R w l n).map (fun _ => plB (plV R w (n - 1)) R w l)
def gmD (o : Option (Int32 × Int32)) : Int32 := match o with
  | none => -3
  | some q => q.1
def gmB (o : Option (Int32 × Int32)) : Int32 := match o with
  | none => -3
  | some q => q.2
theorem c_play {x : Int64} {y : Int32} {X : Td} {LL : List (List Int32)} (hX : ToldAt μ 3 X) (hL : LawL μ LL) : Ex γ 7 2 12 M_X11_play [.ref 0, .long x, .int y] (rm μ) (Ax (if codeB x = true then (if chkN y 1 8 = true then none else some "java/lang/IllegalArgumentException") else some "java/lang/IllegalArgumentException") (.int (bI (gmV X.R (wOf X LL) (ml x) y.toNatClampNeg).isSome)) μ (fun m => (∀ q, gmV X.R (wOf X LL) (ml x) y.toNatClampNeg = some q → m.1 113 0 = q.1 ∧ m.1 113 1 = q.2) ∧ OfS SQ μ m)) := by
  refine Ex.of (by decide +kernel) rfl (Nat.le_of_ble_eq_true rfl) ?_
  show T _ _ _ _ _ _ _ _ _ [some (.ref 0), some (.long (x)), none, some (.int (y))] [] (rm μ)
  refine T_lload_n (pc := 0) (i := 1) dX11_play_0 rfl rfl ?_
  refine R_chkS (pc := 1) (av := [.long (x)]) (rest := []) (Or.inl lk_X11_169) mk_X11_checkCode c_checkCode dX11_play_1 rfl rfl (Nat.le_of_ble_eq_true rfl) (by decide) rfl (by decide) (by decide) (fun z => by rw [if_neg (by rw [z]; decide)]; exact ⟨rfl, rfl⟩) (fun hcA => ?_)
  rw [if_pos hcA]
  refine T_iload_n (pc := 4) (i := 3) dX11_play_4 rfl rfl ?_
  refine T_iconst (pc := 5) (v := nI 1) dX11_play_5 (by decide) ?_
  refine T_bipush (pc := 6) (v := nI 8) dX11_play_6 (by decide) ?_
  refine R_chkS (pc := 8) (av := [.int (y), .int (nI 1), .int (nI 8)]) (rest := []) (Or.inl lk_X11_215) mk_X11_checkNumber c_checkNumber dX11_play_8 rfl rfl (Nat.le_of_ble_eq_true rfl) (by decide) rfl (by decide) (by decide) (fun z => Ax_e (by unfold chkN; rw [z]; decide)) (fun hC => ?_)
  rw [if_pos (c := chkN y 1 8 = true) hC]
  obtain ⟨a, ha, rfl⟩ := codeB_iff.mp hcA
  obtain ⟨N, hN1, hN2, rfl⟩ := chk_of (by decide) (by decide) hC
  rw [ml_cd ha, nI_clamp (n := N) (by omega)]
  refine T_aload_n (pc := 11) (i := 0) dX11_play_11 rfl rfl ?_
  refine R_getR (pc := 12) (i := 97) fl_X11_55 rfl kc_0 lc_0 rc_0_11 dX11_play_12 ?_
  refine T_aload_n (pc := 15) (i := 0) dX11_play_15 rfl rfl ?_
  refine R_getR (pc := 16) (i := 3) fl_X11_19 rfl kc_0 lc_0 rc_0_1 dX11_play_16 ?_
  refine R_callVm0 (pc := 19) (As := [.ref 3]) (rest := []) (Or.inl lk_X11_198) mk_X10_begin (c_Walk_begin hX hL) kc_97 ⟨by decide, rfl⟩ lc_97 dX11_play_19 rfl rfl (Nat.le_of_ble_eq_true rfl) (by decide) rfl (by decide) (by decide) (fun m h => ?_)
  obtain ⟨hE0, hO⟩ := h
  have hE : EnvW m X.R LL (wOf X LL) := hE0
  refine T_aload_n (pc := 22) (i := 0) dX11_play_22 rfl rfl ?_
  refine R_getR (pc := 23) (i := 105) fl_X11_62 rfl kc_0 lc_0 rc_0_12 dX11_play_23 ?_
  refine T_aload_n (pc := 26) (i := 0) dX11_play_26 rfl rfl ?_
  refine R_getR (pc := 27) (i := 97) fl_X11_55 rfl kc_0 lc_0 rc_0_11 dX11_play_27 ?_
  refine T_lload_n (pc := 30) (i := 1) dX11_play_30 rfl rfl ?_
  refine T_iload_n (pc := 31) (i := 3) dX11_play_31 rfl rfl ?_
  refine R_callVm1 (pc := 32) (As := [.ref 97, .long (lN (cd a)), .int (nI N)]) (rest := []) (Or.inl lk_X11_326) mk_X4_spread (c_spread herd105 hE ha (by omega)) (kt_herd herd105) ⟨by decide, rfl⟩ (lt_herd herd105) dX11_play_32 rfl rfl (Nat.le_of_ble_eq_true rfl) (by decide) rfl (by decide) (by decide) (fun m1 q => ?_)
  obtain ⟨q1, q2, q3⟩ := q
  have qO : OfS SQ μ m1 := (hO.mono (fun c => SW_SQ)).trans (q3.mono (fun c => SH_SQ herd105))
  cases e : spd X.R (wOf X LL) a N with
  | none =>
    have ev : gmV X.R (wOf X LL) a N = none := by unfold gmV; rw [e]; rfl
    rw [ev]
    refine R_ifb_ne (pc := 35) (tgt := 40) dX11_play_35 (by decide) (fun h1 => ?_) (fun h1 => ?_)
    · exact absurd h1 (by decide)
    · skip
      refine T_iconst (pc := 38) (v := nI 0) dX11_play_38 (by decide) ?_
      exact T_iret (pc := 39) (ty := .boolean) dX11_play_39 rfl (by decide) (by decide) (by decide) ⟨m1, rfl, rfl, fun q hq => (by cases hq), qO⟩
  | some H =>
    have ev : gmV X.R (wOf X LL) a N = some (plB (plV X.R (wOf X LL) (N - 1)) X.R (wOf X LL) a) := by unfold gmV; rw [e]; rfl
    rw [ev]
    have hbf := spd_bfs e
    refine R_ifb_ne (pc := 35) (tgt := 40) dX11_play_35 (by decide) (fun h1 => ?_) (fun h1 => ?_)
    · skip
      refine T_aload_n (pc := 40) (i := 0) dX11_play_40 rfl rfl ?_
      refine R_getR (pc := 41) (i := 113) fl_X11_72 rfl kc_0 lc_0 rc_0_14 dX11_play_41 ?_
      refine T_aload_n (pc := 44) (i := 0) dX11_play_44 rfl rfl ?_
      refine R_getR (pc := 45) (i := 97) fl_X11_55 rfl kc_0 lc_0 rc_0_11 dX11_play_45 ?_
      refine T_aload_n (pc := 48) (i := 0) dX11_play_48 rfl rfl ?_
      refine R_getR (pc := 49) (i := 105) fl_X11_62 rfl kc_0 lc_0 rc_0_12 dX11_play_49 ?_
      refine T_iload_n (pc := 52) (i := 3) dX11_play_52 rfl rfl ?_
      refine R_callVm0 (pc := 53) (As := [.ref 97, .ref 105, .int (nI N)]) (rest := []) (Or.inl lk_X11_366) mk_X2_play (c_Game_play (q1 H e) q2 hbf.1 hbf.2 (by omega) (spd_far e)) kc_113 ⟨by decide, rfl⟩ lc_113 dX11_play_53 rfl rfl (Nat.le_of_ble_eq_true rfl) (by decide) rfl (by decide) (by decide) (fun m2 p => ?_)
      obtain ⟨p1, p2⟩ := p
      refine T_iconst (pc := 56) (v := nI 1) dX11_play_56 (by decide) ?_
      exact T_iret (pc := 57) (ty := .boolean) dX11_play_57 rfl (by decide) (by decide) (by decide) ⟨m2, rfl, rfl, fun q hq => (by cases hq; exact p1), qO.trans (p2.mono (fun c hc => by unfold SP3 SW at hc; unfold SQ; omega))⟩
    · exact absurd h1 (fun z => by cases z)
theorem c_drovers {x : Int64} {y : Int32} {X : Td} {LL : List (List Int32)} (hX : ToldAt μ 3 X) (hL : LawL μ LL) : Ex γ 8 2 12 M_X11_drovers [.ref 0, .long x, .int y] (rm μ) (Ax (if codeB x = true then (if chkN y 1 8 = true then none else some "java/lang/IllegalArgumentException") else some "java/lang/IllegalArgumentException") (.int (gmD (gmV X.R (wOf X LL) (ml x) y.toNatClampNeg))) μ (fun m => OfS SQ μ m)) := by
  refine Ex.of (by decide +kernel) rfl (Nat.le_of_ble_eq_true rfl) ?_
  show T _ _ _ _ _ _ _ _ _ [some (.ref 0), some (.long (x)), none, some (.int (y))] [] (rm μ)
  refine T_aload_n (pc := 0) (i := 0) dX11_drovers_0 rfl rfl ?_
  refine T_lload_n (pc := 1) (i := 1) dX11_drovers_1 rfl rfl ?_
  refine T_iload_n (pc := 2) (i := 3) dX11_drovers_2 rfl rfl ?_
  refine R_callVX (pc := 3) (As := [.long x, .int y]) (rest := []) (Or.inl lk_X11_358) mk_X11_play (c_play hX hL) kc_0 ⟨by decide, rfl⟩ lc_0 dX11_drovers_3 rfl rfl (Nat.le_of_ble_eq_true rfl) (by decide) rfl (by decide) (by decide) (fun E h => ?_) (fun h m hP => ?_)
  · rw [h]
    exact ⟨rfl, rfl⟩
  · rw [h]
    obtain ⟨p1, p2⟩ := hP
    cases e : gmV X.R (wOf X LL) (ml x) y.toNatClampNeg with
    | none =>
      refine R_ifb_eq (pc := 6) (tgt := 19) dX11_drovers_6 (by decide) (fun h1 => ?_) (fun h1 => ?_)
      · skip
        refine T_bipush (pc := 19) (v := (-3)) dX11_drovers_19 (by decide) ?_
        exact T_iret (pc := 21) (ty := .int) dX11_drovers_21 rfl rfl (by decide) (by decide) ⟨m, rfl, rfl, p2⟩
      · exact absurd h1 (by decide)
    | some q =>
      have hq := p1 q e
      refine R_ifb_eq (pc := 6) (tgt := 19) dX11_drovers_6 (by decide) (fun h1 => ?_) (fun h1 => ?_)
      · exact absurd h1 (fun z => by cases z)
      · skip
        refine T_aload_n (pc := 9) (i := 0) dX11_drovers_9 rfl rfl ?_
        refine R_getR (pc := 10) (i := 113) fl_X11_72 rfl kc_0 lc_0 rc_0_14 dX11_drovers_10 ?_
        refine R_getI (pc := 13) (x := q.1) fl_X11_361 rfl kc_113 lc_113 hq.1 dX11_drovers_13 ?_
        refine T_goto (pc := 16) (tgt := 21) dX11_drovers_16 (by decide) ?_
        exact T_iret (pc := 21) (ty := .int) dX11_drovers_21 rfl rfl (by decide) (by decide) ⟨m, rfl, rfl, p2⟩
theorem c_best {x : Int64} {y : Int32} {X : Td} {LL : List (List Int32)} (hX : ToldAt μ 3 X) (hL : LawL μ LL) : Ex γ 8 2 12 M_X11_best [.ref 0, .long x, .int y] (rm μ) (Ax (if codeB x = true then (if chkN y 1 8 = true then none else some "java/lang/IllegalArgumentException") else some "java/lang/IllegalArgumentException") (.int (gmB (gmV X.R (wOf X LL) (ml x) y.toNatClampNeg))) μ (fun m => OfS SQ μ m)) := by
  refine Ex.of (by decide +kernel) rfl (Nat.le_of_ble_eq_true rfl) ?_
  show T _ _ _ _ _ _ _ _ _ [some (.ref 0), some (.long (x)), none, some (.int (y))] [] (rm μ)
  refine T_aload_n (pc := 0) (i := 0) dX11_best_0 rfl rfl ?_
  refine T_lload_n (pc := 1) (i := 1) dX11_best_1 rfl rfl ?_
  refine T_iload_n (pc := 2) (i := 3) dX11_best_2 rfl rfl ?_
  refine R_callVX (pc := 3) (As := [.long x, .int y]) (rest := []) (Or.inl lk_X11_358) mk_X11_play (c_play hX hL) kc_0 ⟨by decide, rfl⟩ lc_0 dX11_best_3 rfl rfl (Nat.le_of_ble_eq_true rfl) (by decide) rfl (by decide) (by decide) (fun E h => ?_) (fun h m hP => ?_)
  · rw [h]
    exact ⟨rfl, rfl⟩
  · rw [h]
    obtain ⟨p1, p2⟩ := hP
    cases e : gmV X.R (wOf X LL) (ml x) y.toNatClampNeg with
    | none =>
      refine R_ifb_eq (pc := 6) (tgt := 19) dX11_best_6 (by decide) (fun h1 => ?_) (fun h1 => ?_)
      · skip
        refine T_bipush (pc := 19) (v := (-3)) dX11_best_19 (by decide) ?_
        exact T_iret (pc := 21) (ty := .int) dX11_best_21 rfl rfl (by decide) (by decide) ⟨m, rfl, rfl, p2⟩
      · exact absurd h1 (by decide)
    | some q =>
      have hq := p1 q e
      refine R_ifb_eq (pc := 6) (tgt := 19) dX11_best_6 (by decide) (fun h1 => ?_) (fun h1 => ?_)
      · exact absurd h1 (fun z => by cases z)
      · skip
        refine T_aload_n (pc := 9) (i := 0) dX11_best_9 rfl rfl ?_
        refine R_getR (pc := 10) (i := 113) fl_X11_72 rfl kc_0 lc_0 rc_0_14 dX11_best_10 ?_
        refine R_getI (pc := 13) (x := q.2) fl_X11_364 rfl kc_113 lc_113 hq.2 dX11_best_13 ?_
        refine T_goto (pc := 16) (tgt := 21) dX11_best_16 (by decide) ?_
        exact T_iret (pc := 21) (ty := .int) dX11_best_21 rfl rfl (by decide) (by decide) ⟨m, rfl, rfl, p2⟩
end GM

