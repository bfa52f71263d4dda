/-! SCALES: the first weights that hold -/
theorem all_t {n : Nat} {p : Nat → Bool} (h : ∀ i, i < n → p i = true) : (List.range n).all p = true := List.all_eq_true.mpr (fun i hi => h i (List.mem_range.mp hi))
theorem all_g {n : Nat} {p : Nat → Bool} (h : (List.range n).all p = true) {i : Nat} (hi : i < n) : p i = true := List.all_eq_true.mp h i (List.mem_range.mpr hi)
theorem all_f {n i : Nat} {p : Nat → Bool} (hi : i < n) (h : p i = false) : (List.range n).all p = false := by
  cases e : (List.range n).all p with
  | false => rfl
  | true =>
    have := all_g e hi
    rw [h] at this
    cases this
def okC (md rc : Nat) (P : List Ru) (w : List Nat) : Bool := (List.range P.length).all (fun i => hoB md (decide (i < rc)) (rAt P i) w)
def hbB (md rc : Nat) (lst : List Nat) (P : List Ru) (last : Nat) (w : List Nat) : Bool := (List.range P.length).all (fun i => !decide (laN lst (rAt P i) lst.length = last) || hoB md (decide (i < rc)) (rAt P i) w)
def srQ (g : Nat → Option (List Nat)) : Nat → Nat → Option (List Nat)
  | 0, _ => none
  | f + 1, v => match g v with
    | some w => some w
    | none => srQ g f (v + 1)
def srE (o r : Option (List Nat)) : Option (List Nat) := match o with
  | some w => some w
  | none => r
theorem srQ_s {g : Nat → Option (List Nat)} {f v : Nat} : srQ g (f + 1) v = srE (g v) (srQ g f (v + 1)) := by
  show (match g v with | some w => some w | none => srQ g f (v + 1)) = _
  cases g v <;> rfl
/-- the first weights of those listed, the first's most -/
def srch (C : List Nat → Bool) (lo n : Nat) : List Nat → List Nat → Option (List Nat)
  | [], w => if C w = true then some w else none
  | b :: t, w => srQ (fun v => srch C lo n t (w.set b v)) n lo
theorem getD_set {w : List Nat} {b v c : Nat} : (w.set b v).getD c 0 = if c = b ∧ b < w.length then v else w.getD c 0 := by
  rw [List.getD_eq_getElem?_getD, List.getElem?_set]
  by_cases e : b = c
  · subst e
    rw [if_pos rfl]
    by_cases g : b < w.length
    · rw [if_pos g, if_pos ⟨rfl, g⟩]
      rfl
    · rw [if_neg g, if_neg (fun z => g z.2), List.getD_eq_getElem?_getD, List.getElem?_eq_none (by omega)]
  · rw [if_neg e, if_neg (fun z => e z.1.symm), List.getD_eq_getElem?_getD]
theorem ext_gD {w w' : List Nat} (hl : w.length = w'.length) (h : ∀ b, w.getD b 0 = w'.getD b 0) : w = w' := by
  apply List.ext_getElem hl
  intro i h1 h2
  have := h i
  rw [List.getD_eq_getElem?_getD, List.getD_eq_getElem?_getD, List.getElem?_eq_getElem h1, List.getElem?_eq_getElem h2] at this
  exact this
theorem srch_congr {C : List Nat → Bool} {lo n : Nat} : ∀ {t w w' : List Nat}, w.length = w'.length → (∀ b, b ∉ t → w.getD b 0 = w'.getD b 0) → srch C lo n t w = srch C lo n t w'
  | [], w, w', hl, h => by rw [ext_gD hl (fun b => h b List.not_mem_nil)]
  | b :: t, w, w', hl, h => by
    show srQ (fun v => srch C lo n t (w.set b v)) n lo = srQ (fun v => srch C lo n t (w'.set b v)) n lo
    rw [show (fun v => srch C lo n t (w.set b v)) = fun v => srch C lo n t (w'.set b v) from funext (fun v => srch_congr (by rw [List.length_set, List.length_set, hl]) (fun c hc => by
      rw [getD_set, getD_set, hl]
      by_cases e : c = b ∧ b < w'.length
      · rw [if_pos e, if_pos e]
      · rw [if_neg e, if_neg e]
        by_cases e2 : c = b
        · have g : ¬ b < w'.length := fun z => e ⟨e2, z⟩
          rw [e2, List.getD_eq_getElem?_getD, List.getD_eq_getElem?_getD, List.getElem?_eq_none (by omega), List.getElem?_eq_none (by omega)]
        · exact h c (fun z => (List.mem_cons.mp z).elim e2 hc)))]
theorem srQ_some {g : Nat → Option (List Nat)} {z : List Nat} : ∀ {f v}, srQ g f v = some z → ∃ v', g v' = some z
  | 0, _, h => by cases h
  | f + 1, v, h => by
    unfold srQ at h
    cases e : g v with
    | some w =>
      rw [e] at h
      cases h
      exact ⟨v, e⟩
    | none =>
      rw [e] at h
      exact srQ_some h
theorem srch_some {C : List Nat → Bool} {lo n : Nat} : ∀ {t w z : List Nat}, srch C lo n t w = some z → C z = true ∧ ∀ b, b ∉ t → z.getD b 0 = w.getD b 0
  | [], w, z, h => by
    unfold srch at h
    split at h
    · next g =>
      cases h
      exact ⟨g, fun b _ => rfl⟩
    · cases h
  | b :: t, w, z, h => by
    obtain ⟨v, hv⟩ := srQ_some (show srQ (fun v => srch C lo n t (w.set b v)) n lo = some z from h)
    have h1 := srch_some (t := t) hv
    refine ⟨h1.1, fun c hc => ?_⟩
    rw [h1.2 c (fun z => hc (List.mem_cons_of_mem _ z)), getD_set, if_neg (fun z => hc (by rw [z.1]; exact List.mem_cons_self))]
theorem sumZ_congr {x : Ru} {w w' : List Nat} (h : ∀ b, zc x b ≠ 0 → w.getD b 0 = w'.getD b 0) : ∀ n, sumZ x w n = sumZ x w' n
  | 0 => rfl
  | n + 1 => by
    show sumZ x w n + zc x n * _ = sumZ x w' n + zc x n * _
    rw [sumZ_congr h n]
    by_cases e : zc x n = 0
    · rw [e, Int.zero_mul, Int.zero_mul]
    · rw [h n e]
theorem hoB_congr {md : Nat} {r : Bool} {x : Ru} {w w' : List Nat} (h : ∀ b, zc x b ≠ 0 → w.getD b 0 = w'.getD b 0) : hoB md r x w = hoB md r x w' := by unfold hoB; rw [sumZ_congr h]
theorem laN_ge {lst : List Nat} {x : Ru} : ∀ {k j}, j < k → zc x (lst.getD j 0) ≠ 0 → j ≤ laN lst x k
  | 0, _, h, _ => absurd h (Nat.not_lt_zero _)
  | k + 1, j, h, hz => by
    unfold laN
    by_cases e : zc x (lst.getD k 0) = 0
    · rw [if_pos e]
      by_cases e2 : j = k
      · rw [e2] at hz
        exact absurd e hz
      · exact laN_ge (by omega) hz
    · rw [if_neg e]
      omega
theorem laN_lt {lst : List Nat} {x : Ru} : ∀ {k}, 0 < k → laN lst x k < k
  | 0, h => absurd h (Nat.lt_irrefl _)
  | k + 1, _ => by
    unfold laN
    split
    · by_cases e : 0 < k
      · have := laN_lt (lst := lst) (x := x) e
        omega
      · rw [show k = 0 by omega]
        exact Nat.lt_succ_self _
    · exact Nat.lt_succ_self _
theorem mem_gD {l : List Nat} {b : Nat} (h : b ∈ l) : ∃ j, j < l.length ∧ l.getD j 0 = b := by
  obtain ⟨j, hj, e⟩ := List.getElem_of_mem h
  exact ⟨j, hj, by rw [List.getD_eq_getElem?_getD, List.getElem?_eq_getElem hj]; exact e⟩
theorem mem_dr {l : List Nat} {b k : Nat} (h : b ∈ l.drop k) : ∃ j, k ≤ j ∧ j < l.length ∧ l.getD j 0 = b := by
  obtain ⟨j, hj, e⟩ := mem_gD h
  rw [List.length_drop] at hj
  exact ⟨k + j, by omega, by omega, by rw [← e, List.getD_eq_getElem?_getD, List.getD_eq_getElem?_getD, List.getElem?_drop]⟩
def ndL (l : List Nat) : Prop := ∀ i j, i < j → j < l.length → l.getD i 0 ≠ l.getD j 0
theorem nd_drop {l : List Nat} (h : ndL l) {i k : Nat} (hi : i < k) : l.getD i 0 ∉ l.drop k := fun z => by
  obtain ⟨j, h1, h2, h3⟩ := mem_dr z
  exact h i j (by omega) h2 h3.symm
/-- what is asked of the rows -/
def RwOk (lst : List Nat) (P : List Ru) : Prop := ((∀ x ∈ P, Mw x.1 ∧ Mw x.2) ∧ ndL lst) ∧ (∀ i, i < P.length → ∀ b, zc (rAt P i) b ≠ 0 → b ∈ lst) ∧ (P.length = 0 ∨ 0 < lst.length)
/-- a row asks for none behind its last -/
theorem row_off {lst : List Nat} {P : List Ru} (h : RwOk lst P) {i k : Nat} (hi : i < P.length) (hk : laN lst (rAt P i) lst.length < k) {b : Nat} (hb : zc (rAt P i) b ≠ 0) : b ∉ lst.drop k := by
  obtain ⟨j, hj, rfl⟩ := mem_gD (h.2.1 i hi b hb)
  have := laN_ge hj hb
  exact nd_drop h.1.2 (by omega)
def CfAt (m : SM2) (lo hi md rc : Nat) : Prop := (m.1 116 7 = nI lo ∧ m.1 116 8 = nI hi) ∧ m.1 116 9 = nI md ∧ m.1 116 6 = nI rc
def FE (m : SM2) (lst : List Nat) (P : List Ru) (lo hi md rc : Nat) : Prop := ListAt m lst ∧ RwAt m lst P ∧ CfAt m lo hi md rc
theorem FE.w {μ m : SM2} {lst : List Nat} {P : List Ru} {lo hi md rc : Nat} (h : FE μ lst P lo hi md rc) (g : OfS (fun k => k = 117) μ m) : FE m lst P lo hi md rc := ⟨h.1.ofs g (by omega) (by omega), h.2.1.keep (g.i (by omega) 5) (g.i (by omega)) (g.i (by omega)), ⟨(g.i (by omega) 7).trans h.2.2.1.1, (g.i (by omega) 8).trans h.2.2.1.2⟩, (g.i (by omega) 9).trans h.2.2.2.1, (g.i (by omega) 6).trans h.2.2.2.2⟩
theorem WgAt.set {μ : SM2} {w : List Nat} {b v : Nat} (h : WgAt μ w) (hb : b < 8) (hv : v ≤ 5) : WgAt (wI μ 117 b (nI v)) (w.set b v) := by
  refine ⟨⟨by rw [List.length_set]; exact h.1.1, fun c => ?_⟩, fun c hc => ?_⟩
  · rw [getD_set]
    split
    · exact hv
    · exact h.1.2 c
  · rw [getD_set]
    by_cases e : c = b
    · rw [if_pos ⟨e, by rw [h.1.1]; exact hb⟩]
      exact e_wI ⟨rfl, e⟩
    · rw [if_neg (fun z => e z.1), n_wI (by omega)]
      exact h.2 c hc
/-- the weights left -/
def FqP (t w w' : List Nat) : Option (List Nat) → Prop
  | some z => w' = z
  | none => ∀ b, b ∉ t → w'.getD b 0 = w.getD b 0
def Fq (μ : SM2) (t w : List Nat) (o : Option (List Nat)) : Out → SMem → Prop := Rm (some (.int (bI o.isSome))) (fun m => (∃ w', WgAt m w' ∧ FqP t w w' o) ∧ OfS (fun k => k = 117) μ m)
section SE
variable {γ : Ga} {μ : SM2}
theorem c_holdsBehind {lst : List Nat} {P : List Ru} {w : List Nat} {lo hi md rc last : Nat} (hF : FE μ lst P lo hi md rc) (hok : RwOk lst P) (hw : WgAt μ w) (hm : md = 0 ∨ 2 ≤ md ∧ md < 6) (hr : rc ≤ 13) (hla : last < 100) : Ex γ 2 0 0 M_X7_holdsBehind [.ref 116, .int (nI last)] (rm μ) (Fn (some (.int (bI (hbB md rc lst P last w)))) μ) := by
  have h13 := hF.2.1.1.2
  have h6 := hF.1.2.1
  refine Ex.of (by decide +kernel) rfl (Nat.le_of_ble_eq_true rfl) ?_
  show T _ _ _ _ _ _ _ _ _ [some (.ref 116), some (.int (nI last)), none] [] (rm μ)
  refine T_iconst (pc := 0) (v := nI 0) dX7_holdsBehind_0 (by decide) ?_
  refine T_istore_n (pc := 1) (i := 2) (ls' := [some (.ref 116), some (.int (nI last)), some (.int (nI 0))]) dX7_holdsBehind_1 rfl (by decide) rfl ?_
  suffices loop : ∀ (f k : Nat), k + f = P.length → (∀ i, i < k → (!decide (laN lst (rAt P i) lst.length = last) || hoB md (decide (i < rc)) (rAt P i) w) = true) → T γ 2 0 0 M_X7_holdsBehind (Fn (some (.int (bI (hbB md rc lst P last w)))) μ) 0 0 2 [some (.ref 116), some (.int (nI last)), some (.int (nI k))] [] (rm μ) by
    exact loop P.length 0 (Nat.zero_add _) (fun i hi => absurd hi (Nat.not_lt_zero _))
  intro f
  induction f with
  | zero =>
    intro k hk hA
    have ev : hbB md rc lst P last w = true := all_t (fun i hi => hA i (by omega))
    rw [ev]
    refine T_iload_n (pc := 2) (i := 2) dX7_holdsBehind_2 rfl rfl ?_
    refine T_aload_n (pc := 3) (i := 0) dX7_holdsBehind_3 rfl rfl ?_
    refine R_getI (pc := 4) (x := nI P.length) fl_X7_34 rfl kc_116 lc_116 hF.2.1.1.1 dX7_holdsBehind_4 ?_
    refine R_icmp_ge (pc := 7) (tgt := 36) (by omega) (by omega) dX7_holdsBehind_7 (by decide) (fun h1 => ?_) (fun h1 => ?_)
    · skip
      refine T_iconst (pc := 36) (v := nI 1) dX7_holdsBehind_36 (by decide) ?_
      exact T_iret (pc := 37) (ty := .boolean) dX7_holdsBehind_37 rfl (by decide) (Nat.le_refl _) (Nat.le_refl _) ⟨rfl, rfl⟩
    · exact absurd h1 (by omega)
  | succ f ih =>
    intro k hk hA
    obtain ⟨la, ela⟩ : ∃ la, laN lst (rAt P k) lst.length = la := ⟨_, rfl⟩
    have hf := hF.2.1.2.2.1 k (by omega)
    rw [ela] at hf
    have hl7 : la < 7 := by
      rw [← ela]
      by_cases g : 0 < lst.length
      · have := laN_lt (lst := lst) (x := rAt P k) g
        omega
      · rw [show lst.length = 0 by omega]
        show (0 : Nat) < 7
        decide
    refine T_iload_n (pc := 2) (i := 2) dX7_holdsBehind_2 rfl rfl ?_
    refine T_aload_n (pc := 3) (i := 0) dX7_holdsBehind_3 rfl rfl ?_
    refine R_getI (pc := 4) (x := nI P.length) fl_X7_34 rfl kc_116 lc_116 hF.2.1.1.1 dX7_holdsBehind_4 ?_
    refine R_icmp_ge (pc := 7) (tgt := 36) (by omega) (by omega) dX7_holdsBehind_7 (by decide) (fun h1 => ?_) (fun h1 => ?_)
    · exact absurd h1 (by omega)
    · skip
      refine T_aload_n (pc := 10) (i := 0) dX7_holdsBehind_10 rfl rfl ?_
      refine R_getR (pc := 11) (i := 120) fl_X7_21 rfl kc_116 lc_116 rc_116_4 dX7_holdsBehind_11 ?_
      refine T_iload_n (pc := 14) (i := 2) dX7_holdsBehind_14 rfl rfl ?_
      refine R_iald (pc := 15) (x := nI la) kc_120 lc_120 (by omega) (by first | decide | assumption) hf dX7_holdsBehind_15 ?_
      refine T_iload_n (pc := 16) (i := 1) dX7_holdsBehind_16 rfl rfl ?_
      refine R_icmp_ne (pc := 17) (tgt := 30) (by omega) (by omega) dX7_holdsBehind_17 (by decide) (fun h2 => ?_) (fun h2 => ?_)
      · skip
        refine R_iinc (pc := 30) (i := 2) (n := 1) (ls' := [some (.ref 116), some (.int (nI last)), some (.int (nI (k + 1)))]) dX7_holdsBehind_30 rfl rfl ?_
        refine T_goto (pc := 33) (tgt := 2) dX7_holdsBehind_33 (by decide) ?_
        refine ih (k + 1) (by omega) (fun i hi => ?_)
        by_cases e : i = k
        · rw [e, ela, decide_eq_false h2]
          rfl
        · exact hA i (by omega)
      · skip
        have hl : la = last := by omega
        refine T_aload_n (pc := 20) (i := 0) dX7_holdsBehind_20 rfl rfl ?_
        refine T_iload_n (pc := 21) (i := 2) dX7_holdsBehind_21 rfl rfl ?_
        refine R_callV1 (pc := 22) (As := [.int (nI k)]) (rest := []) (Or.inl lk_X7_90) mk_X7_holds (c_holds hF.2.1 hok.1.1 hw hF.2.2.2.1 hm hF.2.2.2.2 hr (by omega)) kc_116 ⟨by decide, rfl⟩ lc_116 dX7_holdsBehind_22 rfl rfl (Nat.le_of_ble_eq_true rfl) (by decide) rfl (Nat.le_refl _) (Nat.le_refl _) ?_
        refine R_ifb_ne (pc := 25) (tgt := 30) dX7_holdsBehind_25 (by decide) (fun h3 => ?_) (fun h3 => ?_)
        · skip
          refine R_iinc (pc := 30) (i := 2) (n := 1) (ls' := [some (.ref 116), some (.int (nI last)), some (.int (nI (k + 1)))]) dX7_holdsBehind_30 rfl rfl ?_
          refine T_goto (pc := 33) (tgt := 2) dX7_holdsBehind_33 (by decide) ?_
          refine ih (k + 1) (by omega) (fun i hi => ?_)
          by_cases e : i = k
          · rw [e, h3, Bool.or_true]
          · exact hA i (by omega)
        · skip
          have ev : hbB md rc lst P last w = false := all_f (i := k) (by omega) (by
            have h3' : hoB md (decide (k < rc)) (rAt P k) w = false := h3
            show (!decide (laN lst (rAt P k) lst.length = last) || hoB md (decide (k < rc)) (rAt P k) w) = false
            rw [h3', ela, decide_eq_true hl]
            rfl)
          rw [ev]
          refine T_iconst (pc := 28) (v := nI 0) dX7_holdsBehind_28 (by decide) ?_
          exact T_iret (pc := 29) (ty := .boolean) dX7_holdsBehind_29 rfl (by decide) (Nat.le_refl _) (Nat.le_refl _) ⟨rfl, rfl⟩
theorem c_find {lst : List Nat} {P : List Ru} {lo hi md rc : Nat} (hok : RwOk lst P) (hm : md = 0 ∨ 2 ≤ md ∧ md < 6) (hr : rc ≤ 13) (hlo : lo ≤ hi ∧ hi ≤ 5) : ∀ (r from_ : Nat) (μ : SM2) (w : List Nat), from_ + r = lst.length → FE μ lst P lo hi md rc → WgAt μ w → (∀ i, i < P.length → laN lst (rAt P i) lst.length < from_ → hoB md (decide (i < rc)) (rAt P i) w = true) → Ex γ (3 + r) 0 0 M_X7_find [.ref 116, .int (nI from_)] (rm μ) (Fq μ (lst.drop from_) w (srch (okC md rc P) lo (hi + 1 - lo) (lst.drop from_) w)) := by
  intro r
  induction r with
  | zero =>
    intro from_ μ w hfr hF hw hI
    have e : from_ = lst.length := by omega
    subst e
    have h6 := hF.1.2.1
    have hC : okC md rc P w = true := all_t (fun i hi => hI i hi (laN_lt (by rcases hok.2.2 with z | z <;> omega)))
    have ev : srch (okC md rc P) lo (hi + 1 - lo) (lst.drop lst.length) w = some w := by
      rw [List.drop_length]
      show (if okC md rc P w = true then some w else none) = some w
      rw [if_pos hC]
    rw [ev]
    refine Ex.of (by decide +kernel) rfl (Nat.le_of_ble_eq_true rfl) ?_
    show T _ _ _ _ _ _ _ _ _ [some (.ref 116), some (.int (nI lst.length)), none, none] [] (rm μ)
    refine T_iload_n (pc := 0) (i := 1) dX7_find_0 rfl rfl ?_
    refine T_aload_n (pc := 1) (i := 0) dX7_find_1 rfl rfl ?_
    refine R_getI (pc := 2) (x := nI lst.length) fl_X7_24 rfl kc_116 lc_116 hF.1.1 dX7_find_2 ?_
    refine R_icmp_lt (pc := 5) (tgt := 10) (by omega) (by omega) dX7_find_5 (by decide) (fun h1 => ?_) (fun h1 => ?_)
    · exact absurd h1 (by omega)
    · skip
      refine T_iconst (pc := 8) (v := nI 1) dX7_find_8 (by decide) ?_
      exact T_iret (pc := 9) (ty := .boolean) dX7_find_9 rfl (by decide) (Nat.le_refl _) (Nat.le_refl _) ⟨_, rfl, rfl, ⟨w, hw, rfl⟩, OfS.refl _ _⟩
  | succ r ihr =>
    intro from_ μ w hfr hF hw hI
    have h6 := hF.1.2.1
    have hb8 := hF.1.2.2 from_ (by omega)
    have hdr : lst.drop from_ = lst.getD from_ 0 :: lst.drop (from_ + 1) := drop_s 0 (by omega)
    obtain ⟨b, eb⟩ : ∃ b, lst.getD from_ 0 = b := ⟨_, rfl⟩
    rw [eb] at hb8 hdr
    have hbl := hb8.1
    have ev : srch (okC md rc P) lo (hi + 1 - lo) (lst.drop from_) w = srQ (fun v => srch (okC md rc P) lo (hi + 1 - lo) (lst.drop (from_ + 1)) (w.set b v)) (hi + 1 - lo) lo := by rw [hdr]; rfl
    have hbm : b ∈ lst.drop from_ := by rw [hdr]; exact List.mem_cons_self
    have hsub : ∀ c, c ∉ lst.drop from_ → c ∉ lst.drop (from_ + 1) := fun c hc z => hc (by rw [hdr]; exact List.mem_cons_of_mem _ z)
    rw [ev]
    refine Ex.of (by decide +kernel) rfl (Nat.le_of_ble_eq_true rfl) ?_
    show T _ _ _ _ _ _ _ _ _ [some (.ref 116), some (.int (nI from_)), none, none] [] (rm μ)
    refine T_iload_n (pc := 0) (i := 1) dX7_find_0 rfl rfl ?_
    refine T_aload_n (pc := 1) (i := 0) dX7_find_1 rfl rfl ?_
    refine R_getI (pc := 2) (x := nI lst.length) fl_X7_24 rfl kc_116 lc_116 hF.1.1 dX7_find_2 ?_
    refine R_icmp_lt (pc := 5) (tgt := 10) (by omega) (by omega) dX7_find_5 (by decide) (fun h1 => ?_) (fun h1 => ?_)
    · skip
      refine T_aload_n (pc := 10) (i := 0) dX7_find_10 rfl rfl ?_
      refine R_getR (pc := 11) (i := 118) fl_X7_15 rfl kc_116 lc_116 rc_116_1 dX7_find_11 ?_
      refine T_iload_n (pc := 14) (i := 1) dX7_find_14 rfl rfl ?_
      refine R_iald (pc := 15) (x := nI b) kc_118 lc_118 (by omega) (by first | decide | assumption) hb8.2 dX7_find_15 ?_
      refine T_istore_n (pc := 16) (i := 2) (ls' := [some (.ref 116), some (.int (nI from_)), some (.int (nI b)), none]) dX7_find_16 rfl (by decide) rfl ?_
      refine T_aload_n (pc := 17) (i := 0) dX7_find_17 rfl rfl ?_
      refine R_getI (pc := 18) (x := nI lo) fl_X7_77 rfl kc_116 lc_116 hF.2.2.1.1 dX7_find_18 ?_
      refine T_istore_n (pc := 21) (i := 3) (ls' := [some (.ref 116), some (.int (nI from_)), some (.int (nI b)), some (.int (nI lo))]) dX7_find_21 rfl (by decide) rfl ?_
      suffices loop : ∀ (f v : Nat) (m : SM2) (wc : List Nat), v + f = hi + 1 → WgAt m wc → (∀ c, c ∉ lst.drop from_ → wc.getD c 0 = w.getD c 0) → OfS (fun k => k = 117) μ m → T γ (3 + (r + 1)) 0 0 M_X7_find (Fq μ (lst.drop from_) w (srQ (fun v => srch (okC md rc P) lo (hi + 1 - lo) (lst.drop (from_ + 1)) (w.set b v)) f v)) 0 0 22 [some (.ref 116), some (.int (nI from_)), some (.int (nI b)), some (.int (nI v))] [] (rm m) by
        exact loop (hi + 1 - lo) lo μ w (by omega) hw (fun c _ => rfl) (OfS.refl _ _)
      intro f
      induction f with
      | zero =>
        intro v m wc hv hwc hag hO
        show T _ _ _ _ _ (Fq μ (lst.drop from_) w none) _ _ _ _ _ _
        have hF2 := hF.w hO
        refine T_iload_n (pc := 22) (i := 3) dX7_find_22 rfl rfl ?_
        refine T_aload_n (pc := 23) (i := 0) dX7_find_23 rfl rfl ?_
        refine R_getI (pc := 24) (x := nI hi) fl_X7_80 rfl kc_116 lc_116 hF2.2.2.1.2 dX7_find_24 ?_
        refine R_icmp_gt (pc := 27) (tgt := 63) (by omega) (by omega) dX7_find_27 (by decide) (fun h2 => ?_) (fun h2 => ?_)
        · skip
          refine T_iconst (pc := 63) (v := nI 0) dX7_find_63 (by decide) ?_
          exact T_iret (pc := 64) (ty := .boolean) dX7_find_64 rfl (by decide) (Nat.le_refl _) (Nat.le_refl _) ⟨_, rfl, rfl, ⟨wc, hwc, hag⟩, hO⟩
        · exact absurd h2 (by omega)
      | succ f ih =>
        intro v m wc hv hwc hag hO
        have hF2 := hF.w hO
        obtain ⟨o2, eo⟩ : ∃ o2, srch (okC md rc P) lo (hi + 1 - lo) (lst.drop (from_ + 1)) (wc.set b v) = o2 := ⟨_, rfl⟩
        have hcg : srch (okC md rc P) lo (hi + 1 - lo) (lst.drop (from_ + 1)) (w.set b v) = o2 := by
          rw [← eo]
          refine srch_congr (by rw [List.length_set, List.length_set, hw.1.1, hwc.1.1]) (fun c hc => ?_)
          rw [getD_set, getD_set, hw.1.1, hwc.1.1]
          by_cases e : c = b
          · rw [if_pos ⟨e, hbl⟩, if_pos ⟨e, hbl⟩]
          · rw [if_neg (fun z => e z.1), if_neg (fun z => e z.1)]
            exact (hag c (by rw [hdr]; exact fun z => (List.mem_cons.mp z).elim e hc)).symm
        have ev2 : srQ (fun v => srch (okC md rc P) lo (hi + 1 - lo) (lst.drop (from_ + 1)) (w.set b v)) (f + 1) v = srE o2 (srQ (fun v => srch (okC md rc P) lo (hi + 1 - lo) (lst.drop (from_ + 1)) (w.set b v)) f (v + 1)) := by
          rw [srQ_s]
          show srE (srch (okC md rc P) lo (hi + 1 - lo) (lst.drop (from_ + 1)) (w.set b v)) _ = _
          rw [hcg]
        rw [ev2]
        have hag2 : ∀ c, c ∉ lst.drop from_ → (wc.set b v).getD c 0 = w.getD c 0 := fun c hc => by
          rw [getD_set, if_neg (fun z => hc (by rw [z.1]; exact hbm))]
          exact hag c hc
        refine T_iload_n (pc := 22) (i := 3) dX7_find_22 rfl rfl ?_
        refine T_aload_n (pc := 23) (i := 0) dX7_find_23 rfl rfl ?_
        refine R_getI (pc := 24) (x := nI hi) fl_X7_80 rfl kc_116 lc_116 hF2.2.2.1.2 dX7_find_24 ?_
        refine R_icmp_gt (pc := 27) (tgt := 63) (by omega) (by omega) dX7_find_27 (by decide) (fun h2 => ?_) (fun h2 => ?_)
        · exact absurd h2 (by omega)
        · skip
          refine T_aload_n (pc := 30) (i := 0) dX7_find_30 rfl rfl ?_
          refine R_getR (pc := 31) (i := 117) fl_X7_9 rfl kc_116 lc_116 rc_116_0 dX7_find_31 ?_
          refine T_iload_n (pc := 34) (i := 2) dX7_find_34 rfl rfl ?_
          refine T_iload_n (pc := 35) (i := 3) dX7_find_35 rfl rfl ?_
          refine R_iast (pc := 36) kc_117 lc_117 (by omega) (by first | decide | assumption) dX7_find_36 ?_
          have hO3 : OfS (fun k => k = 117) μ (wI m 117 b (nI v)) := OfS.sI hO rfl
          have hw3 : WgAt (wI m 117 b (nI v)) (wc.set b v) := hwc.set hbl (by omega)
          have hF3 := hF.w hO3
          generalize wI m 117 b (nI v) = m3 at *
          refine T_aload_n (pc := 37) (i := 0) dX7_find_37 rfl rfl ?_
          refine T_iload_n (pc := 38) (i := 1) dX7_find_38 rfl rfl ?_
          refine R_callV1 (pc := 39) (As := [.int (nI from_)]) (rest := []) (Or.inl lk_X7_87) mk_X7_holdsBehind (c_holdsBehind hF3 hok hw3 hm hr (by omega)) kc_116 ⟨by decide, rfl⟩ lc_116 dX7_find_39 rfl rfl (Nat.le_of_ble_eq_true rfl) (by omega) rfl (Nat.le_refl _) (Nat.le_refl _) ?_
          refine R_ifb_eq (pc := 42) (tgt := 57) dX7_find_42 (by decide) (fun h3 => ?_) (fun h3 => ?_)
          · skip
            have h3' : hbB md rc lst P from_ (wc.set b v) = false := h3
            have en : o2 = none := by
              cases ez : o2 with
              | none => rfl
              | some z =>
                rw [ez] at eo
                have hz := srch_some eo
                have : hbB md rc lst P from_ (wc.set b v) = true := all_t (fun i hi => by
                  by_cases el : laN lst (rAt P i) lst.length = from_
                  · have hzi := all_g hz.1 hi
                    have hc : hoB md (decide (i < rc)) (rAt P i) z = hoB md (decide (i < rc)) (rAt P i) (wc.set b v) := hoB_congr (fun c hc => hz.2 c (row_off hok hi (by omega) hc))
                    rw [← hc, hzi, Bool.or_true]
                  · rw [decide_eq_false el]
                    rfl)
                rw [h3'] at this
                cases this
            rw [en]
            refine R_iinc (pc := 57) (i := 3) (n := 1) (ls' := [some (.ref 116), some (.int (nI from_)), some (.int (nI b)), some (.int (nI (v + 1)))]) dX7_find_57 rfl rfl ?_
            refine T_goto (pc := 60) (tgt := 22) dX7_find_60 (by decide) ?_
            exact ih (v + 1) m3 _ (by omega) hw3 hag2 hO3
          · skip
            have h3' : hbB md rc lst P from_ (wc.set b v) = true := h3
            have hI2 : ∀ i, i < P.length → laN lst (rAt P i) lst.length < from_ + 1 → hoB md (decide (i < rc)) (rAt P i) (wc.set b v) = true := fun i hi hl => by
              by_cases el : laN lst (rAt P i) lst.length = from_
              · have := all_g h3' hi
                rw [decide_eq_true el] at this
                exact this
              · rw [← hI i hi (by omega)]
                exact hoB_congr (fun c hc => hag2 c (row_off hok hi (by omega) hc))
            refine T_aload_n (pc := 45) (i := 0) dX7_find_45 rfl rfl ?_
            refine T_iload_n (pc := 46) (i := 1) dX7_find_46 rfl rfl ?_
            refine T_iconst (pc := 47) (v := nI 1) dX7_find_47 (by decide) ?_
            refine R_iadd (pc := 48) dX7_find_48 ?_
            refine R_callVm1 (pc := 49) (As := [.int (nI (from_ + 1))]) (rest := []) (Or.inl lk_X7_83) mk_X7_find (ihr (from_ + 1) m3 (wc.set b v) (by omega) hF3 hw3 hI2) kc_116 ⟨by decide, rfl⟩ lc_116 dX7_find_49 rfl rfl (Nat.le_of_ble_eq_true rfl) (by omega) rfl (Nat.le_refl _) (Nat.le_refl _) (fun m4 h5 => ?_)
            obtain ⟨⟨w4, hw4, q4⟩, o4⟩ := h5
            have hO4 := hO3.trans o4
            rw [eo] at q4
            rw [eo]
            cases o2 with
            | none =>
              refine R_ifb_eq (pc := 52) (tgt := 57) dX7_find_52 (by decide) (fun h6 => ?_) (fun h6 => ?_)
              · skip
                refine R_iinc (pc := 57) (i := 3) (n := 1) (ls' := [some (.ref 116), some (.int (nI from_)), some (.int (nI b)), some (.int (nI (v + 1)))]) dX7_find_57 rfl rfl ?_
                refine T_goto (pc := 60) (tgt := 22) dX7_find_60 (by decide) ?_
                exact ih (v + 1) m4 w4 (by omega) hw4 (fun c hc => (q4 c (hsub c hc)).trans (hag2 c hc)) hO4
              · exact absurd h6 (fun z => by cases z)
            | some z =>
              refine R_ifb_eq (pc := 52) (tgt := 57) dX7_find_52 (by decide) (fun h6 => ?_) (fun h6 => ?_)
              · exact absurd h6 (fun z => by cases z)
              · skip
                refine T_iconst (pc := 55) (v := nI 1) dX7_find_55 (by decide) ?_
                exact T_iret (pc := 56) (ty := .boolean) dX7_find_56 rfl (by decide) (Nat.le_refl _) (Nat.le_refl _) ⟨_, rfl, rfl, ⟨w4, hw4, q4⟩, hO4⟩
    · exact absurd h1 (by omega)
end SE

