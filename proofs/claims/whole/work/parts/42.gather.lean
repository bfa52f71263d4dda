/-! the uses of a STEP, what comes of them -/
def llR (R : List Ru) (r : Nat) : Nat := (rAt R r).1.length
def rrR (R : List Ru) (r : Nat) : List Nat := (rAt R r).2
/-- the i-th that is looked at: PLACE, RULE -/
def prQ (way n many i : Nat) : Nat × Nat := if way = 2 then (i % n, i / n) else if way = 1 then (n - 1 - i / many, i % many) else (i / many, i % many)
/-- where the last use ends -/
def enU (ll : Nat → Nat) (b : Nat) (U : List (Nat × Nat)) : Nat := U.foldl (fun _ q => q.1 + ll q.2) b
def gaN (ll : Nat → Nat) (f : Nat → Nat → Bool) (pr : Nat → Nat × Nat) (mx : Nat) : Nat → List (Nat × Nat)
  | 0 => []
  | i + 1 => if (gaN ll f pr mx i).length < mx ∧ enU ll 0 (gaN ll f pr mx i) ≤ (pr i).1 ∧ f (pr i).2 (pr i).1 = true then gaN ll f pr mx i ++ [pr i] else gaN ll f pr mx i
def sL (ll : Nat → Nat) (U : List (Nat × Nat)) : Nat := (U.map (fun q => ll q.2)).sum
/-- one behind the other -/
def chU (ll : Nat → Nat) (n many : Nat) : Nat → List (Nat × Nat) → Prop
  | _, [] => True
  | b, q :: t => b ≤ q.1 ∧ q.1 + ll q.2 ≤ n ∧ q.2 < many ∧ chU ll n many (q.1 + ll q.2) t
theorem enU_snoc {ll : Nat → Nat} {b : Nat} {U : List (Nat × Nat)} {q : Nat × Nat} : enU ll b (U ++ [q]) = q.1 + ll q.2 := by
  unfold enU
  rw [List.foldl_append]
  rfl
theorem sL_snoc {ll : Nat → Nat} {U : List (Nat × Nat)} {q : Nat × Nat} : sL ll (U ++ [q]) = sL ll U + ll q.2 := by
  unfold sL
  rw [List.map_append, List.sum_append]
  simp
theorem chU_snoc {ll : Nat → Nat} {n many : Nat} {q : Nat × Nat} : ∀ {U : List (Nat × Nat)} {b : Nat}, chU ll n many b U → enU ll b U ≤ q.1 → q.1 + ll q.2 ≤ n → q.2 < many → chU ll n many b (U ++ [q])
  | [], b, _, h2, h3, h4 => ⟨h2, h3, h4, trivial⟩
  | a :: t, b, h, h2, h3, h4 => ⟨h.1, h.2.1, h.2.2.1, chU_snoc (U := t) h.2.2.2 h2 h3 h4⟩
theorem chU_en {ll : Nat → Nat} {n many : Nat} : ∀ {U : List (Nat × Nat)} {b : Nat}, chU ll n many b U → b ≤ n → b + sL ll U ≤ enU ll b U ∧ enU ll b U ≤ n
  | [], b, _, h => ⟨Nat.le_refl _, h⟩
  | a :: t, b, h, hb => by
    have h1 := chU_en (U := t) h.2.2.2 h.2.1
    have h2 := h.1
    have e1 : sL ll (a :: t) = ll a.2 + sL ll t := by unfold sL; simp
    have e2 : enU ll b (a :: t) = enU ll (a.1 + ll a.2) t := rfl
    rw [e1, e2]
    omega
/-- l with the uses of U from PLACE p on; of RULE r comes rr r -/
def aftG {α : Type} (ll : Nat → Nat) (rr : Nat → List α) (l : List α) : List (Nat × Nat) → Nat → List α
  | [], p => l.drop p
  | q :: t, p => (l.take q.1).drop p ++ rr q.2 ++ aftG ll rr l t (q.1 + ll q.2)
theorem aftG_len {α : Type} {ll : Nat → Nat} {rr : Nat → List α} {l : List α} {many : Nat} : ∀ {U : List (Nat × Nat)} {p : Nat}, chU ll l.length many p U → p ≤ l.length → (aftG ll rr l U p).length + sL ll U + p = l.length + sL (fun r => (rr r).length) U
  | [], p, _, h => by
    show (l.drop p).length + 0 + p = l.length + 0
    rw [List.length_drop]
    omega
  | q :: t, p, h, hp => by
    have h1 := aftG_len (rr := rr) (U := t) h.2.2.2 h.2.1
    have h2 := h.1
    have h3 := h.2.1
    have e1 : sL ll (q :: t) = ll q.2 + sL ll t := by unfold sL; simp
    have e2 : sL (fun r => (rr r).length) (q :: t) = (rr q.2).length + sL (fun r => (rr r).length) t := by unfold sL; simp
    show ((l.take q.1).drop p ++ rr q.2 ++ aftG ll rr l t (q.1 + ll q.2)).length + _ + _ = _
    rw [List.length_append, List.length_append, List.length_drop, List.length_take, e1, e2]
    omega
theorem aftG_ok {ll : Nat → Nat} {rr : Nat → List Nat} {l : List Nat} {n many : Nat} (hl : okb l) (hr : ∀ r, r < many → okb (rr r)) : ∀ {U : List (Nat × Nat)} {p : Nat}, chU ll n many p U → okb (aftG ll rr l U p)
  | [], p, _ => okb_drop hl
  | q :: t, p, h => okb_app.mpr ⟨okb_app.mpr ⟨okb_drop (okb_take hl), hr _ h.2.2.1⟩, aftG_ok hl hr (U := t) h.2.2.2⟩
/-- the uses that come of the first i -/
def gaU (R : List Ru) (w : Wk) (l : List Nat) (i : Nat) : List (Nat × Nat) := gaN (llR R) (fitB R w l) (prQ w.1 l.length R.length) (if w.1 = 3 then 20 else 1) i
def nwS (R : List Ru) (l : List Nat) (U : List (Nat × Nat)) : Nat := l.length + sL (fun r => (rrR R r).length) U - sL (llR R) U
def gaR (R : List Ru) (w : Wk) (l : List Nat) : List (Nat × Nat) := if nwS R l (gaU R w l (l.length * R.length)) ≤ 20 then gaU R w l (l.length * R.length) else []
def aftW (R : List Ru) (l : List Nat) (U : List (Nat × Nat)) : List Nat := aftG (llR R) (rrR R) l U 0
/-- what a MEADOW is a STEP later -/
def nxR (R : List Ru) (w : Wk) (l : List Nat) : Option (List Nat) := if (gaR R w l).length = 0 then none else some (aftW R l (gaR R w l))
def vO : Option (List Nat) → Int64
  | none => -1
  | some l => lN (cd l)
theorem gaU_s (R : List Ru) (w : Wk) (l : List Nat) (i : Nat) : gaU R w l (i + 1) = if (gaU R w l i).length < (if w.1 = 3 then 20 else 1) ∧ enU (llR R) 0 (gaU R w l i) ≤ (prQ w.1 l.length R.length i).1 ∧ fitB R w l (prQ w.1 l.length R.length i).2 (prQ w.1 l.length R.length i).1 = true then gaU R w l i ++ [prQ w.1 l.length R.length i] else gaU R w l i := rfl
theorem gaU_len {R : List Ru} {w : Wk} {l : List Nat} : ∀ i, (gaU R w l i).length ≤ if w.1 = 3 then 20 else 1
  | 0 => Nat.zero_le _
  | i + 1 => by
    have h := gaU_len (R := R) (w := w) (l := l) i
    rw [gaU_s]
    by_cases h2 : (gaU R w l i).length < (if w.1 = 3 then 20 else 1) ∧ enU (llR R) 0 (gaU R w l i) ≤ (prQ w.1 l.length R.length i).1 ∧ fitB R w l (prQ w.1 l.length R.length i).2 (prQ w.1 l.length R.length i).1 = true
    · rw [if_pos h2, List.length_append]
      exact h2.1
    · rw [if_neg h2]
      exact h
theorem gaU_stop {R : List Ru} {w : Wk} {l : List Nat} {i : Nat} (h : (if w.1 = 3 then 20 else 1) ≤ (gaU R w l i).length) : ∀ j, gaU R w l (i + j) = gaU R w l i
  | 0 => rfl
  | j + 1 => by
    have h1 := gaU_stop h j
    show gaU R w l (i + j + 1) = _
    rw [gaU_s, h1, if_neg (fun z => absurd z.1 (by omega))]
theorem gaU_ok {R : List Ru} {w : Wk} {l : List Nat} : ∀ {i}, i ≤ l.length * R.length → chU (llR R) l.length R.length 0 (gaU R w l i)
  | 0, _ => trivial
  | i + 1, hi => by
    have h := gaU_ok (R := R) (w := w) (l := l) (i := i) (by omega)
    rw [gaU_s]
    by_cases h2 : (gaU R w l i).length < (if w.1 = 3 then 20 else 1) ∧ enU (llR R) 0 (gaU R w l i) ≤ (prQ w.1 l.length R.length i).1 ∧ fitB R w l (prQ w.1 l.length R.length i).2 (prQ w.1 l.length R.length i).1 = true
    · rw [if_pos h2]
      have h3 := fitB_get h2.2.2
      refine chU_snoc h h2.2.1 h3.2.1 ?_
      have hm : 0 < R.length := by
        rcases Nat.eq_zero_or_pos R.length with z | z
        · rw [z, Nat.mul_zero] at hi
          omega
        · exact z
      have hn : 0 < l.length := by
        rcases Nat.eq_zero_or_pos l.length with z | z
        · rw [z, Nat.zero_mul] at hi
          omega
        · exact z
      unfold prQ
      split
      · exact Nat.div_lt_of_lt_mul (by omega)
      · split
        · exact Nat.mod_lt _ hm
        · exact Nat.mod_lt _ hm
    · rw [if_neg h2]
      exact h
theorem gaR_ok {R : List Ru} {w : Wk} {l : List Nat} : chU (llR R) l.length R.length 0 (gaR R w l) ∧ (nwS R l (gaR R w l) ≤ 20 ∨ gaR R w l = []) := by
  unfold gaR
  split
  · next h => exact ⟨gaU_ok (Nat.le_refl _), Or.inl h⟩
  · exact ⟨trivial, Or.inr rfl⟩
theorem gaR_nw {R : List Ru} {w : Wk} {l : List Nat} (hl : l.length ≤ 20) : nwS R l (gaR R w l) ≤ 20 := by
  rcases (gaR_ok (R := R) (w := w) (l := l)).2 with h | h
  · exact h
  · rw [h]
    show l.length + 0 - 0 ≤ 20
    omega
theorem aftW_mw {R : List Ru} {l : List Nat} {U : List (Nat × Nat)} (hl : Mw l) (hR : ∀ i, i < R.length → okR (rAt R i)) (hU : chU (llR R) l.length R.length 0 U) (hs : nwS R l U ≤ 20) : Mw (aftW R l U) := by
  have h1 := aftG_len (rr := rrR R) hU (Nat.zero_le _)
  have h2 := chU_en hU (Nat.zero_le _)
  refine ⟨?_, aftG_ok hl.2 (fun r hr => (hR r hr).2.2.2.1) hU⟩
  unfold nwS at hs
  unfold aftW
  omega
theorem nxR_mw {R : List Ru} {w : Wk} {l t : List Nat} (hl : Mw l) (hR : ∀ i, i < R.length → okR (rAt R i)) (h : nxR R w l = some t) : Mw t := by
  unfold nxR at h
  split at h
  · cases h
  · cases h
    exact aftW_mw hl hR gaR_ok.1 (gaR_nw hl.1)
def UsesAt (m : SM2) (U : List (Nat × Nat)) : Prop := ∀ i, i < U.length → m.1 99 i = nI (U.getD i (0, 0)).1 ∧ m.1 100 i = nI (U.getD i (0, 0)).2
theorem UsesAt.ofs {S : Nat → Prop} {U : List (Nat × Nat)} {μ m : SM2} (h : UsesAt μ U) (g : OfS S μ m) (h0 : ¬ S 99) (h1 : ¬ S 100) : UsesAt m U := fun i hi => ⟨(g.i h0 i).trans (h i hi).1, (g.i h1 i).trans (h i hi).2⟩
theorem nI_sh {a r l : Nat} (h : l ≤ a + r) : nI a + (nI r - nI l) = nI (a + r - l) := by
  rw [Int32.sub_eq_add_neg, ← Int32.add_assoc, nI_add, ← Int32.sub_eq_add_neg, pk_sub h]
theorem getD_snoc {α : Type} {U : List α} {q z : α} {i : Nat} (h : i < U.length + 1) : (U ++ [q]).getD i z = if i < U.length then U.getD i z else q := by
  rw [List.getD_eq_getElem?_getD]
  by_cases h1 : i < U.length
  · rw [if_pos h1, List.getElem?_append_left h1, List.getD_eq_getElem?_getD]
  · rw [if_neg h1, List.getElem?_append_right (by omega), show i - U.length = 0 by omega]
    rfl
theorem EnvW.ofs {S : Nat → Prop} {μ m : SM2} {R : List Ru} {LL : List (List Int32)} {w : Wk} (h : EnvW μ R LL w) (g : OfS S μ m) (hs : ∀ k, (4 ≤ k ∧ k < 9) ∨ k = 59 ∨ k = 60 ∨ k = 97 ∨ k = 101 ∨ k = 102 → ¬ S k) : EnvW m R LL w := by
  obtain ⟨h1, h2, w1, w2, w3⟩ := h
  have i97 := g.i (hs 97 (by omega))
  refine ⟨h1.ofs g (fun k a b => hs k (by omega)), h2.ofs g (hs 59 (by omega)) (hs 60 (by omega)), ⟨(i97 2).trans w1.1, w1.2⟩, ⟨(i97 5).trans w2.1, w2.2⟩, ?_⟩
  rcases w3 with ⟨a, b⟩ | ⟨a, ⟨y, b1, b2⟩, c⟩
  · exact Or.inl ⟨(i97 4).trans a, b⟩
  · refine Or.inr ⟨(i97 4).trans a, ⟨y, (i97 3).trans b1, b2⟩, fun r p n hr hp hn h => ?_⟩
    rw [g.i (hs 101 (by omega))] at h
    rw [g.i (hs 102 (by omega))]
    exact c r p n hr hp hn h
section GA
variable {γ : Ga} {μ : SM2}
theorem c_gather {R : List Ru} {LL : List (List Int32)} {w : Wk} {l : List Nat} (hE : EnvW μ R LL w) (hl : Mw l) : Ex γ 4 0 0 M_X10_gather [.ref 97, .long (lN (cd l)), .int (nI l.length)] (rm μ) (Rm (some (.int (nI (gaR R w l).length))) (fun m => EnvW m R LL w ∧ OfS SW μ m ∧ UsesAt m (gaR R w l))) := by
  have h12 := hE.1.len
  have hn := hl.1
  have hw4 := hE.2.2.1.2
  have hpr : l.length * R.length ≤ 20 * 12 := Nat.mul_le_mul hn h12
  suffices loop : T γ 4 0 0 M_X10_gather (Rm (some (.int (nI (gaR R w l).length))) (fun m => EnvW m R LL w ∧ OfS SW μ m ∧ UsesAt m (gaR R w l))) 0 0 43 [some (.ref 97), some (.long (lN (cd l))), none, some (.int (nI l.length)), some (.int (nI R.length)), some (.int (nI (l.length * R.length))), some (.int (nI (if w.1 = 3 then 20 else 1))), some (.int (nI (gaU R w l 0).length)), some (.int (nI (nwS R l (gaU R w l 0)))), some (.int (nI (enU (llR R) 0 (gaU R w l 0)))), some (.int (nI 0)), none, none] [] (rm μ) by
    refine Ex.of (by decide +kernel) rfl (Nat.le_of_ble_eq_true rfl) ?_
    show T _ _ _ _ _ _ _ _ _ [some (.ref 97), some (.long (lN (cd l))), none, some (.int (nI l.length)), none, none, none, none, none, none, none, none, none] [] (rm μ)
    refine T_aload_n (pc := 0) (i := 0) dX10_gather_0 rfl rfl ?_
    refine R_getR (pc := 1) (i := 4) fl_X10_33 rfl kc_97 lc_97 rc_97_0 dX10_gather_1 ?_
    refine R_getI (pc := 4) (x := nI R.length) fl_X10_118 rfl (kt_rules rules4) (lt_rules rules4) hE.1.size dX10_gather_4 ?_
    refine T_istore (pc := 7) (i := 4) (ls' := [some (.ref 97), some (.long (lN (cd l))), none, some (.int (nI l.length)), some (.int (nI R.length)), none, none, none, none, none, none, none, none]) dX10_gather_7 (by decide) rfl ?_
    refine T_iload_n (pc := 9) (i := 3) dX10_gather_9 rfl rfl ?_
    refine T_iload (pc := 10) (i := 4) dX10_gather_10 rfl ?_
    refine R_imul (pc := 12) dX10_gather_12 ?_
    refine T_istore (pc := 13) (i := 5) (ls' := [some (.ref 97), some (.long (lN (cd l))), none, some (.int (nI l.length)), some (.int (nI R.length)), some (.int (nI (l.length * R.length))), none, none, none, none, none, none, none]) dX10_gather_13 (by decide) rfl ?_
    refine T_aload_n (pc := 15) (i := 0) dX10_gather_15 rfl rfl ?_
    refine R_getI (pc := 16) (x := nI w.1) fl_X10_47 rfl kc_97 lc_97 hE.2.2.1.1 dX10_gather_16 ?_
    refine T_iconst (pc := 19) (v := nI 3) dX10_gather_19 (by decide) ?_
    refine R_icmp_ne (pc := 20) (tgt := 28) (by omega) (by omega) dX10_gather_20 (by decide) (fun h1 => ?_) (fun h1 => ?_)
    · skip
      refine T_iconst (pc := 28) (v := nI 1) dX10_gather_28 (by decide) ?_
      refine T_istore (pc := 29) (i := 6) (ls' := [some (.ref 97), some (.long (lN (cd l))), none, some (.int (nI l.length)), some (.int (nI R.length)), some (.int (nI (l.length * R.length))), some (.int (nI 1)), none, none, none, none, none, none]) dX10_gather_29 (by decide) rfl ?_
      refine T_iconst (pc := 31) (v := nI 0) dX10_gather_31 (by decide) ?_
      refine T_istore (pc := 32) (i := 7) (ls' := [some (.ref 97), some (.long (lN (cd l))), none, some (.int (nI l.length)), some (.int (nI R.length)), some (.int (nI (l.length * R.length))), some (.int (nI 1)), some (.int (nI 0)), none, none, none, none, none]) dX10_gather_32 (by decide) rfl ?_
      refine T_iload_n (pc := 34) (i := 3) dX10_gather_34 rfl rfl ?_
      refine T_istore (pc := 35) (i := 8) (ls' := [some (.ref 97), some (.long (lN (cd l))), none, some (.int (nI l.length)), some (.int (nI R.length)), some (.int (nI (l.length * R.length))), some (.int (nI 1)), some (.int (nI 0)), some (.int (nI l.length)), none, none, none, none]) dX10_gather_35 (by decide) rfl ?_
      refine T_iconst (pc := 37) (v := nI 0) dX10_gather_37 (by decide) ?_
      refine T_istore (pc := 38) (i := 9) (ls' := [some (.ref 97), some (.long (lN (cd l))), none, some (.int (nI l.length)), some (.int (nI R.length)), some (.int (nI (l.length * R.length))), some (.int (nI 1)), some (.int (nI 0)), some (.int (nI l.length)), some (.int (nI 0)), none, none, none]) dX10_gather_38 (by decide) rfl ?_
      refine T_iconst (pc := 40) (v := nI 0) dX10_gather_40 (by decide) ?_
      refine T_istore (pc := 41) (i := 10) (ls' := [some (.ref 97), some (.long (lN (cd l))), none, some (.int (nI l.length)), some (.int (nI R.length)), some (.int (nI (l.length * R.length))), some (.int (nI 1)), some (.int (nI 0)), some (.int (nI l.length)), some (.int (nI 0)), some (.int (nI 0)), none, none]) dX10_gather_41 (by decide) rfl ?_
      rw [if_neg h1] at loop
      exact loop
    · skip
      refine T_bipush (pc := 23) (v := nI 20) dX10_gather_23 (by decide) ?_
      refine T_goto (pc := 25) (tgt := 29) dX10_gather_25 (by decide) ?_
      refine T_istore (pc := 29) (i := 6) (ls' := [some (.ref 97), some (.long (lN (cd l))), none, some (.int (nI l.length)), some (.int (nI R.length)), some (.int (nI (l.length * R.length))), some (.int (nI 20)), none, none, none, none, none, none]) dX10_gather_29 (by decide) rfl ?_
      refine T_iconst (pc := 31) (v := nI 0) dX10_gather_31 (by decide) ?_
      refine T_istore (pc := 32) (i := 7) (ls' := [some (.ref 97), some (.long (lN (cd l))), none, some (.int (nI l.length)), some (.int (nI R.length)), some (.int (nI (l.length * R.length))), some (.int (nI 20)), some (.int (nI 0)), none, none, none, none, none]) dX10_gather_32 (by decide) rfl ?_
      refine T_iload_n (pc := 34) (i := 3) dX10_gather_34 rfl rfl ?_
      refine T_istore (pc := 35) (i := 8) (ls' := [some (.ref 97), some (.long (lN (cd l))), none, some (.int (nI l.length)), some (.int (nI R.length)), some (.int (nI (l.length * R.length))), some (.int (nI 20)), some (.int (nI 0)), some (.int (nI l.length)), none, none, none, none]) dX10_gather_35 (by decide) rfl ?_
      refine T_iconst (pc := 37) (v := nI 0) dX10_gather_37 (by decide) ?_
      refine T_istore (pc := 38) (i := 9) (ls' := [some (.ref 97), some (.long (lN (cd l))), none, some (.int (nI l.length)), some (.int (nI R.length)), some (.int (nI (l.length * R.length))), some (.int (nI 20)), some (.int (nI 0)), some (.int (nI l.length)), some (.int (nI 0)), none, none, none]) dX10_gather_38 (by decide) rfl ?_
      refine T_iconst (pc := 40) (v := nI 0) dX10_gather_40 (by decide) ?_
      refine T_istore (pc := 41) (i := 10) (ls' := [some (.ref 97), some (.long (lN (cd l))), none, some (.int (nI l.length)), some (.int (nI R.length)), some (.int (nI (l.length * R.length))), some (.int (nI 20)), some (.int (nI 0)), some (.int (nI l.length)), some (.int (nI 0)), some (.int (nI 0)), none, none]) dX10_gather_41 (by decide) rfl ?_
      rw [if_pos h1] at loop
      exact loop
  refine T_forI (pc := 43) (l.length * R.length) (fun i => [some (.ref 97), some (.long (lN (cd l))), none, some (.int (nI l.length)), some (.int (nI R.length)), some (.int (nI (l.length * R.length))), some (.int (nI (if w.1 = 3 then 20 else 1))), some (.int (nI ((gaU R w l i).length))), some (.int (nI (nwS R l (gaU R w l i)))), some (.int (nI (enU (llR R) 0 (gaU R w l i)))), some (.int (nI i)), none, none]) (fun i m => EnvW m R LL w ∧ OfS SW μ m ∧ UsesAt m (gaU R w l i)) (fun i m hle hI ih => ?_) 0 (Nat.zero_le _) (⟨hE, OfS.refl _ _, fun j hj => absurd hj (Nat.not_lt_zero _)⟩)
  show T _ _ _ _ _ _ _ _ 43 [some (.ref 97), some (.long (lN (cd l))), none, some (.int (nI l.length)), some (.int (nI R.length)), some (.int (nI (l.length * R.length))), some (.int (nI (if w.1 = 3 then 20 else 1))), some (.int (nI ((gaU R w l i).length))), some (.int (nI (nwS R l (gaU R w l i)))), some (.int (nI (enU (llR R) 0 (gaU R w l i)))), some (.int (nI i)), none, none] [] (rm m)
  obtain ⟨iE, iO, iU⟩ := hI
  have hul := gaU_len (R := R) (w := w) (l := l) i
  have hmx : (if w.1 = 3 then 20 else 1) ≤ 20 := by split <;> decide
  have hch := gaU_ok (R := R) (w := w) (l := l) hle
  have hen := chU_en hch (Nat.zero_le _)
  have fin : gaU R w l i = gaU R w l (l.length * R.length) → T γ 4 0 0 M_X10_gather (Rm (some (.int (nI (gaR R w l).length))) (fun m => EnvW m R LL w ∧ OfS SW μ m ∧ UsesAt m (gaR R w l))) 0 0 209 [some (.ref 97), some (.long (lN (cd l))), none, some (.int (nI l.length)), some (.int (nI R.length)), some (.int (nI (l.length * R.length))), some (.int (nI (if w.1 = 3 then 20 else 1))), some (.int (nI (gaU R w l i).length)), some (.int (nI (nwS R l (gaU R w l i)))), some (.int (nI (enU (llR R) 0 (gaU R w l i)))), some (.int (nI i)), none, none] [] (rm m) := fun e => by
    have hR5 : sL (fun r => (rrR R r).length) (gaU R w l i) < 2 ^ 20 := by
      have key : ∀ V : List (Nat × Nat), (∀ q ∈ V, q.2 < R.length) → sL (fun r => (rrR R r).length) V ≤ 5 * V.length := by
        intro V
        induction V with
        | nil => intro _; exact Nat.le_refl _
        | cons a t ih =>
          intro h
          have h1 := ih (fun q hq => h q (List.mem_cons_of_mem _ hq))
          have h2 := (hE.1.ok a.2 (h a List.mem_cons_self)).2.2.2.2
          have e1 : sL (fun r => (rrR R r).length) (a :: t) = (rrR R a.2).length + sL (fun r => (rrR R r).length) t := by unfold sL; simp
          rw [e1, List.length_cons]
          unfold rrR at h1 ⊢
          omega
      have mem : ∀ (V : List (Nat × Nat)) (b : Nat), chU (llR R) l.length R.length b V → ∀ q ∈ V, q.2 < R.length := by
        intro V
        induction V with
        | nil => intro b _ q hq; cases hq
        | cons a t ih =>
          intro b h q hq
          rcases List.mem_cons.mp hq with rfl | hq
          · exact h.2.2.1
          · exact ih _ h.2.2.2 q hq
      have := key _ (mem _ _ hch)
      omega
    have hw : nwS R l (gaU R w l i) < 2 ^ 31 := by unfold nwS; omega
    refine T_iload (pc := 209) (i := 8) dX10_gather_209 rfl ?_
    refine T_bipush (pc := 211) (v := nI 20) dX10_gather_211 (by decide) ?_
    refine R_icmp_le (pc := 213) (tgt := 220) (by omega) (by omega) dX10_gather_213 (by decide) (fun h1 => ?_) (fun h1 => ?_)
    · skip
      refine T_iload (pc := 220) (i := 7) dX10_gather_220 rfl ?_
      have e2 : gaR R w l = gaU R w l i := by unfold gaR; rw [← e, if_pos h1]
      rw [e2]
      exact T_iret (pc := 222) (ty := .int) dX10_gather_222 rfl rfl (Nat.le_refl _) (Nat.le_refl _) ⟨_, rfl, rfl, iE, iO, iU⟩
    · skip
      refine T_iconst (pc := 216) (v := nI 0) dX10_gather_216 (by decide) ?_
      refine T_goto (pc := 217) (tgt := 222) dX10_gather_217 (by decide) ?_
      have e2 : gaR R w l = [] := by unfold gaR; rw [← e, if_neg (by omega)]
      rw [e2]
      exact T_iret (pc := 222) (ty := .int) dX10_gather_222 rfl rfl (Nat.le_refl _) (Nat.le_refl _) ⟨_, rfl, rfl, iE, iO, fun j hj => absurd hj (Nat.not_lt_zero _)⟩
  refine T_iload (pc := 43) (i := 10) dX10_gather_43 rfl ?_
  refine T_iload (pc := 45) (i := 5) dX10_gather_45 rfl ?_
  refine R_icmp_ge (pc := 47) (tgt := 209) (by omega) (by omega) dX10_gather_47 (by decide) (fun h1 => ?_) (fun h1 => ?_)
  · exact fin (by rw [show i = l.length * R.length by omega])
  · skip
    refine T_iload (pc := 50) (i := 7) dX10_gather_50 rfl ?_
    refine T_iload (pc := 52) (i := 6) dX10_gather_52 rfl ?_
    refine R_icmp_ge (pc := 54) (tgt := 209) (by omega) (by omega) dX10_gather_54 (by decide) (fun h2 => ?_) (fun h2 => ?_)
    · have e := gaU_stop h2 (l.length * R.length - i)
      rw [show i + (l.length * R.length - i) = l.length * R.length by omega] at e
      exact fin e.symm
    · skip
      have hm : 0 < R.length := by
        rcases Nat.eq_zero_or_pos R.length with z | z
        · rw [z, Nat.mul_zero] at h1
          omega
        · exact z
      have hn0 : 0 < l.length := by
        rcases Nat.eq_zero_or_pos l.length with z | z
        · rw [z, Nat.zero_mul] at h1
          omega
        · exact z
      have hdm : i / R.length < l.length := Nat.div_lt_of_lt_mul (by rw [Nat.mul_comm]; exact h1)
      have hmm := Nat.mod_lt i hm
      have hdn : i / l.length < R.length := Nat.div_lt_of_lt_mul h1
      have hmn := Nat.mod_lt i hn0
      have tail : ∀ p r, prQ w.1 l.length R.length i = (p, r) → p < l.length → r < R.length → T γ 4 0 0 M_X10_gather (Rm (some (.int (nI (gaR R w l).length))) (fun m => EnvW m R LL w ∧ OfS SW μ m ∧ UsesAt m (gaR R w l))) 0 0 121 [some (.ref 97), some (.long (lN (cd l))), none, some (.int (nI l.length)), some (.int (nI R.length)), some (.int (nI (l.length * R.length))), some (.int (nI (if w.1 = 3 then 20 else 1))), some (.int (nI (gaU R w l i).length)), some (.int (nI (nwS R l (gaU R w l i)))), some (.int (nI (enU (llR R) 0 (gaU R w l i)))), some (.int (nI i)), some (.int (nI p)), some (.int (nI r))] [] (rm m) := fun p r e hp hr => by
        have enx : gaU R w l (i + 1) = if (gaU R w l i).length < (if w.1 = 3 then 20 else 1) ∧ enU (llR R) 0 (gaU R w l i) ≤ p ∧ fitB R w l r p = true then gaU R w l i ++ [(p, r)] else gaU R w l i := by
          rw [gaU_s, e]
        have eno : ¬ ((gaU R w l i).length < (if w.1 = 3 then 20 else 1) ∧ enU (llR R) 0 (gaU R w l i) ≤ p ∧ fitB R w l r p = true) → ∀ m' : SM2, EnvW m' R LL w → OfS SW μ m' → UsesAt m' (gaU R w l i) → T γ 4 0 0 M_X10_gather (Rm (some (.int (nI (gaR R w l).length))) (fun m => EnvW m R LL w ∧ OfS SW μ m ∧ UsesAt m (gaR R w l))) 0 0 203 [some (.ref 97), some (.long (lN (cd l))), none, some (.int (nI l.length)), some (.int (nI R.length)), some (.int (nI (l.length * R.length))), some (.int (nI (if w.1 = 3 then 20 else 1))), some (.int (nI (gaU R w l i).length)), some (.int (nI (nwS R l (gaU R w l i)))), some (.int (nI (enU (llR R) 0 (gaU R w l i)))), some (.int (nI i)), some (.int (nI p)), some (.int (nI r))] [] (rm m') := fun hno m' a1 a2 a3 => by
          rw [if_neg hno] at enx
          have h9 := ih h1 m' ⟨a1, a2, by rw [enx]; exact a3⟩
          rw [enx] at h9
          refine R_iinc (pc := 203) (i := 10) (n := 1) (ls' := [some (.ref 97), some (.long (lN (cd l))), none, some (.int (nI l.length)), some (.int (nI R.length)), some (.int (nI (l.length * R.length))), some (.int (nI (if w.1 = 3 then 20 else 1))), some (.int (nI ((gaU R w l i).length))), some (.int (nI (nwS R l (gaU R w l i)))), some (.int (nI (enU (llR R) 0 (gaU R w l i)))), some (.int (nI (i + 1))), some (.int (nI p)), some (.int (nI r))]) dX10_gather_203 rfl rfl ?_
          refine T_goto (pc := 206) (tgt := 43) dX10_gather_206 (by decide) ?_
          refine T_ls (ls' := [some (.ref 97), some (.long (lN (cd l))), none, some (.int (nI l.length)), some (.int (nI R.length)), some (.int (nI (l.length * R.length))), some (.int (nI (if w.1 = 3 then 20 else 1))), some (.int (nI ((gaU R w l i).length))), some (.int (nI (nwS R l (gaU R w l i)))), some (.int (nI (enU (llR R) 0 (gaU R w l i)))), some (.int (nI (i + 1))), none, none]) (And.intro rfl (And.intro rfl (And.intro rfl (And.intro rfl (And.intro rfl (And.intro rfl (And.intro rfl (And.intro rfl (And.intro rfl (And.intro rfl True.intro)))))))))) ?_
          exact h9
        refine T_iload (pc := 121) (i := 11) dX10_gather_121 rfl ?_
        refine T_iload (pc := 123) (i := 9) dX10_gather_123 rfl ?_
        refine R_icmp_lt (pc := 125) (tgt := 203) (by omega) (by omega) dX10_gather_125 (by decide) (fun h3 => ?_) (fun h3 => ?_)
        · exact eno (fun z => absurd z.2.1 (by omega)) m iE iO iU
        · skip
          refine T_aload_n (pc := 128) (i := 0) dX10_gather_128 rfl rfl ?_
          refine T_iload (pc := 129) (i := 12) dX10_gather_129 rfl ?_
          refine T_iload (pc := 131) (i := 11) dX10_gather_131 rfl ?_
          refine T_lload_n (pc := 133) (i := 1) dX10_gather_133 rfl rfl ?_
          refine T_iload_n (pc := 134) (i := 3) dX10_gather_134 rfl rfl ?_
          refine R_callVm1 (pc := 135) (As := [.int (nI r), .int (nI p), .long (lN (cd l)), .int (nI l.length)]) (rest := []) (Or.inl lk_X10_121) mk_X10_mayUse (c_mayUse iE hl hr (by omega)) kc_97 ⟨by decide, rfl⟩ lc_97 dX10_gather_135 rfl rfl (Nat.le_of_ble_eq_true rfl) (by decide) rfl (Nat.le_refl _) (Nat.le_refl _) (fun m1 g => ?_)
          obtain ⟨gE, gO⟩ := g
          have gO2 : OfS SW μ m1 := iO.trans (gO.mono (fun k => Sm_SW))
          have gU : UsesAt m1 (gaU R w l i) := iU.ofs gO (by unfold Sm; omega) (by unfold Sm; omega)
          refine R_ifb_eq (pc := 138) (tgt := 203) dX10_gather_138 (by decide) (fun h4 => ?_) (fun h4 => ?_)
          · exact eno (fun z => by rw [h4] at z; exact absurd z.2.2 (by decide)) m1 gE gO2 gU
          · skip
            have hfit := fitB_get h4
            have hyes : (gaU R w l i).length < (if w.1 = 3 then 20 else 1) ∧ enU (llR R) 0 (gaU R w l i) ≤ p ∧ fitB R w l r p = true := ⟨by omega, by omega, h4⟩
            rw [if_pos hyes] at enx
            refine T_aload_n (pc := 141) (i := 0) dX10_gather_141 rfl rfl ?_
            refine R_getR (pc := 142) (i := 99) fl_X10_15 rfl kc_97 lc_97 rc_97_8 dX10_gather_142 ?_
            refine T_iload (pc := 145) (i := 7) dX10_gather_145 rfl ?_
            refine T_iload (pc := 147) (i := 11) dX10_gather_147 rfl ?_
            refine R_iast (pc := 149) kc_99 lc_99 (by omega) (by first | decide | assumption) dX10_gather_149 ?_
            refine T_aload_n (pc := 150) (i := 0) dX10_gather_150 rfl rfl ?_
            refine R_getR (pc := 151) (i := 100) fl_X10_18 rfl kc_97 lc_97 rc_97_9 dX10_gather_151 ?_
            refine T_iload (pc := 154) (i := 7) dX10_gather_154 rfl ?_
            refine T_iload (pc := 156) (i := 12) dX10_gather_156 rfl ?_
            refine R_iast (pc := 158) kc_100 lc_100 (by omega) (by first | decide | assumption) dX10_gather_158 ?_
            refine R_iinc (pc := 159) (i := 7) (n := 1) (ls' := [some (.ref 97), some (.long (lN (cd l))), none, some (.int (nI l.length)), some (.int (nI R.length)), some (.int (nI (l.length * R.length))), some (.int (nI (if w.1 = 3 then 20 else 1))), some (.int (nI ((gaU R w l i).length + 1))), some (.int (nI (nwS R l (gaU R w l i)))), some (.int (nI (enU (llR R) 0 (gaU R w l i)))), some (.int (nI i)), some (.int (nI p)), some (.int (nI r))]) dX10_gather_159 rfl rfl ?_
            refine T_iload (pc := 162) (i := 8) dX10_gather_162 rfl ?_
            refine T_aload_n (pc := 164) (i := 0) dX10_gather_164 rfl rfl ?_
            refine R_getR (pc := 165) (i := 4) fl_X10_33 rfl kc_97 lc_97 rc_97_0 dX10_gather_165 ?_
            refine R_getR (pc := 168) (i := 8) fl_X10_84 rfl (kt_rules rules4) (lt_rules rules4) (rt_rules_rightSize rules4) dX10_gather_168 ?_
            refine T_iload (pc := 171) (i := 12) dX10_gather_171 rfl ?_
            refine R_iald (pc := 173) (x := nI ((rAt R r).2.length)) (kt_rules_rightSize rules4) (lt_rules_rightSize rules4) (by omega) (by first | decide | assumption) ((wI_ne (by first | omega | simp)).trans ((wI_ne (by first | omega | simp)).trans ((gE.1.row r hr).rightSize))) dX10_gather_173 ?_
            refine T_aload_n (pc := 174) (i := 0) dX10_gather_174 rfl rfl ?_
            refine R_getR (pc := 175) (i := 4) fl_X10_33 rfl kc_97 lc_97 rc_97_0 dX10_gather_175 ?_
            refine R_getR (pc := 178) (i := 7) fl_X10_71 rfl (kt_rules rules4) (lt_rules rules4) (rt_rules_leftSize rules4) dX10_gather_178 ?_
            refine T_iload (pc := 181) (i := 12) dX10_gather_181 rfl ?_
            refine R_iald (pc := 183) (x := nI ((rAt R r).1.length)) (kt_rules_leftSize rules4) (lt_rules_leftSize rules4) (by omega) (by first | decide | assumption) ((wI_ne (by first | omega | simp)).trans ((wI_ne (by first | omega | simp)).trans ((gE.1.row r hr).leftSize))) dX10_gather_183 ?_
            refine T_isub (pc := 184) dX10_gather_184 ?_
            refine T_iadd (pc := 185) dX10_gather_185 ?_
            have e1 : llR R r = (rAt R r).1.length := rfl
            have e2 : (rrR R r).length = (rAt R r).2.length := rfl
            have enw : nwS R l (gaU R w l (i + 1)) = nwS R l (gaU R w l i) + (rAt R r).2.length - (rAt R r).1.length := by
              unfold nwS
              rw [enx, sL_snoc, sL_snoc, e1, e2]
              omega
            refine T_topi (v := nI (nwS R l (gaU R w l i) + (rAt R r).2.length - (rAt R r).1.length)) (nI_sh (by unfold nwS; omega)) ?_
            refine T_istore (pc := 186) (i := 8) (ls' := [some (.ref 97), some (.long (lN (cd l))), none, some (.int (nI l.length)), some (.int (nI R.length)), some (.int (nI (l.length * R.length))), some (.int (nI (if w.1 = 3 then 20 else 1))), some (.int (nI ((gaU R w l i).length + 1))), some (.int (nI (nwS R l (gaU R w l i) + (rAt R r).2.length - (rAt R r).1.length))), some (.int (nI (enU (llR R) 0 (gaU R w l i)))), some (.int (nI i)), some (.int (nI p)), some (.int (nI r))]) dX10_gather_186 (by decide) rfl ?_
            refine T_iload (pc := 188) (i := 11) dX10_gather_188 rfl ?_
            refine T_aload_n (pc := 190) (i := 0) dX10_gather_190 rfl rfl ?_
            refine R_getR (pc := 191) (i := 4) fl_X10_33 rfl kc_97 lc_97 rc_97_0 dX10_gather_191 ?_
            refine R_getR (pc := 194) (i := 7) fl_X10_71 rfl (kt_rules rules4) (lt_rules rules4) (rt_rules_leftSize rules4) dX10_gather_194 ?_
            refine T_iload (pc := 197) (i := 12) dX10_gather_197 rfl ?_
            refine R_iald (pc := 199) (x := nI ((rAt R r).1.length)) (kt_rules_leftSize rules4) (lt_rules_leftSize rules4) (by omega) (by first | decide | assumption) ((wI_ne (by first | omega | simp)).trans ((wI_ne (by first | omega | simp)).trans ((gE.1.row r hr).leftSize))) dX10_gather_199 ?_
            refine R_iadd (pc := 200) dX10_gather_200 ?_
            refine T_istore (pc := 201) (i := 9) (ls' := [some (.ref 97), some (.long (lN (cd l))), none, some (.int (nI l.length)), some (.int (nI R.length)), some (.int (nI (l.length * R.length))), some (.int (nI (if w.1 = 3 then 20 else 1))), some (.int (nI ((gaU R w l i).length + 1))), some (.int (nI (nwS R l (gaU R w l i) + (rAt R r).2.length - (rAt R r).1.length))), some (.int (nI (p + ((rAt R r).1.length)))), some (.int (nI i)), some (.int (nI p)), some (.int (nI r))]) dX10_gather_201 (by decide) rfl ?_
            refine R_iinc (pc := 203) (i := 10) (n := 1) (ls' := [some (.ref 97), some (.long (lN (cd l))), none, some (.int (nI l.length)), some (.int (nI R.length)), some (.int (nI (l.length * R.length))), some (.int (nI (if w.1 = 3 then 20 else 1))), some (.int (nI ((gaU R w l i).length + 1))), some (.int (nI (nwS R l (gaU R w l i) + (rAt R r).2.length - (rAt R r).1.length))), some (.int (nI (p + ((rAt R r).1.length)))), some (.int (nI (i + 1))), some (.int (nI p)), some (.int (nI r))]) dX10_gather_203 rfl rfl ?_
            refine T_goto (pc := 206) (tgt := 43) dX10_gather_206 (by decide) ?_
            refine T_ls (ls' := [some (.ref 97), some (.long (lN (cd l))), none, some (.int (nI l.length)), some (.int (nI R.length)), some (.int (nI (l.length * R.length))), some (.int (nI (if w.1 = 3 then 20 else 1))), some (.int (nI ((gaU R w l i).length + 1))), some (.int (nI (nwS R l (gaU R w l i) + (rAt R r).2.length - (rAt R r).1.length))), some (.int (nI (p + ((rAt R r).1.length)))), some (.int (nI (i + 1))), none, none]) (And.intro rfl (And.intro rfl (And.intro rfl (And.intro rfl (And.intro rfl (And.intro rfl (And.intro rfl (And.intro rfl (And.intro rfl (And.intro rfl True.intro)))))))))) ?_
            have o9 : OfS SW μ (wI (wI m1 99 (gaU R w l i).length (nI p)) 100 (gaU R w l i).length (nI r)) := OfS.sI (OfS.sI gO2 (by unfold SW; omega)) (by unfold SW; omega)
            have o8 : OfS (fun k => k = 99 ∨ k = 100) m1 (wI (wI m1 99 (gaU R w l i).length (nI p)) 100 (gaU R w l i).length (nI r)) := OfS.sI (OfS.sI (OfS.refl _ _) (Or.inl rfl)) (Or.inr rfl)
            have h9 := ih h1 _ ⟨gE.ofs o8 (fun k hk => by omega), o9, fun j hj => by
              rw [enx] at hj ⊢
              rw [List.length_append] at hj
              rw [getD_snoc hj]
              by_cases hj2 : j < (gaU R w l i).length
              · rw [if_pos hj2]
                have e3 := gU j hj2
                refine ⟨?_, ?_⟩
                · rw [n_wI (by omega), n_wI (by omega)]
                  exact e3.1
                · rw [n_wI (by omega), n_wI (by omega)]
                  exact e3.2
              · have hj3 : j = (gaU R w l i).length := by have : j < (gaU R w l i).length + 1 := hj; omega
                rw [if_neg hj2]
                refine ⟨?_, ?_⟩
                · rw [n_wI (by omega), e_wI ⟨rfl, hj3⟩]
                · rw [e_wI ⟨rfl, hj3⟩]⟩
            rw [enw, enx, enU_snoc, List.length_append] at h9
            exact h9
      refine T_aload_n (pc := 57) (i := 0) dX10_gather_57 rfl rfl ?_
      refine R_getI (pc := 58) (x := nI w.1) fl_X10_47 rfl kc_97 lc_97 iE.2.2.1.1 dX10_gather_58 ?_
      refine T_iconst (pc := 61) (v := nI 2) dX10_gather_61 (by decide) ?_
      refine R_icmp_ne (pc := 62) (tgt := 72) (by omega) (by omega) dX10_gather_62 (by decide) (fun h3 => ?_) (fun h3 => ?_)
      · skip
        refine T_aload_n (pc := 72) (i := 0) dX10_gather_72 rfl rfl ?_
        refine R_getI (pc := 73) (x := nI w.1) fl_X10_47 rfl kc_97 lc_97 iE.2.2.1.1 dX10_gather_73 ?_
        refine T_iconst (pc := 76) (v := nI 1) dX10_gather_76 (by decide) ?_
        refine R_icmp_ne (pc := 77) (tgt := 92) (by omega) (by omega) dX10_gather_77 (by decide) (fun h4 => ?_) (fun h4 => ?_)
        · skip
          refine T_iload (pc := 92) (i := 10) dX10_gather_92 rfl ?_
          refine T_iload (pc := 94) (i := 4) dX10_gather_94 rfl ?_
          refine R_idiv (pc := 96) ⟨hm, by omega, by omega⟩ dX10_gather_96 ?_
          refine T_istore (pc := 97) (i := 11) (ls' := [some (.ref 97), some (.long (lN (cd l))), none, some (.int (nI l.length)), some (.int (nI R.length)), some (.int (nI (l.length * R.length))), some (.int (nI (if w.1 = 3 then 20 else 1))), some (.int (nI ((gaU R w l i).length))), some (.int (nI (nwS R l (gaU R w l i)))), some (.int (nI (enU (llR R) 0 (gaU R w l i)))), some (.int (nI i)), some (.int (nI (i / R.length))), none]) dX10_gather_97 (by decide) rfl ?_
          refine T_aload_n (pc := 99) (i := 0) dX10_gather_99 rfl rfl ?_
          refine R_getI (pc := 100) (x := nI w.1) fl_X10_47 rfl kc_97 lc_97 iE.2.2.1.1 dX10_gather_100 ?_
          refine T_iconst (pc := 103) (v := nI 2) dX10_gather_103 (by decide) ?_
          refine R_icmp_ne (pc := 104) (tgt := 114) (by omega) (by omega) dX10_gather_104 (by decide) (fun h5 => ?_) (fun h5 => ?_)
          · skip
            refine T_iload (pc := 114) (i := 10) dX10_gather_114 rfl ?_
            refine T_iload (pc := 116) (i := 4) dX10_gather_116 rfl ?_
            refine R_irem (pc := 118) ⟨hm, by omega, by omega⟩ dX10_gather_118 ?_
            refine T_istore (pc := 119) (i := 12) (ls' := [some (.ref 97), some (.long (lN (cd l))), none, some (.int (nI l.length)), some (.int (nI R.length)), some (.int (nI (l.length * R.length))), some (.int (nI (if w.1 = 3 then 20 else 1))), some (.int (nI ((gaU R w l i).length))), some (.int (nI (nwS R l (gaU R w l i)))), some (.int (nI (enU (llR R) 0 (gaU R w l i)))), some (.int (nI i)), some (.int (nI (i / R.length))), some (.int (nI (i % R.length)))]) dX10_gather_119 (by decide) rfl ?_
            exact tail _ _ (by unfold prQ; rw [if_neg h3, if_neg h4]) hdm hmm
          · exact absurd h5 h3
        · skip
          refine T_iload_n (pc := 80) (i := 3) dX10_gather_80 rfl rfl ?_
          refine T_iconst (pc := 81) (v := nI 1) dX10_gather_81 (by decide) ?_
          refine R_isub (pc := 82) (by omega) dX10_gather_82 ?_
          refine T_iload (pc := 83) (i := 10) dX10_gather_83 rfl ?_
          refine T_iload (pc := 85) (i := 4) dX10_gather_85 rfl ?_
          refine R_idiv (pc := 87) ⟨hm, by omega, by omega⟩ dX10_gather_87 ?_
          refine R_isub (pc := 88) (by omega) dX10_gather_88 ?_
          refine T_goto (pc := 89) (tgt := 97) dX10_gather_89 (by decide) ?_
          refine T_istore (pc := 97) (i := 11) (ls' := [some (.ref 97), some (.long (lN (cd l))), none, some (.int (nI l.length)), some (.int (nI R.length)), some (.int (nI (l.length * R.length))), some (.int (nI (if w.1 = 3 then 20 else 1))), some (.int (nI ((gaU R w l i).length))), some (.int (nI (nwS R l (gaU R w l i)))), some (.int (nI (enU (llR R) 0 (gaU R w l i)))), some (.int (nI i)), some (.int (nI ((l.length - 1) - (i / R.length)))), none]) dX10_gather_97 (by decide) rfl ?_
          refine T_aload_n (pc := 99) (i := 0) dX10_gather_99 rfl rfl ?_
          refine R_getI (pc := 100) (x := nI w.1) fl_X10_47 rfl kc_97 lc_97 iE.2.2.1.1 dX10_gather_100 ?_
          refine T_iconst (pc := 103) (v := nI 2) dX10_gather_103 (by decide) ?_
          refine R_icmp_ne (pc := 104) (tgt := 114) (by omega) (by omega) dX10_gather_104 (by decide) (fun h5 => ?_) (fun h5 => ?_)
          · skip
            refine T_iload (pc := 114) (i := 10) dX10_gather_114 rfl ?_
            refine T_iload (pc := 116) (i := 4) dX10_gather_116 rfl ?_
            refine R_irem (pc := 118) ⟨hm, by omega, by omega⟩ dX10_gather_118 ?_
            refine T_istore (pc := 119) (i := 12) (ls' := [some (.ref 97), some (.long (lN (cd l))), none, some (.int (nI l.length)), some (.int (nI R.length)), some (.int (nI (l.length * R.length))), some (.int (nI (if w.1 = 3 then 20 else 1))), some (.int (nI ((gaU R w l i).length))), some (.int (nI (nwS R l (gaU R w l i)))), some (.int (nI (enU (llR R) 0 (gaU R w l i)))), some (.int (nI i)), some (.int (nI ((l.length - 1) - (i / R.length)))), some (.int (nI (i % R.length)))]) dX10_gather_119 (by decide) rfl ?_
            exact tail _ _ (by unfold prQ; rw [if_neg h3, if_pos h4]) (Nat.lt_of_le_of_lt (Nat.sub_le (l.length - 1) _) (Nat.sub_lt hn0 Nat.one_pos)) hmm
          · exact absurd h5 h3
      · skip
        refine T_iload (pc := 65) (i := 10) dX10_gather_65 rfl ?_
        refine T_iload_n (pc := 67) (i := 3) dX10_gather_67 rfl rfl ?_
        refine R_irem (pc := 68) ⟨hn0, by omega, by omega⟩ dX10_gather_68 ?_
        refine T_goto (pc := 69) (tgt := 97) dX10_gather_69 (by decide) ?_
        refine T_istore (pc := 97) (i := 11) (ls' := [some (.ref 97), some (.long (lN (cd l))), none, some (.int (nI l.length)), some (.int (nI R.length)), some (.int (nI (l.length * R.length))), some (.int (nI (if w.1 = 3 then 20 else 1))), some (.int (nI ((gaU R w l i).length))), some (.int (nI (nwS R l (gaU R w l i)))), some (.int (nI (enU (llR R) 0 (gaU R w l i)))), some (.int (nI i)), some (.int (nI (i % l.length))), none]) dX10_gather_97 (by decide) rfl ?_
        refine T_aload_n (pc := 99) (i := 0) dX10_gather_99 rfl rfl ?_
        refine R_getI (pc := 100) (x := nI w.1) fl_X10_47 rfl kc_97 lc_97 iE.2.2.1.1 dX10_gather_100 ?_
        refine T_iconst (pc := 103) (v := nI 2) dX10_gather_103 (by decide) ?_
        refine R_icmp_ne (pc := 104) (tgt := 114) (by omega) (by omega) dX10_gather_104 (by decide) (fun h5 => ?_) (fun h5 => ?_)
        · exact absurd h3 h5
        · skip
          refine T_iload (pc := 107) (i := 10) dX10_gather_107 rfl ?_
          refine T_iload_n (pc := 109) (i := 3) dX10_gather_109 rfl rfl ?_
          refine R_idiv (pc := 110) ⟨hn0, by omega, by omega⟩ dX10_gather_110 ?_
          refine T_goto (pc := 111) (tgt := 119) dX10_gather_111 (by decide) ?_
          refine T_istore (pc := 119) (i := 12) (ls' := [some (.ref 97), some (.long (lN (cd l))), none, some (.int (nI l.length)), some (.int (nI R.length)), some (.int (nI (l.length * R.length))), some (.int (nI (if w.1 = 3 then 20 else 1))), some (.int (nI ((gaU R w l i).length))), some (.int (nI (nwS R l (gaU R w l i)))), some (.int (nI (enU (llR R) 0 (gaU R w l i)))), some (.int (nI i)), some (.int (nI (i % l.length))), some (.int (nI (i / l.length)))]) dX10_gather_119 (by decide) rfl ?_
          exact tail _ _ (by unfold prQ; rw [if_pos h3]) hmn hdn
end GA

