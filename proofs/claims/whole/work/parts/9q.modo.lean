/-! THE MODEL: weights, one after the other -/
def srF (C : List Nat → Bool) (lo n : Nat) : List Nat → List Nat → Option (List Nat)
  | [], w => if C w = true then some w else none
  | b :: t, w => srE (srF C lo n t w) (srQ (fun v => srch C lo n t (w.set b v)) (lo + n - 1 - w.getD b 0) (w.getD b 0 + 1))
def lws (lo : Nat) : List Nat → List Nat → List Nat
  | [], w => w
  | b :: t, w => (lws lo t w).set b lo
def nxO (lo hi : Nat) : List Nat → List Nat → Option (List Nat)
  | [], _ => none
  | b :: t, w => match nxO lo hi t w with
    | some w' => some w'
    | none => if w.getD b 0 < hi then some ((lws lo t w).set b (w.getD b 0 + 1)) else none
theorem lws_len {lo : Nat} {w : List Nat} : ∀ {t : List Nat}, (lws lo t w).length = w.length
  | [] => rfl
  | b :: t => by
    show ((lws lo t w).set b lo).length = _
    rw [List.length_set, lws_len]
theorem lws_in {lo : Nat} {w : List Nat} {c : Nat} : ∀ {t : List Nat}, c ∈ t → c < w.length → (lws lo t w).getD c 0 = lo
  | [], h, _ => absurd h List.not_mem_nil
  | b :: t, h, hc => by
    show ((lws lo t w).set b lo).getD c 0 = lo
    rw [getD_set, lws_len]
    by_cases e : c = b
    · rw [if_pos ⟨e, by omega⟩]
    · rw [if_neg (fun z => e z.1)]
      rcases List.mem_cons.mp h with h | h
      · exact absurd h e
      · exact lws_in h hc
theorem lws_out {lo : Nat} {w : List Nat} {c : Nat} : ∀ {t : List Nat}, c ∉ t → (lws lo t w).getD c 0 = w.getD c 0
  | [], _ => rfl
  | b :: t, h => by
    show ((lws lo t w).set b lo).getD c 0 = _
    rw [getD_set, if_neg (fun z => h (by rw [z.1]; exact List.mem_cons_self))]
    exact lws_out (fun z => h (List.mem_cons_of_mem _ z))
theorem ndc {b : Nat} {t : List Nat} (h : ndL (b :: t)) : b ∉ t := nd_drop h (i := 0) (k := 1) (by omega)
theorem ndt {b : Nat} {t : List Nat} (h : ndL (b :: t)) : ndL t := fun i j h1 h2 => h (i + 1) (j + 1) (by omega) (by show j + 1 < t.length + 1; omega)
theorem nxO_get {lo hi : Nat} {w : List Nat} : ∀ {t w' : List Nat}, nxO lo hi t w = some w' → w'.length = w.length ∧ ∀ c, c ∉ t → w'.getD c 0 = w.getD c 0
  | [], w', h => by cases h
  | b :: t, w', h => by
    have h2 : (match nxO lo hi t w with | some w' => some w' | none => if w.getD b 0 < hi then some ((lws lo t w).set b (w.getD b 0 + 1)) else none) = some w' := h
    cases e : nxO lo hi t w with
    | some v =>
      rw [e] at h2
      cases h2
      have h3 := nxO_get e
      exact ⟨h3.1, fun c hc => h3.2 c (fun z => hc (List.mem_cons_of_mem _ z))⟩
    | none =>
      rw [e] at h2
      have h3 : (if w.getD b 0 < hi then some ((lws lo t w).set b (w.getD b 0 + 1)) else none) = some w' := h2
      by_cases g : w.getD b 0 < hi
      · rw [if_pos g] at h3
        cases h3
        refine ⟨by rw [List.length_set, lws_len], fun c hc => ?_⟩
        rw [getD_set, if_neg (fun z => hc (by rw [z.1]; exact List.mem_cons_self))]
        exact lws_out (fun z => hc (List.mem_cons_of_mem _ z))
      · rw [if_neg g] at h3
        cases h3
theorem nxO_le {lo hi H : Nat} {w : List Nat} (hl : lo ≤ H) (hh : hi ≤ H) (hw : ∀ c, w.getD c 0 ≤ H) : ∀ {t w' : List Nat}, nxO lo hi t w = some w' → ∀ c, w'.getD c 0 ≤ H
  | [], w', h => by cases h
  | b :: t, w', h => by
    have h2 : (match nxO lo hi t w with | some w' => some w' | none => if w.getD b 0 < hi then some ((lws lo t w).set b (w.getD b 0 + 1)) else none) = some w' := h
    cases e : nxO lo hi t w with
    | some v =>
      rw [e] at h2
      cases h2
      exact nxO_le hl hh hw e
    | none =>
      rw [e] at h2
      have h3 : (if w.getD b 0 < hi then some ((lws lo t w).set b (w.getD b 0 + 1)) else none) = some w' := h2
      by_cases g : w.getD b 0 < hi
      · rw [if_pos g] at h3
        cases h3
        intro c
        rw [getD_set]
        split
        · omega
        · by_cases e2 : c ∈ t
          · by_cases e3 : c < w.length
            · rw [lws_in e2 e3]
              exact hl
            · rw [List.getD_eq_getElem?_getD, List.getElem?_eq_none (by rw [lws_len]; omega)]
              exact Nat.zero_le _
          · rw [lws_out e2]
            exact hw c
      · rw [if_neg g] at h3
        cases h3
/-- those listed weigh at most so much -/
def Dg (hi : Nat) (t w : List Nat) : Prop := ∀ b ∈ t, b < w.length ∧ w.getD b 0 ≤ hi
theorem nxO_dg {lo hi : Nat} {w : List Nat} (hl : lo ≤ hi) : ∀ {t w' : List Nat}, ndL t → Dg hi t w → nxO lo hi t w = some w' → Dg hi t w'
  | [], w', _, _, h => by cases h
  | b :: t, w', nd, hd, h => by
    have h2 : (match nxO lo hi t w with | some w' => some w' | none => if w.getD b 0 < hi then some ((lws lo t w).set b (w.getD b 0 + 1)) else none) = some w' := h
    have hb := hd b List.mem_cons_self
    cases e : nxO lo hi t w with
    | some v =>
      rw [e] at h2
      cases h2
      have h3 := nxO_dg hl (ndt nd) (fun c hc => hd c (List.mem_cons_of_mem _ hc)) e
      have h4 := nxO_get e
      intro c hc
      rcases List.mem_cons.mp hc with rfl | hc
      · rw [h4.1, h4.2 _ (ndc nd)]
        exact hb
      · exact h3 c hc
    | none =>
      rw [e] at h2
      have h3 : (if w.getD b 0 < hi then some ((lws lo t w).set b (w.getD b 0 + 1)) else none) = some w' := h2
      by_cases g : w.getD b 0 < hi
      · rw [if_pos g] at h3
        cases h3
        intro c hc
        rw [List.length_set, lws_len, getD_set, lws_len]
        by_cases e2 : c = b
        · rw [if_pos ⟨e2, hb.1⟩, e2]
          exact ⟨hb.1, g⟩
        · rw [if_neg (fun z => e2 z.1)]
          rcases List.mem_cons.mp hc with z | hc
          · exact absurd z e2
          · have hc2 := (hd c (List.mem_cons_of_mem _ hc)).1
            rw [lws_in hc hc2]
            exact ⟨hc2, hl⟩
      · rw [if_neg g] at h3
        cases h3
theorem srF_low {C : List Nat → Bool} {lo n : Nat} (hn : 1 ≤ n) {w : List Nat} : ∀ {t : List Nat}, (∀ b ∈ t, w.getD b 0 = lo) → srF C lo n t w = srch C lo n t w
  | [], _ => rfl
  | b :: t, h => by
    have hb := h b List.mem_cons_self
    have ih := srF_low (C := C) hn (fun c hc => h c (List.mem_cons_of_mem _ hc))
    obtain ⟨f, rfl⟩ : ∃ f, n = f + 1 := ⟨n - 1, by omega⟩
    show srE (srF C lo (f + 1) t w) (srQ (fun v => srch C lo (f + 1) t (w.set b v)) (lo + (f + 1) - 1 - w.getD b 0) (w.getD b 0 + 1)) = srQ (fun v => srch C lo (f + 1) t (w.set b v)) (f + 1) lo
    rw [srQ_s, ih, hb, show lo + (f + 1) - 1 - lo = f by omega]
    have e : srch C lo (f + 1) t w = srch C lo (f + 1) t (w.set b lo) := srch_congr (by rw [List.length_set]) (fun c _ => by
      rw [getD_set]
      split
      · next z => rw [z.1]; exact hb
      · rfl)
    rw [e]
theorem srF_next {C : List Nat → Bool} {lo n : Nat} (hn : 1 ≤ n) {w : List Nat} (hC : C w = false) : ∀ {t : List Nat}, ndL t → Dg (lo + n - 1) t w → srF C lo n t w = (nxO lo (lo + n - 1) t w).bind (srF C lo n t)
  | [], _, _ => by
    show (if C w = true then some w else none) = none
    rw [hC]
    rfl
  | b :: t, nd, hd => by
    have hbt := ndc nd
    have ih := srF_next (C := C) (lo := lo) hn hC (ndt nd) (fun c hc => hd c (List.mem_cons_of_mem _ hc))
    have hb := hd b List.mem_cons_self
    show srE (srF C lo n t w) (srQ (fun v => srch C lo n t (w.set b v)) (lo + n - 1 - w.getD b 0) (w.getD b 0 + 1)) = (match nxO lo (lo + n - 1) t w with | some w' => some w' | none => if w.getD b 0 < lo + n - 1 then some ((lws lo t w).set b (w.getD b 0 + 1)) else none).bind (srF C lo n (b :: t))
    rw [ih]
    cases e : nxO lo (lo + n - 1) t w with
    | some v =>
      have hg := nxO_get e
      show srE (srF C lo n t v) (srQ (fun v => srch C lo n t (w.set b v)) (lo + n - 1 - w.getD b 0) (w.getD b 0 + 1)) = srE (srF C lo n t v) (srQ (fun u => srch C lo n t (v.set b u)) (lo + n - 1 - v.getD b 0) (v.getD b 0 + 1))
      rw [hg.2 b hbt]
      have eg : (fun u => srch C lo n t (w.set b u)) = (fun u => srch C lo n t (v.set b u)) := funext (fun u => srch_congr (by rw [List.length_set, List.length_set, hg.1]) (fun c hc => by rw [getD_set, getD_set, hg.1, hg.2 c hc]))
      rw [eg]
    | none =>
      show srQ (fun v => srch C lo n t (w.set b v)) (lo + n - 1 - w.getD b 0) (w.getD b 0 + 1) = (if w.getD b 0 < lo + n - 1 then some ((lws lo t w).set b (w.getD b 0 + 1)) else none).bind (srF C lo n (b :: t))
      by_cases g : w.getD b 0 < lo + n - 1
      · rw [if_pos g]
        obtain ⟨v, ev⟩ : ∃ v, v = (lws lo t w).set b (w.getD b 0 + 1) := ⟨_, rfl⟩
        rw [← ev]
        have vl : v.length = w.length := by rw [ev, List.length_set, lws_len]
        have vb : v.getD b 0 = w.getD b 0 + 1 := by rw [ev, getD_set, if_pos ⟨rfl, by rw [lws_len]; exact hb.1⟩]
        have vt : ∀ c ∈ t, v.getD c 0 = lo := fun c hc => by
          rw [ev, getD_set, if_neg (fun z => hbt (by rw [← z.1]; exact hc))]
          exact lws_in hc (hd c (List.mem_cons_of_mem _ hc)).1
        have vo : ∀ c, c ∉ t → c ≠ b → v.getD c 0 = w.getD c 0 := fun c hc h => by
          rw [ev, getD_set, if_neg (fun z => h z.1)]
          exact lws_out hc
        show _ = srE (srF C lo n t v) (srQ (fun u => srch C lo n t (v.set b u)) (lo + n - 1 - v.getD b 0) (v.getD b 0 + 1))
        have e1 : srF C lo n t v = srch C lo n t (w.set b (w.getD b 0 + 1)) := by
          rw [srF_low hn vt]
          exact srch_congr (by rw [List.length_set, vl]) (fun c hc => by
            rw [getD_set]
            by_cases z : c = b
            · rw [if_pos ⟨z, hb.1⟩, z]
              exact vb
            · rw [if_neg (fun y => z y.1)]
              exact vo c hc z)
        have eg : (fun u => srch C lo n t (v.set b u)) = (fun u => srch C lo n t (w.set b u)) := funext (fun u => srch_congr (by rw [List.length_set, List.length_set, vl]) (fun c hc => by
          rw [getD_set, getD_set, vl]
          by_cases z : c = b
          · rw [if_pos ⟨z, hb.1⟩, if_pos ⟨z, hb.1⟩]
          · rw [if_neg (fun y => z y.1), if_neg (fun y => z y.1)]
            exact vo c hc z))
        rw [e1, eg, vb, show lo + n - 1 - w.getD b 0 = (lo + n - 1 - (w.getD b 0 + 1)) + 1 by omega, srQ_s]
      · rw [if_neg g, show lo + n - 1 - w.getD b 0 = 0 by omega]
        rfl
def mea (lo n : Nat) : List Nat → List Nat → Nat
  | [], _ => 0
  | b :: t, w => (lo + n - 1 - w.getD b 0) * n ^ t.length + mea lo n t w
theorem mea_low {lo n : Nat} (hn : 1 ≤ n) {w : List Nat} : ∀ {t : List Nat}, (∀ b ∈ t, w.getD b 0 = lo) → mea lo n t w + 1 = n ^ t.length
  | [], _ => rfl
  | b :: t, h => by
    have ih := mea_low hn (fun c hc => h c (List.mem_cons_of_mem _ hc))
    obtain ⟨f, rfl⟩ : ∃ f, n = f + 1 := ⟨n - 1, by omega⟩
    show (lo + (f + 1) - 1 - w.getD b 0) * (f + 1) ^ t.length + mea lo (f + 1) t w + 1 = (f + 1) ^ (t.length + 1)
    rw [h b List.mem_cons_self, show lo + (f + 1) - 1 - lo = f by omega, Nat.pow_succ, Nat.mul_succ, Nat.mul_comm ((f + 1) ^ t.length) f]
    omega
theorem mea_next {lo n : Nat} (hn : 1 ≤ n) {w : List Nat} : ∀ {t w' : List Nat}, ndL t → Dg (lo + n - 1) t w → nxO lo (lo + n - 1) t w = some w' → mea lo n t w' < mea lo n t w
  | [], w', _, _, h => by cases h
  | b :: t, w', nd, hd, h => by
    have h2 : (match nxO lo (lo + n - 1) t w with | some w' => some w' | none => if w.getD b 0 < lo + n - 1 then some ((lws lo t w).set b (w.getD b 0 + 1)) else none) = some w' := h
    have hb := hd b List.mem_cons_self
    have hbt := ndc nd
    show (lo + n - 1 - w'.getD b 0) * n ^ t.length + mea lo n t w' < (lo + n - 1 - w.getD b 0) * n ^ t.length + mea lo n t w
    cases e : nxO lo (lo + n - 1) t w with
    | some v =>
      rw [e] at h2
      cases h2
      have h3 := mea_next hn (ndt nd) (fun c hc => hd c (List.mem_cons_of_mem _ hc)) e
      rw [(nxO_get e).2 b hbt]
      omega
    | none =>
      rw [e] at h2
      have h3 : (if w.getD b 0 < lo + n - 1 then some ((lws lo t w).set b (w.getD b 0 + 1)) else none) = some w' := h2
      by_cases g : w.getD b 0 < lo + n - 1
      · rw [if_pos g] at h3
        cases h3
        have vb : ((lws lo t w).set b (w.getD b 0 + 1)).getD b 0 = w.getD b 0 + 1 := by rw [getD_set, if_pos ⟨rfl, by rw [lws_len]; exact hb.1⟩]
        have vt : ∀ c ∈ t, ((lws lo t w).set b (w.getD b 0 + 1)).getD c 0 = lo := fun c hc => by
          rw [getD_set, if_neg (fun z => hbt (by rw [← z.1]; exact hc))]
          exact lws_in hc (hd c (List.mem_cons_of_mem _ hc)).1
        have h5 := mea_low hn vt
        rw [vb, show lo + n - 1 - w.getD b 0 = (lo + n - 1 - (w.getD b 0 + 1)) + 1 by omega, Nat.succ_mul]
        omega
      · rw [if_neg g] at h3
        cases h3
/-- all behind weigh most: the next ones -/
theorem nxO_top {lo hi : Nat} {w : List Nat} : ∀ {t : List Nat}, (∀ b ∈ t, ¬ w.getD b 0 < hi) → nxO lo hi t w = none
  | [], _ => rfl
  | b :: t, h => by
    show (match nxO lo hi t w with | some w' => some w' | none => if w.getD b 0 < hi then some ((lws lo t w).set b (w.getD b 0 + 1)) else none) = none
    rw [nxO_top (fun c hc => h c (List.mem_cons_of_mem _ hc))]
    exact if_neg (h b List.mem_cons_self)
theorem nxO_at {lo hi : Nat} {w t : List Nat} {b : Nat} (ht : ∀ c ∈ t, ¬ w.getD c 0 < hi) (hb : w.getD b 0 < hi) : ∀ {p : List Nat}, nxO lo hi (p ++ b :: t) w = some ((lws lo t w).set b (w.getD b 0 + 1))
  | [] => by
    show (match nxO lo hi t w with | some w' => some w' | none => if w.getD b 0 < hi then some ((lws lo t w).set b (w.getD b 0 + 1)) else none) = _
    rw [nxO_top ht]
    exact if_pos hb
  | a :: p => by
    show (match nxO lo hi (p ++ b :: t) w with | some w' => some w' | none => if w.getD a 0 < hi then some ((lws lo (p ++ b :: t) w).set a (w.getD a 0 + 1)) else none) = _
    rw [nxO_at ht hb (p := p)]
/-- what l weighs, one after the other -/
theorem wg_wt {w : List Nat} : ∀ {l : List Nat} {k : Nat}, k ≤ l.length → wgN w l k = wtS w (l.take k)
  | l, 0, _ => by rw [List.take_zero]; rfl
  | l, k + 1, h => by
    have ih := wg_wt (w := w) (l := l) (k := k) (by omega)
    show wgN w l k + w.getD (l.getD k 0) 0 = _
    have e1 : l[k]? = some (l.getD k 0) := by
      rw [List.getD_eq_getElem?_getD, List.getElem?_eq_getElem (show k < l.length by omega)]
      rfl
    rw [List.take_succ, ih, e1]
    unfold wtS
    rw [List.map_append, List.sum_append]
    rfl

