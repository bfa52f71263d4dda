/-! THE MODEL: WAY all -/
theorem chU_app {ll : Nat → Nat} {n many : Nat} : ∀ {U V : List (Nat × Nat)} {b : Nat}, chU ll n many b (U ++ V) ↔ chU ll n many b U ∧ chU ll n many (enU ll b U) V
  | [], V, b => ⟨fun h => ⟨trivial, h⟩, fun h => h.2⟩
  | q :: t, V, b => by
    have ih := chU_app (ll := ll) (n := n) (many := many) (U := t) (V := V) (b := q.1 + ll q.2)
    constructor
    · intro h
      have h2 := ih.mp h.2.2.2
      exact ⟨⟨h.1, h.2.1, h.2.2.1, h2.1⟩, h2.2⟩
    · intro h
      exact ⟨h.1.1, h.1.2.1, h.1.2.2.1, ih.mpr ⟨h.1.2.2.2, h.2⟩⟩
theorem chU_n {ll : Nat → Nat} {n n' many : Nat} : ∀ {U : List (Nat × Nat)} {b : Nat}, chU ll n many b U → enU ll b U ≤ n' → chU ll n' many b U
  | [], b, _, _ => trivial
  | q :: t, b, h, he => by
    have e1 := chU_en h.2.2.2 h.2.1
    have he2 : enU ll (q.1 + ll q.2) t ≤ n' := he
    exact ⟨h.1, by have := e1.1; omega, h.2.2.1, chU_n (U := t) h.2.2.2 he2⟩
theorem enU_app {ll : Nat → Nat} {b : Nat} {U V : List (Nat × Nat)} : enU ll b (U ++ V) = enU ll (enU ll b U) V := by
  unfold enU
  rw [List.foldl_append]
theorem enU_ne {ll : Nat → Nat} {b b' : Nat} : ∀ {U : List (Nat × Nat)}, U ≠ [] → enU ll b U = enU ll b' U
  | [], h => absurd rfl h
  | _ :: _, _ => rfl
theorem sL_app {ll : Nat → Nat} {U V : List (Nat × Nat)} : sL ll (U ++ V) = sL ll U + sL ll V := by
  unfold sL
  rw [List.map_append, List.sum_append]
theorem chU_cnt {ll : Nat → Nat} {n many : Nat} (h1 : ∀ r, r < many → 1 ≤ ll r) : ∀ {U : List (Nat × Nat)} {b : Nat}, chU ll n many b U → U.length ≤ sL ll U
  | [], _, _ => Nat.le_refl _
  | q :: t, b, h => by
    have ih := chU_cnt h1 (U := t) h.2.2.2
    have h2 := h1 _ h.2.2.1
    have e : sL ll (q :: t) = ll q.2 + sL ll t := by unfold sL; simp
    rw [e, List.length_cons]
    omega
/-- longer ahead of no more uses -/
theorem aftG_more {α : Type} {ll : Nat → Nat} {rr : Nat → List α} {l : List α} {many k k' : Nat} (hk : k ≤ k') : ∀ {U : List (Nat × Nat)} {p : Nat}, chU ll k many p U → p ≤ k → k ≤ l.length → aftG ll rr (l.take k') U p = aftG ll rr (l.take k) U p ++ (l.take k').drop k
  | [], p, _, hp, hl => by
    show (l.take k').drop p = (l.take k).drop p ++ (l.take k').drop k
    have e1 : l.take k = (l.take k').take k := by rw [List.take_take, Nat.min_eq_left hk]
    rw [e1]
    have e2 : (l.take k').drop k = ((l.take k').drop p).drop (k - p) := by rw [List.drop_drop]; congr 1; omega
    have e3 : ((l.take k').take k).drop p = ((l.take k').drop p).take (k - p) := by rw [List.drop_take]
    rw [e2, e3, List.take_append_drop]
  | q :: t, p, h, hp, hl => by
    have ih := aftG_more (l := l) (rr := rr) hk (U := t) h.2.2.2 h.2.1 hl
    have hq : q.1 ≤ k := by have := h.2.1; omega
    show ((l.take k').take q.1).drop p ++ rr q.2 ++ aftG ll rr (l.take k') t (q.1 + ll q.2) = ((l.take k).take q.1).drop p ++ rr q.2 ++ aftG ll rr (l.take k) t (q.1 + ll q.2) ++ (l.take k').drop k
    rw [ih, List.take_take, List.take_take, Nat.min_eq_left hq, Nat.min_eq_left (Nat.le_trans hq hk)]
    simp only [List.append_assoc]
/-- one use more, at the end -/
theorem aftG_snoc {α : Type} {ll : Nat → Nat} {rr : Nat → List α} {l : List α} {many k k' r : Nat} (hk : k ≤ k') : ∀ {U : List (Nat × Nat)} {p : Nat}, chU ll k many p U → p ≤ k → k ≤ l.length → aftG ll rr (l.take k') (U ++ [(k, r)]) p = aftG ll rr (l.take k) U p ++ rr r ++ (l.take k').drop (k + ll r)
  | [], p, _, hp, hl => by
    show ((l.take k').take k).drop p ++ rr r ++ (l.take k').drop (k + ll r) = (l.take k).drop p ++ rr r ++ (l.take k').drop (k + ll r)
    rw [List.take_take, Nat.min_eq_left hk]
  | q :: t, p, h, hp, hl => by
    have ih := aftG_snoc (l := l) (rr := rr) (r := r) hk (U := t) h.2.2.2 h.2.1 hl
    have hq : q.1 ≤ k := by have := h.2.1; omega
    show ((l.take k').take q.1).drop p ++ rr q.2 ++ aftG ll rr (l.take k') (t ++ [(k, r)]) (q.1 + ll q.2) = ((l.take k).take q.1).drop p ++ rr q.2 ++ aftG ll rr (l.take k) t (q.1 + ll q.2) ++ rr r ++ (l.take k').drop (k + ll r)
    rw [ih, List.take_take, List.take_take, Nat.min_eq_left hq, Nat.min_eq_left (Nat.le_trans hq hk)]
    simp only [List.append_assoc]
theorem lr_no {R : List Ru} {w : Wk} {l : List Nat} {p : Nat} (h : lrR R w l p = none) : ∀ r, r < R.length → fitB R w l r p = false := fun r hr => by
  cases e : fitB R w l r p with
  | false => rfl
  | true =>
    have key : ∀ f i, i ≤ r → r < i + f → ff (fsG R w l p) i f ≠ none := by
      intro f
      induction f with
      | zero => intro i h1 h2; omega
      | succ f ih =>
        intro i h1 h2
        rw [ff_e]
        by_cases g : i = r
        · rw [g, show fsG R w l p r = some r by unfold fsG; rw [e]; rfl]
          exact fun z => by cases z
        · cases e2 : fsG R w l p i with
          | some a => exact fun z => by cases z
          | none => exact ih (i + 1) (by omega) (by omega)
    exact absurd h (key R.length 0 (Nat.zero_le _) (by omega))
theorem lr_so {R : List Ru} {w : Wk} {l : List Nat} {p r : Nat} (h : lrR R w l p = some r) : r < R.length ∧ fitB R w l r p = true ∧ ∀ q, q < r → fitB R w l q p = false := by
  have key : ∀ f i, (∀ q, q < i → fitB R w l q p = false) → ff (fsG R w l p) i f = some r → r < i + f ∧ fitB R w l r p = true ∧ ∀ q, q < r → fitB R w l q p = false := by
    intro f
    induction f with
    | zero => intro i _ h; cases h
    | succ f ih =>
      intro i hi h
      rw [ff_e] at h
      cases e : fitB R w l i p with
      | true =>
        rw [show fsG R w l p i = some i by unfold fsG; rw [e]; rfl] at h
        cases h
        exact ⟨by omega, e, hi⟩
      | false =>
        rw [show fsG R w l p i = none by unfold fsG; rw [e]; rfl] at h
        have h9 := ih (i + 1) (fun q hq => by
          by_cases g : q = i
          · rw [g]; exact e
          · exact hi q (by omega)) h
        exact ⟨by have := h9.1; omega, h9.2⟩
  have h9 := key R.length 0 (fun q hq => absurd hq (Nat.not_lt_zero _)) h
  exact ⟨by have := h9.1; omega, h9.2⟩
section GK
variable {R : List Ru} {w : Wk} {l : List Nat}
abbrev gaK (R : List Ru) (w : Wk) (l : List Nat) (k : Nat) : List (Nat × Nat) := gaU R w l (k * R.length)
theorem prK {k r : Nat} (h3 : w.1 = 3) (hr : r < R.length) : prQ w.1 l.length R.length (k * R.length + r) = (k, r) := by
  unfold prQ
  rw [if_neg (by omega), if_neg (by omega), Nat.mul_comm, Nat.mul_add_div (by omega), Nat.div_eq_of_lt hr, Nat.mul_add_mod, Nat.mod_eq_of_lt hr]
  rfl
theorem gaK_sk {k : Nat} (h3 : w.1 = 3) (hf : ∀ r, r < R.length → fitB R w l r k = false) : ∀ r, r ≤ R.length → gaU R w l (k * R.length + r) = gaK R w l k
  | 0, _ => rfl
  | r + 1, h => by
    show gaU R w l (k * R.length + r + 1) = _
    rw [gaU_s, prK h3 (by omega), gaK_sk h3 hf r (by omega), if_neg (fun z => by rw [hf r (by omega)] at z; exact Bool.noConfusion z.2.2)]
theorem gaK_no {k : Nat} (h3 : w.1 = 3) (hf : ∀ r, r < R.length → fitB R w l r k = false) : gaK R w l (k + 1) = gaK R w l k := by
  have := gaK_sk h3 hf R.length (Nat.le_refl _)
  show gaU R w l ((k + 1) * R.length) = _
  rw [Nat.succ_mul]
  exact this
theorem gaK_lt {k r : Nat} (h3 : w.1 = 3) (hf : ∀ q, q < r → fitB R w l q k = false) : ∀ q, q ≤ r → q ≤ R.length → gaU R w l (k * R.length + q) = gaK R w l k
  | 0, _, _ => rfl
  | q + 1, h, h2 => by
    show gaU R w l (k * R.length + q + 1) = _
    rw [gaU_s, prK h3 (by omega), gaK_lt h3 hf q (by omega) (by omega), if_neg (fun z => by rw [hf q (by omega)] at z; exact Bool.noConfusion z.2.2)]
/-- nothing more ahead of the end of the last use -/
theorem gaK_st {i : Nat} (h3 : w.1 = 3) (hN : 0 < R.length) : ∀ j, (i + j) ≤ enU (llR R) 0 (gaU R w l i) * R.length → gaU R w l (i + j) = gaU R w l i
  | 0, _ => rfl
  | j + 1, h => by
    have ih := gaK_st (i := i) h3 hN j (by omega)
    show gaU R w l (i + j + 1) = _
    have hd : (i + j) / R.length < enU (llR R) 0 (gaU R w l i) := Nat.div_lt_of_lt_mul (by rw [Nat.mul_comm]; omega)
    rw [gaU_s, ih, if_neg]
    intro z
    have z2 := z.2.1
    unfold prQ at z2
    rw [if_neg (by omega), if_neg (by omega)] at z2
    have z3 : enU (llR R) 0 (gaU R w l i) ≤ (i + j) / R.length := z2
    omega
theorem gaK_yes {k r : Nat} (h3 : w.1 = 3) (h1 : ∀ r, r < R.length → 1 ≤ llR R r) (hl : l.length ≤ 20) (hk : k < l.length) (he : enU (llR R) 0 (gaK R w l k) ≤ k) (hr : r < R.length) (hf : fitB R w l r k = true) (hf2 : ∀ q, q < r → fitB R w l q k = false) : gaK R w l (k + llR R r) = gaK R w l k ++ [(k, r)] := by
  have hkN : k * R.length ≤ l.length * R.length := Nat.mul_le_mul_right _ (by omega)
  have e1 := gaK_lt h3 hf2 r (Nat.le_refl _) (by omega)
  have hch : chU (llR R) l.length R.length 0 (gaK R w l k) := gaU_ok hkN
  have hen := chU_en hch (Nat.zero_le _)
  have hcn := chU_cnt h1 hch
  have e2 : gaU R w l (k * R.length + r + 1) = gaK R w l k ++ [(k, r)] := by
    rw [gaU_s, prK h3 hr, e1, if_pos]
    refine ⟨?_, he, hf⟩
    rw [if_pos h3]
    omega
  have he2 : enU (llR R) 0 (gaU R w l (k * R.length + r + 1)) = k + llR R r := by rw [e2, enU_snoc]
  have hr1 := h1 r hr
  have hle : (k + 1) * R.length ≤ (k + llR R r) * R.length := Nat.mul_le_mul_right _ (by omega)
  rw [Nat.succ_mul] at hle
  have e3 := gaK_st (R := R) (w := w) (l := l) (i := k * R.length + r + 1) h3 (by omega) ((k + llR R r) * R.length - (k * R.length + r + 1)) (by rw [he2]; omega)
  rw [show k * R.length + r + 1 + ((k + llR R r) * R.length - (k * R.length + r + 1)) = (k + llR R r) * R.length by omega, e2] at e3
  exact e3
/-- what comes later comes behind -/
theorem gaK_ext {k : Nat} (h3 : w.1 = 3) (hk : k ≤ l.length) : ∀ j, k * R.length + j ≤ l.length * R.length → ∃ E, gaU R w l (k * R.length + j) = gaK R w l k ++ E ∧ chU (llR R) l.length R.length k E
  | 0, _ => ⟨[], by rw [List.append_nil, Nat.add_zero], trivial⟩
  | j + 1, h => by
    obtain ⟨E, e, hE⟩ := gaK_ext h3 hk j (by omega)
    show ∃ E, gaU R w l (k * R.length + j + 1) = gaK R w l k ++ E ∧ _
    rw [gaU_s]
    by_cases g : (gaU R w l (k * R.length + j)).length < (if w.1 = 3 then 20 else 1) ∧ enU (llR R) 0 (gaU R w l (k * R.length + j)) ≤ (prQ w.1 l.length R.length (k * R.length + j)).1 ∧ fitB R w l (prQ w.1 l.length R.length (k * R.length + j)).2 (prQ w.1 l.length R.length (k * R.length + j)).1 = true
    · rw [if_pos g, e]
      refine ⟨E ++ [prQ w.1 l.length R.length (k * R.length + j)], by rw [List.append_assoc], chU_snoc hE ?_ (fitB_get g.2.2).2.1 ?_⟩
      · by_cases hE0 : E = []
        · rw [hE0]
          show k ≤ _
          have hN : 0 < R.length := by
            rcases Nat.eq_zero_or_pos R.length with z | z
            · rw [z, Nat.mul_zero, Nat.mul_zero] at h
              omega
            · exact z
          unfold prQ
          rw [if_neg (by omega), if_neg (by omega)]
          show k ≤ (k * R.length + j) / R.length
          rw [Nat.le_div_iff_mul_le hN]
          omega
        · have g2 := g.2.1
          rw [e, enU_app, enU_ne (b' := k) hE0] at g2
          exact g2
      · have hN : 0 < R.length := by
          rcases Nat.eq_zero_or_pos R.length with z | z
          · rw [z, Nat.mul_zero, Nat.mul_zero] at h
            omega
          · exact z
        unfold prQ
        rw [if_neg (by omega), if_neg (by omega)]
        exact Nat.mod_lt _ hN
    · rw [if_neg g]
      exact ⟨E, e, hE⟩
/-- as long as it is so far, or longer, it is at the end -/
theorem gaK_big {k : Nat} (h3 : w.1 = 3) (hk : k ≤ l.length) (h : 20 < k + sL (fun r => (rrR R r).length) (gaK R w l k) - sL (llR R) (gaK R w l k)) : gaR R w l = [] := by
  have hkN : k * R.length ≤ l.length * R.length := Nat.mul_le_mul_right _ hk
  obtain ⟨E, e, hE⟩ := gaK_ext (R := R) (w := w) (l := l) h3 hk (l.length * R.length - k * R.length) (by omega)
  rw [show k * R.length + (l.length * R.length - k * R.length) = l.length * R.length by omega] at e
  have hen := chU_en hE hk
  unfold gaR
  rw [if_neg]
  unfold nwS
  rw [e, sL_app, sL_app]
  omega
/-- so far -/
def afK (R : List Ru) (w : Wk) (l : List Nat) (k : Nat) : List Nat := aftG (llR R) (rrR R) (l.take k) (gaK R w l k) 0
theorem afK_len {k : Nat} (hk : k ≤ l.length) (he : enU (llR R) 0 (gaK R w l k) ≤ k) : (afK R w l k).length = k + sL (fun r => (rrR R r).length) (gaK R w l k) - sL (llR R) (gaK R w l k) := by
  have hkN : k * R.length ≤ l.length * R.length := Nat.mul_le_mul_right _ hk
  have hch := chU_n (gaU_ok (R := R) (w := w) (l := l) hkN) he
  have e : (l.take k).length = k := by rw [List.length_take]; omega
  have h1 := aftG_len (ll := llR R) (rr := rrR R) (l := l.take k) (U := gaK R w l k) (p := 0) (by rw [e]; exact hch) (Nat.zero_le _)
  rw [e] at h1
  unfold afK
  omega
theorem afK_ok {k : Nat} (hl : okb l) (hR : ∀ i, i < R.length → okR (rAt R i)) (hk : k ≤ l.length) : okb (afK R w l k) :=
  aftG_ok (okb_take hl) (fun r hr => (hR r hr).2.2.2.1) (gaU_ok (R := R) (w := w) (l := l) (Nat.mul_le_mul_right _ hk))
theorem afK_no {k : Nat} (h3 : w.1 = 3) (hk : k < l.length) (he : enU (llR R) 0 (gaK R w l k) ≤ k) (hf : ∀ r, r < R.length → fitB R w l r k = false) : afK R w l (k + 1) = afK R w l k ++ [l.getD k 0] := by
  have hkN : k * R.length ≤ l.length * R.length := Nat.mul_le_mul_right _ (by omega)
  have hch := chU_n (gaU_ok (R := R) (w := w) (l := l) hkN) he
  unfold afK
  rw [gaK_no h3 hf, aftG_more (k := k) (k' := k + 1) (by omega) hch (Nat.zero_le _) (by omega)]
  congr 1
  rw [take_s 0 hk, List.drop_append_of_le_length (by rw [List.length_take]; omega), List.drop_of_length_le (by rw [List.length_take]; omega)]
  rfl
theorem afK_yes {k r : Nat} (h3 : w.1 = 3) (h1 : ∀ r, r < R.length → 1 ≤ llR R r) (hl : l.length ≤ 20) (hk : k < l.length) (he : enU (llR R) 0 (gaK R w l k) ≤ k) (hr : r < R.length) (hf : fitB R w l r k = true) (hf2 : ∀ q, q < r → fitB R w l q k = false) : afK R w l (k + llR R r) = afK R w l k ++ rrR R r := by
  have hkN : k * R.length ≤ l.length * R.length := Nat.mul_le_mul_right _ (by omega)
  have hch := chU_n (gaU_ok (R := R) (w := w) (l := l) hkN) he
  unfold afK
  rw [gaK_yes h3 h1 hl hk he hr hf hf2, aftG_snoc (k := k) (k' := k + llR R r) (by omega) hch (Nat.zero_le _) (by omega), List.drop_of_length_le (l := l.take (k + llR R r)) (by rw [List.length_take]; omega), List.append_nil]
end GK
section MF3
variable {γ : Ga} {μ : SM2}
theorem m_allAtOnce {R : List Ru} {LL : List (List Int32)} {w : Wk} {l : List Nat} (hE : mEnv μ R LL w) (hl : Mw l) (h3 : w.1 = 3) : Ex γ 10 0 0 M_X12_allAtOnce [.ref 572, .long (lN (cd l))] (rm μ) (Rm (some (.long (vO (nxR R w l)))) (fun m => OfS S9 μ m)) := by
  have h20 := hl.1
  have hok := hE.1.2.1
  have h1 : ∀ r, r < R.length → 1 ≤ llR R r := fun r hr => (hok r hr).2.1
  refine Ex.of (by decide +kernel) rfl (Nat.le_of_ble_eq_true rfl) ?_
  show T _ _ _ _ _ _ _ _ _ [some (.ref 572), some (.long (lN (cd l))), none, none, none, none, none, none, none, none] [] (rm μ)
  refine T_lconst (pc := 0) (v := lN 1) dX12_allAtOnce_0 rfl ?_
  refine T_lstore_n (pc := 1) (i := 3) (ls' := [some (.ref 572), some (.long (lN (cd l))), none, some (.long (lN 1)), none, none, none, none, none, none]) dX12_allAtOnce_1 rfl (by decide) rfl ?_
  refine T_iconst (pc := 2) (v := nI 0) dX12_allAtOnce_2 (by decide) ?_
  refine T_istore (pc := 3) (i := 5) (ls' := [some (.ref 572), some (.long (lN (cd l))), none, some (.long (lN 1)), none, some (.int (nI 0)), none, none, none, none]) dX12_allAtOnce_3 (by decide) rfl ?_
  refine T_iconst (pc := 5) (v := nI 0) dX12_allAtOnce_5 (by decide) ?_
  refine T_istore (pc := 6) (i := 6) (ls' := [some (.ref 572), some (.long (lN (cd l))), none, some (.long (lN 1)), none, some (.int (nI 0)), some (.int (nI 0)), none, none, none]) dX12_allAtOnce_6 (by decide) rfl ?_
  have fin : ∀ (k : Nat) (m : SM2), k = l.length → enU (llR R) 0 (gaK R w l k) ≤ k → (afK R w l k).length ≤ 20 → OfS S9 μ m → T γ 10 0 0 M_X12_allAtOnce (Rm (some (.long (vO (nxR R w l)))) (fun m => OfS S9 μ m)) 0 0 115 [some (.ref 572), some (.long (lN (cd l))), none, some (.long (lN (cd (afK R w l k)))), none, some (.int (bI (decide ((gaK R w l k).length ≠ 0)))), some (.int (nI k)), none, none, none] [] (rm m) := fun k m ek he hlen hO => by
    subst ek
    have eU : gaR R w l = gaK R w l l.length := by
      unfold gaR
      rw [if_pos]
      have := afK_len (R := R) (w := w) (l := l) (Nat.le_refl _) he
      show l.length + sL (fun r => (rrR R r).length) (gaK R w l l.length) - sL (llR R) (gaK R w l l.length) ≤ 20
      omega
    have eA : afK R w l l.length = aftW R l (gaK R w l l.length) := by
      unfold afK aftW
      rw [List.take_length]
    refine T_iload (pc := 115) (i := 5) dX12_allAtOnce_115 rfl ?_
    refine R_ifb_eq (pc := 117) (tgt := 124) dX12_allAtOnce_117 (by decide) (fun g2 => ?_) (fun g2 => ?_)
    · skip
      refine T_ldc2 (pc := 124) dX12_allAtOnce_124 cn_X12_171 ?_
      have e : nxR R w l = none := by
        unfold nxR
        rw [eU, if_pos (by simpa using g2)]
      rw [e]
      exact T_lret dX12_allAtOnce_127 rfl (Nat.le_refl _) (Nat.le_refl _) ⟨_, rfl, rfl, hO⟩
    · skip
      refine T_lload_n (pc := 120) (i := 3) dX12_allAtOnce_120 rfl rfl ?_
      refine T_goto (pc := 121) (tgt := 127) dX12_allAtOnce_121 (by decide) ?_
      have e : nxR R w l = some (afK R w l l.length) := by
        unfold nxR
        rw [eU, if_neg (by simpa using g2), eA]
      rw [e]
      exact T_lret dX12_allAtOnce_127 rfl (Nat.le_refl _) (Nat.le_refl _) ⟨_, rfl, rfl, hO⟩
  suffices loop : ∀ (f k : Nat) (m : SM2), l.length ≤ k + f → k ≤ l.length → enU (llR R) 0 (gaK R w l k) ≤ k → (afK R w l k).length ≤ 20 → OfS S9 μ m → T γ 10 0 0 M_X12_allAtOnce (Rm (some (.long (vO (nxR R w l)))) (fun m => OfS S9 μ m)) 0 0 8 [some (.ref 572), some (.long (lN (cd l))), none, some (.long (lN (cd (afK R w l k)))), none, some (.int (bI (decide ((gaK R w l k).length ≠ 0)))), some (.int (nI k)), none, none, none] [] (rm m) by
    have e0 : gaK R w l 0 = [] := by unfold gaK; rw [Nat.zero_mul]; rfl
    have e1 : afK R w l 0 = [] := by unfold afK; rw [e0]; rfl
    have h9 := loop l.length 0 μ (by omega) (Nat.zero_le _) (by rw [e0]; exact Nat.le_refl _) (by rw [e1]; exact Nat.zero_le _) (OfS.refl _ _)
    rw [e0, e1] at h9
    exact h9
  intro f
  induction f with
  | zero =>
    intro k m hk hk2 he hlen hO
    refine T_iload (pc := 8) (i := 6) dX12_allAtOnce_8 rfl ?_
    refine T_lload_n (pc := 10) (i := 1) dX12_allAtOnce_10 rfl rfl ?_
    refine R_callS1 (pc := 11) (av := [.long (lN (cd l))]) (rest := [.int (nI k)]) (Or.inl lk_X12_13) mk_X12_size (m_size hl) dX12_allAtOnce_11 rfl rfl (Nat.le_of_ble_eq_true rfl) (by decide) rfl (Nat.le_refl _) (Nat.le_refl _) ?_
    refine R_icmp_ge (pc := 14) (tgt := 115) (by omega) (by omega) dX12_allAtOnce_14 (by decide) (fun g1 => ?_) (fun g1 => ?_)
    · exact fin k m (by omega) he hlen hO
    · exact absurd g1 (by omega)
  | succ f ih =>
    intro k m hk hk2 he hlen hO
    have hE2 := hE.s9 hO
    refine T_iload (pc := 8) (i := 6) dX12_allAtOnce_8 rfl ?_
    refine T_lload_n (pc := 10) (i := 1) dX12_allAtOnce_10 rfl rfl ?_
    refine R_callS1 (pc := 11) (av := [.long (lN (cd l))]) (rest := [.int (nI k)]) (Or.inl lk_X12_13) mk_X12_size (m_size hl) dX12_allAtOnce_11 rfl rfl (Nat.le_of_ble_eq_true rfl) (by decide) rfl (Nat.le_refl _) (Nat.le_refl _) ?_
    refine R_icmp_ge (pc := 14) (tgt := 115) (by omega) (by omega) dX12_allAtOnce_14 (by decide) (fun g1 => ?_) (fun g1 => ?_)
    · exact fin k m (by omega) he hlen hO
    · skip
      have hkl : k < l.length := by omega
      have mt : Mw (afK R w l k) := ⟨hlen, afK_ok hl.2 hok hk2⟩
      have hby := okb_gd hl.2 hkl
      refine T_aload_n (pc := 17) (i := 0) dX12_allAtOnce_17 rfl rfl ?_
      refine T_lload_n (pc := 18) (i := 1) dX12_allAtOnce_18 rfl rfl ?_
      refine T_iload (pc := 19) (i := 6) dX12_allAtOnce_19 rfl ?_
      refine R_callVm1 (pc := 21) (As := [.long (lN (cd l)), .int (nI k)]) (rest := []) (Or.inl lk_X12_349) mk_X12_leastRule (m_leastRule hE2 hl (by omega)) kc_572 ⟨by decide, rfl⟩ lc_572 dX12_allAtOnce_21 rfl rfl (Nat.le_of_ble_eq_true rfl) (by decide) rfl (Nat.le_refl _) (Nat.le_refl _) (fun m2 hO2 => ?_)
      have hO3 := hO.trans hO2
      have hR3 := (hE.s9 hO3).1
      cases e9 : lrR R w l k with
      | none =>
        have hf := lr_no e9
        have eN := gaK_no (R := R) (w := w) (l := l) (k := k) h3 hf
        have aN := afK_no (R := R) (w := w) (l := l) (k := k) h3 hkl he hf
        have hen : enU (llR R) 0 (gaK R w l (k + 1)) ≤ k + 1 := by rw [eN]; omega
        have e1 : (l.drop k).take 1 = [l.getD k 0] := by rw [drop_s 0 hkl]; rfl
        have m1 : Mw [l.getD k 0] := ⟨show 1 ≤ 20 by decide, fun d hd => by rw [List.mem_singleton.mp hd]; exact hby⟩
        have aL : (afK R w l (k + 1)).length = (afK R w l k).length + 1 := by rw [aN, List.length_append]; rfl
        show T _ _ _ _ _ _ _ _ 24 [some (.ref 572), some (.long (lN (cd l))), none, some (.long (lN (cd (afK R w l k)))), none, some (.int (bI (decide ((gaK R w l k).length ≠ 0)))), some (.int (nI k)), none, none, none] [.int ((-1))] (rm m2)
        refine T_istore (pc := 24) (i := 7) (ls' := [some (.ref 572), some (.long (lN (cd l))), none, some (.long (lN (cd (afK R w l k)))), none, some (.int (bI (decide ((gaK R w l k).length ≠ 0)))), some (.int (nI k)), some (.int ((-1))), none, none]) dX12_allAtOnce_24 (by decide) rfl ?_
        refine T_iload (pc := 26) (i := 7) dX12_allAtOnce_26 rfl ?_
        refine T_if_ge (pc := 28) (tgt := 41) dX12_allAtOnce_28 (by decide) (fun g2 => ?_) (fun g2 => ?_)
        · exact absurd g2 (by decide)
        · skip
          refine T_lload_n (pc := 31) (i := 1) dX12_allAtOnce_31 rfl rfl ?_
          refine T_iload (pc := 32) (i := 6) dX12_allAtOnce_32 rfl ?_
          refine T_iconst (pc := 34) (v := nI 1) dX12_allAtOnce_34 (by decide) ?_
          refine R_callS1 (pc := 35) (av := [.long (lN (cd l)), .int (nI k), .int (nI 1)]) (rest := []) (Or.inl lk_X12_328) mk_X12_part (m_part hl (by omega)) dX12_allAtOnce_35 rfl rfl (Nat.le_of_ble_eq_true rfl) (by decide) rfl (Nat.le_refl _) (Nat.le_refl _) ?_
          rw [e1]
          refine T_goto (pc := 38) (tgt := 47) dX12_allAtOnce_38 (by decide) ?_
          refine T_lstore (pc := 47) (i := 8) (ls' := [some (.ref 572), some (.long (lN (cd l))), none, some (.long (lN (cd (afK R w l k)))), none, some (.int (bI (decide ((gaK R w l k).length ≠ 0)))), some (.int (nI k)), some (.int ((-1))), some (.long (lN (cd [l.getD k 0]))), none]) dX12_allAtOnce_47 (by decide) rfl ?_
          refine T_lload_n (pc := 49) (i := 3) dX12_allAtOnce_49 rfl rfl ?_
          refine R_callS1 (pc := 50) (av := [.long (lN (cd (afK R w l k)))]) (rest := []) (Or.inl lk_X12_13) mk_X12_size (m_size mt) dX12_allAtOnce_50 rfl rfl (Nat.le_of_ble_eq_true rfl) (by decide) rfl (Nat.le_refl _) (Nat.le_refl _) ?_
          refine T_lload (pc := 53) (i := 8) dX12_allAtOnce_53 rfl ?_
          refine R_callS1 (pc := 55) (av := [.long (lN (cd [l.getD k 0]))]) (rest := [.int (nI ((afK R w l k).length))]) (Or.inl lk_X12_13) mk_X12_size (m_size m1) dX12_allAtOnce_55 rfl rfl (Nat.le_of_ble_eq_true rfl) (by decide) rfl (Nat.le_refl _) (Nat.le_refl _) ?_
          refine T_topi (v := nI 1) (rfl) ?_
          refine R_iadd (pc := 58) dX12_allAtOnce_58 ?_
          refine T_bipush (pc := 59) (v := nI 20) dX12_allAtOnce_59 (by decide) ?_
          refine R_icmp_le (pc := 61) (tgt := 68) (by omega) (by omega) dX12_allAtOnce_61 (by decide) (fun g3 => ?_) (fun g3 => ?_)
          · skip
            refine T_lload_n (pc := 68) (i := 3) dX12_allAtOnce_68 rfl rfl ?_
            refine T_lload (pc := 69) (i := 8) dX12_allAtOnce_69 rfl ?_
            refine R_callS1 (pc := 71) (av := [.long (lN (cd (afK R w l k))), .long (lN (cd [l.getD k 0]))]) (rest := []) (Or.inl lk_X12_335) mk_X12_join (m_join m1) dX12_allAtOnce_71 rfl rfl (Nat.le_of_ble_eq_true rfl) (by decide) rfl (Nat.le_refl _) (Nat.le_refl _) ?_
            refine T_lstore_n (pc := 74) (i := 3) (ls' := [some (.ref 572), some (.long (lN (cd l))), none, some (.long (lN (cd (afK R w l k ++ [l.getD k 0])))), none, some (.int (bI (decide ((gaK R w l k).length ≠ 0)))), some (.int (nI k)), some (.int ((-1))), some (.long (lN (cd [l.getD k 0]))), none]) dX12_allAtOnce_74 rfl (by decide) rfl ?_
            refine T_iload (pc := 75) (i := 5) dX12_allAtOnce_75 rfl ?_
            refine R_ifb_ne (pc := 77) (tgt := 85) dX12_allAtOnce_77 (by decide) (fun g4 => ?_) (fun g4 => ?_)
            · skip
              refine T_iconst (pc := 85) (v := nI 1) dX12_allAtOnce_85 (by decide) ?_
              refine T_goto (pc := 86) (tgt := 90) dX12_allAtOnce_86 (by decide) ?_
              refine T_istore (pc := 90) (i := 5) (ls' := [some (.ref 572), some (.long (lN (cd l))), none, some (.long (lN (cd (afK R w l k ++ [l.getD k 0])))), none, some (.int (nI 1)), some (.int (nI k)), some (.int ((-1))), some (.long (lN (cd [l.getD k 0]))), none]) dX12_allAtOnce_90 (by decide) rfl ?_
              refine T_iload (pc := 92) (i := 6) dX12_allAtOnce_92 rfl ?_
              refine T_iload (pc := 94) (i := 7) dX12_allAtOnce_94 rfl ?_
              refine T_if_ge (pc := 96) (tgt := 103) dX12_allAtOnce_96 (by decide) (fun g5 => ?_) (fun g5 => ?_)
              · exact absurd g5 (by decide)
              · skip
                refine T_iconst (pc := 99) (v := nI 1) dX12_allAtOnce_99 (by decide) ?_
                refine T_goto (pc := 100) (tgt := 109) dX12_allAtOnce_100 (by decide) ?_
                refine R_iadd (pc := 109) dX12_allAtOnce_109 ?_
                refine T_istore (pc := 110) (i := 6) (ls' := [some (.ref 572), some (.long (lN (cd l))), none, some (.long (lN (cd (afK R w l k ++ [l.getD k 0])))), none, some (.int (nI 1)), some (.int (nI (k + 1))), some (.int ((-1))), some (.long (lN (cd [l.getD k 0]))), none]) dX12_allAtOnce_110 (by decide) rfl ?_
                refine T_goto (pc := 112) (tgt := 8) dX12_allAtOnce_112 (by decide) ?_
                refine T_ls (ls' := [some (.ref 572), some (.long (lN (cd l))), none, some (.long (lN (cd (afK R w l k ++ [l.getD k 0])))), none, some (.int (nI 1)), some (.int (nI (k + 1))), none, none, none]) (And.intro rfl (And.intro rfl (And.intro rfl (And.intro rfl (And.intro rfl True.intro))))) ?_
                have h9 := ih (k + 1) m2 (by omega) (by omega) hen (by omega) hO3
                rw [eN, aN, g4] at h9
                exact h9
            · skip
              refine T_iload (pc := 80) (i := 7) dX12_allAtOnce_80 rfl ?_
              refine T_if_lt (pc := 82) (tgt := 89) dX12_allAtOnce_82 (by decide) (fun g6 => ?_) (fun g6 => ?_)
              · skip
                refine T_iconst (pc := 89) (v := nI 0) dX12_allAtOnce_89 (by decide) ?_
                refine T_istore (pc := 90) (i := 5) (ls' := [some (.ref 572), some (.long (lN (cd l))), none, some (.long (lN (cd (afK R w l k ++ [l.getD k 0])))), none, some (.int (nI 0)), some (.int (nI k)), some (.int ((-1))), some (.long (lN (cd [l.getD k 0]))), none]) dX12_allAtOnce_90 (by decide) rfl ?_
                refine T_iload (pc := 92) (i := 6) dX12_allAtOnce_92 rfl ?_
                refine T_iload (pc := 94) (i := 7) dX12_allAtOnce_94 rfl ?_
                refine T_if_ge (pc := 96) (tgt := 103) dX12_allAtOnce_96 (by decide) (fun g5 => ?_) (fun g5 => ?_)
                · exact absurd g5 (by decide)
                · skip
                  refine T_iconst (pc := 99) (v := nI 1) dX12_allAtOnce_99 (by decide) ?_
                  refine T_goto (pc := 100) (tgt := 109) dX12_allAtOnce_100 (by decide) ?_
                  refine R_iadd (pc := 109) dX12_allAtOnce_109 ?_
                  refine T_istore (pc := 110) (i := 6) (ls' := [some (.ref 572), some (.long (lN (cd l))), none, some (.long (lN (cd (afK R w l k ++ [l.getD k 0])))), none, some (.int (nI 0)), some (.int (nI (k + 1))), some (.int ((-1))), some (.long (lN (cd [l.getD k 0]))), none]) dX12_allAtOnce_110 (by decide) rfl ?_
                  refine T_goto (pc := 112) (tgt := 8) dX12_allAtOnce_112 (by decide) ?_
                  refine T_ls (ls' := [some (.ref 572), some (.long (lN (cd l))), none, some (.long (lN (cd (afK R w l k ++ [l.getD k 0])))), none, some (.int (nI 0)), some (.int (nI (k + 1))), none, none, none]) (And.intro rfl (And.intro rfl (And.intro rfl (And.intro rfl (And.intro rfl True.intro))))) ?_
                  have h9 := ih (k + 1) m2 (by omega) (by omega) hen (by omega) hO3
                  rw [eN, aN, g4] at h9
                  exact h9
              · exact absurd (by decide) g6
          · skip
            refine T_ldc2 (pc := 64) dX12_allAtOnce_64 cn_X12_171 ?_
            have e : nxR R w l = none := by
              unfold nxR
              rw [gaK_big (k := k + 1) h3 (by omega) (by rw [← afK_len (by omega) hen]; omega)]
              rfl
            rw [e]
            exact T_lret dX12_allAtOnce_67 rfl (Nat.le_refl _) (Nat.le_refl _) ⟨_, rfl, rfl, hO3⟩
      | some r =>
        obtain ⟨hr, hf, hf2⟩ := lr_so e9
        have hg := fitB_get hf
        have eN := gaK_yes (R := R) (w := w) (l := l) (k := k) h3 h1 h20 hkl he hr hf hf2
        have aN := afK_yes (R := R) (w := w) (l := l) (k := k) h3 h1 h20 hkl he hr hf hf2
        have hen : enU (llR R) 0 (gaK R w l (k + llR R r)) ≤ k + llR R r := by rw [eN, enU_snoc]; exact Nat.le_refl _
        have m1 : Mw (rAt R r).2 := (hok r hr).r
        have hr1 := h1 r hr
        have hll : llR R r = (rAt R r).1.length := rfl
        have aL : (afK R w l (k + llR R r)).length = (afK R w l k).length + (rAt R r).2.length := by rw [aN, List.length_append]; rfl
        have h12 := hE.1.1.2
        show T _ _ _ _ _ _ _ _ 24 [some (.ref 572), some (.long (lN (cd l))), none, some (.long (lN (cd (afK R w l k)))), none, some (.int (bI (decide ((gaK R w l k).length ≠ 0)))), some (.int (nI k)), none, none, none] [.int (nI r)] (rm m2)
        refine T_istore (pc := 24) (i := 7) (ls' := [some (.ref 572), some (.long (lN (cd l))), none, some (.long (lN (cd (afK R w l k)))), none, some (.int (bI (decide ((gaK R w l k).length ≠ 0)))), some (.int (nI k)), some (.int (nI r)), none, none]) dX12_allAtOnce_24 (by decide) rfl ?_
        refine T_iload (pc := 26) (i := 7) dX12_allAtOnce_26 rfl ?_
        refine R_if_ge (pc := 28) (tgt := 41) (by omega) dX12_allAtOnce_28 (by decide) (fun g2 => ?_) (fun g2 => ?_)
        · skip
          refine T_aload_n (pc := 41) (i := 0) dX12_allAtOnce_41 rfl rfl ?_
          refine T_iload (pc := 42) (i := 7) dX12_allAtOnce_42 rfl ?_
          refine R_callV1 (pc := 44) (As := [.int (nI r)]) (rest := []) (Or.inl lk_X12_111) mk_X12_right (m_right hR3 hr) kc_572 ⟨by decide, rfl⟩ lc_572 dX12_allAtOnce_44 rfl rfl (Nat.le_of_ble_eq_true rfl) (by decide) rfl (Nat.le_refl _) (Nat.le_refl _) ?_
          refine T_lstore (pc := 47) (i := 8) (ls' := [some (.ref 572), some (.long (lN (cd l))), none, some (.long (lN (cd (afK R w l k)))), none, some (.int (bI (decide ((gaK R w l k).length ≠ 0)))), some (.int (nI k)), some (.int (nI r)), some (.long (lN (cd (rAt R r).2))), none]) dX12_allAtOnce_47 (by decide) rfl ?_
          refine T_lload_n (pc := 49) (i := 3) dX12_allAtOnce_49 rfl rfl ?_
          refine R_callS1 (pc := 50) (av := [.long (lN (cd (afK R w l k)))]) (rest := []) (Or.inl lk_X12_13) mk_X12_size (m_size mt) dX12_allAtOnce_50 rfl rfl (Nat.le_of_ble_eq_true rfl) (by decide) rfl (Nat.le_refl _) (Nat.le_refl _) ?_
          refine T_lload (pc := 53) (i := 8) dX12_allAtOnce_53 rfl ?_
          refine R_callS1 (pc := 55) (av := [.long (lN (cd (rAt R r).2))]) (rest := [.int (nI ((afK R w l k).length))]) (Or.inl lk_X12_13) mk_X12_size (m_size m1) dX12_allAtOnce_55 rfl rfl (Nat.le_of_ble_eq_true rfl) (by decide) rfl (Nat.le_refl _) (Nat.le_refl _) ?_
          refine R_iadd (pc := 58) dX12_allAtOnce_58 ?_
          refine T_bipush (pc := 59) (v := nI 20) dX12_allAtOnce_59 (by decide) ?_
          refine R_icmp_le (pc := 61) (tgt := 68) (by omega) (by omega) dX12_allAtOnce_61 (by decide) (fun g3 => ?_) (fun g3 => ?_)
          · skip
            refine T_lload_n (pc := 68) (i := 3) dX12_allAtOnce_68 rfl rfl ?_
            refine T_lload (pc := 69) (i := 8) dX12_allAtOnce_69 rfl ?_
            refine R_callS1 (pc := 71) (av := [.long (lN (cd (afK R w l k))), .long (lN (cd (rAt R r).2))]) (rest := []) (Or.inl lk_X12_335) mk_X12_join (m_join m1) dX12_allAtOnce_71 rfl rfl (Nat.le_of_ble_eq_true rfl) (by decide) rfl (Nat.le_refl _) (Nat.le_refl _) ?_
            refine T_lstore_n (pc := 74) (i := 3) (ls' := [some (.ref 572), some (.long (lN (cd l))), none, some (.long (lN (cd (afK R w l k ++ (rAt R r).2)))), none, some (.int (bI (decide ((gaK R w l k).length ≠ 0)))), some (.int (nI k)), some (.int (nI r)), some (.long (lN (cd (rAt R r).2))), none]) dX12_allAtOnce_74 rfl (by decide) rfl ?_
            refine T_iload (pc := 75) (i := 5) dX12_allAtOnce_75 rfl ?_
            have h9 := ih (k + llR R r) m2 (by omega) (by omega) hen (by omega) hO3
            rw [eN, aN, show decide ((gaK R w l k ++ [(k, r)]).length ≠ 0) = true by rw [List.length_append]; exact decide_eq_true (by simp)] at h9
            refine R_ifb_ne (pc := 77) (tgt := 85) dX12_allAtOnce_77 (by decide) (fun g4 => ?_) (fun g4 => ?_)
            · skip
              refine T_iconst (pc := 85) (v := nI 1) dX12_allAtOnce_85 (by decide) ?_
              refine T_goto (pc := 86) (tgt := 90) dX12_allAtOnce_86 (by decide) ?_
              refine T_istore (pc := 90) (i := 5) (ls' := [some (.ref 572), some (.long (lN (cd l))), none, some (.long (lN (cd (afK R w l k ++ (rAt R r).2)))), none, some (.int (nI 1)), some (.int (nI k)), some (.int (nI r)), some (.long (lN (cd (rAt R r).2))), none]) dX12_allAtOnce_90 (by decide) rfl ?_
              refine T_iload (pc := 92) (i := 6) dX12_allAtOnce_92 rfl ?_
              refine T_iload (pc := 94) (i := 7) dX12_allAtOnce_94 rfl ?_
              refine R_if_ge (pc := 96) (tgt := 103) (by omega) dX12_allAtOnce_96 (by decide) (fun g5 => ?_) (fun g5 => ?_)
              · skip
                refine T_aload_n (pc := 103) (i := 0) dX12_allAtOnce_103 rfl rfl ?_
                refine T_iload (pc := 104) (i := 7) dX12_allAtOnce_104 rfl ?_
                refine R_callV1 (pc := 106) (As := [.int (nI r)]) (rest := [.int (nI k)]) (Or.inl lk_X12_311) mk_X12_lefts (m_lefts hR3 hr) kc_572 ⟨by decide, rfl⟩ lc_572 dX12_allAtOnce_106 rfl rfl (Nat.le_of_ble_eq_true rfl) (by decide) rfl (Nat.le_refl _) (Nat.le_refl _) ?_
                refine R_iadd (pc := 109) dX12_allAtOnce_109 ?_
                refine T_istore (pc := 110) (i := 6) (ls' := [some (.ref 572), some (.long (lN (cd l))), none, some (.long (lN (cd (afK R w l k ++ (rAt R r).2)))), none, some (.int (nI 1)), some (.int (nI (k + ((rAt R r).1.length)))), some (.int (nI r)), some (.long (lN (cd (rAt R r).2))), none]) dX12_allAtOnce_110 (by decide) rfl ?_
                refine T_goto (pc := 112) (tgt := 8) dX12_allAtOnce_112 (by decide) ?_
                refine T_ls (ls' := [some (.ref 572), some (.long (lN (cd l))), none, some (.long (lN (cd (afK R w l k ++ (rAt R r).2)))), none, some (.int (nI 1)), some (.int (nI (k + ((rAt R r).1.length)))), none, none, none]) (And.intro rfl (And.intro rfl (And.intro rfl (And.intro rfl (And.intro rfl True.intro))))) ?_
                exact h9
              · exact g5.elim
            · skip
              refine T_iload (pc := 80) (i := 7) dX12_allAtOnce_80 rfl ?_
              refine R_if_lt (pc := 82) (tgt := 89) (by omega) dX12_allAtOnce_82 (by decide) (fun g6 => ?_) (fun g6 => ?_)
              · exact g6.elim
              · skip
                refine T_iconst (pc := 85) (v := nI 1) dX12_allAtOnce_85 (by decide) ?_
                refine T_goto (pc := 86) (tgt := 90) dX12_allAtOnce_86 (by decide) ?_
                refine T_istore (pc := 90) (i := 5) (ls' := [some (.ref 572), some (.long (lN (cd l))), none, some (.long (lN (cd (afK R w l k ++ (rAt R r).2)))), none, some (.int (nI 1)), some (.int (nI k)), some (.int (nI r)), some (.long (lN (cd (rAt R r).2))), none]) dX12_allAtOnce_90 (by decide) rfl ?_
                refine T_iload (pc := 92) (i := 6) dX12_allAtOnce_92 rfl ?_
                refine T_iload (pc := 94) (i := 7) dX12_allAtOnce_94 rfl ?_
                refine R_if_ge (pc := 96) (tgt := 103) (by omega) dX12_allAtOnce_96 (by decide) (fun g5 => ?_) (fun g5 => ?_)
                · skip
                  refine T_aload_n (pc := 103) (i := 0) dX12_allAtOnce_103 rfl rfl ?_
                  refine T_iload (pc := 104) (i := 7) dX12_allAtOnce_104 rfl ?_
                  refine R_callV1 (pc := 106) (As := [.int (nI r)]) (rest := [.int (nI k)]) (Or.inl lk_X12_311) mk_X12_lefts (m_lefts hR3 hr) kc_572 ⟨by decide, rfl⟩ lc_572 dX12_allAtOnce_106 rfl rfl (Nat.le_of_ble_eq_true rfl) (by decide) rfl (Nat.le_refl _) (Nat.le_refl _) ?_
                  refine R_iadd (pc := 109) dX12_allAtOnce_109 ?_
                  refine T_istore (pc := 110) (i := 6) (ls' := [some (.ref 572), some (.long (lN (cd l))), none, some (.long (lN (cd (afK R w l k ++ (rAt R r).2)))), none, some (.int (nI 1)), some (.int (nI (k + ((rAt R r).1.length)))), some (.int (nI r)), some (.long (lN (cd (rAt R r).2))), none]) dX12_allAtOnce_110 (by decide) rfl ?_
                  refine T_goto (pc := 112) (tgt := 8) dX12_allAtOnce_112 (by decide) ?_
                  refine T_ls (ls' := [some (.ref 572), some (.long (lN (cd l))), none, some (.long (lN (cd (afK R w l k ++ (rAt R r).2)))), none, some (.int (nI 1)), some (.int (nI (k + ((rAt R r).1.length)))), none, none, none]) (And.intro rfl (And.intro rfl (And.intro rfl (And.intro rfl (And.intro rfl True.intro))))) ?_
                  exact h9
                · exact g5.elim
          · skip
            refine T_ldc2 (pc := 64) dX12_allAtOnce_64 cn_X12_171 ?_
            have e : nxR R w l = none := by
              unfold nxR
              rw [gaK_big (k := k + llR R r) h3 (by omega) (by rw [← afK_len (by omega) hen]; omega)]
              rfl
            rw [e]
            exact T_lret dX12_allAtOnce_67 rfl (Nat.le_refl _) (Nat.le_refl _) ⟨_, rfl, rfl, hO3⟩
        · exact g2.elim
end MF3

