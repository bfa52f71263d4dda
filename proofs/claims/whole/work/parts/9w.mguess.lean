/-! THE MODEL: RULES guessed, told as a list -/
/-- what stands at a place of both -/
def gPr (S : List (List Nat × List Nat)) (n r p : Nat) : List Nat × List Nat := (gL (sAt S 0).1 p n, gL (sAt S 0).2 p r)
def gOk (S : List (List Nat × List Nat)) (x : List Nat × List Nat) : Bool := decide (x.1 ≠ x.2) && taB S x.1 x.2
def mgN (S : List (List Nat × List Nat)) (l : List (List Nat × List Nat)) (x : List Nat × List Nat) : List (List Nat × List Nat) := if (gOk S x && !decide (x ∈ l)) = true then l ++ [x] else l
def mgS (S : List (List Nat × List Nat)) (n r : Nat) (l : List (List Nat × List Nat)) : Nat → List (List Nat × List Nat)
  | 0 => l
  | p + 1 => mgN S (mgS S n r l p) (gPr S n r p)
def clN (S : List (List Nat × List Nat)) (n r : Nat) : Nat → List (List Nat × List Nat)
  | 0 => []
  | p + 1 => if gsC S n r p = true then clN S n r p ++ [gPr S n r p] else clN S n r p
def gaB (x y : List Nat × List Nat) : Bool := if x.1.length ≠ y.1.length then decide (x.1.length < y.1.length) else if x.2.length ≠ y.2.length then decide (x.2.length < y.2.length) else if cd x.1 ≠ cd y.1 then decide (cd x.1 < cd y.1) else decide (cd x.2 < cd y.2)
def LeO (o : Option (List Nat × List Nat)) (l : List (List Nat × List Nat)) : Prop := match o with
  | none => l = []
  | some q => q ∈ l ∧ ∀ x, x ∈ l → gaB x q = false
theorem nodup_snoc {α : Type} {l : List α} {x : α} (h : l.Nodup) (hx : ¬ x ∈ l) : (l ++ [x]).Nodup := by
  rw [List.nodup_append]
  refine ⟨h, ?_, fun a ha b hb => ?_⟩
  · rw [List.nodup_cons]
    exact ⟨List.not_mem_nil, List.nodup_nil⟩
  · rw [List.mem_singleton] at hb
    intro e
    rw [e, hb] at ha
    exact hx ha
theorem mgS_mem {S : List (List Nat × List Nat)} {n r : Nat} {l : List (List Nat × List Nat)} {x : List Nat × List Nat} : ∀ {p : Nat}, x ∈ mgS S n r l p ↔ (x ∈ l ∨ ∃ q, q < p ∧ x = gPr S n r q ∧ gOk S x = true)
  | 0 => ⟨Or.inl, fun h => h.elim id (fun ⟨q, h1, _⟩ => absurd h1 (Nat.not_lt_zero _))⟩
  | p + 1 => by
    have ih := mgS_mem (S := S) (n := n) (r := r) (l := l) (x := x) (p := p)
    show x ∈ mgN S (mgS S n r l p) (gPr S n r p) ↔ _
    unfold mgN
    by_cases hc : (gOk S (gPr S n r p) && !decide (gPr S n r p ∈ mgS S n r l p)) = true
    · rw [if_pos hc, List.mem_append, List.mem_singleton, ih]
      rw [Bool.and_eq_true] at hc
      constructor
      · rintro ((h | ⟨q, h1, h2⟩) | h)
        · exact Or.inl h
        · exact Or.inr ⟨q, by omega, h2⟩
        · exact Or.inr ⟨p, Nat.lt_succ_self _, h, by rw [h]; exact hc.1⟩
      · rintro (h | ⟨q, h1, h2, h3⟩)
        · exact Or.inl (Or.inl h)
        · by_cases e : q = p
          · rw [e] at h2
            exact Or.inr h2
          · exact Or.inl (Or.inr ⟨q, by omega, h2, h3⟩)
    · rw [if_neg hc, ih]
      constructor
      · rintro (h | ⟨q, h1, h2⟩)
        · exact Or.inl h
        · exact Or.inr ⟨q, by omega, h2⟩
      · rintro (h | ⟨q, h1, h2, h3⟩)
        · exact Or.inl h
        · by_cases e : q = p
          · rw [e] at h2
            rw [h2] at h3
            have h4 : gPr S n r p ∈ mgS S n r l p := by
              by_cases hm : gPr S n r p ∈ mgS S n r l p
              · exact hm
              · exact absurd (by rw [h3, decide_eq_false hm]; rfl) hc
            rw [← h2, ih] at h4
            exact h4
          · exact Or.inr ⟨q, by omega, h2, h3⟩
theorem mgN_nodup {S : List (List Nat × List Nat)} {l : List (List Nat × List Nat)} {x : List Nat × List Nat} (h : l.Nodup) : (mgN S l x).Nodup := by
  unfold mgN
  split
  · next hc =>
    rw [Bool.and_eq_true] at hc
    exact nodup_snoc h (fun z => by rw [decide_eq_true z] at hc; exact absurd hc.2 (by decide))
  · exact h
theorem mgS_nodup {S : List (List Nat × List Nat)} {n r : Nat} {l : List (List Nat × List Nat)} (h : l.Nodup) : ∀ {p : Nat}, (mgS S n r l p).Nodup
  | 0 => h
  | p + 1 => mgN_nodup (mgS_nodup (p := p) h)
theorem mgS_len {S : List (List Nat × List Nat)} {n r : Nat} {l : List (List Nat × List Nat)} : ∀ {p : Nat}, (mgS S n r l p).length ≤ l.length + p
  | 0 => Nat.le_refl _
  | p + 1 => by
    have ih := mgS_len (S := S) (n := n) (r := r) (l := l) (p := p)
    show (mgN S (mgS S n r l p) (gPr S n r p)).length ≤ _
    unfold mgN
    split
    · rw [List.length_append, List.length_singleton]
      omega
    · omega
theorem gsC_e {S : List (List Nat × List Nat)} {n r p : Nat} : gsC S n r p = true ↔ (gPr S n r p).1 ≠ (gPr S n r p).2 ∧ usd (sAt S 0).1 p (gPr S n r p).1 (gPr S n r p).2 = (sAt S 0).2 ∧ ceB (sAt S 0).1 (sAt S 0).2 (gPr S n r p).1 (gPr S n r p).2 p = false ∧ taB S (gPr S n r p).1 (gPr S n r p).2 = true := by
  unfold gsC
  rw [Bool.and_eq_true, Bool.and_eq_true, Bool.and_eq_true, decide_eq_true_iff, decide_eq_true_iff, Bool.not_eq_true']
  exact Iff.rfl
theorem ceB_mem {a t L R : List Nat} : ∀ {n : Nat}, ceB a t L R n = true → ∃ q, q < n ∧ stB a q L = true ∧ usd a q L R = t
  | 0, h => by cases h
  | n + 1, h => by
    have h2 : (ceB a t L R n || (stB a n L && decide (usd a n L R = t))) = true := h
    rcases (Bool.or_eq_true _ _).mp h2 with h3 | h3
    · obtain ⟨q, h4, h5⟩ := ceB_mem h3
      exact ⟨q, by omega, h5⟩
    · rw [Bool.and_eq_true, decide_eq_true_iff] at h3
      exact ⟨n, Nat.lt_succ_self _, h3⟩
theorem ceB_first {a t L R : List Nat} : ∀ {n : Nat}, ceB a t L R n = true → ∃ q, q < n ∧ stB a q L = true ∧ usd a q L R = t ∧ ceB a t L R q = false
  | 0, h => by cases h
  | n + 1, h => by
    cases e : ceB a t L R n with
    | true =>
      obtain ⟨q, h4, h5⟩ := ceB_first e
      exact ⟨q, by omega, h5⟩
    | false =>
      have h2 : (ceB a t L R n || (stB a n L && decide (usd a n L R = t))) = true := h
      rw [e, Bool.false_or, Bool.and_eq_true, decide_eq_true_iff] at h2
      exact ⟨n, Nat.lt_succ_self _, h2.1, h2.2, e⟩
theorem gL_len {a : List Nat} {p n : Nat} (h : p + n ≤ a.length) : (gL a p n).length = n := by
  unfold gL
  rw [List.length_drop, List.length_take]
  omega
theorem gL_usd {a L K : List Nat} {q : Nat} (h : q ≤ a.length) : gL (usd a q L K) q K.length = K := by
  unfold gL usd
  rw [List.append_assoc, List.take_append, List.take_of_length_le (by rw [List.length_take]; omega), List.length_take, show q + K.length - min q a.length = K.length by omega, List.take_left' rfl, List.drop_left' (by rw [List.length_take]; omega)]
theorem stB_gL {a L : List Nat} {q : Nat} (h : stB a q L = true) : gL a q L.length = L := by
  obtain ⟨_, _, h3⟩ := stB_get h
  unfold gL
  rw [List.drop_take, Nat.add_sub_cancel_left]
  exact h3
theorem gL_stB {a : List Nat} {q n : Nat} (h : q + n ≤ a.length) (h1 : 1 ≤ n) : stB a q (gL a q n) = true := by
  have hl := gL_len h
  unfold stB
  rw [hl, decide_eq_true (by omega), decide_eq_true (by omega), Bool.true_and, Bool.true_and]
  refine decide_eq_true ?_
  unfold gL
  rw [List.drop_take, Nat.add_sub_cancel_left]
theorem clN_mem {S : List (List Nat × List Nat)} {n r : Nat} {x : List Nat × List Nat} : ∀ {p : Nat}, x ∈ clN S n r p ↔ ∃ q, q < p ∧ x = gPr S n r q ∧ gsC S n r q = true
  | 0 => ⟨fun h => (by cases h), fun h => h.elim (fun q z => absurd z.1 (Nat.not_lt_zero _))⟩
  | p + 1 => by
    have ih := clN_mem (S := S) (n := n) (r := r) (x := x) (p := p)
    show x ∈ (if gsC S n r p = true then clN S n r p ++ [gPr S n r p] else clN S n r p) ↔ _
    by_cases hc : gsC S n r p = true
    · rw [if_pos hc, List.mem_append, List.mem_singleton, ih]
      constructor
      · rintro (⟨q, h1, h2⟩ | h)
        · exact ⟨q, by omega, h2⟩
        · exact ⟨p, Nat.lt_succ_self _, h, hc⟩
      · rintro ⟨q, h1, h2, h3⟩
        by_cases e : q = p
        · rw [e] at h2
          exact Or.inr h2
        · exact Or.inl ⟨q, by omega, h2, h3⟩
    · rw [if_neg hc, ih]
      constructor
      · rintro ⟨q, h1, h2⟩
        exact ⟨q, by omega, h2⟩
      · rintro ⟨q, h1, h2, h3⟩
        have : q ≠ p := fun e => by rw [e] at h3; exact hc h3
        exact ⟨q, by omega, h2, h3⟩
theorem clN_nodup {S : List (List Nat × List Nat)} {n r : Nat} (h1 : 1 ≤ n) : ∀ {p : Nat}, p + n ≤ (sAt S 0).1.length + 1 → (clN S n r p).Nodup
  | 0, _ => List.nodup_nil
  | p + 1, hp => by
    have ih := clN_nodup (S := S) (n := n) (r := r) h1 (p := p) (by omega)
    show (if gsC S n r p = true then clN S n r p ++ [gPr S n r p] else clN S n r p).Nodup
    by_cases hc : gsC S n r p = true
    · rw [if_pos hc]
      refine nodup_snoc ih (fun z => ?_)
      obtain ⟨q, h2, h3, h4⟩ := clN_mem.mp z
      have c1 := gsC_e.mp hc
      have c2 := gsC_e.mp h4
      have h5 := ceB_yes (a := (sAt S 0).1) (t := (sAt S 0).2) (L := (gPr S n r q).1) (R := (gPr S n r q).2) (i := q) (by rw [show stB (sAt S 0).1 q (gPr S n r q).1 = true from gL_stB (by omega) h1, decide_eq_true c2.2.1]; rfl) h2
      rw [← h3, c1.2.2.1] at h5
      cases h5
    · rw [if_neg hc]
      exact ih
theorem gPr_len {S : List (List Nat × List Nat)} {n r p : Nat} (h1 : p + n ≤ (sAt S 0).1.length) (h2 : (sAt S 0).1.length + r = n + (sAt S 0).2.length) : (gPr S n r p).1.length = n ∧ (gPr S n r p).2.length = r := ⟨gL_len h1, gL_len (by omega)⟩
/-- at the end of one length both hold the same -/
theorem clN_all {S : List (List Nat × List Nat)} {n r : Nat} {x : List Nat × List Nat} (h0 : 0 < S.length) (h1 : 1 ≤ n) (h2 : (sAt S 0).1.length + r = n + (sAt S 0).2.length) : x ∈ clN S n r ((sAt S 0).1.length + 1 - n) ↔ ∃ q, q < (sAt S 0).1.length + 1 - n ∧ x = gPr S n r q ∧ gOk S x = true := by
  rw [clN_mem]
  constructor
  · rintro ⟨q, h3, h4, h5⟩
    have c := gsC_e.mp h5
    refine ⟨q, h3, h4, ?_⟩
    unfold gOk
    rw [h4, decide_eq_true c.1, c.2.2.2]
    rfl
  · rintro ⟨p, h3, h4, h5⟩
    have hl := gPr_len (p := p) (by omega) h2
    rw [← h4] at hl
    unfold gOk at h5
    rw [Bool.and_eq_true, decide_eq_true_iff] at h5
    have hcb : cbB (sAt S 0).1 (sAt S 0).2 x.1 x.2 = true := by
      cases e : cbB (sAt S 0).1 (sAt S 0).2 x.1 x.2 with
      | true => rfl
      | false =>
        have h6 : taB S x.1 x.2 = false := alN_no (P := fun i => cbB (sAt S i).1 (sAt S i).2 x.1 x.2) (i := 0) e h0
        rw [h6] at h5
        cases h5.2
    rw [cbB_eq] at hcb
    obtain ⟨q0, g1, g2⟩ := cbF_yes hcb
    have hce := ceB_yes (a := (sAt S 0).1) (t := (sAt S 0).2) (L := x.1) (R := x.2) (i := q0) (n := q0 + 1) (by rw [g1, decide_eq_true g2]; rfl) (Nat.lt_succ_self _)
    obtain ⟨q, _, k1, k2, k3⟩ := ceB_first hce
    have f1 := stB_fit k1
    have e1 : gL (sAt S 0).1 q n = x.1 := by
      have := stB_gL k1
      rw [hl.1] at this
      exact this
    have e2 : gL (sAt S 0).2 q r = x.2 := by
      have := gL_usd (a := (sAt S 0).1) (L := x.1) (K := x.2) (q := q) (by omega)
      rw [k2, hl.2] at this
      exact this
    have e3 : x = gPr S n r q := by
      unfold gPr
      rw [e1, e2]
    refine ⟨q, by omega, e3, gsC_e.mpr ?_⟩
    rw [← e3]
    exact ⟨h5.1, k2, k3, h5.2⟩
theorem gaB_eq {x y : List Nat × List Nat} (h1 : x.1.length = y.1.length) (h2 : x.2.length = y.2.length) : gaB x y = (decide (cd x.1 < cd y.1) || (decide (cd x.1 = cd y.1) && decide (cd x.2 < cd y.2))) := by
  unfold gaB
  rw [if_neg (fun z => z h1), if_neg (fun z => z h2)]
  by_cases e : cd x.1 = cd y.1
  · rw [if_neg (fun z => z e), decide_eq_false (p := cd x.1 < cd y.1) (by omega), decide_eq_true e, Bool.false_or, Bool.true_and]
  · rw [if_pos e, decide_eq_false e, Bool.false_and, Bool.or_false]
theorem gaB_self (x : List Nat × List Nat) : gaB x x = false := by
  rw [gaB_eq rfl rfl, decide_eq_false (Nat.lt_irrefl _), decide_eq_false (Nat.lt_irrefl _), Bool.and_false]
  rfl
theorem gaB_long {x y : List Nat × List Nat} (h : y.1.length < x.1.length) : gaB x y = false := by
  unfold gaB
  rw [if_pos (by omega), decide_eq_false (by omega)]
theorem gsP_le {S : List (List Nat × List Nat)} {n r : Nat} {fs : Bool} {s0 : Gu} {l0 : List (List Nat × List Nat)} (h2 : (sAt S 0).1.length + r = n + (sAt S 0).2.length) (hc : s0.1 = l0.length) (ho : LeO s0.2 l0) (hl : ∀ x, x ∈ l0 → x.1.length < n) (hf : fs = s0.2.isNone) : ∀ {p : Nat}, p + n ≤ (sAt S 0).1.length + 1 → (gsP S n r fs s0 p).1 = (l0 ++ clN S n r p).length ∧ LeO (gsP S n r fs s0 p).2 (l0 ++ clN S n r p) ∧ (fs = false → (gsP S n r fs s0 p).2 = s0.2)
  | 0, _ => by
    have e : l0 ++ clN S n r 0 = l0 := List.append_nil _
    rw [e]
    exact ⟨hc, ho, fun _ => rfl⟩
  | p + 1, hp => by
    obtain ⟨i1, i2, i3⟩ := gsP_le (S := S) (n := n) (r := r) (fs := fs) (s0 := s0) (l0 := l0) h2 hc ho hl hf (p := p) (by omega)
    have eP : gsP S n r fs s0 (p + 1) = gsS S n r fs p (gsP S n r fs s0 p) := rfl
    have eC : clN S n r (p + 1) = if gsC S n r p = true then clN S n r p ++ [gPr S n r p] else clN S n r p := rfl
    rw [eP, eC]
    by_cases hg : gsC S n r p = true
    · have eS : gsS S n r fs p (gsP S n r fs s0 p) = ((gsP S n r fs s0 p).1 + 1, if (fs && gsL (gsP S n r fs s0 p).2 (gPr S n r p).1 (gPr S n r p).2) = true then some (gPr S n r p) else (gsP S n r fs s0 p).2) := if_pos hg
      rw [eS, if_pos hg, ← List.append_assoc]
      have lx := gPr_len (p := p) (by omega) h2
      refine ⟨by rw [List.length_append, List.length_singleton, ← i1], ?_, ?_⟩
      · cases fs with
        | false =>
          rw [Bool.false_and, if_neg Bool.false_ne_true]
          have e3 := i3 rfl
          rw [e3] at i2 ⊢
          cases eo : s0.2 with
          | none => rw [eo] at hf; cases hf
          | some q =>
            rw [eo] at i2 ho
            refine ⟨List.mem_append_left _ i2.1, fun x hx => ?_⟩
            rcases List.mem_append.mp hx with h | h
            · exact i2.2 x h
            · rw [List.mem_singleton] at h
              rw [h]
              exact gaB_long (by have := hl q ho.1; omega)
        | true =>
          have e0 : l0 = [] := by
            cases eo : s0.2 with
            | none => rw [eo] at ho; exact ho
            | some q => rw [eo] at hf; cases hf
          rw [e0, List.nil_append] at i2 ⊢
          rw [Bool.true_and]
          cases eo : (gsP S n r true s0 p).2 with
          | none =>
            rw [eo] at i2
            have e1 : clN S n r p = [] := i2
            rw [if_pos (show gsL none (gPr S n r p).1 (gPr S n r p).2 = true from rfl), e1]
            refine ⟨List.mem_singleton.mpr rfl, fun x hx => ?_⟩
            rw [List.mem_singleton.mp hx]
            exact gaB_self _
          | some q =>
            rw [eo] at i2
            obtain ⟨qp, q1, q2, _⟩ := clN_mem.mp i2.1
            have lq := gPr_len (S := S) (n := n) (r := r) (p := qp) (by omega) h2
            rw [← q2] at lq
            have e9 : gsL (some q) (gPr S n r p).1 (gPr S n r p).2 = gaB (gPr S n r p) q := (gaB_eq (by omega) (by omega)).symm
            rw [e9]
            by_cases hq : gaB (gPr S n r p) q = true
            · rw [if_pos hq]
              refine ⟨List.mem_append_right _ (List.mem_singleton.mpr rfl), fun x hx => ?_⟩
              rcases List.mem_append.mp hx with h | h
              · have h3 := i2.2 x h
                obtain ⟨xp, x1, x2, _⟩ := clN_mem.mp h
                have lx2 := gPr_len (S := S) (n := n) (r := r) (p := xp) (by omega) h2
                rw [← x2] at lx2
                rw [gaB_eq (by omega) (by omega), Bool.or_eq_false_iff, Bool.and_eq_false_iff, decide_eq_false_iff_not, decide_eq_false_iff_not, decide_eq_false_iff_not] at h3
                rw [gaB_eq (by omega) (by omega), Bool.or_eq_true, Bool.and_eq_true, decide_eq_true_iff, decide_eq_true_iff, decide_eq_true_iff] at hq
                rw [gaB_eq (by omega) (by omega), Bool.or_eq_false_iff, Bool.and_eq_false_iff, decide_eq_false_iff_not, decide_eq_false_iff_not, decide_eq_false_iff_not]
                omega
              · rw [List.mem_singleton.mp h]
                exact gaB_self _
            · rw [if_neg hq]
              refine ⟨List.mem_append_left _ i2.1, fun x hx => ?_⟩
              rcases List.mem_append.mp hx with h | h
              · exact i2.2 x h
              · rw [List.mem_singleton.mp h]
                exact Bool.eq_false_iff.mpr hq
      · intro ef
        have e3 := i3 ef
        subst ef
        simp only [Bool.false_and, Bool.false_eq_true, if_false]
        exact e3
    · have eS : gsS S n r fs p (gsP S n r fs s0 p) = gsP S n r fs s0 p := if_neg hg
      rw [eS, if_neg hg]
      exact ⟨i1, i2, i3⟩
abbrev gCd (S : List (List Nat × List Nat)) (j : Nat) : Prop := (sAt S 0).1.length ≤ j + 1 + (sAt S 0).2.length ∧ j + 1 + (sAt S 0).2.length - (sAt S 0).1.length ≤ 3
def clA (S : List (List Nat × List Nat)) : Nat → List (List Nat × List Nat)
  | 0 => []
  | j + 1 => if gCd S j then clA S j ++ clN S (j + 1) (j + 1 + (sAt S 0).2.length - (sAt S 0).1.length) ((sAt S 0).1.length + 1 - (j + 1)) else clA S j
def mgA (S : List (List Nat × List Nat)) : Nat → List (List Nat × List Nat)
  | 0 => []
  | j + 1 => if gCd S j then mgS S (j + 1) (j + 1 + (sAt S 0).2.length - (sAt S 0).1.length) (mgA S j) ((sAt S 0).1.length + 1 - (j + 1)) else mgA S j
theorem clA_ok {S : List (List Nat × List Nat)} (h0 : 0 < S.length) : ∀ j : Nat, ((guS S j).1 = (clA S j).length ∧ LeO (guS S j).2 (clA S j)) ∧ (∀ x, x ∈ clA S j → x.1.length ≤ j) ∧ (clA S j).Nodup ∧ (mgA S j).Nodup ∧ ∀ x, x ∈ mgA S j ↔ x ∈ clA S j
  | 0 => ⟨⟨rfl, rfl⟩, fun x hx => (by cases hx), List.nodup_nil, List.nodup_nil, fun x => Iff.rfl⟩
  | j + 1 => by
    obtain ⟨⟨i1, i2⟩, i3, i4, i5, i6⟩ := clA_ok h0 j
    have e1 : guS S (j + 1) = if gCd S j then gsP S (j + 1) (j + 1 + (sAt S 0).2.length - (sAt S 0).1.length) (guS S j).2.isNone (guS S j) ((sAt S 0).1.length + 1 - (j + 1)) else guS S j := rfl
    have e2 : clA S (j + 1) = if gCd S j then clA S j ++ clN S (j + 1) (j + 1 + (sAt S 0).2.length - (sAt S 0).1.length) ((sAt S 0).1.length + 1 - (j + 1)) else clA S j := rfl
    have e3 : mgA S (j + 1) = if gCd S j then mgS S (j + 1) (j + 1 + (sAt S 0).2.length - (sAt S 0).1.length) (mgA S j) ((sAt S 0).1.length + 1 - (j + 1)) else mgA S j := rfl
    rw [e1, e2, e3]
    by_cases hc : gCd S j
    · rw [if_pos hc, if_pos hc, if_pos hc]
      have hr : (sAt S 0).1.length + (j + 1 + (sAt S 0).2.length - (sAt S 0).1.length) = j + 1 + (sAt S 0).2.length := by omega
      clear e1 e2 e3 hc
      generalize j + 1 + (sAt S 0).2.length - (sAt S 0).1.length = r at *
      have hmem : ∀ x, x ∈ mgS S (j + 1) r (mgA S j) ((sAt S 0).1.length + 1 - (j + 1)) ↔ x ∈ clA S j ++ clN S (j + 1) r ((sAt S 0).1.length + 1 - (j + 1)) := fun x => by
        rw [mgS_mem, List.mem_append, i6, clN_all h0 (by omega) hr]
      have hlen : ∀ x, x ∈ clN S (j + 1) r ((sAt S 0).1.length + 1 - (j + 1)) → x.1.length = j + 1 := fun x hx => by
        obtain ⟨q, q1, q2, _⟩ := clN_mem.mp hx
        rw [q2]
        exact (gPr_len (by omega) hr).1
      refine ⟨?_, fun x hx => ?_, ?_, mgS_nodup i5, hmem⟩
      · by_cases hj : j + 1 ≤ (sAt S 0).1.length + 1
        · have g := gsP_le (S := S) (n := j + 1) (r := r) (fs := (guS S j).2.isNone) (s0 := guS S j) (l0 := clA S j) hr i1 i2 (fun x hx => by have := i3 x hx; omega) rfl (p := (sAt S 0).1.length + 1 - (j + 1)) (by omega)
          exact ⟨g.1, g.2.1⟩
        · rw [show (sAt S 0).1.length + 1 - (j + 1) = 0 by omega]
          have e9 : clA S j ++ clN S (j + 1) r 0 = clA S j := List.append_nil _
          rw [e9]
          exact ⟨i1, i2⟩
      · rcases List.mem_append.mp hx with h | h
        · have := i3 x h
          omega
        · have := hlen x h
          omega
      · rw [List.nodup_append]
        refine ⟨i4, ?_, fun a ha b hb e => ?_⟩
        · by_cases hj : j + 1 ≤ (sAt S 0).1.length + 1
          · exact clN_nodup (by omega) (by omega)
          · rw [show (sAt S 0).1.length + 1 - (j + 1) = 0 by omega]
            exact List.nodup_nil
        · have g1 := i3 a ha
          have g2 := hlen b hb
          rw [e] at g1
          omega
    · rw [if_neg hc, if_neg hc, if_neg hc]
      exact ⟨⟨i1, i2⟩, fun x hx => by have := i3 x hx; omega, i4, i5, i6⟩
theorem LeO_iff {o : Option (List Nat × List Nat)} {l l' : List (List Nat × List Nat)} (h : LeO o l) (e : ∀ x, x ∈ l' ↔ x ∈ l) : LeO o l' := by
  cases o with
  | none =>
    have h2 : l = [] := h
    show l' = []
    cases l' with
    | nil => rfl
    | cons a t =>
      have h3 := (e a).mp List.mem_cons_self
      rw [h2] at h3
      cases h3
  | some q => exact ⟨(e q).mpr h.1, fun x hx => h.2 x ((e x).mp hx)⟩
/-- the model's list has as many, and the class's first is its least -/
theorem mgA_ok (S : List (List Nat × List Nat)) : (guV S).1 = (mgA S 3).length ∧ LeO (guV S).2 (mgA S 3) := by
  unfold guV
  by_cases h0 : S.length = 0
  · rw [if_pos h0]
    have e : S = [] := List.eq_nil_of_length_eq_zero h0
    rw [e]
    exact ⟨rfl, rfl⟩
  · rw [if_neg h0]
    obtain ⟨⟨i1, i2⟩, i3, i4, i5, i6⟩ := clA_ok (S := S) (by omega) 3
    have hp : (mgA S 3).Perm (clA S 3) := (List.perm_ext_iff_of_nodup i5 i4).mpr i6
    exact ⟨by rw [i1, hp.length_eq], LeO_iff i2 i6⟩
theorem mgA_len {S : List (List Nat × List Nat)} : ∀ j : Nat, (mgA S j).length ≤ j * (sAt S 0).1.length
  | 0 => Nat.zero_le _
  | j + 1 => by
    have ih := mgA_len (S := S) j
    have e3 : mgA S (j + 1) = if gCd S j then mgS S (j + 1) (j + 1 + (sAt S 0).2.length - (sAt S 0).1.length) (mgA S j) ((sAt S 0).1.length + 1 - (j + 1)) else mgA S j := rfl
    rw [e3, Nat.succ_mul]
    split
    · have := mgS_len (S := S) (n := j + 1) (r := j + 1 + (sAt S 0).2.length - (sAt S 0).1.length) (l := mgA S j) (p := (sAt S 0).1.length + 1 - (j + 1))
      omega
    · omega
theorem gaB_tot {x y : List Nat × List Nat} (hx : okb x.1 ∧ okb x.2) (hy : okb y.1 ∧ okb y.2) (h1 : gaB x y = false) (h2 : gaB y x = false) : x = y := by
  unfold gaB at h1 h2
  by_cases e1 : x.1.length = y.1.length
  · by_cases e2 : x.2.length = y.2.length
    · rw [if_neg (fun z => z e1), if_neg (fun z => z e2)] at h1
      rw [if_neg (fun z => z e1.symm), if_neg (fun z => z e2.symm)] at h2
      by_cases e3 : cd x.1 = cd y.1
      · rw [if_neg (fun z => z e3), decide_eq_false_iff_not] at h1
        rw [if_neg (fun z => z e3.symm), decide_eq_false_iff_not] at h2
        have e4 : cd x.2 = cd y.2 := by omega
        exact Prod.ext (cd_inj hx.1 hy.1 e3) (cd_inj hx.2 hy.2 e4)
      · rw [if_pos e3, decide_eq_false_iff_not] at h1
        rw [if_pos (fun z => e3 z.symm), decide_eq_false_iff_not] at h2
        omega
    · rw [if_neg (fun z => z e1), if_pos e2, decide_eq_false_iff_not] at h1
      rw [if_neg (fun z => z e1.symm), if_pos (fun z => e2 z.symm), decide_eq_false_iff_not] at h2
      omega
  · rw [if_pos e1, decide_eq_false_iff_not] at h1
    rw [if_pos (fun z => e1 z.symm), decide_eq_false_iff_not] at h2
    omega

