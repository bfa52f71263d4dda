/-! telling, guessed, sorts -/
def tlA (E : Nat → Nat) (set n : Nat) : Bool := alN (fun j => decide (E j &&& set ≠ 0)) n
def tlL (i : Nat) (o : Option Nat) : Bool := match o with
  | none => true
  | some f => decide (pcn i 12 < pcn f 12)
/-- the fewest RULES by which each can be, of the first i sets -/
def tlN (E : Nat → Nat) (n : Nat) : Nat → Option Nat
  | 0 => none
  | i + 1 => if (tlL i (tlN E n i) && tlA E i n) = true then some i else tlN E n i
def exE (X : Td) (j : Nat) : Nat := exN X.R (sAt X.S j).1 (sAt X.S j).2 X.R.length
theorem exN_lt (R : List Ru) (a t : List Nat) : ∀ i, exN R a t i < 2 ^ i
  | 0 => Nat.one_pos
  | i + 1 => by
    have h := exN_lt R a t i
    show exN R a t i ||| (if _ then _ else _) < _
    have h2 : 2 ^ i < 2 ^ (i + 1) := Nat.pow_lt_pow_right (by decide) (Nat.lt_succ_self _)
    refine Nat.or_lt_two_pow (by omega) ?_
    split
    · exact h2
    · exact Nat.pow_pos (by decide)
theorem tlN_lt {E : Nat → Nat} {n : Nat} : ∀ {i f : Nat}, tlN E n i = some f → f < i
  | 0, f, h => by cases h
  | i + 1, f, h => by
    have h2 : (if (tlL i (tlN E n i) && tlA E i n) = true then some i else tlN E n i) = some f := h
    split at h2
    · cases h2
      exact Nat.lt_succ_self _
    · have := tlN_lt h2
      omega
/-- RULES guessed: how many, the first -/
abbrev Gu : Type := Nat × Option (List Nat × List Nat)
def GuAt (m : SM2) (s : Gu) : Prop := m.1 122 0 = nI s.1 ∧ m.2 122 1 = vO (s.2.map (fun q => q.1)) ∧ m.2 122 2 = vO (s.2.map (fun q => q.2))
def gL (a : List Nat) (p n : Nat) : List Nat := (a.take (p + n)).drop p
def ceB (a t L R : List Nat) : Nat → Bool
  | 0 => false
  | i + 1 => ceB a t L R i || (stB a i L && decide (usd a i L R = t))
theorem ceB_yes {a t L R : List Nat} {i : Nat} (h : (stB a i L && decide (usd a i L R = t)) = true) : ∀ {n}, i < n → ceB a t L R n = true
  | 0, hi => absurd hi (Nat.not_lt_zero _)
  | n + 1, hi => by
    show (ceB a t L R n || _) = true
    by_cases e : i = n
    · rw [← e, h, Bool.or_true]
    · rw [ceB_yes h (n := n) (by omega), Bool.true_or]
def taB (S : List (List Nat × List Nat)) (L R : List Nat) : Bool := alN (fun i => cbB (sAt S i).1 (sAt S i).2 L R) S.length
def gsC (S : List (List Nat × List Nat)) (ls rs p : Nat) : Bool := decide (gL (sAt S 0).1 p ls ≠ gL (sAt S 0).2 p rs) && (decide (usd (sAt S 0).1 p (gL (sAt S 0).1 p ls) (gL (sAt S 0).2 p rs) = (sAt S 0).2) && (!ceB (sAt S 0).1 (sAt S 0).2 (gL (sAt S 0).1 p ls) (gL (sAt S 0).2 p rs) p && taB S (gL (sAt S 0).1 p ls) (gL (sAt S 0).2 p rs)))
def gsL (o : Option (List Nat × List Nat)) (L R : List Nat) : Bool := match o with
  | none => true
  | some q => decide (cd L < cd q.1) || (decide (cd L = cd q.1) && decide (cd R < cd q.2))
def gsS (S : List (List Nat × List Nat)) (ls rs : Nat) (fs : Bool) (p : Nat) (s : Gu) : Gu := if gsC S ls rs p = true then (s.1 + 1, if (fs && gsL s.2 (gL (sAt S 0).1 p ls) (gL (sAt S 0).2 p rs)) = true then some (gL (sAt S 0).1 p ls, gL (sAt S 0).2 p rs) else s.2) else s
def gsP (S : List (List Nat × List Nat)) (ls rs : Nat) (fs : Bool) (s0 : Gu) : Nat → Gu
  | 0 => s0
  | p + 1 => gsS S ls rs fs p (gsP S ls rs fs s0 p)
def guS (S : List (List Nat × List Nat)) : Nat → Gu
  | 0 => (0, none)
  | j + 1 => if (sAt S 0).1.length ≤ j + 1 + (sAt S 0).2.length ∧ j + 1 + (sAt S 0).2.length - (sAt S 0).1.length ≤ 3 then gsP S (j + 1) (j + 1 + (sAt S 0).2.length - (sAt S 0).1.length) (guS S j).2.isNone (guS S j) ((sAt S 0).1.length + 1 - (j + 1)) else guS S j
def guV (S : List (List Nat × List Nat)) : Gu := if S.length = 0 then (0, none) else guS S 3
def guO (s : Gu) (k : Nat) : Int64 := if k = 0 then lN s.1 else if k = 1 then vO (s.2.map (fun q => q.1)) else vO (s.2.map (fun q => q.2))
theorem gL_ok {a : List Nat} {p n : Nat} (ha : Mw a) (h : p + n ≤ a.length) : Mw (gL a p n) ∧ (gL a p n).length = n := by
  have e : (gL a p n).length = n := by
    unfold gL
    rw [List.length_drop, List.length_take]
    omega
  have := ha.1
  exact ⟨⟨by omega, okb_drop (okb_take ha.2)⟩, e⟩
def GuOk (s : Gu) (n : Nat) : Prop := s.1 ≤ n ∧ ∀ q, s.2 = some q → Mw q.1 ∧ Mw q.2
theorem lN_nlt {a : Nat} (h : a < 2 ^ 63) : ¬ lN a < -1 := by
  rw [fa_lt64, pf_lI h]
  have e : (-1 : Int64).toInt = -1 := rfl
  omega
section GU
variable {γ : Ga} {μ : SM2}
theorem c_explainsAll {E : Nat → Nat} {set n : Nat} (hn : n ≤ 10) (hs : set < 2 ^ 12) (hE : ∀ j, j < n → E j < 2 ^ 12 ∧ μ.1 123 j = nI (E j)) : Ex γ 1 0 0 M_X3_explainsAll [.ref 122, .int (nI set), .int (nI n)] (rm μ) (Fn (some (.int (bI (tlA E set n)))) μ) := by
  suffices loop : ∀ g i, i + g = n → tlA E set i = true → T γ 1 0 0 M_X3_explainsAll (Fn (some (.int (bI (tlA E set n)))) μ) 0 0 2 [some (.ref 122), some (.int (nI set)), some (.int (nI n)), some (.int (nI i))] [] (rm μ) by
    refine Ex.of (by decide +kernel) rfl (Nat.le_of_ble_eq_true rfl) ?_
    show T _ _ _ _ _ _ _ _ _ [some (.ref 122), some (.int (nI set)), some (.int (nI n)), none] [] (rm μ)
    refine T_iconst (pc := 0) (v := nI 0) dX3_explainsAll_0 (by decide) ?_
    refine T_istore_n (pc := 1) (i := 3) (ls' := [some (.ref 122), some (.int (nI set)), some (.int (nI n)), some (.int (nI 0))]) dX3_explainsAll_1 rfl (by decide) rfl ?_
    exact loop n 0 (Nat.zero_add _) rfl
  intro g
  induction g with
  | zero =>
    intro i hi ha
    obtain rfl : i = n := by omega
    refine T_iload_n (pc := 2) (i := 3) dX3_explainsAll_2 rfl rfl ?_
    refine T_iload_n (pc := 3) (i := 2) dX3_explainsAll_3 rfl rfl ?_
    refine R_icmp_ge (pc := 4) (tgt := 26) (by omega) (by omega) dX3_explainsAll_4 (by decide) (fun h1 => ?_) (fun h1 => ?_)
    · skip
      refine T_iconst (pc := 26) (v := nI 1) dX3_explainsAll_26 (by decide) ?_
      rw [ha]
      exact T_iret (pc := 27) (ty := .boolean) dX3_explainsAll_27 rfl (by decide) (Nat.le_refl _) (Nat.le_refl _) ⟨rfl, rfl⟩
    · exact absurd h1 (by omega)
  | succ g ih =>
    intro i hi ha
    have hi2 : i < n := by omega
    have hb : E i &&& set < 2 ^ 31 := Nat.lt_of_le_of_lt Nat.and_le_right (by omega)
    refine T_iload_n (pc := 2) (i := 3) dX3_explainsAll_2 rfl rfl ?_
    refine T_iload_n (pc := 3) (i := 2) dX3_explainsAll_3 rfl rfl ?_
    refine R_icmp_ge (pc := 4) (tgt := 26) (by omega) (by omega) dX3_explainsAll_4 (by decide) (fun h1 => ?_) (fun h1 => ?_)
    · exact absurd h1 (by omega)
    · skip
      refine T_aload_n (pc := 7) (i := 0) dX3_explainsAll_7 rfl rfl ?_
      refine R_getR (pc := 8) (i := 123) fl_X3_9 rfl kc_122 lc_122 rc_122_3 dX3_explainsAll_8 ?_
      refine T_iload_n (pc := 11) (i := 3) dX3_explainsAll_11 rfl rfl ?_
      refine R_iald (pc := 12) (x := nI (E i)) kc_123 lc_123 (by omega) (by first | decide | assumption) ((hE i hi2).2) dX3_explainsAll_12 ?_
      refine T_iload_n (pc := 13) (i := 1) dX3_explainsAll_13 rfl rfl ?_
      refine R_iand (pc := 14) dX3_explainsAll_14 ?_
      refine R_if_ne (pc := 15) (tgt := 20) hb dX3_explainsAll_15 (by decide) (fun h2 => ?_) (fun h2 => ?_)
      · skip
        refine R_iinc (pc := 20) (i := 3) (n := 1) (ls' := [some (.ref 122), some (.int (nI set)), some (.int (nI n)), some (.int (nI (i + 1)))]) dX3_explainsAll_20 rfl rfl ?_
        refine T_goto (pc := 23) (tgt := 2) dX3_explainsAll_23 (by decide) ?_
        exact ih (i + 1) (by omega) (by show (tlA E set i && decide (E i &&& set ≠ 0)) = true; rw [ha, decide_eq_true h2]; rfl)
      · skip
        have e : tlA E set n = false := alN_no (P := fun j => decide (E j &&& set ≠ 0)) (decide_eq_false (fun z => z h2)) hi2
        rw [e]
        refine T_iconst (pc := 18) (v := nI 0) dX3_explainsAll_18 (by decide) ?_
        exact T_iret (pc := 19) (ty := .boolean) dX3_explainsAll_19 rfl (by decide) (Nat.le_refl _) (Nat.le_refl _) ⟨rfl, rfl⟩
theorem c_fewestTelling {X : Td} (hX : ToldAt μ 3 X) : Ex γ 6 0 0 M_X3_fewestTelling [.ref 122, .ref 3] (rm μ) (Rm (some (.int (oN (tlN (exE X) X.S.length (2 ^ X.R.length))))) (fun m => OfS (fun k => k = 123) μ m)) := by
  have h12 := hX.1.len
  have h10 := hX.2.2.1.2.1
  have hp : 2 ^ X.R.length ≤ 2 ^ 12 := Nat.pow_le_pow_right (by decide) h12
  have hEl : ∀ j, exE X j < 2 ^ 12 := fun j => Nat.lt_of_lt_of_le (exN_lt _ _ _ _) hp
  suffices second : ∀ (g i : Nat) (m : SM2), i + g = 2 ^ X.R.length → (∀ j, j < X.S.length → exE X j < 2 ^ 12 ∧ m.1 123 j = nI (exE X j)) → ToldAt m 3 X → OfS (fun k => k = 123) μ m → T γ 6 0 0 M_X3_fewestTelling (Rm (some (.int (oN (tlN (exE X) X.S.length (2 ^ X.R.length))))) (fun m => OfS (fun k => k = 123) μ m)) 0 0 31 [some (.ref 122), some (.ref 3), some (.int (oN (tlN (exE X) X.S.length i))), some (.int (nI i)), none] [] (rm m) by
    refine Ex.of (by decide +kernel) rfl (Nat.le_of_ble_eq_true rfl) ?_
    show T _ _ _ _ _ _ _ _ _ [some (.ref 122), some (.ref 3), none, none, none] [] (rm μ)
    refine T_iconst (pc := 0) (v := nI 0) dX3_fewestTelling_0 (by decide) ?_
    refine T_istore_n (pc := 1) (i := 2) (ls' := [some (.ref 122), some (.ref 3), some (.int (nI 0)), none, none]) dX3_fewestTelling_1 rfl (by decide) rfl ?_
    refine T_forI (pc := 2) X.S.length (fun i => [some (.ref 122), some (.ref 3), some (.int (nI i)), none, none]) (fun i m => (∀ j, j < i → m.1 123 j = nI (exE X j)) ∧ OfS (fun k => k = 123) μ m) (fun i m hle hI ih => ?_) 0 (Nat.zero_le _) (⟨fun j hj => absurd hj (Nat.not_lt_zero _), OfS.refl _ _⟩)
    show T _ _ _ _ _ _ _ _ 2 [some (.ref 122), some (.ref 3), some (.int (nI i)), none, none] [] (rm m)
    obtain ⟨iT, iO⟩ := hI
    have iX := hX.ofs iO (fun k h1 h2 => by omega)
    refine T_iload_n (pc := 2) (i := 2) dX3_fewestTelling_2 rfl rfl ?_
    refine T_aload_n (pc := 3) (i := 1) dX3_fewestTelling_3 rfl rfl ?_
    refine R_getI (pc := 4) (x := nI X.S.length) fl_X3_15 rfl (kt_told told3) (lt_told told3) iX.2.2.1.1 dX3_fewestTelling_4 ?_
    refine R_icmp_ge (pc := 7) (tgt := 27) (by omega) (by omega) dX3_fewestTelling_7 (by decide) (fun h1 => ?_) (fun h1 => ?_)
    · skip
      refine T_iconst (pc := 27) (v := (-1)) dX3_fewestTelling_27 (by decide) ?_
      refine T_istore_n (pc := 28) (i := 2) (ls' := [some (.ref 122), some (.ref 3), some (.int ((-1))), none, none]) dX3_fewestTelling_28 rfl (by decide) rfl ?_
      refine T_iconst (pc := 29) (v := nI 0) dX3_fewestTelling_29 (by decide) ?_
      refine T_istore_n (pc := 30) (i := 3) (ls' := [some (.ref 122), some (.ref 3), some (.int ((-1))), some (.int (nI 0)), none]) dX3_fewestTelling_30 rfl (by decide) rfl ?_
      exact second (2 ^ X.R.length) 0 m (Nat.zero_add _) (fun j hj => ⟨hEl j, iT j (by omega)⟩) iX iO
    · skip
      refine T_aload_n (pc := 10) (i := 0) dX3_fewestTelling_10 rfl rfl ?_
      refine R_getR (pc := 11) (i := 123) fl_X3_9 rfl kc_122 lc_122 rc_122_3 dX3_fewestTelling_11 ?_
      refine T_iload_n (pc := 14) (i := 2) dX3_fewestTelling_14 rfl rfl ?_
      refine T_aload_n (pc := 15) (i := 1) dX3_fewestTelling_15 rfl rfl ?_
      refine T_iload_n (pc := 16) (i := 2) dX3_fewestTelling_16 rfl rfl ?_
      refine R_callV1 (pc := 17) (As := [.int (nI i)]) (rest := [.int (nI i), .ref 123]) (Or.inl lk_X3_21) mk_X9_explaining (c_Told_explaining told3 iX.1 iX.2.2.1 h1) (kt_told told3) ⟨by decide, rfl⟩ (lt_told told3) dX3_fewestTelling_17 rfl rfl (Nat.le_of_ble_eq_true rfl) (by decide) rfl (Nat.le_refl _) (Nat.le_refl _) ?_
      refine R_iast (pc := 20) kc_123 lc_123 (by omega) (by first | decide | assumption) dX3_fewestTelling_20 ?_
      refine R_iinc (pc := 21) (i := 2) (n := 1) (ls' := [some (.ref 122), some (.ref 3), some (.int (nI (i + 1))), none, none]) dX3_fewestTelling_21 rfl rfl ?_
      refine T_goto (pc := 24) (tgt := 2) dX3_fewestTelling_24 (by decide) ?_
      have o1 : OfS (fun k => k = 123) m (wI m 123 i (nI (exE X i))) := OfS.sI (OfS.refl _ _) rfl
      refine ih h1 _ ⟨fun j hj => ?_, iO.trans o1⟩
      by_cases e : j = i
      · subst e
        exact e_wI ⟨rfl, rfl⟩
      · rw [n_wI (by omega)]
        exact iT j (by omega)
  intro g
  induction g with
  | zero =>
    intro i m hi iT iX iO
    have e : i = 2 ^ X.R.length := by omega
    rw [e]
    refine T_iload_n (pc := 31) (i := 3) dX3_fewestTelling_31 rfl rfl ?_
    refine T_iconst (pc := 32) (v := nI 1) dX3_fewestTelling_32 (by decide) ?_
    refine T_aload_n (pc := 33) (i := 1) dX3_fewestTelling_33 rfl rfl ?_
    refine R_getR (pc := 34) (i := 4) fl_X3_25 rfl (kt_told told3) (lt_told told3) (rt_told_rules told3) dX3_fewestTelling_34 ?_
    refine R_getI (pc := 37) (x := nI X.R.length) fl_X3_29 rfl (kt_rules rules4) (lt_rules rules4) iX.1.size dX3_fewestTelling_37 ?_
    refine R_ishl (pc := 40) (by omega) dX3_fewestTelling_40 ?_
    refine R_icmp_ge (pc := 41) (tgt := 92) (by omega) (by omega) dX3_fewestTelling_41 (by decide) (fun h1 => ?_) (fun h1 => ?_)
    · skip
      refine T_iload_n (pc := 92) (i := 2) dX3_fewestTelling_92 rfl rfl ?_
      exact T_iret (pc := 93) (ty := .int) dX3_fewestTelling_93 rfl rfl (Nat.le_refl _) (Nat.le_refl _) ⟨_, rfl, rfl, iO⟩
    · exact absurd h1 (by omega)
  | succ g ih =>
    intro i m hi iT iX iO
    have h9 := ih (i + 1) m (by omega) iT iX iO
    have eS : tlN (exE X) X.S.length (i + 1) = if (tlL i (tlN (exE X) X.S.length i) && tlA (exE X) i X.S.length) = true then some i else tlN (exE X) X.S.length i := rfl
    rw [eS] at h9
    have hlt := fun f => tlN_lt (E := exE X) (n := X.S.length) (i := i) (f := f)
    have hpi := pcn_le i 12
    generalize tlN (exE X) X.S.length i = o at *
    have ask : tlL i o = true → T γ 6 0 0 M_X3_fewestTelling (Rm (some (.int (oN (tlN (exE X) X.S.length (2 ^ X.R.length))))) (fun m => OfS (fun k => k = 123) μ m)) 0 0 60 [some (.ref 122), some (.ref 3), some (.int (oN o)), some (.int (nI i)), none] [] (rm m) := fun el => by
      rw [el, Bool.true_and] at h9
      refine T_iconst (pc := 60) (v := nI 1) dX3_fewestTelling_60 (by decide) ?_
      refine T_goto (pc := 61) (tgt := 65) dX3_fewestTelling_61 (by decide) ?_
      refine T_istore (pc := 65) (i := 4) (ls' := [some (.ref 122), some (.ref 3), some (.int ((oN o))), some (.int (nI i)), some (.int (nI 1))]) dX3_fewestTelling_65 (by decide) rfl ?_
      refine T_iload (pc := 67) (i := 4) dX3_fewestTelling_67 rfl ?_
      refine R_if_eq (pc := 69) (tgt := 86) (by omega) dX3_fewestTelling_69 (by decide) (fun h2 => ?_) (fun h2 => ?_)
      · exact absurd h2 (by decide)
      · skip
        refine T_aload_n (pc := 72) (i := 0) dX3_fewestTelling_72 rfl rfl ?_
        refine T_iload_n (pc := 73) (i := 3) dX3_fewestTelling_73 rfl rfl ?_
        refine T_aload_n (pc := 74) (i := 1) dX3_fewestTelling_74 rfl rfl ?_
        refine R_getI (pc := 75) (x := nI X.S.length) fl_X3_15 rfl (kt_told told3) (lt_told told3) iX.2.2.1.1 dX3_fewestTelling_75 ?_
        refine R_callV1 (pc := 78) (As := [.int (nI i), .int (nI X.S.length)]) (rest := []) (Or.inl lk_X3_39) mk_X3_explainsAll (c_explainsAll h10 (by omega) iT) kc_122 ⟨by decide, rfl⟩ lc_122 dX3_fewestTelling_78 rfl rfl (Nat.le_of_ble_eq_true rfl) (by decide) rfl (Nat.le_refl _) (Nat.le_refl _) ?_
        refine R_ifb_eq (pc := 81) (tgt := 86) dX3_fewestTelling_81 (by decide) (fun h3 => ?_) (fun h3 => ?_)
        · skip
          rw [if_neg (by rw [h3]; decide)] at h9
          refine R_iinc (pc := 86) (i := 3) (n := 1) (ls' := [some (.ref 122), some (.ref 3), some (.int ((oN o))), some (.int (nI (i + 1))), some (.int (nI 1))]) dX3_fewestTelling_86 rfl rfl ?_
          refine T_goto (pc := 89) (tgt := 31) dX3_fewestTelling_89 (by decide) ?_
          refine T_ls (ls' := [some (.ref 122), some (.ref 3), some (.int ((oN o))), some (.int (nI (i + 1))), none]) (And.intro rfl (And.intro rfl (And.intro rfl (And.intro rfl True.intro)))) ?_
          exact h9
        · skip
          rw [if_pos h3] at h9
          refine T_iload_n (pc := 84) (i := 3) dX3_fewestTelling_84 rfl rfl ?_
          refine T_istore_n (pc := 85) (i := 2) (ls' := [some (.ref 122), some (.ref 3), some (.int (nI i)), some (.int (nI i)), some (.int (nI 1))]) dX3_fewestTelling_85 rfl (by decide) rfl ?_
          refine R_iinc (pc := 86) (i := 3) (n := 1) (ls' := [some (.ref 122), some (.ref 3), some (.int (nI i)), some (.int (nI (i + 1))), some (.int (nI 1))]) dX3_fewestTelling_86 rfl rfl ?_
          refine T_goto (pc := 89) (tgt := 31) dX3_fewestTelling_89 (by decide) ?_
          refine T_ls (ls' := [some (.ref 122), some (.ref 3), some (.int (nI i)), some (.int (nI (i + 1))), none]) (And.intro rfl (And.intro rfl (And.intro rfl (And.intro rfl True.intro)))) ?_
          exact h9
    refine T_iload_n (pc := 31) (i := 3) dX3_fewestTelling_31 rfl rfl ?_
    refine T_iconst (pc := 32) (v := nI 1) dX3_fewestTelling_32 (by decide) ?_
    refine T_aload_n (pc := 33) (i := 1) dX3_fewestTelling_33 rfl rfl ?_
    refine R_getR (pc := 34) (i := 4) fl_X3_25 rfl (kt_told told3) (lt_told told3) (rt_told_rules told3) dX3_fewestTelling_34 ?_
    refine R_getI (pc := 37) (x := nI X.R.length) fl_X3_29 rfl (kt_rules rules4) (lt_rules rules4) iX.1.size dX3_fewestTelling_37 ?_
    refine R_ishl (pc := 40) (by omega) dX3_fewestTelling_40 ?_
    refine R_icmp_ge (pc := 41) (tgt := 92) (by omega) (by omega) dX3_fewestTelling_41 (by decide) (fun h1 => ?_) (fun h1 => ?_)
    · exact absurd h1 (by omega)
    · skip
      cases o with
      | none =>
        refine T_iload_n (pc := 44) (i := 2) dX3_fewestTelling_44 rfl rfl ?_
        refine T_iconst (pc := 45) (v := (-1)) dX3_fewestTelling_45 (by decide) ?_
        refine T_icmp_eq (pc := 46) (tgt := 60) dX3_fewestTelling_46 (by decide) (fun h2 => ?_) (fun h2 => ?_)
        · exact ask rfl
        · exact absurd rfl h2
      | some f =>
        have hf := hlt f rfl
        have hpf := pcn_le f 12
        refine T_iload_n (pc := 44) (i := 2) dX3_fewestTelling_44 rfl rfl ?_
        refine T_iconst (pc := 45) (v := (-1)) dX3_fewestTelling_45 (by decide) ?_
        refine T_icmp_eq (pc := 46) (tgt := 60) dX3_fewestTelling_46 (by decide) (fun h2 => ?_) (fun h2 => ?_)
        · exact absurd h2 (nI_ne (by omega))
        · skip
          refine T_iload_n (pc := 49) (i := 3) dX3_fewestTelling_49 rfl rfl ?_
          refine R_callS1 (pc := 50) (av := [.int (nI i)]) (rest := []) (Or.inl lk_X3_34) mk_J6_bitCount_0f7a4 (c_bitCount (by omega)) dX3_fewestTelling_50 rfl rfl (Nat.le_of_ble_eq_true rfl) (by decide) rfl (Nat.le_refl _) (Nat.le_refl _) ?_
          refine T_iload_n (pc := 53) (i := 2) dX3_fewestTelling_53 rfl rfl ?_
          refine R_callS1 (pc := 54) (av := [.int (nI f)]) (rest := [.int (nI (pcn i 12))]) (Or.inl lk_X3_34) mk_J6_bitCount_0f7a4 (c_bitCount (by omega)) dX3_fewestTelling_54 rfl rfl (Nat.le_of_ble_eq_true rfl) (by decide) rfl (Nat.le_refl _) (Nat.le_refl _) ?_
          refine R_icmp_ge (pc := 57) (tgt := 64) (by omega) (by omega) dX3_fewestTelling_57 (by decide) (fun h3 => ?_) (fun h3 => ?_)
          · skip
            have el : tlL i (some f) = false := decide_eq_false (by omega)
            rw [if_neg (by rw [el]; exact fun z => Bool.false_ne_true z)] at h9
            refine T_iconst (pc := 64) (v := nI 0) dX3_fewestTelling_64 (by decide) ?_
            refine T_istore (pc := 65) (i := 4) (ls' := [some (.ref 122), some (.ref 3), some (.int (nI f)), some (.int (nI i)), some (.int (nI 0))]) dX3_fewestTelling_65 (by decide) rfl ?_
            refine T_iload (pc := 67) (i := 4) dX3_fewestTelling_67 rfl ?_
            refine R_if_eq (pc := 69) (tgt := 86) (by omega) dX3_fewestTelling_69 (by decide) (fun h4 => ?_) (fun h4 => ?_)
            · skip
              refine R_iinc (pc := 86) (i := 3) (n := 1) (ls' := [some (.ref 122), some (.ref 3), some (.int (nI f)), some (.int (nI (i + 1))), some (.int (nI 0))]) dX3_fewestTelling_86 rfl rfl ?_
              refine T_goto (pc := 89) (tgt := 31) dX3_fewestTelling_89 (by decide) ?_
              refine T_ls (ls' := [some (.ref 122), some (.ref 3), some (.int (nI f)), some (.int (nI (i + 1))), none]) (And.intro rfl (And.intro rfl (And.intro rfl (And.intro rfl True.intro)))) ?_
              exact h9
            · exact absurd rfl h4
          · exact ask (decide_eq_true h3)
theorem c_telling {X : Td} (hX : ToldAt μ 3 X) : Ex γ 7 0 0 M_X11_telling [.ref 0] (rm μ) (Rm (some (.int (oN (tlN (exE X) X.S.length (2 ^ X.R.length))))) (fun m => OfS SQ μ m)) := by
  refine Ex.of (by decide +kernel) rfl (Nat.le_of_ble_eq_true rfl) ?_
  show T _ _ _ _ _ _ _ _ _ [some (.ref 0)] [] (rm μ)
  refine T_aload_n (pc := 0) (i := 0) dX11_telling_0 rfl rfl ?_
  refine R_getR (pc := 1) (i := 122) fl_X11_93 rfl kc_0 lc_0 rc_0_17 dX11_telling_1 ?_
  refine T_aload_n (pc := 4) (i := 0) dX11_telling_4 rfl rfl ?_
  refine R_getR (pc := 5) (i := 3) fl_X11_19 rfl kc_0 lc_0 rc_0_1 dX11_telling_5 ?_
  refine R_callVm1 (pc := 8) (As := [.ref 3]) (rest := []) (Or.inl lk_X11_423) mk_X3_fewestTelling (c_fewestTelling hX) kc_122 ⟨by decide, rfl⟩ lc_122 dX11_telling_8 rfl rfl (Nat.le_of_ble_eq_true rfl) (by decide) rfl (Nat.le_refl _) (Nat.le_refl _) (fun m h => ?_)
  exact T_iret (pc := 11) (ty := .int) dX11_telling_11 rfl rfl (Nat.le_refl _) (Nat.le_refl _) ⟨_, rfl, rfl, h.mono (fun k hk => by unfold SQ; omega)⟩
theorem c_cameEarlier {a t L R : List Nat} {p : Nat} (ha : Mw a) (ht : Mw t) (hL : Mw L) (hR : Mw R) (hs : a.length + R.length = t.length + L.length) (hp : p ≤ a.length) : Ex γ 4 0 0 M_X3_cameEarlier [.long (lN (cd a)), .long (lN (cd t)), .long (lN (cd L)), .long (lN (cd R)), .int (nI p)] (rm μ) (Fn (some (.int (bI (ceB a t L R p)))) μ) := by
  have a20 := ha.1
  have L20 := hL.1
  have bt := cd_lt ht
  suffices loop : ∀ g i, i + g = p → ceB a t L R i = false → T γ 4 0 0 M_X3_cameEarlier (Fn (some (.int (bI (ceB a t L R p)))) μ) 0 0 23 [some (.long (lN (cd a))), none, some (.long (lN (cd t))), none, some (.long (lN (cd L))), none, some (.long (lN (cd R))), none, some (.int (nI p)), some (.int (nI a.length)), some (.int (nI L.length)), some (.int (nI R.length)), some (.int (nI i))] [] (rm μ) by
    refine Ex.of (by decide +kernel) rfl (Nat.le_of_ble_eq_true rfl) ?_
    show T _ _ _ _ _ _ _ _ _ [some (.long (lN (cd a))), none, some (.long (lN (cd t))), none, some (.long (lN (cd L))), none, some (.long (lN (cd R))), none, some (.int (nI p)), none, none, none, none] [] (rm μ)
    refine T_lload_n (pc := 0) (i := 0) dX3_cameEarlier_0 rfl rfl ?_
    refine R_callS1 (pc := 1) (av := [.long (lN (cd a))]) (rest := []) (Or.inr lk_X3_59) mk_X11_sizeOf (c_sizeOf_cd ha) dX3_cameEarlier_1 rfl rfl (Nat.le_of_ble_eq_true rfl) (by decide) rfl (Nat.le_refl _) (Nat.le_refl _) ?_
    refine T_istore (pc := 4) (i := 9) (ls' := [some (.long (lN (cd a))), none, some (.long (lN (cd t))), none, some (.long (lN (cd L))), none, some (.long (lN (cd R))), none, some (.int (nI p)), some (.int (nI a.length)), none, none, none]) dX3_cameEarlier_4 (by decide) rfl ?_
    refine T_lload (pc := 6) (i := 4) dX3_cameEarlier_6 rfl ?_
    refine R_callS1 (pc := 8) (av := [.long (lN (cd L))]) (rest := []) (Or.inr lk_X3_59) mk_X11_sizeOf (c_sizeOf_cd hL) dX3_cameEarlier_8 rfl rfl (Nat.le_of_ble_eq_true rfl) (by decide) rfl (Nat.le_refl _) (Nat.le_refl _) ?_
    refine T_istore (pc := 11) (i := 10) (ls' := [some (.long (lN (cd a))), none, some (.long (lN (cd t))), none, some (.long (lN (cd L))), none, some (.long (lN (cd R))), none, some (.int (nI p)), some (.int (nI a.length)), some (.int (nI L.length)), none, none]) dX3_cameEarlier_11 (by decide) rfl ?_
    refine T_lload (pc := 13) (i := 6) dX3_cameEarlier_13 rfl ?_
    refine R_callS1 (pc := 15) (av := [.long (lN (cd R))]) (rest := []) (Or.inr lk_X3_59) mk_X11_sizeOf (c_sizeOf_cd hR) dX3_cameEarlier_15 rfl rfl (Nat.le_of_ble_eq_true rfl) (by decide) rfl (Nat.le_refl _) (Nat.le_refl _) ?_
    refine T_istore (pc := 18) (i := 11) (ls' := [some (.long (lN (cd a))), none, some (.long (lN (cd t))), none, some (.long (lN (cd L))), none, some (.long (lN (cd R))), none, some (.int (nI p)), some (.int (nI a.length)), some (.int (nI L.length)), some (.int (nI R.length)), none]) dX3_cameEarlier_18 (by decide) rfl ?_
    refine T_iconst (pc := 20) (v := nI 0) dX3_cameEarlier_20 (by decide) ?_
    refine T_istore (pc := 21) (i := 12) (ls' := [some (.long (lN (cd a))), none, some (.long (lN (cd t))), none, some (.long (lN (cd L))), none, some (.long (lN (cd R))), none, some (.int (nI p)), some (.int (nI a.length)), some (.int (nI L.length)), some (.int (nI R.length)), some (.int (nI 0))]) dX3_cameEarlier_21 (by decide) rfl ?_
    exact loop p 0 (Nat.zero_add _) rfl
  intro g
  induction g with
  | zero =>
    intro i hi hc
    obtain rfl : i = p := by omega
    refine T_iload (pc := 23) (i := 12) dX3_cameEarlier_23 rfl ?_
    refine T_iload (pc := 25) (i := 8) dX3_cameEarlier_25 rfl ?_
    refine R_icmp_ge (pc := 27) (tgt := 72) (by omega) (by omega) dX3_cameEarlier_27 (by decide) (fun h1 => ?_) (fun h1 => ?_)
    · skip
      refine T_iconst (pc := 72) (v := nI 0) dX3_cameEarlier_72 (by decide) ?_
      rw [hc]
      exact T_iret (pc := 73) (ty := .boolean) dX3_cameEarlier_73 rfl (by decide) (Nat.le_refl _) (Nat.le_refl _) ⟨rfl, rfl⟩
    · exact absurd h1 (by omega)
  | succ g ih =>
    intro i hi hc
    refine T_iload (pc := 23) (i := 12) dX3_cameEarlier_23 rfl ?_
    refine T_iload (pc := 25) (i := 8) dX3_cameEarlier_25 rfl ?_
    refine R_icmp_ge (pc := 27) (tgt := 72) (by omega) (by omega) dX3_cameEarlier_27 (by decide) (fun h1 => ?_) (fun h1 => ?_)
    · exact absurd h1 (by omega)
    · skip
      refine T_lload_n (pc := 30) (i := 0) dX3_cameEarlier_30 rfl rfl ?_
      refine T_iload (pc := 31) (i := 9) dX3_cameEarlier_31 rfl ?_
      refine T_iload (pc := 33) (i := 12) dX3_cameEarlier_33 rfl ?_
      refine T_lload (pc := 35) (i := 4) dX3_cameEarlier_35 rfl ?_
      refine T_iload (pc := 37) (i := 10) dX3_cameEarlier_37 rfl ?_
      refine R_callS1 (pc := 39) (av := [.long (lN (cd a)), .int (nI a.length), .int (nI i), .long (lN (cd L)), .int (nI L.length)]) (rest := []) (Or.inr lk_X3_86) mk_X11_standsIn (c_standsIn ha hL.2 hL.1 (by omega)) dX3_cameEarlier_39 rfl rfl (Nat.le_of_ble_eq_true rfl) (by decide) rfl (Nat.le_refl _) (Nat.le_refl _) ?_
      refine R_ifb_eq (pc := 42) (tgt := 66) dX3_cameEarlier_42 (by decide) (fun h2 => ?_) (fun h2 => ?_)
      · skip
        refine R_iinc (pc := 66) (i := 12) (n := 1) (ls' := [some (.long (lN (cd a))), none, some (.long (lN (cd t))), none, some (.long (lN (cd L))), none, some (.long (lN (cd R))), none, some (.int (nI p)), some (.int (nI a.length)), some (.int (nI L.length)), some (.int (nI R.length)), some (.int (nI (i + 1)))]) dX3_cameEarlier_66 rfl rfl ?_
        refine T_goto (pc := 69) (tgt := 23) dX3_cameEarlier_69 (by decide) ?_
        exact ih (i + 1) (by omega) (by show (ceB a t L R i || (stB a i L && _)) = false; rw [hc, h2]; rfl)
      · skip
        have s := stB_get h2
        refine T_lload_n (pc := 45) (i := 0) dX3_cameEarlier_45 rfl rfl ?_
        refine T_iload (pc := 46) (i := 9) dX3_cameEarlier_46 rfl ?_
        refine T_iload (pc := 48) (i := 12) dX3_cameEarlier_48 rfl ?_
        refine T_iload (pc := 50) (i := 10) dX3_cameEarlier_50 rfl ?_
        refine T_lload (pc := 52) (i := 6) dX3_cameEarlier_52 rfl ?_
        refine T_iload (pc := 54) (i := 11) dX3_cameEarlier_54 rfl ?_
        refine R_callS1 (pc := 56) (av := [.long (lN (cd a)), .int (nI a.length), .int (nI i), .int (nI L.length), .long (lN (cd R)), .int (nI R.length)]) (rest := []) (Or.inr lk_X3_74) mk_X11_replaced (c_replaced ha hR (by omega)) dX3_cameEarlier_56 rfl rfl (Nat.le_of_ble_eq_true rfl) (by decide) rfl (Nat.le_refl _) (Nat.le_refl _) ?_
        have hu := usd_len (R := R) (show i + L.length ≤ a.length by omega)
        have hum : Mw (usd a i L R) := ⟨by have := ht.1; omega, usd_ok ha.2 hR.2⟩
        have bu := cd_lt hum
        refine T_lload_n (pc := 59) (i := 2) dX3_cameEarlier_59 rfl rfl ?_
        refine T_lcmp (pc := 60) dX3_cameEarlier_60 ?_
        refine R_ln_ne (pc := 61) (tgt := 66) (by omega) (by omega) dX3_cameEarlier_61 (by decide) (fun h3 => ?_) (fun h3 => ?_)
        · skip
          refine R_iinc (pc := 66) (i := 12) (n := 1) (ls' := [some (.long (lN (cd a))), none, some (.long (lN (cd t))), none, some (.long (lN (cd L))), none, some (.long (lN (cd R))), none, some (.int (nI p)), some (.int (nI a.length)), some (.int (nI L.length)), some (.int (nI R.length)), some (.int (nI (i + 1)))]) dX3_cameEarlier_66 rfl rfl ?_
          refine T_goto (pc := 69) (tgt := 23) dX3_cameEarlier_69 (by decide) ?_
          have hne : usd a i L R ≠ t := fun z => h3 (by rw [z])
          exact ih (i + 1) (by omega) (by show (ceB a t L R i || (stB a i L && decide (usd a i L R = t))) = false; rw [hc, h2, decide_eq_false hne]; rfl)
        · skip
          have he : ceB a t L R p = true := ceB_yes (i := i) (by rw [h2, decide_eq_true (cd_inj hum.2 ht.2 h3)]; rfl) h1
          rw [he]
          refine T_iconst (pc := 64) (v := nI 1) dX3_cameEarlier_64 (by decide) ?_
          exact T_iret (pc := 65) (ty := .boolean) dX3_cameEarlier_65 rfl (by decide) (Nat.le_refl _) (Nat.le_refl _) ⟨rfl, rfl⟩
theorem c_tellsAll {S : List (List Nat × List Nat)} {L R : List Nat} (hS : SeenAt μ 3 S) (hL : Mw L) (hR : Mw R) : Ex γ 5 0 0 M_X3_tellsAll [.ref 3, .long (lN (cd L)), .long (lN (cd R))] (rm μ) (Fn (some (.int (bI (taB S L R)))) μ) := by
  have h10 := hS.2.1
  suffices loop : ∀ g i, i + g = S.length → alN (fun i => cbB (sAt S i).1 (sAt S i).2 L R) i = true → T γ 5 0 0 M_X3_tellsAll (Fn (some (.int (bI (taB S L R)))) μ) 0 0 3 [some (.ref 3), some (.long (lN (cd L))), none, some (.long (lN (cd R))), none, some (.int (nI i))] [] (rm μ) by
    refine Ex.of (by decide +kernel) rfl (Nat.le_of_ble_eq_true rfl) ?_
    show T _ _ _ _ _ _ _ _ _ [some (.ref 3), some (.long (lN (cd L))), none, some (.long (lN (cd R))), none, none] [] (rm μ)
    refine T_iconst (pc := 0) (v := nI 0) dX3_tellsAll_0 (by decide) ?_
    refine T_istore (pc := 1) (i := 5) (ls' := [some (.ref 3), some (.long (lN (cd L))), none, some (.long (lN (cd R))), none, some (.int (nI 0))]) dX3_tellsAll_1 (by decide) rfl ?_
    exact loop S.length 0 (Nat.zero_add _) rfl
  intro g
  induction g with
  | zero =>
    intro i hi hc
    obtain rfl : i = S.length := by omega
    refine T_iload (pc := 3) (i := 5) dX3_tellsAll_3 rfl ?_
    refine T_aload_n (pc := 5) (i := 0) dX3_tellsAll_5 rfl rfl ?_
    refine R_getI (pc := 6) (x := nI S.length) fl_X3_15 rfl (kt_told told3) (lt_told told3) hS.1 dX3_tellsAll_6 ?_
    refine R_icmp_ge (pc := 9) (tgt := 42) (by omega) (by omega) dX3_tellsAll_9 (by decide) (fun h1 => ?_) (fun h1 => ?_)
    · skip
      refine T_iconst (pc := 42) (v := nI 1) dX3_tellsAll_42 (by decide) ?_
      have e : taB S L R = true := hc
      rw [e]
      exact T_iret (pc := 43) (ty := .boolean) dX3_tellsAll_43 rfl (by decide) (Nat.le_refl _) (Nat.le_refl _) ⟨rfl, rfl⟩
    · exact absurd h1 (by omega)
  | succ g ih =>
    intro i hi hc
    have hs := hS.2.2 i (by omega)
    refine T_iload (pc := 3) (i := 5) dX3_tellsAll_3 rfl ?_
    refine T_aload_n (pc := 5) (i := 0) dX3_tellsAll_5 rfl rfl ?_
    refine R_getI (pc := 6) (x := nI S.length) fl_X3_15 rfl (kt_told told3) (lt_told told3) hS.1 dX3_tellsAll_6 ?_
    refine R_icmp_ge (pc := 9) (tgt := 42) (by omega) (by omega) dX3_tellsAll_9 (by decide) (fun h1 => ?_) (fun h1 => ?_)
    · exact absurd h1 (by omega)
    · skip
      refine T_aload_n (pc := 12) (i := 0) dX3_tellsAll_12 rfl rfl ?_
      refine R_getR (pc := 13) (i := 10) fl_X3_63 rfl (kt_told told3) (lt_told told3) (rt_told_seenFirst told3) dX3_tellsAll_13 ?_
      refine T_iload (pc := 16) (i := 5) dX3_tellsAll_16 rfl ?_
      refine R_lald (pc := 18) (x := lN (cd (sAt S i).1)) (kt_told_seenFirst told3) (lt_told_seenFirst told3) (by omega) (by first | decide | assumption) hs.2.1 dX3_tellsAll_18 ?_
      refine T_aload_n (pc := 19) (i := 0) dX3_tellsAll_19 rfl rfl ?_
      refine R_getR (pc := 20) (i := 11) fl_X3_55 rfl (kt_told told3) (lt_told told3) (rt_told_seenThen told3) dX3_tellsAll_20 ?_
      refine T_iload (pc := 23) (i := 5) dX3_tellsAll_23 rfl ?_
      refine R_lald (pc := 25) (x := lN (cd (sAt S i).2)) (kt_told_seenThen told3) (lt_told_seenThen told3) (by omega) (by first | decide | assumption) hs.2.2 dX3_tellsAll_25 ?_
      refine T_lload_n (pc := 26) (i := 1) dX3_tellsAll_26 rfl rfl ?_
      refine T_lload_n (pc := 27) (i := 3) dX3_tellsAll_27 rfl rfl ?_
      refine R_callS1 (pc := 28) (av := [.long (lN (cd (sAt S i).1)), .long (lN (cd (sAt S i).2)), .long (lN (cd L)), .long (lN (cd R))]) (rest := []) (Or.inr lk_X3_90) mk_X11_canBecome (c_canBecome hs.1.1 hs.1.2 hL hR) dX3_tellsAll_28 rfl rfl (Nat.le_of_ble_eq_true rfl) (by decide) rfl (Nat.le_refl _) (Nat.le_refl _) ?_
      refine R_ifb_ne (pc := 31) (tgt := 36) dX3_tellsAll_31 (by decide) (fun h2 => ?_) (fun h2 => ?_)
      · skip
        refine R_iinc (pc := 36) (i := 5) (n := 1) (ls' := [some (.ref 3), some (.long (lN (cd L))), none, some (.long (lN (cd R))), none, some (.int (nI (i + 1)))]) dX3_tellsAll_36 rfl rfl ?_
        refine T_goto (pc := 39) (tgt := 3) dX3_tellsAll_39 (by decide) ?_
        exact ih (i + 1) (by omega) (by show (alN _ i && cbB (sAt S i).1 (sAt S i).2 L R) = true; rw [hc, h2]; rfl)
      · skip
        have e : taB S L R = false := alN_no (P := fun i => cbB (sAt S i).1 (sAt S i).2 L R) h2 h1
        rw [e]
        refine T_iconst (pc := 34) (v := nI 0) dX3_tellsAll_34 (by decide) ?_
        exact T_iret (pc := 35) (ty := .boolean) dX3_tellsAll_35 rfl (by decide) (Nat.le_refl _) (Nat.le_refl _) ⟨rfl, rfl⟩
def srV (X : Td) (k : Nat) : Int32 := if k = 0 then nI 255 &&& (nI (kLN X.R X.R.length) ^^^ (-1)) else if k = 1 then nI 255 &&& (nI (kRN X.R X.R.length) ^^^ (-1)) else if k = 2 then nI (shN X.R X.R.length) else nI (gwN X.R X.R.length)
theorem c_sorts {z : Int32} {X : Td} (hX : ToldAt μ 3 X) : Ex γ 5 1 6 M_X11_sorts [.ref 0, .int z] (rm μ) (An (if inB z 4 = true then .inr (.int (srV X z.toNatClampNeg)) else .inl "java/util/NoSuchElementException") μ) := by
  refine Ex.of (by decide +kernel) rfl (Nat.le_of_ble_eq_true rfl) ?_
  show T _ _ _ _ _ _ _ _ _ [some (.ref 0), some (.int (z)), none] [] (rm μ)
  refine T_iload_n (pc := 0) (i := 1) dX11_sorts_0 rfl rfl ?_
  refine T_iconst (pc := 1) (v := nI 4) dX11_sorts_1 (by decide) ?_
  refine R_chkS (pc := 2) (av := [.int (z), .int (nI 4)]) (rest := []) (Or.inl lk_X11_187) mk_X11_checkWhat c_checkWhat dX11_sorts_2 rfl rfl (Nat.le_of_ble_eq_true rfl) (by decide) rfl (by decide) (by decide) (fun w => An_e (by unfold inB; rw [w]; decide)) (fun hC => ?_)
  have hC2 : inB z 4 = true := hC
  rw [if_pos hC2]
  obtain ⟨k, hk, rfl⟩ := inB_of (n := 4) (by decide) hC
  rw [nI_clamp (n := k) (by omega)]
  refine T_sipush (pc := 5) (v := nI 255) dX11_sorts_5 (by decide) ?_
  refine T_istore_n (pc := 8) (i := 2) (ls' := [some (.ref 0), some (.int (nI k)), some (.int (nI 255))]) dX11_sorts_8 rfl (by decide) rfl ?_
  refine T_iload_n (pc := 9) (i := 1) dX11_sorts_9 rfl rfl ?_
  have hc : k = 0 ∨ k = 1 ∨ k = 2 ∨ k = 3 := by omega
  rcases hc with rfl | rfl | rfl | rfl
  · skip
    refine T_tableIn (pc := 10) (tgt := 36) dX11_sorts_10 (by decide) (by decide) rfl (by decide) ?_
    refine T_iload_n (pc := 36) (i := 2) dX11_sorts_36 rfl rfl ?_
    refine T_aload_n (pc := 37) (i := 0) dX11_sorts_37 rfl rfl ?_
    refine R_getR (pc := 38) (i := 3) fl_X11_19 rfl kc_0 lc_0 rc_0_1 dX11_sorts_38 ?_
    refine R_getR (pc := 41) (i := 4) fl_X11_48 rfl (kt_told told3) (lt_told told3) (rt_told_rules told3) dX11_sorts_41 ?_
    refine R_callV1 (pc := 44) (As := []) (rest := [.int (nI 255)]) (Or.inl lk_X11_276) mk_X6_kindsOfLefts (c_Rules_kindsOfLefts rules4 hX.1) (kt_rules rules4) ⟨by decide, rfl⟩ (lt_rules rules4) dX11_sorts_44 rfl rfl (Nat.le_of_ble_eq_true rfl) (by decide) rfl (by decide) (by decide) ?_
    refine T_iconst (pc := 47) (v := (-1)) dX11_sorts_47 (by decide) ?_
    refine T_ixor (pc := 48) dX11_sorts_48 ?_
    refine T_iand (pc := 49) dX11_sorts_49 ?_
    exact T_iret (pc := 50) (ty := .int) dX11_sorts_50 rfl rfl (by decide) (by decide) ⟨rfl, rfl⟩
  · skip
    refine T_tableIn (pc := 10) (tgt := 51) dX11_sorts_10 (by decide) (by decide) rfl (by decide) ?_
    refine T_iload_n (pc := 51) (i := 2) dX11_sorts_51 rfl rfl ?_
    refine T_aload_n (pc := 52) (i := 0) dX11_sorts_52 rfl rfl ?_
    refine R_getR (pc := 53) (i := 3) fl_X11_19 rfl kc_0 lc_0 rc_0_1 dX11_sorts_53 ?_
    refine R_getR (pc := 56) (i := 4) fl_X11_48 rfl (kt_told told3) (lt_told told3) (rt_told_rules told3) dX11_sorts_56 ?_
    refine R_callV1 (pc := 59) (As := []) (rest := [.int (nI 255)]) (Or.inl lk_X11_436) mk_X6_kindsOfRights (c_Rules_kindsOfRights rules4 hX.1) (kt_rules rules4) ⟨by decide, rfl⟩ (lt_rules rules4) dX11_sorts_59 rfl rfl (Nat.le_of_ble_eq_true rfl) (by decide) rfl (by decide) (by decide) ?_
    refine T_iconst (pc := 62) (v := (-1)) dX11_sorts_62 (by decide) ?_
    refine T_ixor (pc := 63) dX11_sorts_63 ?_
    refine T_iand (pc := 64) dX11_sorts_64 ?_
    exact T_iret (pc := 65) (ty := .int) dX11_sorts_65 rfl rfl (by decide) (by decide) ⟨rfl, rfl⟩
  · skip
    refine T_tableIn (pc := 10) (tgt := 66) dX11_sorts_10 (by decide) (by decide) rfl (by decide) ?_
    refine T_aload_n (pc := 66) (i := 0) dX11_sorts_66 rfl rfl ?_
    refine R_getR (pc := 67) (i := 3) fl_X11_19 rfl kc_0 lc_0 rc_0_1 dX11_sorts_67 ?_
    refine R_getR (pc := 70) (i := 4) fl_X11_48 rfl (kt_told told3) (lt_told told3) (rt_told_rules told3) dX11_sorts_70 ?_
    refine R_callV1 (pc := 73) (As := []) (rest := []) (Or.inl lk_X11_439) mk_X6_shrinking (c_Rules_shrinking rules4 hX.1) (kt_rules rules4) ⟨by decide, rfl⟩ (lt_rules rules4) dX11_sorts_73 rfl rfl (Nat.le_of_ble_eq_true rfl) (by decide) rfl (by decide) (by decide) ?_
    exact T_iret (pc := 76) (ty := .int) dX11_sorts_76 rfl rfl (by decide) (by decide) ⟨rfl, rfl⟩
  · skip
    refine T_tableOut (pc := 10) (tgt := 77) dX11_sorts_10 (Or.inr (by decide)) (by decide) ?_
    refine T_aload_n (pc := 77) (i := 0) dX11_sorts_77 rfl rfl ?_
    refine R_getR (pc := 78) (i := 3) fl_X11_19 rfl kc_0 lc_0 rc_0_1 dX11_sorts_78 ?_
    refine R_getR (pc := 81) (i := 4) fl_X11_48 rfl (kt_told told3) (lt_told told3) (rt_told_rules told3) dX11_sorts_81 ?_
    refine R_callV1 (pc := 84) (As := []) (rest := []) (Or.inl lk_X11_442) mk_X6_growing (c_Rules_growing rules4 hX.1) (kt_rules rules4) ⟨by decide, rfl⟩ (lt_rules rules4) dX11_sorts_84 rfl rfl (Nat.le_of_ble_eq_true rfl) (by decide) rfl (by decide) (by decide) ?_
    exact T_iret (pc := 87) (ty := .int) dX11_sorts_87 rfl rfl (by decide) (by decide) ⟨rfl, rfl⟩
end GU

