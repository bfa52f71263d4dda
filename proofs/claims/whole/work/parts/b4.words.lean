/-! the law's wrappers: their words, and small facts -/
set_option maxRecDepth 10000 in
theorem cl_L_8 : Cond.classLink RL 8 "BeastRules" ∈ tbw := in_tb (in_t1 (List.mem_of_getElem? (i := 32) rfl)) rfl
set_option maxRecDepth 10000 in
theorem cl_L_13 : Cond.classLink RL 13 "java/lang/IllegalArgumentException" ∈ tbw := in_tb (in_t3 (List.mem_of_getElem? (i := 187) rfl)) rfl
set_option maxRecDepth 10000 in
theorem cl_L_15 : Cond.classLink RL 15 "java/lang/UnsupportedOperationException" ∈ tbw := in_tb (in_t3 (List.mem_of_getElem? (i := 188) rfl)) rfl
set_option maxRecDepth 10000 in
theorem cl_L_24 : Cond.classLink RL 24 "java/lang/IndexOutOfBoundsException" ∈ tbw := in_tb (in_t5 (List.mem_of_getElem? (i := 3) rfl)) rfl
set_option maxRecDepth 10000 in
theorem cl_L_45 : Cond.classLink RL 45 "java/util/NoSuchElementException" ∈ tbw := in_tb (in_t5 (List.mem_of_getElem? (i := 72) rfl)) rfl
set_option maxRecDepth 10000 in
theorem cl_L_55 : Cond.classLink RL 55 "java/lang/IllegalStateException" ∈ tbw := in_tb (in_t5 (List.mem_of_getElem? (i := 106) rfl)) rfl
set_option maxRecDepth 10000 in
theorem cl_L_138 : Cond.classLink RL 138 "BeastRulesModel" ∈ tbw := in_tb (in_t7 (List.mem_of_getElem? (i := 73) rfl)) rfl
set_option maxRecDepth 10000 in
theorem ca_A : Cond.castable "java/lang/IllegalArgumentException" "java/lang/IllegalArgumentException" ∈ nww := in_nw (in_t4 (List.mem_of_getElem? (i := 109) rfl)) rfl
set_option maxRecDepth 10000 in
theorem ca_U : Cond.castable "java/lang/UnsupportedOperationException" "java/lang/UnsupportedOperationException" ∈ nww := in_nw (in_t4 (List.mem_of_getElem? (i := 175) rfl)) rfl
set_option maxRecDepth 10000 in
theorem ca_I : Cond.castable "java/lang/IndexOutOfBoundsException" "java/lang/IndexOutOfBoundsException" ∈ nww := in_nw (in_t5 (List.mem_of_getElem? (i := 14) rfl)) rfl
set_option maxRecDepth 10000 in
theorem ca_N : Cond.castable "java/util/NoSuchElementException" "java/util/NoSuchElementException" ∈ nww := in_nw (in_t5 (List.mem_of_getElem? (i := 82) rfl)) rfl
set_option maxRecDepth 10000 in
theorem ca_S : Cond.castable "java/lang/IllegalStateException" "java/lang/IllegalStateException" ∈ nww := in_nw (in_t5 (List.mem_of_getElem? (i := 113) rfl)) rfl
set_option maxRecDepth 10000 in
theorem mk_L_valley : MOkH M_L_valley 2 := ⟨in_tb (in_t3 (List.mem_of_getElem? (i := 186) rfl)) rfl, by decide, ini_L, ⟨by decide, by decide, by decide +kernel⟩, by decide⟩
set_option maxRecDepth 10000 in
theorem mk_L_law : MOkH M_L_law 2 := ⟨in_tb (in_t4 (List.mem_of_getElem? (i := 190) rfl)) rfl, by decide, ini_L, ⟨by decide, by decide, by decide +kernel⟩, by decide⟩
set_option maxRecDepth 10000 in
theorem mk_L_rule : MOkH M_L_rule 4 := ⟨in_tb (in_t5 (List.mem_of_getElem? (i := 2) rfl)) rfl, by decide, ini_L, ⟨by decide, by decide, by decide +kernel⟩, by decide⟩
set_option maxRecDepth 10000 in
theorem mk_L_field : MOkH M_L_field 3 := ⟨in_tb (in_t5 (List.mem_of_getElem? (i := 29) rfl)) rfl, by decide, ini_L, ⟨by decide, by decide, by decide +kernel⟩, by decide⟩
set_option maxRecDepth 10000 in
theorem mk_L_seen : MOkH M_L_seen 4 := ⟨in_tb (in_t5 (List.mem_of_getElem? (i := 40) rfl)) rfl, by decide, ini_L, ⟨by decide, by decide, by decide +kernel⟩, by decide⟩
set_option maxRecDepth 10000 in
theorem mk_L_beast : MOkH M_L_beast 4 := ⟨in_tb (in_t5 (List.mem_of_getElem? (i := 51) rfl)) rfl, by decide, ini_L, ⟨by decide, by decide, by decide +kernel⟩, by decide⟩
set_option maxRecDepth 10000 in
theorem mk_L_steps : MOkH M_L_steps 3 := ⟨in_tb (in_t5 (List.mem_of_getElem? (i := 64) rfl)) rfl, by decide, ini_L, ⟨by decide, by decide, by decide +kernel⟩, by decide⟩
set_option maxRecDepth 10000 in
theorem mk_L_maker : MOkH M_L_maker 5 := ⟨in_tb (in_t5 (List.mem_of_getElem? (i := 71) rfl)) rfl, by decide, ini_L, ⟨by decide, by decide, by decide +kernel⟩, by decide⟩
set_option maxRecDepth 10000 in
theorem mk_L_fits : MOkH M_L_fits 5 := ⟨in_tb (in_t5 (List.mem_of_getElem? (i := 97) rfl)) rfl, by decide, ini_L, ⟨by decide, by decide, by decide +kernel⟩, by decide⟩
set_option maxRecDepth 10000 in
theorem mk_L_use : MOkH M_L_use 5 := ⟨in_tb (in_t5 (List.mem_of_getElem? (i := 105) rfl)) rfl, by decide, ini_L, ⟨by decide, by decide, by decide +kernel⟩, by decide⟩
set_option maxRecDepth 10000 in
theorem mk_L_run : MOkH M_L_run 4 := ⟨in_tb (in_t5 (List.mem_of_getElem? (i := 149) rfl)) rfl, by decide, ini_L, ⟨by decide, by decide, by decide +kernel⟩, by decide⟩
set_option maxRecDepth 10000 in
theorem mk_L_put : MOkH M_L_put 4 := ⟨in_tb (in_t5 (List.mem_of_getElem? (i := 163) rfl)) rfl, by decide, ini_L, ⟨by decide, by decide, by decide +kernel⟩, by decide⟩
set_option maxRecDepth 10000 in
theorem mk_L_add : MOkH M_L_add 4 := ⟨in_tb (in_t5 (List.mem_of_getElem? (i := 171) rfl)) rfl, by decide, ini_L, ⟨by decide, by decide, by decide +kernel⟩, by decide⟩
set_option maxRecDepth 10000 in
theorem mk_L_drop : MOkH M_L_drop 3 := ⟨in_tb (in_t5 (List.mem_of_getElem? (i := 183) rfl)) rfl, by decide, ini_L, ⟨by decide, by decide, by decide +kernel⟩, by decide⟩
set_option maxRecDepth 10000 in
theorem mk_L_years : MOkH M_L_years 4 := ⟨in_tb (in_t5 (List.mem_of_getElem? (i := 191) rfl)) rfl, by decide, ini_L, ⟨by decide, by decide, by decide +kernel⟩, by decide⟩
set_option maxRecDepth 10000 in
theorem mk_L_settles : MOkH M_L_settles 5 := ⟨in_tb (in_t5 (List.mem_of_getElem? (i := 211) rfl)) rfl, by decide, ini_L, ⟨by decide, by decide, by decide +kernel⟩, by decide⟩
set_option maxRecDepth 10000 in
theorem mk_L_again : MOkH M_L_again 4 := ⟨in_tb (in_t5 (List.mem_of_getElem? (i := 218) rfl)) rfl, by decide, ini_L, ⟨by decide, by decide, by decide +kernel⟩, by decide⟩
set_option maxRecDepth 10000 in
theorem mk_L_alike : MOkH M_L_alike 4 := ⟨in_tb (in_t6 (List.mem_of_getElem? (i := 8) rfl)) rfl, by decide, ini_L, ⟨by decide, by decide, by decide +kernel⟩, by decide⟩
set_option maxRecDepth 10000 in
theorem mk_L_becomes : MOkH M_L_becomes 5 := ⟨in_tb (in_t6 (List.mem_of_getElem? (i := 15) rfl)) rfl, by decide, ini_L, ⟨by decide, by decide, by decide +kernel⟩, by decide⟩
set_option maxRecDepth 10000 in
theorem mk_L_fewest : MOkH M_L_fewest 4 := ⟨in_tb (in_t6 (List.mem_of_getElem? (i := 63) rfl)) rfl, by decide, ini_L, ⟨by decide, by decide, by decide +kernel⟩, by decide⟩
set_option maxRecDepth 10000 in
theorem mk_L_meets : MOkH M_L_meets 6 := ⟨in_tb (in_t6 (List.mem_of_getElem? (i := 72) rfl)) rfl, by decide, ini_L, ⟨by decide, by decide, by decide +kernel⟩, by decide⟩
set_option maxRecDepth 10000 in
theorem mk_L_overlaps : MOkH M_L_overlaps 3 := ⟨in_tb (in_t6 (List.mem_of_getElem? (i := 79) rfl)) rfl, by decide, ini_L, ⟨by decide, by decide, by decide +kernel⟩, by decide⟩
set_option maxRecDepth 10000 in
theorem mk_L_complete : MOkH M_L_complete 2 := ⟨in_tb (in_t6 (List.mem_of_getElem? (i := 113) rfl)) rfl, by decide, ini_L, ⟨by decide, by decide, by decide +kernel⟩, by decide⟩
set_option maxRecDepth 10000 in
theorem mk_L_never : MOkH M_L_never 5 := ⟨in_tb (in_t6 (List.mem_of_getElem? (i := 120) rfl)) rfl, by decide, ini_L, ⟨by decide, by decide, by decide +kernel⟩, by decide⟩
set_option maxRecDepth 10000 in
theorem mk_L_falls : MOkH M_L_falls 4 := ⟨in_tb (in_t6 (List.mem_of_getElem? (i := 176) rfl)) rfl, by decide, ini_L, ⟨by decide, by decide, by decide +kernel⟩, by decide⟩
set_option maxRecDepth 10000 in
theorem mk_L_light : MOkH M_L_light 3 := ⟨in_tb (in_t6 (List.mem_of_getElem? (i := 187) rfl)) rfl, by decide, ini_L, ⟨by decide, by decide, by decide +kernel⟩, by decide⟩
set_option maxRecDepth 10000 in
theorem mk_L_loss : MOkH M_L_loss 3 := ⟨in_tb (in_t6 (List.mem_of_getElem? (i := 198) rfl)) rfl, by decide, ini_L, ⟨by decide, by decide, by decide +kernel⟩, by decide⟩
set_option maxRecDepth 10000 in
theorem mk_L_reckons : MOkH M_L_reckons 4 := ⟨in_tb (in_t6 (List.mem_of_getElem? (i := 205) rfl)) rfl, by decide, ini_L, ⟨by decide, by decide, by decide +kernel⟩, by decide⟩
set_option maxRecDepth 10000 in
theorem mk_L_explained : MOkH M_L_explained 3 := ⟨in_tb (in_t6 (List.mem_of_getElem? (i := 229) rfl)) rfl, by decide, ini_L, ⟨by decide, by decide, by decide +kernel⟩, by decide⟩
set_option maxRecDepth 10000 in
theorem mk_L_guessed : MOkH M_L_guessed 3 := ⟨in_tb (in_t6 (List.mem_of_getElem? (i := 237) rfl)) rfl, by decide, ini_L, ⟨by decide, by decide, by decide +kernel⟩, by decide⟩
set_option maxRecDepth 10000 in
theorem mk_L_drovers : MOkH M_L_drovers 4 := ⟨in_tb (in_t7 (List.mem_of_getElem? (i := 24) rfl)) rfl, by decide, ini_L, ⟨by decide, by decide, by decide +kernel⟩, by decide⟩
set_option maxRecDepth 10000 in
theorem mk_L_best : MOkH M_L_best 4 := ⟨in_tb (in_t7 (List.mem_of_getElem? (i := 48) rfl)) rfl, by decide, ini_L, ⟨by decide, by decide, by decide +kernel⟩, by decide⟩
set_option maxRecDepth 10000 in
theorem mk_L_sorts : MOkH M_L_sorts 3 := ⟨in_tb (in_t7 (List.mem_of_getElem? (i := 55) rfl)) rfl, by decide, ini_L, ⟨by decide, by decide, by decide +kernel⟩, by decide⟩
theorem mT1_le (a : Bool) : mT1 a ≤ 1 := by unfold mT1; split <;> omega
theorem mT2_le (a b : Bool) : mT2 a b ≤ 2 := by unfold mT2; split <;> (try split) <;> omega
theorem mI_le (a : Bool) : (if a = true then 0 else 1) ≤ 1 := by split <;> omega
theorem mkT_le (F : List Fld) (x y z : Int32) : mkT F x y z ≤ 2 := by unfold mkT; split <;> (try split) <;> omega
theorem useT_le (X : Td) (LL : List (List Int32)) (x y z : Int32) : useT X LL x y z ≤ 2 := mT2_le _ _
theorem vyT_le (B : List Nat) (X : Td) : vyT B X ≤ 2 := by
  unfold vyT
  cases vText B X with
  | inl f => exact (by decide : (1 : Nat) ≤ 2)
  | inr q =>
    dsimp only
    split <;> omega
theorem lyT_le (B : List Nat) : lyT B ≤ 1 := by
  unfold lyT
  cases lawF B with
  | inl f => exact Nat.le_refl 1
  | inr q => exact Nat.zero_le 1
theorem cmT_le (X : Td) : cmT X ≤ 1 := by unfold cmT; split <;> omega
theorem Cq.ok {μ : SM2} {nm : Nat → String} {t : Nat} {val : Value} {s : Sta} {v : Option Value} {m9 : SMem} (h : Cq μ (erF nm t val) s (.inl v) m9) : ∃ m, m9 = rm m ∧ CO μ m s ∧ t = 0 ∧ v = some val := by
  obtain ⟨m, h1, h2, h3⟩ := h
  refine ⟨m, h1, h2, ?_⟩
  unfold erF at h3
  by_cases e : t = 0
  · rw [if_pos e] at h3
    exact ⟨e, Sum.inl.inj h3⟩
  · rw [if_neg e] at h3
    cases h3
theorem Cq.no {μ : SM2} {nm : Nat → String} {t : Nat} {val : Value} {s : Sta} {E : String} {m9 : SMem} (h : Cq μ (erF nm t val) s (.inr E) m9) : ∃ m, m9 = rm m ∧ CO μ m s ∧ t ≠ 0 ∧ E = nm t := by
  obtain ⟨m, h1, h2, h3⟩ := h
  refine ⟨m, h1, h2, ?_⟩
  unfold erF at h3
  by_cases e : t = 0
  · rw [if_pos e] at h3
    cases h3
  · rw [if_neg e] at h3
    exact ⟨e, Sum.inr.inj h3⟩
def Swr (k : Nat) : Prop := k < 572 ∨ k = 594
/-- a wrapper: it answers what was thrown; where nothing was, the answer lies in the cell 594 -/
def WQ (μ : SM2) (t : Nat) (ov : Int64) (s : Sta) : Out → SMem → Prop := fun o m => ∃ μ', o = .inl (some (.int (nI t))) ∧ m = rm μ' ∧ CAll μ' s ∧ (t = 0 → μ'.2 594 0 = ov) ∧ OfS Swr μ μ'
theorem WQ.no {μ m : SM2} {t : Nat} {ov : Int64} {s : Sta} (h : CO μ m s) (ht : t ≠ 0) : WQ μ t ov s (.inl (some (.int (nI t)))) (rm m) := ⟨m, rfl, rfl, h.1, fun z => absurd z ht, h.2.mono (fun k hk => Or.inl hk)⟩
theorem WQ.ok {μ m : SM2} {t : Nat} {ov : Int64} {s : Sta} (h : CO μ m s) (ht : t = 0) : WQ μ t ov s (.inl (some (.int (nI 0)))) (rm (wL m 594 0 ov)) := by
  have g : OfS (fun k => k = 594) m (wL m 594 0 ov) := OfS.sL (OfS.refl _ _) rfl
  exact ⟨_, by rw [ht], rfl, h.1.hi (fun k hk => g k (by omega)), fun _ => e_wL ⟨rfl, rfl⟩, (h.2.mono (fun k hk => Or.inl hk)).trans (g.mono (fun k hk => Or.inr hk))⟩

