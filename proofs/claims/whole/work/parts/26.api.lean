/-! calls that look at what is told -/
theorem An_e {c : Prop} [Decidable c] {μ : SM2} {v : Value} {E : String} (h : ¬ c) : An (if c then .inr v else .inl E) μ (.inr E) (rm μ) := by
  rw [if_neg h]
  exact ⟨rfl, rfl⟩
theorem An_v {c : Prop} [Decidable c] {μ : SM2} {v : Value} {E : String} (h : c) : An (if c then .inr v else .inl E) μ (.inl (some v)) (rm μ) := by
  rw [if_pos h]
  exact ⟨rfl, rfl⟩
/-- the BEASTS of a CODE -/
def ml (x : Int64) : List Nat := (List.range (sz x.toInt.toNat)).map (fun i => x.toInt.toNat / 8 ^ (sz x.toInt.toNat - 1 - i) % 8)
theorem ml_cd {l : List Nat} (hl : Mw l) : ml (lN (cd l)) = l := by
  have h1 := cd_lt hl
  have h2 : (lN (cd l)).toInt.toNat = cd l := by rw [pf_lI (by omega)]; rfl
  unfold ml
  rw [h2, sz_cd hl]
  apply List.ext_getElem
  · rw [List.length_map, List.length_range]
  · intro i h3 h4
    rw [List.getElem_map, List.getElem_range, cd_digD hl.2 h4, List.getD_eq_getElem?_getD, List.getElem?_eq_getElem h4]
    rfl
theorem codeB_of {x : Int64} (h : codeB x = true) : Mw (ml x) ∧ x = lN (cd (ml x)) := by
  obtain ⟨l, hl, rfl⟩ := codeB_iff.mp h
  rw [ml_cd hl]
  exact ⟨hl, rfl⟩
