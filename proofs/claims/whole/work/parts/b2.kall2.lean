/-! THE CLASS: calls that change what is told -/
theorem CAll.ta {μ m : SM2} {s : Sta} {X : Td} {U : List Td} (hs : CAll μ s) (hX : ToldAt m 3 X) (hU : ActsAt m U) (e7 : m.1 0 7 = μ.1 0 7) (e : ∀ k, ((1 ≤ k ∧ k < 3) ∨ (59 ≤ k ∧ k < 61) ∨ (65 ≤ k ∧ k < 96) ∨ 572 ≤ k) → m.1 k = μ.1 k ∧ m.2 k = μ.2 k) : CO μ m (X, s.2.1, U, s.2.2.2) :=
  ⟨⟨hX, hs.2.1.of (fun k h1 h2 => e k (by omega)), hU, ⟨hs.2.2.2.1.1.of e7 (fun k h1 h2 => e k (by omega)), hs.2.2.2.1.2⟩, hs.2.2.2.2.1.of (fun k h1 h2 => e k (by omega)), (congrFun (e 1 (by omega)).1 6).trans hs.2.2.2.2.2⟩, fun k hk => e k (by unfold Sca at hk; omega)⟩
theorem CAll.tb {μ m : SM2} {s : Sta} {B : List Nat} {f : Int32} (hs : CAll μ s) (hB : BytesAt m B) (hf : m.1 1 6 = f) (e : ∀ k, ¬ (1 ≤ k ∧ k < 3) → m.1 k = μ.1 k ∧ m.2 k = μ.2 k) : CO μ m (s.1, s.2.1, s.2.2.1, s.2.2.2.1, B, f) := by
  have g : OfS (fun k => 1 ≤ k ∧ k < 3) μ m := fun k hk => e k hk
  exact ⟨⟨hs.1.ofs g (fun k h1 h2 => by omega), hs.2.1.of (fun k h1 h2 => e k (by omega)), hs.2.2.1.ofs g (fun k h1 => by omega), ⟨hs.2.2.2.1.1.of (congrFun (e 0 (by omega)).1 7) (fun k h1 h2 => e k (by omega)), hs.2.2.2.1.2⟩, hB, hf⟩, fun k hk => e k (by unfold Sca at hk; omega)⟩
section KB
variable {γ : Ga} {μ : SM2}
theorem k_feed {a b c d e : Int32} {s : Sta} (hs : CAll μ s) : Ex γ 2 0 0 M_X11_feed [.ref 0, .int a, .int b, .int c, .int d, .int e] (rm μ) (Pq μ (some (.int (if s.2.2.2.2.1.length + 20 ≤ 400 then nI (s.2.2.2.2.1.length + 20) else -1))) (s.1, s.2.1, s.2.2.1, s.2.2.2.1, (if s.2.2.2.2.1.length + 20 ≤ 400 then s.2.2.2.2.1 ++ by20 a b c d e else s.2.2.2.2.1), s.2.2.2.2.2)) :=
  (c_feed hs.2.2.2.2.1).mono (fun o m9 h => by
    obtain ⟨m, e1, e2, ⟨h1, h2⟩, h3⟩ := h
    exact ⟨m, e1, e2, hs.tb h1 (h2.trans hs.2.2.2.2.2) (fun k hk => h3 k (by unfold S12; omega))⟩)
theorem k_end {x : Int32} {s : Sta} (hs : CAll μ s) : Ex γ 2 0 0 M_X11_end [.ref 0, .int x] (rm μ) (Pq μ (some (.int (bI (inB x (s.2.2.2.2.1.length + 1))))) (s.1, s.2.1, s.2.2.1, s.2.2.2.1, (if inB x (s.2.2.2.2.1.length + 1) = true then s.2.2.2.2.1.take x.toNatClampNeg else s.2.2.2.2.1), s.2.2.2.2.2)) :=
  (c_end hs.2.2.2.2.1).mono (fun o m9 h => by
    obtain ⟨m, e1, e2, ⟨h1, h2⟩, h3⟩ := h
    exact ⟨m, e1, e2, hs.tb h1 (h2.trans hs.2.2.2.2.2) (fun k hk => h3 k (by unfold S12; omega))⟩)
theorem k_drop {x : Int32} {s : Sta} (hs : CAll μ s) : Ex γ 5 1 6 M_X11_drop [.ref 0, .int x] (rm μ) (Cq μ (erF nmI (mT1 (inB x s.1.R.length)) (.int (if inB x s.1.R.length = true then nI (s.1.R.length - 1) else nI 0))) ((if inB x s.1.R.length = true then (s.1.R.eraseIdx x.toNatClampNeg, s.1.2) else s.1), s.2.1, (if inB x s.1.R.length = true then (s.1 :: s.2.2.1).take 16 else s.2.2.1), s.2.2.2)) :=
  (c_drop hs.1 hs.2.2.1).mono (fun o m9 h => by
    cases e1 : inB x s.1.R.length <;> rw [e1] at h
    · obtain ⟨rfl, rfl⟩ := h
      exact ⟨μ, rfl, hs.co, rfl⟩
    · obtain ⟨m, rfl, rfl, ⟨h1, h2⟩, h3⟩ := h
      exact ⟨m, rfl, hs.ta h1 h2 h3.2 (fun k hk => h3.1 k (by omega) (by omega)), rfl⟩)
theorem k_put {x : Int32} {y : Int64} {s : Sta} (hs : CAll μ s) : Ex γ 5 2 12 M_X11_put [.ref 0, .int x, .long y] (rm μ) (Cq μ (erF nmIA (mT2 (inB x s.1.F.length) (codeB y)) (.long (if (inB x s.1.F.length && codeB y) = true then lN (cd (fAt s.1.F x.toNatClampNeg).1) else lN 0))) ((if (inB x s.1.F.length && codeB y) = true then tdF s.1 x.toNatClampNeg (ml y, 0, List.replicate (ml y).length (-1, -1)) else s.1), s.2.1, (if (inB x s.1.F.length && codeB y) = true then (s.1 :: s.2.2.1).take 16 else s.2.2.1), s.2.2.2)) :=
  (c_put hs.1 hs.2.2.1).mono (fun o m9 h => by
    cases e1 : inB x s.1.F.length <;> cases e2 : codeB y <;> rw [e1, e2] at h <;> first | (obtain ⟨rfl, rfl⟩ := h; exact ⟨μ, rfl, hs.co, rfl⟩) | (obtain ⟨m, rfl, rfl, ⟨h1, h2⟩, h3⟩ := h; exact ⟨m, rfl, hs.ta h1 h2 h3.2 (fun k hk => h3.1 k (by omega) (by omega)), rfl⟩))
theorem k_run {x y : Int32} {s : Sta} (hs : CAll μ s) : Ex γ 6 2 12 M_X11_run [.ref 0, .int x, .int y] (rm μ) (Cq μ (erF nmIA (mT2 (inB x s.1.F.length) (chkN y 1 200)) (.int (if (inB x s.1.F.length && chkN y 1 200) = true then nI (runN s.1 s.2.1.2 x y).1 else nI 0))) ((if (inB x s.1.F.length && chkN y 1 200) = true then tdF s.1 x.toNatClampNeg (runN s.1 s.2.1.2 x y).2 else s.1), s.2.1, (if (inB x s.1.F.length && chkN y 1 200) = true then (s.1 :: s.2.2.1).take 16 else s.2.2.1), s.2.2.2)) :=
  (c_run hs.1 hs.2.2.1 hs.law).mono (fun o m9 h => by
    cases e1 : inB x s.1.F.length <;> cases e2 : chkN y 1 200 <;> rw [e1, e2] at h <;> first | (obtain ⟨rfl, rfl⟩ := h; exact ⟨μ, rfl, hs.co, rfl⟩) | (obtain ⟨m, rfl, rfl, ⟨h1, h2⟩, h3⟩ := h; exact ⟨m, rfl, hs.ta h1 h2 h3.2 (fun k hk => h3.1 k (by unfold SU SW; omega)), rfl⟩))
theorem k_years {x y : Int32} {s : Sta} (hs : CAll μ s) : Ex γ 7 2 12 M_X11_years [.ref 0, .int x, .int y] (rm μ) (Cq μ (erF nmIA (mT2 (inB x s.1.F.length) (chkN y 1 200)) (.int (if (inB x s.1.F.length && chkN y 1 200) = true then nI (yrsN s.2.1.2 x.toNatClampNeg y.toNatClampNeg s.1).1 else nI 0))) ((if (inB x s.1.F.length && chkN y 1 200) = true then (yrsN s.2.1.2 x.toNatClampNeg y.toNatClampNeg s.1).2 else s.1), s.2.1, (if (inB x s.1.F.length && chkN y 1 200) = true then (s.1 :: s.2.2.1).take 16 else s.2.2.1), s.2.2.2)) :=
  (c_years hs.1 hs.2.2.1 hs.law).mono (fun o m9 h => by
    cases e1 : inB x s.1.F.length <;> cases e2 : chkN y 1 200 <;> rw [e1, e2] at h <;> first | (obtain ⟨rfl, rfl⟩ := h; exact ⟨μ, rfl, hs.co, rfl⟩) | (obtain ⟨m, rfl, rfl, ⟨h1, h2⟩, h3⟩ := h; exact ⟨m, rfl, hs.ta h1 h2 h3.2 (fun k hk => h3.1 k (by unfold SU SW; omega)), rfl⟩))
theorem k_add {a b : Int64} {s : Sta} (hs : CAll μ s) : Ex γ 6 5 30 M_X11_add [.ref 0, .long a, .long b] (rm μ) (Cq μ (erF nmAU (mT2 (addB a b) (decide (s.1.R.length < 12))) (.int (if (addB a b && decide (s.1.R.length < 12)) = true then nI s.1.R.length else nI 0))) ((if (addB a b && decide (s.1.R.length < 12)) = true then (s.1.R ++ [(ml a, ml b)], s.1.2) else s.1), s.2.1, (if (addB a b && decide (s.1.R.length < 12)) = true then (s.1 :: s.2.2.1).take 16 else s.2.2.1), s.2.2.2)) :=
  (c_add hs.1 hs.2.2.1).mono (fun o m9 h => by
    by_cases e2 : s.1.R.length < 12
    · rw [if_pos e2] at h
      rw [decide_eq_true e2]
      cases e1 : addB a b <;> rw [e1] at h
      · obtain ⟨rfl, rfl⟩ := h
        exact ⟨μ, rfl, hs.co, rfl⟩
      · obtain ⟨m, rfl, rfl, ⟨h1, h2⟩, h3⟩ := h
        exact ⟨m, rfl, hs.ta h1 h2 h3.2 (fun k hk => h3.1 k (by omega) (by omega)), rfl⟩
    · rw [if_neg e2] at h
      rw [decide_eq_false e2]
      cases e1 : addB a b <;> rw [e1] at h <;> (obtain ⟨rfl, rfl⟩ := h; exact ⟨μ, rfl, hs.co, rfl⟩))
theorem useE_e {X : Td} {LL : List (List Int32)} {x y z : Int32} : useE X LL x y z = erF nmIS (useT X LL x y z) (.long (if useC X LL x y z = true then lN (cd (useF X x y z).1) else lN 0)) := by
  unfold useE useT useC
  generalize (inB x X.F.length && inB y X.R.length) = b
  generalize fitZ X.R (wOf X LL) (fAt X.F x.toNatClampNeg).1 y.toNatClampNeg z = c
  cases b <;> cases c <;> rfl
theorem k_use {x y z : Int32} {s : Sta} (hs : CAll μ s) : Ex γ 6 3 18 M_X11_use [.ref 0, .int x, .int y, .int z] (rm μ) (Cq μ (erF nmIS (useT s.1 s.2.1.2 x y z) (.long (if useC s.1 s.2.1.2 x y z = true then lN (cd (useF s.1 x y z).1) else lN 0))) (useX s.1 s.2.1.2 x y z, s.2.1, useU s.1 s.2.2.1 s.2.1.2 x y z, s.2.2.2)) :=
  (c_use hs.1 hs.2.2.1 hs.law).mono (fun o m9 h => by
    obtain ⟨m, e1, ⟨⟨h1, h2⟩, h3⟩, h4⟩ := h
    rw [useE_e] at h4
    exact ⟨m, e1, hs.ta h1 h2 h3.2 (fun k hk => h3.1 k (by unfold SU SW; omega)), h4.trans (by cases erF _ _ _ <;> rfl)⟩)
theorem vyE_e {B : List Nat} {X : Td} : vyE B X = erF nmAU (vyT B X) (.int (vyV B X)) := by
  unfold vyE vyT vyV
  cases vText B X with
  | inl f => rfl
  | inr q =>
    dsimp only
    by_cases h : X.texts < 10
    · rw [if_pos h, if_pos h, if_pos h]; rfl
    · rw [if_neg h, if_neg h, if_neg h]; rfl
theorem k_valley {s : Sta} (hs : CAll μ s) : Ex γ 10 1 6 M_X11_valley [.ref 0] (rm μ) (Cq μ (erF nmAU (vyT s.2.2.2.2.1 s.1) (.int (vyV s.2.2.2.2.1 s.1))) (vyX s.2.2.2.2.1 s.1, s.2.1, vyU s.2.2.2.2.1 s.1 s.2.2.1, s.2.2.2.1, [], vyF s.2.2.2.2.1 s.1)) :=
  (c_valley hs.2.2.2.2.1 hs.1 hs.2.2.1).mono (fun o m9 h => by
    obtain ⟨m, e1, ⟨⟨⟨h1, h2⟩, h3, h4⟩, h5, h6⟩, h7⟩ := h
    rw [vyE_e] at h7
    refine ⟨m, e1, ⟨⟨h1, hs.2.1.of (fun k g1 g2 => h5 k (by unfold SVy; omega)), h2, ⟨hs.2.2.2.1.1.of h6 (fun k g1 g2 => h5 k (by unfold SVy; omega)), hs.2.2.2.1.2⟩, h3, h4⟩, h5.mono (fun k hk => by unfold SVy at hk; unfold Sca; omega)⟩, h7.trans (by cases erF _ _ _ <;> rfl)⟩)
theorem lyE_e {B : List Nat} : lyE B = erF nmA (lyT B) (.int (lyV B)) := by
  unfold lyE lyT lyV
  cases lawF B <;> rfl
theorem k_law {s : Sta} (hs : CAll μ s) : Ex γ 30 1 6 M_X11_law [.ref 0] (rm μ) (Cq μ (erF nmA (lyT s.2.2.2.2.1) (.int (lyV s.2.2.2.2.1))) (s.1, (lyC s.2.2.2.2.1 s.2.1.1, lyX s.2.2.2.2.1 s.2.1.2), lyU s.2.2.2.2.1 s.2.2.1, s.2.2.2.1, [], lyF s.2.2.2.2.1)) :=
  (c_law hs.2.2.2.2.1 hs.2.2.1 hs.2.1).mono (fun o m9 h => by
    obtain ⟨m, e1, ⟨⟨⟨h1, h2⟩, h3, h4⟩, h5, h6⟩, h7⟩ := h
    rw [lyE_e] at h7
    refine ⟨m, e1, ⟨⟨hs.1.ofs h5 (fun k g1 g2 => by unfold SLy; omega), h1, h2, ⟨hs.2.2.2.1.1.of h6 (fun k g1 g2 => h5 k (by unfold SLy; omega)), hs.2.2.2.1.2⟩, h3, h4⟩, h5.mono (fun k hk => by unfold SLy at hk; unfold Sca; omega)⟩, h7.trans (by cases erF _ _ _ <;> rfl)⟩)
theorem cmE_e {X : Td} : cmE X.R = erF nmU (cmT X) (.int (cmI X.R)) := by
  unfold cmE cmT cmI
  cases cmpl X.R with
  | none => rfl
  | some g =>
    dsimp only
    by_cases h : X.R.length < 12
    · rw [if_pos h, if_neg (fun z => z.2 h), if_pos h]; rfl
    · rw [if_neg h, if_pos ⟨rfl, h⟩, if_neg h]; rfl
theorem k_complete {s : Sta} (hs : CAll μ s) : Ex γ 8 1 6 M_X11_complete [.ref 0] (rm μ) (Cq μ (erF nmU (cmT s.1) (.int (cmI s.1.R))) (cmX s.1, s.2.1, cmU s.1 s.2.2.1, s.2.2.2)) :=
  (c_complete hs.1 hs.2.2.1 hs.law).mono (fun o m9 h => by
    obtain ⟨m, e1, h1, h7⟩ := h
    rw [cmE_e] at h7
    refine ⟨m, e1, ?_, h7.trans (by cases erF _ _ _ <;> rfl)⟩
    rcases h1 with ⟨⟨h1, h2⟩, h3⟩ | ⟨⟨h1, h2⟩, m1, h3, h4⟩
    · exact hs.ta h1 h2 (h3.i (by unfold SQ; omega) 7) (fun k hk => h3 k (by unfold SQ; omega))
    · exact hs.ta h1 h2 (h4.2.trans (h3.i (by unfold SQ; omega) 7)) (fun k hk => ⟨(h4.1 k (by omega) (by omega)).1.trans (h3 k (by unfold SQ; omega)).1, (h4.1 k (by omega) (by omega)).2.trans (h3 k (by unfold SQ; omega)).2⟩))
theorem k_seed {x : Int32} {s : Sta} (hs : CAll μ s) : Ex γ 1 0 0 M_X11_seed [.ref 0, .int x] (rm μ) (Pq μ (some (.int s.1.seed)) (tdY s.1 s.1.year x, s.2)) :=
  (c_seed (s := s.1.seed) hs.1.2.2.2.2.2.2.2.2.2).mono (fun o m9 h => by
    have g : OfS (fun k => k = 3) μ (wI μ 3 11 x) := OfS.sI (OfS.refl _ _) rfl
    exact ⟨_, h.1, h.2, hs.ta hs.1.seedW (hs.2.2.1.ofs g (fun k h1 => by omega)) (g.i (by decide) 7) (fun k hk => g k (by omega))⟩)
theorem k_undo {s : Sta} (hs : CAll μ s) : Ex γ 4 0 0 M_X11_undo [.ref 0] (rm μ) (Pq μ (some (.int (bI (decide (s.2.2.1.length ≠ 0))))) (unS s)) := by
  obtain ⟨X, L, U, K⟩ := s
  cases U with
  | nil => exact (c_undo_no hs.2.2.1).mono (fun o m9 h => ⟨μ, h.1, h.2, hs.co⟩)
  | cons Y U => exact (c_undo hs.2.2.1).mono (fun o m9 h => by
      obtain ⟨m, e1, e2, ⟨h1, h2⟩, h3⟩ := h
      exact ⟨m, e1, e2, hs.ta h1 h2 h3.2 (fun k hk => h3.1 k (by omega) (by omega))⟩)
theorem k_image {s : Sta} (hs : CAll μ s) : Ex γ 4 0 0 M_X11_image [.ref 0] (rm μ) (Pq μ none (s.1, s.2.1, s.2.2.1, some (s.1, s.2.1.1, s.2.1.2), s.2.2.2.2)) :=
  (c_image hs.1 hs.2.1.1).mono (fun o m9 h => by
    obtain ⟨m, e1, e2, h1, h2, h3, h4⟩ := h
    have e : ∀ k, 0 < k → k < 65 ∨ 96 ≤ k → m.1 k = μ.1 k ∧ m.2 k = μ.2 k := h2
    have g : OfS (fun k => k = 0 ∨ (65 ≤ k ∧ k < 96)) μ m := fun k hk => e k (by omega) (by omega)
    refine ⟨m, e1, e2, ⟨hs.1.ofs g (fun k h1 h2 => by omega), hs.2.1.of (fun k h1 h2 => e k (by omega) (by omega)), ?_, ⟨h1, fun q hq => ?_⟩, hs.2.2.2.2.1.of (fun k h1 h2 => e k (by omega) (by omega)), (congrFun (e 1 (by omega) (by omega)).1 6).trans hs.2.2.2.2.2⟩, fun k hk => e k (by unfold Sca at hk; omega) (by unfold Sca at hk; omega)⟩
    · obtain ⟨nx, n1, n2, n3, n4, n5⟩ := hs.2.2.1
      exact ⟨nx, n1, h4.trans n2, h3.trans n3, n4, fun j hj => (n5 j hj).ofs g (fun k h1 h2 => by omega)⟩
    · cases hq
      exact hs.2.1.2)
theorem k_back {s : Sta} (hs : CAll μ s) : Ex γ 4 0 0 M_X11_back [.ref 0] (rm μ) (Pq μ (some (.int (bI s.2.2.2.1.isSome))) (baS s)) := by
  obtain ⟨X, L, U, K, B, f⟩ := s
  cases K with
  | none => exact (c_back_no hs.2.2.2.1.1).mono (fun o m9 h => ⟨μ, h.1, h.2, hs.co⟩)
  | some q => exact (c_back hs.2.2.2.1.1 hs.2.2.1).mono (fun o m9 h => by
      obtain ⟨m, e1, e2, ⟨h1, h2, h3⟩, h4, h5⟩ := h
      exact ⟨m, e1, e2, ⟨⟨h1, ⟨h2, hs.2.2.2.1.2 q rfl⟩, h3, ⟨hs.2.2.2.1.1.of h5 (fun k g1 g2 => h4 k (by omega) (by omega)), hs.2.2.2.1.2⟩, hs.2.2.2.2.1.of (fun k g1 g2 => h4 k (by omega) (by omega)), (congrFun (h4 1 (by omega) (by omega)).1 6).trans hs.2.2.2.2.2⟩, fun k hk => h4 k (by unfold Sca at hk; omega) (by unfold Sca at hk; omega)⟩⟩)
end KB

