/-! THE MODEL: each call by one form -/
theorem MAll.ofc {μ m : SM2} {s : Sta} (h : MAll μ s) (g : ∀ k, 572 ≤ k → k < 594 → m.1 k = μ.1 k ∧ m.2 k = μ.2 k) : MAll m s := by
  have e2 := (g 572 (by omega) (by omega)).1
  have e3 := (g 573 (by omega) (by omega)).1
  have e4 := (g 574 (by omega) (by omega)).1
  have e6 := (g 576 (by omega) (by omega)).1
  have e7 := (g 577 (by omega) (by omega)).1
  refine ⟨?_, ?_, ?_, ?_, ?_, ?_⟩
  · rw [e3]; exact h.1
  · rw [e3]; exact h.2.1
  · exact h.2.2.1.of (by rw [e2]) e6 (by rw [e3])
  · exact h.2.2.2.1.of (by rw [e2]) e4
  · exact h.2.2.2.2.1.of (by rw [e2]) e7
  · rw [e2]; exact h.2.2.2.2.2
theorem CAll.hi {μ m : SM2} {s : Sta} (hs : CAll μ s) (e : ∀ k, k < 572 → m.1 k = μ.1 k ∧ m.2 k = μ.2 k) : CAll m s := by
  have g : OfS (fun k => 572 ≤ k) μ m := fun k hk => e k (by omega)
  exact ⟨hs.1.ofs g (fun k h1 h2 => by omega), hs.2.1.of (fun k h1 h2 => e k (by omega)), hs.2.2.1.ofs g (fun k h1 => by omega), ⟨hs.2.2.2.1.1.of (congrFun (e 0 (by omega)).1 7) (fun k h1 h2 => e k (by omega)), hs.2.2.2.1.2⟩, hs.2.2.2.2.1.of (fun k h1 h2 => e k (by omega)), (congrFun (e 1 (by omega)).1 6).trans hs.2.2.2.2.2⟩
section QA
variable {γ : Ga} {μ : SM2}
theorem q_rule {x : Int32} {b : Bool} {s : Sta} (hs : MAll μ s) : Ex γ 3 0 0 M_X12_rule [.ref 572, .int x, .int (bI b)] (rm μ) (Rm (some (.long (if inB x s.1.R.length = true then lN (cd (if b = true then (rAt s.1.R x.toNatClampNeg).2 else (rAt s.1.R x.toNatClampNeg).1)) else lN 0))) (fun m => MO μ m (if inB x s.1.R.length = true then 0 else 1) s)) :=
  (m_rule hs.1.1).mono (fun o m9 h => by
    obtain ⟨m, e1, e2, h1⟩ := h
    exact ⟨m, e1, e2, h1.n.all hs⟩)
theorem q_field {x : Int32} {s : Sta} (hs : MAll μ s) : Ex γ 3 0 0 M_X12_field [.ref 572, .int x] (rm μ) (Rm (some (.long (if inB x s.1.F.length = true then lN (cd (fAt s.1.F x.toNatClampNeg).1) else lN 0))) (fun m => MO μ m (if inB x s.1.F.length = true then 0 else 1) s)) :=
  (m_field hs.1.2.1).mono (fun o m9 h => by
    obtain ⟨m, e1, e2, h1⟩ := h
    exact ⟨m, e1, e2, h1.n.all hs⟩)
theorem q_steps {x : Int32} {s : Sta} (hs : MAll μ s) : Ex γ 3 0 0 M_X12_steps [.ref 572, .int x] (rm μ) (Rm (some (.int (if inB x s.1.F.length = true then (fAt s.1.F x.toNatClampNeg).2.1 else nI 0))) (fun m => MO μ m (if inB x s.1.F.length = true then 0 else 1) s)) :=
  (m_steps hs.1.2.1).mono (fun o m9 h => by
    obtain ⟨m, e1, e2, h1⟩ := h
    exact ⟨m, e1, e2, h1.n.all hs⟩)
theorem q_seen {x : Int32} {b : Bool} {s : Sta} (hs : MAll μ s) : Ex γ 3 0 0 M_X12_seen [.ref 572, .int x, .int (bI b)] (rm μ) (Rm (some (.long (if inB x s.1.S.length = true then lN (cd (if b = true then (sAt s.1.S x.toNatClampNeg).2 else (sAt s.1.S x.toNatClampNeg).1)) else lN 0))) (fun m => MO μ m (if inB x s.1.S.length = true then 0 else 1) s)) :=
  (m_seen hs.1.2.2.1).mono (fun o m9 h => by
    obtain ⟨m, e1, e2, h1⟩ := h
    exact ⟨m, e1, e2, h1.n.all hs⟩)
theorem q_explained {x : Int32} {s : Sta} (hs : MAll μ s) : Ex γ 9 0 0 M_X12_explained [.ref 572, .int x] (rm μ) (Rm (some (.int (if inB x s.1.S.length = true then nI (exN s.1.R (sAt s.1.S x.toNatClampNeg).1 (sAt s.1.S x.toNatClampNeg).2 s.1.R.length) else nI 0))) (fun m => MO μ m (mT1 (inB x s.1.S.length)) s)) :=
  (m_explained hs.1.1 hs.1.2.2.1).mono (fun o m9 h => by
    obtain ⟨m, e1, e2, h1⟩ := h
    exact ⟨m, e1, e2, h1.all hs⟩)
theorem q_light {x : Int64} {s : Sta} (hs : MAll μ s) : Ex γ 6 0 0 M_X12_light [.ref 572, .long x] (rm μ) (Rm (some (.int (if codeB x = true then nI (wgN s.1.W (ml x) (ml x).length) else nI 0))) (fun m => MO μ m (if codeB x = true then 0 else 1) s)) :=
  (m_light hs.1.2.2.2.1).mono (fun o m9 h => by
    obtain ⟨m, e1, e2, h1⟩ := h
    exact ⟨m, e1, e2, h1.n.all hs⟩)
theorem q_beast {x : Int64} {y : Int32} {s : Sta} (hs : MAll μ s) : Ex γ 5 0 0 M_X12_beast [.ref 572, .long x, .int y] (rm μ) (Rm (some (.int (if codeB x = true then (if inB y (ml x).length = true then nI ((ml x).getD y.toNatClampNeg 0) else -1) else nI 0))) (fun m => MO μ m (if codeB x = true then 0 else 1) s)) :=
  (m_beast).mono (fun o m9 h => by
    obtain ⟨m, e1, e2, h1⟩ := h
    exact ⟨m, e1, e2, h1.n.all hs⟩)
theorem q_loss {x : Int32} {s : Sta} (hs : MAll μ s) : Ex γ 6 0 0 M_X12_loss [.ref 572, .int x] (rm μ) (Rm (some (.int (if inB x s.1.R.length = true then nI (wgN s.1.W (rAt s.1.R x.toNatClampNeg).1 (rAt s.1.R x.toNatClampNeg).1.length) - nI (wgN s.1.W (rAt s.1.R x.toNatClampNeg).2 (rAt s.1.R x.toNatClampNeg).2.length) else nI 0))) (fun m => MO μ m (if inB x s.1.R.length = true then 0 else 1) s)) :=
  (m_loss hs.1.1 hs.1.2.2.2.1).mono (fun o m9 h => by
    obtain ⟨m, e1, e2, h1⟩ := h
    exact ⟨m, e1, e2, h1.n.all hs⟩)
theorem q_sorts {x : Int32} {s : Sta} (hs : MAll μ s) : Ex γ 7 0 0 M_X12_sorts [.ref 572, .int x] (rm μ) (Rm (some (.int (if inB x 4 = true then srV s.1 x.toNatClampNeg else nI 0))) (fun m => MO μ m (mT1 (inB x 4)) s)) :=
  (m_sorts hs.1).mono (fun o m9 h => by
    obtain ⟨m, e1, e2, h1⟩ := h
    exact ⟨m, e1, e2, h1.all hs⟩)
theorem q_maker {x : Int32} {y : Int32} {z : Int32} {s : Sta} (hs : MAll μ s) : Ex γ 4 0 0 M_X12_maker [.ref 572, .int x, .int y, .int z] (rm μ) (Rm (some (.int (mkI s.1.F x y z))) (fun m => MO μ m (mkT s.1.F x y z) s)) :=
  (m_maker hs.1.2.1).mono (fun o m9 h => by
    obtain ⟨m, e1, e2, h1⟩ := h
    exact ⟨m, e1, e2, h1.all hs⟩)
theorem q_fits {x : Int64} {y : Int32} {z : Int32} {s : Sta} (hs : MAll μ s) : Ex γ 9 0 0 M_X12_fits [.ref 572, .long x, .int y, .int z] (rm μ) (Rm (some (.int (bI (inB y s.1.R.length && (codeB x && fitZ s.1.R (wOf s.1 s.2.1.2) (ml x) y.toNatClampNeg z))))) (fun m => MO μ m (mT2 (inB y s.1.R.length) (codeB x)) s)) :=
  (m_fits hs.1 hs.law).mono (fun o m9 h => by
    obtain ⟨m, e1, e2, h1⟩ := h
    exact ⟨m, e1, e2, h1.all hs⟩)
theorem q_settles {x : Int64} {y : Int32} {b : Bool} {s : Sta} (hs : MAll μ s) : Ex γ 13 0 0 M_X12_settles [.ref 572, .long x, .int y, .int (bI b)] (rm μ) (Rm (some (.long (if (codeB x && chkN y 0 500) = true then setV (stl (nxR s.1.R (wOf s.1 s.2.1.2)) y.toNatClampNeg (ml x)) b else lN 0))) (fun m => MO μ m (mT1 (codeB x && chkN y 0 500)) s)) :=
  (m_settles hs.1 hs.law).mono (fun o m9 h => by
    obtain ⟨m, e1, e2, h1⟩ := h
    exact ⟨m, e1, e2, h1.all hs⟩)
theorem q_again {x : Int64} {b : Bool} {s : Sta} (hs : MAll μ s) : Ex γ 12 0 0 M_X12_again [.ref 572, .long x, .int (bI b)] (rm μ) (Rm (some (.int (if codeB x = true then agV (agN (nxR s.1.R (wOf s.1 s.2.1.2)) 500 [ml x] (ml x)) b else nI 0))) (fun m => MO μ m (mT1 (codeB x)) s)) :=
  (m_again hs.1 hs.law).mono (fun o m9 h => by
    obtain ⟨m, e1, e2, h1⟩ := h
    exact ⟨m, e1, e2, h1.all hs⟩)
theorem q_alike {x : Int64} {y : Int64} {s : Sta} (hs : MAll μ s) : Ex γ 13 0 0 M_X12_alike [.ref 572, .long x, .long y] (rm μ) (Rm (some (.int (bI ((codeB x && codeB y) && alkB s.1.R (wOf s.1 s.2.1.2) (ml x) (ml y))))) (fun m => MO μ m (mT1 (codeB x && codeB y)) s)) :=
  (m_alike hs.1 hs.law).mono (fun o m9 h => by
    obtain ⟨m, e1, e2, h1⟩ := h
    exact ⟨m, e1, e2, h1.all hs⟩)
theorem q_becomes {x : Int64} {y : Int32} {z : Int32} {s : Sta} (hs : MAll μ s) : Ex γ 13 0 0 M_X12_becomes [.ref 572, .long x, .int y, .int z] (rm μ) (Rm (some (.long (if ((codeB x && chkN y 0 40) && inB z 4) = true then becV s.1.R (wOf s.1 s.2.1.2) (ml x) y.toNatClampNeg z.toNatClampNeg else lN 0))) (fun m => MO μ m (mT2 (codeB x && chkN y 0 40) (inB z 4)) s)) :=
  (m_becomes hs.1 hs.law).mono (fun o m9 h => by
    obtain ⟨m, e1, e2, h1⟩ := h
    exact ⟨m, e1, e2, h1.all hs⟩)
theorem q_fewest {x : Int64} {y : Int64} {s : Sta} (hs : MAll μ s) : Ex γ 11 0 0 M_X12_fewest [.ref 572, .long x, .long y] (rm μ) (Rm (some (.int (if (codeB x && codeB y) = true then fwN s.1.R (wOf s.1 s.2.1.2) (ml y) 1501 [(ml x, 0)] 0 0 else nI 0))) (fun m => MO μ m (mT1 (codeB x && codeB y)) s)) :=
  (m_fewest hs.1 hs.law).mono (fun o m9 h => by
    obtain ⟨m, e1, e2, h1⟩ := h
    exact ⟨m, e1, e2, h1.all hs⟩)
theorem q_meets {x : Int64} {y : Int64} {z : Int32} {b : Bool} {s : Sta} (hs : MAll μ s) : Ex γ 13 0 0 M_X12_meets [.ref 572, .long x, .long y, .int z, .int (bI b)] (rm μ) (Rm (some (.long (if ((codeB x && codeB y) && chkN z 0 12) = true then meV s.1.R (wOf s.1 s.2.1.2) (ml x) (ml y) z.toNatClampNeg b else lN 0))) (fun m => MO μ m (mT1 ((codeB x && codeB y) && chkN z 0 12)) s)) :=
  (m_meets hs.1 hs.law).mono (fun o m9 h => by
    obtain ⟨m, e1, e2, h1⟩ := h
    exact ⟨m, e1, e2, h1.all hs⟩)
theorem q_overlaps {z : Int32} {s : Sta} (hs : MAll μ s) : Ex γ 17 0 0 M_X12_overlaps [.ref 572, .int z] (rm μ) (Rm (some (.long (if inB z 3 = true then ovV s.1.R z.toNatClampNeg else lN 0))) (fun m => MO μ m (mT1 (inB z 3)) s)) :=
  (m_overlaps hs.1 hs.law).mono (fun o m9 h => by
    obtain ⟨m, e1, e2, h1⟩ := h
    exact ⟨m, e1, e2, h1.all hs⟩)
theorem q_never {x : Int64} {y : Int64} {z : Int32} {s : Sta} (hs : MAll μ s) : Ex γ 8 0 0 M_X12_never [.ref 572, .long x, .long y, .int z] (rm μ) (Rm (some (.int (if ((codeB x && codeB y) && chkB z) = true then nvV s.1.R (ml x, ml y) z else nI 0))) (fun m => MO μ m (mT2 (codeB x && codeB y) (chkB z)) s)) :=
  (m_never hs.1.1).mono (fun o m9 h => by
    obtain ⟨m, e1, e2, h1⟩ := h
    exact ⟨m, e1, e2, h1.all hs⟩)
theorem q_falls {x : Int32} {z : Int32} {s : Sta} (hs : MAll μ s) : Ex γ 8 0 0 M_X12_falls [.ref 572, .int x, .int z] (rm μ) (Rm (some (.int (if (chkN x 1 5 && chkB z) = true then flV s.1.R x.toNatClampNeg z else nI 0))) (fun m => MO μ m (mT2 (chkN x 1 5) (chkB z)) s)) :=
  (m_falls hs.1.1).mono (fun o m9 h => by
    obtain ⟨m, e1, e2, h1⟩ := h
    exact ⟨m, e1, e2, h1.all hs⟩)
theorem q_reckons {x : Int32} {y : Int32} {s : Sta} (hs : MAll μ s) : Ex γ 15 0 0 M_X12_reckons [.ref 572, .int x, .int y] (rm μ) (Rm (some (.long (if (chkN x 0 3 && chkN y 0 4) = true then vO (rkV (nxR s.1.R (wOf s.1 s.2.1.2)) x.toNatClampNeg y.toNatClampNeg) else lN 0))) (fun m => MO μ m (mT1 (chkN x 0 3 && chkN y 0 4)) s)) :=
  (m_reckons hs.1 hs.law).mono (fun o m9 h => by
    obtain ⟨m, e1, e2, h1⟩ := h
    exact ⟨m, e1, e2, h1.all hs⟩)
theorem q_guessed {z : Int32} {s : Sta} (hs : MAll μ s) : Ex γ 9 0 0 M_X12_guessed [.ref 572, .int z] (rm μ) (Rm (some (.long (if inB z 3 = true then guO (guV s.1.S) z.toNatClampNeg else lN 0))) (fun m => MO μ m (mT1 (inB z 3)) s)) :=
  (m_guessed hs.1).mono (fun o m9 h => by
    obtain ⟨m, e1, e2, h1⟩ := h
    exact ⟨m, e1, e2, h1.all hs⟩)
theorem q_drovers {x : Int64} {y : Int32} {s : Sta} (hs : MAll μ s) : Ex γ 12 0 0 M_X12_drovers [.ref 572, .long x, .int y] (rm μ) (Rm (some (.int (if (codeB x && chkN y 1 8) = true then gmD (gmV s.1.R (wOf s.1 s.2.1.2) (ml x) y.toNatClampNeg) else nI 0))) (fun m => MO μ m (mT1 (codeB x && chkN y 1 8)) s)) :=
  (m_drovers hs.1 hs.law).mono (fun o m9 h => by
    obtain ⟨m, e1, e2, h1⟩ := h
    exact ⟨m, e1, e2, h1.all hs⟩)
theorem q_best {x : Int64} {y : Int32} {s : Sta} (hs : MAll μ s) : Ex γ 12 0 0 M_X12_best [.ref 572, .long x, .int y] (rm μ) (Rm (some (.int (if (codeB x && chkN y 1 8) = true then gmB (gmV s.1.R (wOf s.1 s.2.1.2) (ml x) y.toNatClampNeg) else nI 0))) (fun m => MO μ m (mT1 (codeB x && chkN y 1 8)) s)) :=
  (m_best hs.1 hs.law).mono (fun o m9 h => by
    obtain ⟨m, e1, e2, h1⟩ := h
    exact ⟨m, e1, e2, h1.all hs⟩)
theorem q_endless  {s : Sta} (hs : MAll μ s) : Ex γ 13 0 0 M_X12_endless [.ref 572] (rm μ) (Rm (some (.long (vO (enS s.1.R (wOf s.1 s.2.1.2))))) (fun m => MO μ m 0 s)) :=
  (m_endless hs.1 hs.law).mono (fun o m9 h => by
    obtain ⟨m, e1, e2, h1⟩ := h
    exact ⟨m, e1, e2, h1.all hs⟩)
theorem q_dropped {y : Int32} {s : Sta} (hs : MAll μ s) : Ex γ 14 0 0 M_X12_dropped [.ref 572, .int y] (rm μ) (Rm (some (.int (oN (drS s.1.R (wOf s.1 s.2.1.2) s.1.F y)))) (fun m => MO μ m 0 s)) :=
  (m_dropped hs.1 hs.law).mono (fun o m9 h => by
    obtain ⟨m, e1, e2, h1⟩ := h
    exact ⟨m, e1, e2, h1.all hs⟩)
theorem q_telling  {s : Sta} (hs : MAll μ s) : Ex γ 9 0 0 M_X12_telling [.ref 572] (rm μ) (Rm (some (.int (oN (tlN (exE s.1) s.1.S.length (2 ^ s.1.R.length))))) (fun m => MO μ m 0 s)) :=
  (m_telling hs.1).mono (fun o m9 h => by
    obtain ⟨m, e1, e2, h1⟩ := h
    exact ⟨m, e1, e2, h1.all hs⟩)
theorem q_count {x : Int32} {s : Sta} (hs : MAll μ s) : Ex γ 5 0 0 M_X12_count [.ref 572, .int x] (rm μ) (Rm (some (.int (cntV s.1 (s.2.1.1, s.2.1.2.flatMap clS) s.2.2.1 x))) (fun m => MO μ m 0 s)) :=
  (m_count (L := (s.2.1.1, s.2.1.2.flatMap clS)) hs.1 hs.2.1.1 hs.2.2.1 rfl).mono (fun o m9 h => by
    obtain ⟨m, e1, e2, h1⟩ := h
    exact ⟨m, e1, e2, h1.all hs⟩)
theorem q_fault {s : Sta} (hs : MAll μ s) : Ex γ 1 0 0 M_X12_fault [.ref 572] (rm μ) (Rm (some (.int s.2.2.2.2.2)) (fun m => MO μ m 0 s)) := by
  have h := m_fault (γ := γ) (μ := μ)
  rw [hs.2.2.2.2.2] at h
  exact h.mono (fun o m9 h => by
    obtain ⟨m, e1, e2, h1⟩ := h
    exact ⟨m, e1, e2, h1.all hs⟩)
theorem q_drop {x : Int32} {s : Sta} (hs : MAll μ s) : Ex γ 3 0 0 M_X12_drop [.ref 572, .int x] (rm μ) (Rm (some (.int (if inB x s.1.R.length = true then nI (s.1.R.length - 1) else nI 0))) (fun m => MO μ m (mT1 (inB x s.1.R.length)) ((if inB x s.1.R.length = true then (s.1.R.eraseIdx x.toNatClampNeg, s.1.2) else s.1), s.2.1, (if inB x s.1.R.length = true then (s.1 :: s.2.2.1).take 16 else s.2.2.1), s.2.2.2))) :=
  (m_drop hs.1 hs.2.2.1).mono (fun o m9 h => by
    obtain ⟨m, e1, e2, ⟨h1, h2⟩, h3⟩ := h
    exact ⟨m, e1, e2, h3.all hs ⟨h1, h2⟩⟩)
theorem q_put {x : Int32} {y : Int64} {s : Sta} (hs : MAll μ s) : Ex γ 5 0 0 M_X12_put [.ref 572, .int x, .long y] (rm μ) (Rm (some (.long (if (inB x s.1.F.length && codeB y) = true then lN (cd (fAt s.1.F x.toNatClampNeg).1) else lN 0))) (fun m => MO μ m (mT2 (inB x s.1.F.length) (codeB y)) ((if (inB x s.1.F.length && codeB y) = true then tdF s.1 x.toNatClampNeg (ml y, 0, List.replicate (ml y).length (-1, -1)) else s.1), s.2.1, (if (inB x s.1.F.length && codeB y) = true then (s.1 :: s.2.2.1).take 16 else s.2.2.1), s.2.2.2))) :=
  (m_put hs.1 hs.2.2.1).mono (fun o m9 h => by
    obtain ⟨m, e1, e2, ⟨h1, h2⟩, h3⟩ := h
    exact ⟨m, e1, e2, h3.all hs ⟨h1, h2⟩⟩)
theorem q_run {x y : Int32} {s : Sta} (hs : MAll μ s) : Ex γ 13 0 0 M_X12_run [.ref 572, .int x, .int y] (rm μ) (Rm (some (.int (if (inB x s.1.F.length && chkN y 1 200) = true then nI (runN s.1 s.2.1.2 x y).1 else nI 0))) (fun m => MO μ m (mT2 (inB x s.1.F.length) (chkN y 1 200)) ((if (inB x s.1.F.length && chkN y 1 200) = true then tdF s.1 x.toNatClampNeg (runN s.1 s.2.1.2 x y).2 else s.1), s.2.1, (if (inB x s.1.F.length && chkN y 1 200) = true then (s.1 :: s.2.2.1).take 16 else s.2.2.1), s.2.2.2))) :=
  (m_run hs.1 hs.law hs.2.2.1).mono (fun o m9 h => by
    obtain ⟨m, e1, e2, ⟨h1, h2⟩, h3⟩ := h
    exact ⟨m, e1, e2, h3.all hs ⟨h1, h2⟩⟩)
theorem q_years {x y : Int32} {s : Sta} (hs : MAll μ s) : Ex γ 13 0 0 M_X12_years [.ref 572, .int x, .int y] (rm μ) (Rm (some (.int (if (inB x s.1.F.length && chkN y 1 200) = true then nI (yrsN s.2.1.2 x.toNatClampNeg y.toNatClampNeg s.1).1 else nI 0))) (fun m => MO μ m (mT2 (inB x s.1.F.length) (chkN y 1 200)) ((if (inB x s.1.F.length && chkN y 1 200) = true then (yrsN s.2.1.2 x.toNatClampNeg y.toNatClampNeg s.1).2 else s.1), s.2.1, (if (inB x s.1.F.length && chkN y 1 200) = true then (s.1 :: s.2.2.1).take 16 else s.2.2.1), s.2.2.2))) :=
  (m_years hs.1 hs.law hs.2.2.1).mono (fun o m9 h => by
    obtain ⟨m, e1, e2, ⟨h1, h2⟩, h3⟩ := h
    exact ⟨m, e1, e2, h3.all hs ⟨h1, h2⟩⟩)
theorem q_add {a b : Int64} {s : Sta} (hs : MAll μ s) : Ex γ 5 0 0 M_X12_add [.ref 572, .long a, .long b] (rm μ) (Rm (some (.int (if (addB a b && decide (s.1.R.length < 12)) = true then nI s.1.R.length else nI 0))) (fun m => MO μ m (mT2 (addB a b) (decide (s.1.R.length < 12))) ((if (addB a b && decide (s.1.R.length < 12)) = true then (s.1.R ++ [(ml a, ml b)], s.1.2) else s.1), s.2.1, (if (addB a b && decide (s.1.R.length < 12)) = true then (s.1 :: s.2.2.1).take 16 else s.2.2.1), s.2.2.2))) :=
  (m_add hs.1 hs.2.2.1).mono (fun o m9 h => by
    obtain ⟨m, e1, e2, ⟨h1, h2⟩, h3⟩ := h
    exact ⟨m, e1, e2, h3.all hs ⟨h1, h2⟩⟩)
theorem q_use {x y z : Int32} {s : Sta} (hs : MAll μ s) : Ex γ 9 0 0 M_X12_use [.ref 572, .int x, .int y, .int z] (rm μ) (Rm (some (.long (if useC s.1 s.2.1.2 x y z = true then lN (cd (useF s.1 x y z).1) else lN 0))) (fun m => MO μ m (useT s.1 s.2.1.2 x y z) (useX s.1 s.2.1.2 x y z, s.2.1, useU s.1 s.2.2.1 s.2.1.2 x y z, s.2.2.2))) :=
  (m_use hs.1 hs.law hs.2.2.1).mono (fun o m9 h => by
    obtain ⟨m, e1, e2, ⟨h1, h2⟩, h3⟩ := h
    exact ⟨m, e1, e2, h3.all hs ⟨h1, h2⟩⟩)
theorem q_complete  {s : Sta} (hs : MAll μ s) : Ex γ 17 0 0 M_X12_complete [.ref 572] (rm μ) (Rm (some (.int (cmI s.1.R))) (fun m => MO μ m (cmT s.1) (cmX s.1, s.2.1, cmU s.1 s.2.2.1, s.2.2.2))) :=
  (m_complete hs.1 hs.law hs.2.2.1).mono (fun o m9 h => by
    obtain ⟨m, e1, e2, ⟨h1, h2⟩, h3⟩ := h
    exact ⟨m, e1, e2, h3.all hs ⟨h1, h2⟩⟩)
end QA

