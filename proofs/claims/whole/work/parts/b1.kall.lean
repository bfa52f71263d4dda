/-! THE CLASS: all that lasts; each call by one form: t what it throws (0: nothing), v what it answers, N what then is told -/
def KLw (K : Kp) : Option (Td × Lw) := K.map (fun q => (q.1, (q.2.1, q.2.2.flatMap clS)))
def CAll (m : SM2) (s : Sta) : Prop := ToldAt m 3 s.1 ∧ LawN m s.2.1.1 s.2.1.2 ∧ ActsAt m s.2.2.1 ∧ (KeptAt m (KLw s.2.2.2.1) ∧ ∀ q, s.2.2.2.1 = some q → ∀ ln ∈ q.2.2, wfl ln) ∧ BytesAt m s.2.2.2.2.1 ∧ m.1 1 6 = s.2.2.2.2.2
def Sca (k : Nat) : Prop := k < 572
def CO (μ m : SM2) (s : Sta) : Prop := CAll m s ∧ OfS Sca μ m
def Cq (μ : SM2) (E : String ⊕ Value) (s : Sta) : Out → SMem → Prop := fun o m => ∃ μ', m = rm μ' ∧ CO μ μ' s ∧ o = (match E with | .inr v => .inl (some v) | .inl e => .inr e)
def erF (nm : Nat → String) (t : Nat) (v : Value) : String ⊕ Value := if t = 0 then .inr v else .inl (nm t)
theorem CAll.law {m : SM2} {s : Sta} (h : CAll m s) : LawL m s.2.1.2 := ⟨_, h.2.1⟩
theorem KeptAt.of {μ m : SM2} {K : Option (Td × Lw)} (h : KeptAt μ K) (e7 : m.1 0 7 = μ.1 0 7) (e : ∀ k, 65 ≤ k → k < 96 → m.1 k = μ.1 k ∧ m.2 k = μ.2 k) : KeptAt m K := by
  have g : OfS (fun k => ¬ (65 ≤ k ∧ k < 96)) μ m := fun k hk => by
    have h9 : 65 ≤ k ∧ k < 96 := Classical.byContradiction hk
    exact e k h9.1 h9.2
  cases K with
  | none => exact e7.trans h
  | some Y => exact ⟨e7.trans h.1, h.2.1.ofs g (fun k h1 h2 => by omega), h.2.2.ofs g (by omega) (by omega)⟩
theorem LawN.of {μ m : SM2} {c : Int32} {LL : List (List Int32)} (h : LawN μ c LL) (e : ∀ k, 59 ≤ k → k < 61 → m.1 k = μ.1 k ∧ m.2 k = μ.2 k) : LawN m c LL := by
  have g : OfS (fun k => ¬ (59 ≤ k ∧ k < 61)) μ m := fun k hk => by
    have h9 : 59 ≤ k ∧ k < 61 := Classical.byContradiction hk
    exact e k h9.1 h9.2
  exact ⟨h.1.ofs g (by omega) (by omega), h.2⟩
theorem BytesAt.of {μ m : SM2} {B : List Nat} (h : BytesAt μ B) (e : ∀ k, 1 ≤ k → k < 3 → m.1 k = μ.1 k ∧ m.2 k = μ.2 k) : BytesAt m B := by
  have g : OfS (fun k => ¬ (1 ≤ k ∧ k < 3)) μ m := fun k hk => by
    have h9 : 1 ≤ k ∧ k < 3 := Classical.byContradiction hk
    exact e k h9.1 h9.2
  exact h.ofs g (by omega) (by omega)
theorem CAll.q {S : Nat → Prop} {μ m : SM2} {s : Sta} (hs : CAll μ s) (g : OfS S μ m) (hS : ∀ k, S k → k = 61 ∨ (97 ≤ k ∧ k < 124)) : CO μ m s := by
  have e : ∀ k, ¬ (k = 61 ∨ (97 ≤ k ∧ k < 124)) → m.1 k = μ.1 k ∧ m.2 k = μ.2 k := fun k hk => g k (fun z => hk (hS k z))
  refine ⟨⟨hs.1.ofs g (fun k h1 h2 h3 => by have := hS k h3; omega), hs.2.1.of (fun k h1 h2 => e k (by omega)), hs.2.2.1.ofs g (fun k h1 h3 => by have := hS k h3; omega), ⟨hs.2.2.2.1.1.of (congrFun (e 0 (by omega)).1 7) (fun k h1 h2 => e k (by omega)), hs.2.2.2.1.2⟩, hs.2.2.2.2.1.of (fun k h1 h2 => e k (by omega)), (congrFun (e 1 (by omega)).1 6).trans hs.2.2.2.2.2⟩, fun k hk => e k (by unfold Sca at hk; omega)⟩
theorem CAll.co {μ : SM2} {s : Sta} (hs : CAll μ s) : CO μ μ s := ⟨hs, OfS.refl _ _⟩
theorem An.cq {r E : String ⊕ Value} {μ : SM2} {o : Out} {m : SMem} {s : Sta} (h : An r μ o m) (hs : CAll μ s) (e : r = E) : Cq μ E s o m := ⟨μ, h.1, hs.co, by rw [h.2, e]; cases E <;> rfl⟩
theorem q97 {k : Nat} (h : SQ k) : k = 61 ∨ (97 ≤ k ∧ k < 124) := h
theorem w97 {k : Nat} (h : SW k) : k = 61 ∨ (97 ≤ k ∧ k < 124) := by unfold SW at h; omega
theorem c97 {k : Nat} (h : SSc k) : k = 61 ∨ (97 ≤ k ∧ k < 124) := by unfold SSc at h; omega
def nmA (_ : Nat) : String := "java/lang/IllegalArgumentException"
def nmI (_ : Nat) : String := "java/lang/IndexOutOfBoundsException"
def nmN (_ : Nat) : String := "java/util/NoSuchElementException"
def nmU (_ : Nat) : String := "java/lang/UnsupportedOperationException"
def nmAU (t : Nat) : String := if t = 1 then "java/lang/IllegalArgumentException" else "java/lang/UnsupportedOperationException"
def nmIN (t : Nat) : String := if t = 1 then "java/lang/IndexOutOfBoundsException" else "java/util/NoSuchElementException"
def nmIA (t : Nat) : String := if t = 1 then "java/lang/IndexOutOfBoundsException" else "java/lang/IllegalArgumentException"
def nmIS (t : Nat) : String := if t = 1 then "java/lang/IndexOutOfBoundsException" else "java/lang/IllegalStateException"
def nmAN (t : Nat) : String := if t = 1 then "java/lang/IllegalArgumentException" else "java/util/NoSuchElementException"
def nmAI (t : Nat) : String := if t = 1 then "java/lang/IllegalArgumentException" else "java/lang/IndexOutOfBoundsException"
section KA
variable {γ : Ga} {μ : SM2}
theorem k_rule {x : Int32} {b : Bool} {s : Sta} (hs : CAll μ s) : Ex γ 4 1 6 M_X11_rule [.ref 0, .int x, .int (bI b)] (rm μ) (Cq μ (erF nmI (if inB x s.1.R.length = true then 0 else 1) (.long (if inB x s.1.R.length = true then lN (cd (if b = true then (rAt s.1.R x.toNatClampNeg).2 else (rAt s.1.R x.toNatClampNeg).1)) else lN 0))) s) :=
  (c_rule hs.1.1).mono (fun o m9 h => An.cq h hs (by
    cases inB x s.1.R.length <;> rfl))
theorem k_field {x : Int32} {s : Sta} (hs : CAll μ s) : Ex γ 4 1 6 M_X11_field [.ref 0, .int x] (rm μ) (Cq μ (erF nmI (if inB x s.1.F.length = true then 0 else 1) (.long (if inB x s.1.F.length = true then lN (cd (fAt s.1.F x.toNatClampNeg).1) else lN 0))) s) :=
  (c_field hs.1.2.1).mono (fun o m9 h => An.cq h hs (by
    cases inB x s.1.F.length <;> rfl))
theorem k_steps {x : Int32} {s : Sta} (hs : CAll μ s) : Ex γ 4 1 6 M_X11_steps [.ref 0, .int x] (rm μ) (Cq μ (erF nmI (if inB x s.1.F.length = true then 0 else 1) (.int (if inB x s.1.F.length = true then (fAt s.1.F x.toNatClampNeg).2.1 else nI 0))) s) :=
  (c_steps hs.1.2.1).mono (fun o m9 h => An.cq h hs (by
    cases inB x s.1.F.length <;> rfl))
theorem k_seen {x : Int32} {b : Bool} {s : Sta} (hs : CAll μ s) : Ex γ 4 1 6 M_X11_seen [.ref 0, .int x, .int (bI b)] (rm μ) (Cq μ (erF nmI (if inB x s.1.S.length = true then 0 else 1) (.long (if inB x s.1.S.length = true then lN (cd (if b = true then (sAt s.1.S x.toNatClampNeg).2 else (sAt s.1.S x.toNatClampNeg).1)) else lN 0))) s) :=
  (c_seen hs.1.2.2.1).mono (fun o m9 h => An.cq h hs (by
    cases inB x s.1.S.length <;> rfl))
theorem k_explained {x : Int32} {s : Sta} (hs : CAll μ s) : Ex γ 6 1 6 M_X11_explained [.ref 0, .int x] (rm μ) (Cq μ (erF nmI (mT1 (inB x s.1.S.length)) (.int (if inB x s.1.S.length = true then nI (exN s.1.R (sAt s.1.S x.toNatClampNeg).1 (sAt s.1.S x.toNatClampNeg).2 s.1.R.length) else nI 0))) s) :=
  (c_explained hs.1.1 hs.1.2.2.1).mono (fun o m9 h => An.cq h hs (by
    cases inB x s.1.S.length <;> rfl))
theorem k_light {x : Int64} {s : Sta} (hs : CAll μ s) : Ex γ 5 1 6 M_X11_light [.ref 0, .long x] (rm μ) (Cq μ (erF nmA (if codeB x = true then 0 else 1) (.int (if codeB x = true then nI (wgN s.1.W (ml x) (ml x).length) else nI 0))) s) :=
  (c_light hs.1.2.2.2.1).mono (fun o m9 h => An.cq h hs (by
    cases codeB x <;> rfl))
theorem k_beast {x : Int64} {y : Int32} {s : Sta} (hs : CAll μ s) : Ex γ 4 1 6 M_X11_beast [.ref 0, .long x, .int y] (rm μ) (Cq μ (erF nmA (if codeB x = true then 0 else 1) (.int (if codeB x = true then (if inB y (ml x).length = true then nI ((ml x).getD y.toNatClampNeg 0) else -1) else nI 0))) s) :=
  (c_beast).mono (fun o m9 h => An.cq h hs (by
    cases codeB x <;> rfl))
theorem k_loss {x : Int32} {s : Sta} (hs : CAll μ s) : Ex γ 5 1 6 M_X11_loss [.ref 0, .int x] (rm μ) (Cq μ (erF nmI (if inB x s.1.R.length = true then 0 else 1) (.int (if inB x s.1.R.length = true then nI (wgN s.1.W (rAt s.1.R x.toNatClampNeg).1 (rAt s.1.R x.toNatClampNeg).1.length) - nI (wgN s.1.W (rAt s.1.R x.toNatClampNeg).2 (rAt s.1.R x.toNatClampNeg).2.length) else nI 0))) s) :=
  (c_loss hs.1.1 hs.1.2.2.2.1).mono (fun o m9 h => An.cq h hs (by
    cases inB x s.1.R.length <;> rfl))
theorem k_sorts {x : Int32} {s : Sta} (hs : CAll μ s) : Ex γ 5 1 6 M_X11_sorts [.ref 0, .int x] (rm μ) (Cq μ (erF nmN (mT1 (inB x 4)) (.int (if inB x 4 = true then srV s.1 x.toNatClampNeg else nI 0))) s) :=
  (c_sorts hs.1).mono (fun o m9 h => An.cq h hs (by
    cases inB x 4 <;> rfl))
theorem k_maker {x y z : Int32} {s : Sta} (hs : CAll μ s) : Ex γ 4 2 12 M_X11_maker [.ref 0, .int x, .int y, .int z] (rm μ) (Cq μ (erF nmIN (mkT s.1.F x y z) (.int (mkI s.1.F x y z))) s) :=
  (c_maker hs.1.2.1).mono (fun o m9 h => An.cq h hs (by
    unfold mkE mkT mkI
    cases inB x s.1.F.length <;> cases inB y (fAt s.1.F x.toNatClampNeg).1.length <;> cases inB z 2 <;> rfl))
theorem k_fits {x : Int64} {y : Int32} {z : Int32} {s : Sta} (hs : CAll μ s) : Ex γ 6 2 12 M_X11_fits [.ref 0, .long x, .int y, .int z] (rm μ) (Cq μ (erF nmIA (mT2 (inB y s.1.R.length) (codeB x)) (.int (bI (inB y s.1.R.length && (codeB x && fitZ s.1.R (wOf s.1 s.2.1.2) (ml x) y.toNatClampNeg z))))) s) :=
  (c_fits hs.1 hs.law).mono (fun o m9 h => by
    cases e1 : inB y s.1.R.length <;> cases e2 : codeB x <;> rw [e1, e2] at h <;> first | (obtain ⟨m, rfl, rfl, h1⟩ := h; exact ⟨m, rfl, hs.q h1 (fun k => w97), rfl⟩) | (obtain ⟨rfl, rfl⟩ := h; exact ⟨μ, rfl, hs.co, rfl⟩))
theorem k_settles {x : Int64} {y : Int32} {b : Bool} {s : Sta} (hs : CAll μ s) : Ex γ 6 2 12 M_X11_settles [.ref 0, .long x, .int y, .int (bI b)] (rm μ) (Cq μ (erF nmA (mT1 (codeB x && chkN y 0 500)) (.long (if (codeB x && chkN y 0 500) = true then setV (stl (nxR s.1.R (wOf s.1 s.2.1.2)) y.toNatClampNeg (ml x)) b else lN 0))) s) :=
  (c_settles hs.1 hs.law).mono (fun o m9 h => by
    cases e1 : codeB x <;> cases e2 : chkN y 0 500 <;> rw [e1, e2] at h <;> first | (obtain ⟨m, rfl, rfl, h1⟩ := h; exact ⟨m, rfl, hs.q h1 (fun k => w97), rfl⟩) | (obtain ⟨rfl, rfl⟩ := h; exact ⟨μ, rfl, hs.co, rfl⟩))
theorem k_again {x : Int64} {b : Bool} {s : Sta} (hs : CAll μ s) : Ex γ 6 1 6 M_X11_again [.ref 0, .long x, .int (bI b)] (rm μ) (Cq μ (erF nmA (mT1 (codeB x)) (.int (if codeB x = true then agV (agN (nxR s.1.R (wOf s.1 s.2.1.2)) 500 [ml x] (ml x)) b else nI 0))) s) :=
  (c_again hs.1 hs.law).mono (fun o m9 h => by
    cases e1 : codeB x <;> rw [e1] at h <;> first | (obtain ⟨m, rfl, rfl, h1⟩ := h; exact ⟨m, rfl, hs.q h1 (fun k => q97), rfl⟩) | (obtain ⟨rfl, rfl⟩ := h; exact ⟨μ, rfl, hs.co, rfl⟩))
theorem k_alike {x : Int64} {y : Int64} {s : Sta} (hs : CAll μ s) : Ex γ 6 2 12 M_X11_alike [.ref 0, .long x, .long y] (rm μ) (Cq μ (erF nmA (mT1 (codeB x && codeB y)) (.int (bI ((codeB x && codeB y) && alkB s.1.R (wOf s.1 s.2.1.2) (ml x) (ml y))))) s) :=
  (c_alike hs.1 hs.law).mono (fun o m9 h => by
    cases e1 : codeB x <;> cases e2 : codeB y <;> rw [e1, e2] at h <;> first | (obtain ⟨m, rfl, rfl, h1⟩ := h; exact ⟨m, rfl, hs.q h1 (fun k => w97), rfl⟩) | (obtain ⟨rfl, rfl⟩ := h; exact ⟨μ, rfl, hs.co, rfl⟩))
theorem k_becomes {x : Int64} {y : Int32} {z : Int32} {s : Sta} (hs : CAll μ s) : Ex γ 7 3 18 M_X11_becomes [.ref 0, .long x, .int y, .int z] (rm μ) (Cq μ (erF nmAN (mT2 (codeB x && chkN y 0 40) (inB z 4)) (.long (if ((codeB x && chkN y 0 40) && inB z 4) = true then becV s.1.R (wOf s.1 s.2.1.2) (ml x) y.toNatClampNeg z.toNatClampNeg else lN 0))) s) :=
  (c_becomes hs.1 hs.law).mono (fun o m9 h => by
    cases e1 : codeB x <;> cases e2 : chkN y 0 40 <;> cases e3 : inB z 4 <;> rw [e1, e2, e3] at h <;> first | (obtain ⟨m, rfl, rfl, h1⟩ := h; exact ⟨m, rfl, hs.q h1 (fun k => q97), rfl⟩) | (obtain ⟨rfl, rfl⟩ := h; exact ⟨μ, rfl, hs.co, rfl⟩))
theorem k_fewest {x : Int64} {y : Int64} {s : Sta} (hs : CAll μ s) : Ex γ 6 2 12 M_X11_fewest [.ref 0, .long x, .long y] (rm μ) (Cq μ (erF nmA (mT1 (codeB x && codeB y)) (.int (if (codeB x && codeB y) = true then fwN s.1.R (wOf s.1 s.2.1.2) (ml y) 1501 [(ml x, 0)] 0 0 else nI 0))) s) :=
  (c_fewest hs.1 hs.law).mono (fun o m9 h => by
    cases e1 : codeB x <;> cases e2 : codeB y <;> rw [e1, e2] at h <;> first | (obtain ⟨m, rfl, rfl, h1⟩ := h; exact ⟨m, rfl, hs.q h1 (fun k => q97), rfl⟩) | (obtain ⟨rfl, rfl⟩ := h; exact ⟨μ, rfl, hs.co, rfl⟩))
theorem k_meets {x : Int64} {y : Int64} {z : Int32} {b : Bool} {s : Sta} (hs : CAll μ s) : Ex γ 7 3 18 M_X11_meets [.ref 0, .long x, .long y, .int z, .int (bI b)] (rm μ) (Cq μ (erF nmA (mT1 ((codeB x && codeB y) && chkN z 0 12)) (.long (if ((codeB x && codeB y) && chkN z 0 12) = true then meV s.1.R (wOf s.1 s.2.1.2) (ml x) (ml y) z.toNatClampNeg b else lN 0))) s) :=
  (c_meets hs.1 hs.law).mono (fun o m9 h => by
    cases e1 : codeB x <;> cases e2 : codeB y <;> cases e3 : chkN z 0 12 <;> rw [e1, e2, e3] at h <;> first | (obtain ⟨m, rfl, rfl, h1⟩ := h; exact ⟨m, rfl, hs.q h1 (fun k => q97), rfl⟩) | (obtain ⟨rfl, rfl⟩ := h; exact ⟨μ, rfl, hs.co, rfl⟩))
theorem k_overlaps {z : Int32} {s : Sta} (hs : CAll μ s) : Ex γ 8 1 6 M_X11_overlaps [.ref 0, .int z] (rm μ) (Cq μ (erF nmN (mT1 (inB z 3)) (.long (if inB z 3 = true then ovV s.1.R z.toNatClampNeg else lN 0))) s) :=
  (c_overlaps hs.1 hs.law).mono (fun o m9 h => by
    cases e1 : inB z 3 <;> rw [e1] at h <;> first | (obtain ⟨m, rfl, rfl, h1⟩ := h; exact ⟨m, rfl, hs.q h1 (fun k => q97), rfl⟩) | (obtain ⟨rfl, rfl⟩ := h; exact ⟨μ, rfl, hs.co, rfl⟩))
theorem k_never {x : Int64} {y : Int64} {z : Int32} {s : Sta} (hs : CAll μ s) : Ex γ 11 3 18 M_X11_never [.ref 0, .long x, .long y, .int z] (rm μ) (Cq μ (erF nmAI (mT2 (codeB x && codeB y) (chkB z)) (.int (if ((codeB x && codeB y) && chkB z) = true then nvV s.1.R (ml x, ml y) z else nI 0))) s) :=
  (c_never hs.1.1).mono (fun o m9 h => by
    cases e1 : codeB x <;> cases e2 : codeB y <;> cases e3 : chkB z <;> rw [e1, e2, e3] at h <;> first | (obtain ⟨m, rfl, rfl, h1⟩ := h; exact ⟨m, rfl, hs.q h1 (fun k => c97), rfl⟩) | (obtain ⟨rfl, rfl⟩ := h; exact ⟨μ, rfl, hs.co, rfl⟩))
theorem k_falls {x : Int32} {z : Int32} {s : Sta} (hs : CAll μ s) : Ex γ 11 2 12 M_X11_falls [.ref 0, .int x, .int z] (rm μ) (Cq μ (erF nmAI (mT2 (chkN x 1 5) (chkB z)) (.int (if (chkN x 1 5 && chkB z) = true then flV s.1.R x.toNatClampNeg z else nI 0))) s) :=
  (c_falls hs.1.1).mono (fun o m9 h => by
    cases e1 : chkN x 1 5 <;> cases e2 : chkB z <;> rw [e1, e2] at h <;> first | (obtain ⟨m, rfl, rfl, h1⟩ := h; exact ⟨m, rfl, hs.q h1 (fun k => c97), rfl⟩) | (obtain ⟨rfl, rfl⟩ := h; exact ⟨μ, rfl, hs.co, rfl⟩))
theorem k_reckons {x : Int32} {y : Int32} {s : Sta} (hs : CAll μ s) : Ex γ 8 2 12 M_X11_reckons [.ref 0, .int x, .int y] (rm μ) (Cq μ (erF nmA (mT1 (chkN x 0 3 && chkN y 0 4)) (.long (if (chkN x 0 3 && chkN y 0 4) = true then vO (rkV (nxR s.1.R (wOf s.1 s.2.1.2)) x.toNatClampNeg y.toNatClampNeg) else lN 0))) s) :=
  (c_reckons hs.1 hs.law).mono (fun o m9 h => by
    cases e1 : chkN x 0 3 <;> cases e2 : chkN y 0 4 <;> rw [e1, e2] at h <;> first | (obtain ⟨m, rfl, rfl, h1⟩ := h; exact ⟨m, rfl, hs.q h1 (fun k => w97), rfl⟩) | (obtain ⟨rfl, rfl⟩ := h; exact ⟨μ, rfl, hs.co, rfl⟩))
theorem k_guessed {z : Int32} {s : Sta} (hs : CAll μ s) : Ex γ 8 1 6 M_X11_guessed [.ref 0, .int z] (rm μ) (Cq μ (erF nmN (mT1 (inB z 3)) (.long (if inB z 3 = true then guO (guV s.1.S) z.toNatClampNeg else lN 0))) s) :=
  (c_guessed hs.1).mono (fun o m9 h => by
    cases e1 : inB z 3 <;> rw [e1] at h <;> first | (obtain ⟨m, rfl, rfl, h1⟩ := h; exact ⟨m, rfl, hs.q h1 (fun k => q97), rfl⟩) | (obtain ⟨rfl, rfl⟩ := h; exact ⟨μ, rfl, hs.co, rfl⟩))
theorem k_drovers {x : Int64} {y : Int32} {s : Sta} (hs : CAll μ s) : Ex γ 8 2 12 M_X11_drovers [.ref 0, .long x, .int y] (rm μ) (Cq μ (erF nmA (mT1 (codeB x && chkN y 1 8)) (.int (if (codeB x && chkN y 1 8) = true then gmD (gmV s.1.R (wOf s.1 s.2.1.2) (ml x) y.toNatClampNeg) else nI 0))) s) :=
  (c_drovers hs.1 hs.law).mono (fun o m9 h => by
    cases e1 : codeB x <;> cases e2 : chkN y 1 8 <;> rw [e1, e2] at h <;> first | (obtain ⟨m, rfl, rfl, h1⟩ := h; exact ⟨m, rfl, hs.q h1 (fun k => q97), rfl⟩) | (obtain ⟨rfl, rfl⟩ := h; exact ⟨μ, rfl, hs.co, rfl⟩))
theorem k_best {x : Int64} {y : Int32} {s : Sta} (hs : CAll μ s) : Ex γ 8 2 12 M_X11_best [.ref 0, .long x, .int y] (rm μ) (Cq μ (erF nmA (mT1 (codeB x && chkN y 1 8)) (.int (if (codeB x && chkN y 1 8) = true then gmB (gmV s.1.R (wOf s.1 s.2.1.2) (ml x) y.toNatClampNeg) else nI 0))) s) :=
  (c_best hs.1 hs.law).mono (fun o m9 h => by
    cases e1 : codeB x <;> cases e2 : chkN y 1 8 <;> rw [e1, e2] at h <;> first | (obtain ⟨m, rfl, rfl, h1⟩ := h; exact ⟨m, rfl, hs.q h1 (fun k => q97), rfl⟩) | (obtain ⟨rfl, rfl⟩ := h; exact ⟨μ, rfl, hs.co, rfl⟩))
def Pq (μ : SM2) (v : Option Value) (s : Sta) : Out → SMem → Prop := Rm v (fun m => CO μ m s)
theorem k_endless  {s : Sta} (hs : CAll μ s) : Ex γ 6 0 0 M_X11_endless [.ref 0] (rm μ) (Pq μ (some (.long (vO (enS s.1.R (wOf s.1 s.2.1.2))))) s) :=
  (c_endless hs.1 hs.law).mono (fun o m9 h => by
    obtain ⟨m, e1, e2, h1⟩ := h
    exact ⟨m, e1, e2, hs.q h1 (fun k => w97)⟩)
theorem k_dropped {y : Int32} {s : Sta} (hs : CAll μ s) : Ex γ 7 0 0 M_X11_dropped [.ref 0, .int y] (rm μ) (Pq μ (some (.int (oN (drS s.1.R (wOf s.1 s.2.1.2) s.1.F y)))) s) :=
  (c_dropped hs.1 hs.law).mono (fun o m9 h => by
    obtain ⟨m, e1, e2, h1⟩ := h
    exact ⟨m, e1, e2, hs.q h1 (fun k => w97)⟩)
theorem k_telling  {s : Sta} (hs : CAll μ s) : Ex γ 7 0 0 M_X11_telling [.ref 0] (rm μ) (Pq μ (some (.int (oN (tlN (exE s.1) s.1.S.length (2 ^ s.1.R.length))))) s) :=
  (c_telling hs.1).mono (fun o m9 h => by
    obtain ⟨m, e1, e2, h1⟩ := h
    exact ⟨m, e1, e2, hs.q h1 (fun k => q97)⟩)
theorem k_fault {s : Sta} (hs : CAll μ s) : Ex γ 1 0 0 M_X11_fault [.ref 0] (rm μ) (Pq μ (some (.int s.2.2.2.2.2)) s) :=
  (c_fault hs.2.2.2.2.2).mono (fun o m9 h => ⟨μ, h.1, h.2, hs.co⟩)
theorem k_count {x : Int32} {s : Sta} (hs : CAll μ s) : Ex γ 3 0 0 M_X11_count [.ref 0, .int x] (rm μ) (Pq μ (some (.int (cntV s.1 (s.2.1.1, s.2.1.2.flatMap clS) s.2.2.1 x))) s) :=
  (c_count hs.1 hs.2.1.1 hs.2.2.1).mono (fun o m9 h => ⟨μ, h.1, h.2, hs.co⟩)
end KA

