/-! THE LAW copied; THE IMAGE -/
/-- lines, signs -/
abbrev Lw : Type := Int32 × List Int32
def LawAt (μ : SM2) (b : Nat) (L : Lw) : Prop := μ.1 b 0 = L.1 ∧ μ.1 b 1 = nI L.2.length ∧ L.2.length ≤ 400 ∧ ∀ i, i < L.2.length → μ.1 (b + 1) i = L.2.getD i 0
theorem LawAt.off {μ m : SM2} {b a n : Nat} {L : Lw} (h : LawAt μ b L) (g : Off a n μ m) (hb : b + 3 ≤ a ∨ a + n ≤ b) : LawAt m b L :=
  ⟨(g.i (by omega) 0).trans h.1, (g.i (by omega) 1).trans h.2.1, h.2.2.1, fun i hi => (g.i (by omega) i).trans (h.2.2.2 i hi)⟩
def KeptAt (μ : SM2) (K : Option (Td × Lw)) : Prop := match K with
  | none => μ.1 0 7 = nI 0
  | some Y => μ.1 0 7 = nI 1 ∧ ToldAt μ 65 Y.1 ∧ LawAt μ 93 Y.2
/-- all but THE IMAGE is alike -/
def OffK (μ m : SM2) : Prop := (∀ k, 0 < k → k < 65 ∨ 96 ≤ k → m.1 k = μ.1 k ∧ m.2 k = μ.2 k) ∧ m.1 0 9 = μ.1 0 9 ∧ m.1 0 10 = μ.1 0 10
section IM
variable {γ : Ga} {μ : SM2}
theorem c_Law_copyFrom {a b : Nat} {L : Lw} (ha : isLaw a) (hb : isLaw b) (hab : a + 3 ≤ b ∨ b + 3 ≤ a) (h : LawAt μ b L) : Ex γ 1 0 0 M_X5_copyFrom [.ref a, .ref b] (rm μ) (Rm none (fun m => LawAt m a L ∧ Off a 3 μ m)) := by
  have hl := h.2.2.1
  refine Ex.of (by decide +kernel) rfl (Nat.le_of_ble_eq_true rfl) ?_
  show T _ _ _ _ _ _ _ _ _ [some (.ref a), some (.ref b)] [] (rm μ)
  refine T_aload_n (pc := 0) (i := 0) dX5_copyFrom_0 rfl rfl ?_
  refine T_aload_n (pc := 1) (i := 1) dX5_copyFrom_1 rfl rfl ?_
  refine R_getI (pc := 2) (x := L.1) fl_X5_11 rfl (kt_law hb) (lt_law hb) h.1 dX5_copyFrom_2 ?_
  refine R_putI (pc := 5) fl_X5_11 ⟨rfl, rfl⟩ (Or.inl rfl) (kt_law ha) (lt_law ha) dX5_copyFrom_5 ?_
  refine T_aload_n (pc := 8) (i := 0) dX5_copyFrom_8 rfl rfl ?_
  refine T_aload_n (pc := 9) (i := 1) dX5_copyFrom_9 rfl rfl ?_
  refine R_getI (pc := 10) (x := nI L.2.length) fl_X5_22 rfl (kt_law hb) (lt_law hb) ((wI_ne (by first | omega | simp)).trans h.2.1) dX5_copyFrom_10 ?_
  refine R_putI (pc := 13) fl_X5_22 ⟨rfl, rfl⟩ (Or.inl rfl) (kt_law ha) (lt_law ha) dX5_copyFrom_13 ?_
  refine T_aload_n (pc := 16) (i := 1) dX5_copyFrom_16 rfl rfl ?_
  refine R_getR (pc := 17) (i := (b + 1)) fl_X5_15 rfl (kt_law hb) (lt_law hb) (rt_law_signs hb) dX5_copyFrom_17 ?_
  refine T_iconst (pc := 20) (v := nI 0) dX5_copyFrom_20 (by decide) ?_
  refine T_aload_n (pc := 21) (i := 0) dX5_copyFrom_21 rfl rfl ?_
  refine R_getR (pc := 22) (i := (a + 1)) fl_X5_15 rfl (kt_law ha) (lt_law ha) (rt_law_signs ha) dX5_copyFrom_22 ?_
  refine T_iconst (pc := 25) (v := nI 0) dX5_copyFrom_25 (by decide) ?_
  refine T_aload_n (pc := 26) (i := 0) dX5_copyFrom_26 rfl rfl ?_
  refine R_getI (pc := 27) (x := nI L.2.length) fl_X5_22 rfl (kt_law ha) (lt_law ha) wI_eq dX5_copyFrom_27 ?_
  refine R_copyI (pc := 30) cp_X5_25 (kt_law_signs hb) (kt_law_signs ha) (lt_law_signs hb) (lt_law_signs ha) (by omega) (by omega) (by decide) (by decide) dX5_copyFrom_30 ?_
  have h0 : Off a 3 μ (wCI (wI (wI μ a 0 (L.1)) a 1 (nI L.2.length)) (b + 1) (a + 1) 0 0 L.2.length) := (Off.sCI (Off.sI (Off.sI (Off.refl _ _ _) (by omega)) (by omega)) (by omega))
  refine T_vret dX5_copyFrom_33 rfl (Nat.le_refl _) (Nat.le_refl _) ⟨_, rfl, rfl, ⟨?_, ?_, hl, fun i hi => ?_⟩, h0⟩
  · skip
    simp (disch := omega) only [n_wI, e_wI, n_wL, e_wL, m_wI2, m_wL1, n_wCI, e_wCI, n_wCL, e_wCL, m_wCI2, m_wCL1, n_wF, e_wF, m_wF2]
  · skip
    simp (disch := omega) only [n_wI, e_wI, n_wL, e_wL, m_wI2, m_wL1, n_wCI, e_wCI, n_wCL, e_wCL, m_wCI2, m_wCL1, n_wF, e_wF, m_wF2]
  · have e := h.2.2.2 i hi
    simp (disch := omega) only [n_wI, e_wI, n_wL, e_wL, m_wI2, m_wL1, n_wCI, e_wCI, n_wCL, e_wCL, m_wCI2, m_wCL1, n_wF, e_wF, m_wF2]
    exact e
theorem c_image {X : Td} {L : Lw} (hX : ToldAt μ 3 X) (hL : LawAt μ 59 L) : Ex γ 4 0 0 M_X11_image [.ref 0] (rm μ) (Rm none (fun m => KeptAt m (some (X, L)) ∧ OffK μ m)) := by
  refine Ex.of (by decide +kernel) rfl (Nat.le_of_ble_eq_true rfl) ?_
  show T _ _ _ _ _ _ _ _ _ [some (.ref 0)] [] (rm μ)
  refine T_aload_n (pc := 0) (i := 0) dX11_image_0 rfl rfl ?_
  refine R_getR (pc := 1) (i := 65) fl_X11_36 rfl kc_0 lc_0 rc_0_5 dX11_image_1 ?_
  refine T_aload_n (pc := 4) (i := 0) dX11_image_4 rfl rfl ?_
  refine R_getR (pc := 5) (i := 3) fl_X11_19 rfl kc_0 lc_0 rc_0_1 dX11_image_5 ?_
  refine R_callVm0 (pc := 8) (As := [.ref 3]) (rest := []) (Or.inl lk_X11_105) mk_X9_copyFrom (c_Told_copyFrom told65 told3 (by omega) hX) (kt_told told65) ⟨by decide, rfl⟩ (lt_told told65) dX11_image_8 rfl rfl (Nat.le_of_ble_eq_true rfl) (by decide) rfl (Nat.le_refl _) (Nat.le_refl _) (fun m h => ?_)
  obtain ⟨hT, hO⟩ := h
  refine T_aload_n (pc := 11) (i := 0) dX11_image_11 rfl rfl ?_
  refine R_getR (pc := 12) (i := 93) fl_X11_39 rfl kc_0 lc_0 rc_0_6 dX11_image_12 ?_
  refine T_aload_n (pc := 15) (i := 0) dX11_image_15 rfl rfl ?_
  refine R_getR (pc := 16) (i := 59) fl_X11_29 rfl kc_0 lc_0 rc_0_3 dX11_image_16 ?_
  refine R_callVm0 (pc := 19) (As := [.ref 59]) (rest := []) (Or.inl lk_X11_126) mk_X5_copyFrom (c_Law_copyFrom law93 law59 (by omega) (hL.off hO (by omega))) (kt_law law93) ⟨by decide, rfl⟩ (lt_law law93) dX11_image_19 rfl rfl (Nat.le_of_ble_eq_true rfl) (by decide) rfl (Nat.le_refl _) (Nat.le_refl _) (fun m2 h2 => ?_)
  obtain ⟨hL2, hO2⟩ := h2
  refine T_aload_n (pc := 22) (i := 0) dX11_image_22 rfl rfl ?_
  refine T_iconst (pc := 23) (v := nI 1) dX11_image_23 (by decide) ?_
  refine R_putI (pc := 24) fl_X11_454 ⟨rfl, rfl⟩ (Or.inr (Or.inr rfl)) kc_0 lc_0 dX11_image_24 ?_
  have h3 : Off 0 1 m2 (wI m2 0 7 (nI 1)) := (Off.sI (Off.refl _ _ _) (by omega))
  refine T_vret dX11_image_27 rfl (Nat.le_refl _) (Nat.le_refl _) ⟨_, rfl, rfl, ⟨?_, (hT.off hO2 (by omega)).off h3 (by omega), hL2.off h3 (by omega)⟩, fun k hk hk2 => ?_, ?_, ?_⟩
  · skip
    simp (disch := omega) only [n_wI, e_wI, n_wL, e_wL, m_wI2, m_wL1, n_wCI, e_wCI, n_wCL, e_wCL, m_wCI2, m_wCL1, n_wF, e_wF, m_wF2]
  · have e1 := hO k (by omega)
    have e2 := hO2 k (by omega)
    have e3 := h3 k (by omega)
    exact ⟨e3.1.trans (e2.1.trans e1.1), e3.2.trans (e2.2.trans e1.2)⟩
  · skip
    simp (disch := omega) only [n_wI, e_wI, n_wL, e_wL, m_wI2, m_wL1, n_wCI, e_wCI, n_wCL, e_wCL, m_wCI2, m_wCL1, n_wF, e_wF, m_wF2]
    exact (hO2.i (by omega) 9).trans (hO.i (by omega) 9)
  · skip
    simp (disch := omega) only [n_wI, e_wI, n_wL, e_wL, m_wI2, m_wL1, n_wCI, e_wCI, n_wCL, e_wCL, m_wCI2, m_wCL1, n_wF, e_wF, m_wF2]
    exact (hO2.i (by omega) 10).trans (hO.i (by omega) 10)
end IM

