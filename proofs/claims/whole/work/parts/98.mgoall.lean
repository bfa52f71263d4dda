/-! THE MODEL: a STEP of a FIELD by WAY -/
theorem LawM.wk {g g' : Nat → Int32} {LL : List (List Int32)} (h : LawM g LL) (e : ∀ j, (j = 4 ∨ 339 ≤ j) → g' j = g j) : LawM g' LL := by
  obtain ⟨c, ⟨h1, h2⟩, hw⟩ := h
  refine ⟨c, ⟨?_, h2.1, fun n hn => ⟨(e _ (by omega)).trans (h2.2.1 n hn).1, (e _ (by omega)).trans (h2.2.1 n hn).2⟩, fun i hi => ⟨(e _ (by omega)).trans (h2.2.2 i hi).1, (e _ (by omega)).trans (h2.2.2 i hi).2⟩⟩, hw⟩
  rcases h1 with ⟨a, b, c⟩ | ⟨a, b, c⟩
  · exact Or.inl ⟨a, (e 4 (by omega)).trans b, c⟩
  · exact Or.inr ⟨(e 4 (by omega)).trans a, b, (e 339 (by omega)).trans c⟩
theorem mEnv.wk {μ m : SM2} {R : List Ru} {LL : List (List Int32)} {w : Wk} {k : Nat} (h : mEnv μ R LL w) (hk : k < 6) (g : Wk1 k μ m) (e1 : m.1 572 16 = μ.1 572 16) (e2 : m.1 572 17 = μ.1 572 17) : mEnv m R LL w := by
  obtain ⟨a1, a2, a3, a4, a5⟩ := h
  refine ⟨a1.some (fun j h1 h2 => g j (by omega)), a2.wk (fun j hj => g j (by omega)), a3, ?_, ?_⟩
  · rw [e1]
    exact a4
  · rw [e2, g 7 (by omega)]
    exact a5
section GL
variable {α : Type} {R : List Ru} {w : Wk} {l : List Nat} {rr : Nat → List α} {L : List α}
def afL (R : List Ru) (w : Wk) (l : List Nat) (rr : Nat → List α) (L : List α) (k : Nat) : List α := aftG (llR R) rr (L.take k) (gaK R w l k) 0
theorem afL_len {k : Nat} (hL : L.length = l.length) (hk : k ≤ l.length) (he : enU (llR R) 0 (gaK R w l k) ≤ k) : (afL R w l rr L k).length = k + sL (fun r => (rr r).length) (gaK R w l k) - sL (llR R) (gaK R w l k) := by
  have hkN : k * R.length ≤ l.length * R.length := Nat.mul_le_mul_right _ hk
  have hch := chU_n (gaU_ok (R := R) (w := w) (l := l) hkN) he
  have e : (L.take k).length = k := by rw [List.length_take]; omega
  have h1 := aftG_len (ll := llR R) (rr := rr) (l := L.take k) (U := gaK R w l k) (p := 0) (by rw [e]; exact hch) (Nat.zero_le _)
  rw [e] at h1
  unfold afL
  omega
theorem afL_no {k : Nat} (hL : L.length = l.length) (h3 : w.1 = 3) (hk : k < l.length) (he : enU (llR R) 0 (gaK R w l k) ≤ k) (hf : ∀ r, r < R.length → fitB R w l r k = false) : afL R w l rr L (k + 1) = afL R w l rr L k ++ (L.drop k).take 1 := by
  have hkN : k * R.length ≤ l.length * R.length := Nat.mul_le_mul_right _ (by omega)
  have hch := chU_n (gaU_ok (R := R) (w := w) (l := l) hkN) he
  unfold afL
  rw [gaK_no h3 hf, aftG_more (k := k) (k' := k + 1) (by omega) hch (Nat.zero_le _) (by omega)]
  congr 1
  rw [List.drop_take, show k + 1 - k = 1 by omega]
theorem afL_yes {k r : Nat} (hL : L.length = l.length) (h3 : w.1 = 3) (h1 : ∀ r, r < R.length → 1 ≤ llR R r) (hl : l.length ≤ 20) (hk : k < l.length) (he : enU (llR R) 0 (gaK R w l k) ≤ k) (hr : r < R.length) (hf : fitB R w l r k = true) (hf2 : ∀ q, q < r → fitB R w l q k = false) : afL R w l rr L (k + llR R r) = afL R w l rr L k ++ rr r := by
  have hkN : k * R.length ≤ l.length * R.length := Nat.mul_le_mul_right _ (by omega)
  have hch := chU_n (gaU_ok (R := R) (w := w) (l := l) hkN) he
  unfold afL
  rw [gaK_yes h3 h1 hl hk he hr hf hf2, aftG_snoc (k := k) (k' := k + llR R r) (by omega) hch (Nat.zero_le _) (by omega), List.drop_of_length_le (l := L.take (k + llR R r)) (by rw [List.length_take]; omega), List.append_nil]
end GL
def Sga (k : Nat) : Prop := k = 579 ∨ k = 580
def Swd (k : Nat) : Prop := k = 573 ∨ k = 579 ∨ k = 580
section MQ2
variable {γ : Ga} {μ : SM2}
theorem m_goesAll {k : Nat} {X : Td} {LL : List (List Int32)} {w : Wk} (hX : mdT (μ.1 573) X) (hE : mEnv μ X.R LL w) (h3 : w.1 = 3) (hk : k < X.F.length) (hg : (gaR X.R w (fAt X.F k).1).length ≠ 0) : Ex γ 10 0 0 M_X12_goesAll [.ref 572, .int (nI k), .long (lN (cd (aftW X.R (fAt X.F k).1 (gaR X.R w (fAt X.F k).1))))] (rm μ) (Rm none (fun m => (mdM (m.1 573) (41 + 43 * k) (chF X.R (fAt X.F k) (gaR X.R w (fAt X.F k).1)) ∧ Wk1 k μ m) ∧ OfM F24 Swd μ m)) := by
  have h6 := hX.2.1.1.2
  have hR := hX.1
  have hok := hR.2.1
  have h1 : ∀ r, r < X.R.length → 1 ≤ llR X.R r := fun r hr => (hok r hr).2.1
  have hf := hX.2.1.2 k hk
  obtain ⟨f, ef⟩ : ∃ f, fAt X.F k = f := ⟨_, rfl⟩
  have hcode := m_meadow (γ := γ) (μ := μ) hX.2.1 hk
  rw [ef] at hf hg hcode ⊢
  have h20 := hf.1.1.1
  have hlen := hf.1.2
  have hth : Mw (aftW X.R f.1 (gaR X.R w f.1)) := aftW_mw hf.1.1 hok gaR_ok.1 (gaR_nw h20)
  have eU : gaR X.R w f.1 = gaK X.R w f.1 f.1.length := by
    unfold gaR at hg ⊢
    split at hg
    · next z => rw [if_pos z]
    · exact absurd rfl hg
  have big : ∀ q, q ≤ f.1.length → q + sL (fun r => (mkR X.R (f.2.1 + 1) r).length) (gaK X.R w f.1 q) - sL (llR X.R) (gaK X.R w f.1 q) ≤ 20 := fun q hq => by
    rw [sL_mk]
    exact Classical.byContradiction fun z => hg (by rw [gaK_big (k := q) h3 hq (by omega)]; rfl)
  obtain ⟨th, eth⟩ : ∃ th, aftW X.R f.1 (gaR X.R w f.1) = th := ⟨_, rfl⟩
  rw [eth] at hth ⊢
  refine Ex.of (by decide +kernel) rfl (Nat.le_of_ble_eq_true rfl) ?_
  show T _ _ _ _ _ _ _ _ _ [some (.ref 572), some (.int (nI k)), some (.long (lN (cd th))), none, none, none, none, none, none, none] [] (rm μ)
  refine T_aload_n (pc := 0) (i := 0) dX12_goesAll_0 rfl rfl ?_
  refine T_iload_n (pc := 1) (i := 1) dX12_goesAll_1 rfl rfl ?_
  refine R_callV1 (pc := 2) (As := [.int (nI k)]) (rest := []) (Or.inl lk_X12_379) mk_X12_meadow hcode kc_572 ⟨by decide, rfl⟩ lc_572 dX12_goesAll_2 rfl rfl (Nat.le_of_ble_eq_true rfl) (by decide) rfl (Nat.le_refl _) (Nat.le_refl _) ?_
  refine T_lstore (pc := 5) (i := 4) (ls' := [some (.ref 572), some (.int (nI k)), some (.long (lN (cd th))), none, some (.long (lN (cd f.1))), none, none, none, none, none]) dX12_goesAll_5 (by decide) rfl ?_
  refine T_aload_n (pc := 7) (i := 0) dX12_goesAll_7 rfl rfl ?_
  refine R_getR (pc := 8) (i := 573) fl_X12_29 rfl kc_572 lc_572 rc_572_1 dX12_goesAll_8 ?_
  refine T_iload_n (pc := 11) (i := 1) dX12_goesAll_11 rfl rfl ?_
  refine R_callS1 (pc := 12) (av := [.int (nI k)]) (rest := [.ref 573]) (Or.inl lk_X12_114) mk_X12_at m_at dX12_goesAll_12 rfl rfl (Nat.le_of_ble_eq_true rfl) (by decide) rfl (Nat.le_refl _) (Nat.le_refl _) ?_
  refine T_iconst (pc := 15) (v := nI 2) dX12_goesAll_15 (by decide) ?_
  refine R_iadd (pc := 16) dX12_goesAll_16 ?_
  refine R_iald (pc := 17) (x := f.2.1) kc_573 lc_573 (by omega) (by first | decide | assumption) hf.2.2.1 dX12_goesAll_17 ?_
  refine T_iconst (pc := 18) (v := nI 1) dX12_goesAll_18 (by decide) ?_
  refine T_iadd (pc := 19) dX12_goesAll_19 ?_
  refine T_istore (pc := 20) (i := 6) (ls' := [some (.ref 572), some (.int (nI k)), some (.long (lN (cd th))), none, some (.long (lN (cd f.1))), none, some (.int (((f.2.1) + (nI 1)))), none, none, none]) dX12_goesAll_20 (by decide) rfl ?_
  refine T_aload_n (pc := 22) (i := 0) dX12_goesAll_22 rfl rfl ?_
  refine T_iconst (pc := 23) (v := nI 0) dX12_goesAll_23 (by decide) ?_
  refine R_putI (pc := 24) fl_X12_389 ⟨rfl, rfl⟩ (Or.inl rfl) kc_572 lc_572 dX12_goesAll_24 ?_
  refine T_iconst (pc := 27) (v := nI 0) dX12_goesAll_27 (by decide) ?_
  refine T_istore (pc := 28) (i := 7) (ls' := [some (.ref 572), some (.int (nI k)), some (.long (lN (cd th))), none, some (.long (lN (cd f.1))), none, some (.int (((f.2.1) + (nI 1)))), some (.int (nI 0)), none, none]) dX12_goesAll_28 (by decide) rfl ?_
  have kp : ∀ m : SM2, OfM F24 Sga μ m → m.1 573 = μ.1 573 ∧ mEnv m X.R LL w := fun m h => ⟨(h.c (by decide) (by unfold Sga; omega)).1, hE.om h (by unfold Sga; omega) (by unfold F24; omega) (by unfold F24; omega)⟩
  suffices loop : ∀ (g q : Nat) (m : SM2), f.1.length ≤ q + g → q ≤ f.1.length → enU (llR X.R) 0 (gaK X.R w f.1 q) ≤ q → MadeAt m (afL X.R w f.1 (mkR X.R (f.2.1 + 1)) f.2.2 q) → OfM F24 Sga μ m → T γ 10 0 0 M_X12_goesAll (Rm none (fun m => (mdM (m.1 573) (41 + 43 * k) (chF X.R f (gaR X.R w f.1)) ∧ Wk1 k μ m) ∧ OfM F24 Swd μ m)) 0 0 30 [some (.ref 572), some (.int (nI k)), some (.long (lN (cd th))), none, some (.long (lN (cd f.1))), none, some (.int (f.2.1 + 1)), some (.int (nI q)), none, none] [] (rm m) by
    have e0 : gaK X.R w f.1 0 = [] := by unfold gaK; rw [Nat.zero_mul]; rfl
    have e1 : afL X.R w f.1 (mkR X.R (f.2.1 + 1)) f.2.2 0 = [] := by unfold afL; rw [e0]; rfl
    exact loop f.1.length 0 _ (by omega) (Nat.zero_le _) (by rw [e0]; exact Nat.le_refl _) (by rw [e1]; exact ⟨⟨e_wI ⟨rfl, rfl⟩, Nat.zero_le _⟩, fun i hi => absurd hi (Nat.not_lt_zero _)⟩) (OfM.sF (OfM.refl _ _ _) rfl)
  have fin : ∀ (q : Nat) (m : SM2), q = f.1.length → enU (llR X.R) 0 (gaK X.R w f.1 q) ≤ q → MadeAt m (afL X.R w f.1 (mkR X.R (f.2.1 + 1)) f.2.2 q) → OfM F24 Sga μ m → T γ 10 0 0 M_X12_goesAll (Rm none (fun m => (mdM (m.1 573) (41 + 43 * k) (chF X.R f (gaR X.R w f.1)) ∧ Wk1 k μ m) ∧ OfM F24 Swd μ m)) 0 0 119 [some (.ref 572), some (.int (nI k)), some (.long (lN (cd th))), none, some (.long (lN (cd f.1))), none, some (.int (f.2.1 + 1)), some (.int (nI q)), none, none] [] (rm m) := fun q m hq he hM hO => by
    subst hq
    have eN : afL X.R w f.1 (mkR X.R (f.2.1 + 1)) f.2.2 f.1.length = aftG (llR X.R) (mkR X.R (f.2.1 + 1)) f.2.2 (gaR X.R w f.1) 0 := by
      unfold afL
      rw [← hlen, List.take_length, hlen, eU]
    have e9 := kp m hO
    have hll := afL_len (rr := mkR X.R (f.2.1 + 1)) (L := f.2.2) hlen (Nat.le_refl _) he
    have hll2 : th.length = (afL X.R w f.1 (mkR X.R (f.2.1 + 1)) f.2.2 f.1.length).length := by
      have h8 := aftG_len (rr := rrR X.R) (gaR_ok (R := X.R) (w := w) (l := f.1)).1 (Nat.zero_le _)
      have h7 : aftG (llR X.R) (rrR X.R) f.1 (gaR X.R w f.1) 0 = th := eth
      rw [h7, eU] at h8
      rw [hll, sL_mk]
      omega
    rw [eN] at hM hll2
    refine T_aload_n (pc := 119) (i := 0) dX12_goesAll_119 rfl rfl ?_
    refine T_iload_n (pc := 120) (i := 1) dX12_goesAll_120 rfl rfl ?_
    refine T_lload_n (pc := 121) (i := 2) dX12_goesAll_121 rfl rfl ?_
    refine R_callVm0 (pc := 122) (As := [.int (nI k), .long (lN (cd th))]) (rest := []) (Or.inl lk_X12_399) mk_X12_comes (m_comes (by omega) (by rw [e9.1]; exact hf) hth hM hll2.symm) kc_572 ⟨by decide, rfl⟩ lc_572 dX12_goesAll_122 rfl rfl (Nat.le_of_ble_eq_true rfl) (by decide) rfl (Nat.le_refl _) (Nat.le_refl _) (fun m3 h3 => ?_)
    have ech : chF X.R f (gaR X.R w f.1) = (th, f.2.1 + 1, aftG (llR X.R) (mkR X.R (f.2.1 + 1)) f.2.2 (gaR X.R w f.1) 0) := by unfold chF; rw [eth]
    rw [ech]
    exact T_vret dX12_goesAll_125 rfl (Nat.le_refl _) (Nat.le_refl _) ⟨_, rfl, rfl, ⟨h3.1.1, fun j hj => (h3.1.2 j hj).trans (congrFun e9.1 j)⟩, (hO.mono (fun j hj => hj) (fun k hk => Or.inr hk)).trans (h3.2.m (fun k hk => ⟨by unfold S573 at hk; omega, Or.inl hk⟩))⟩
  intro g
  induction g with
  | zero =>
    intro q m hq hq2 he hM hO
    refine T_iload (pc := 30) (i := 7) dX12_goesAll_30 rfl ?_
    refine T_lload (pc := 32) (i := 4) dX12_goesAll_32 rfl ?_
    refine R_callS1 (pc := 34) (av := [.long (lN (cd f.1))]) (rest := [.int (nI q)]) (Or.inl lk_X12_13) mk_X12_size (m_size hf.1.1) dX12_goesAll_34 rfl rfl (Nat.le_of_ble_eq_true rfl) (by decide) rfl (Nat.le_refl _) (Nat.le_refl _) ?_
    refine R_icmp_ge (pc := 37) (tgt := 119) (by omega) (by omega) dX12_goesAll_37 (by decide) (fun g1 => ?_) (fun g1 => ?_)
    · exact fin q m (by omega) he hM hO
    · exact absurd g1 (by omega)
  | succ g ih =>
    intro q m hq hq2 he hM hO
    have e9 := kp m hO
    refine T_iload (pc := 30) (i := 7) dX12_goesAll_30 rfl ?_
    refine T_lload (pc := 32) (i := 4) dX12_goesAll_32 rfl ?_
    refine R_callS1 (pc := 34) (av := [.long (lN (cd f.1))]) (rest := [.int (nI q)]) (Or.inl lk_X12_13) mk_X12_size (m_size hf.1.1) dX12_goesAll_34 rfl rfl (Nat.le_of_ble_eq_true rfl) (by decide) rfl (Nat.le_refl _) (Nat.le_refl _) ?_
    refine R_icmp_ge (pc := 37) (tgt := 119) (by omega) (by omega) dX12_goesAll_37 (by decide) (fun g1 => ?_) (fun g1 => ?_)
    · exact fin q m (by omega) he hM hO
    · skip
      have hql : q < f.1.length := by omega
      have hlq := afL_len (rr := mkR X.R (f.2.1 + 1)) (L := f.2.2) hlen (Nat.le_of_lt hql) he
      refine T_aload_n (pc := 40) (i := 0) dX12_goesAll_40 rfl rfl ?_
      refine T_lload (pc := 41) (i := 4) dX12_goesAll_41 rfl ?_
      refine T_iload (pc := 43) (i := 7) dX12_goesAll_43 rfl ?_
      refine R_callVm1 (pc := 45) (As := [.long (lN (cd f.1)), .int (nI q)]) (rest := []) (Or.inl lk_X12_349) mk_X12_leastRule (m_leastRule e9.2 hf.1.1 (by omega)) kc_572 ⟨by decide, rfl⟩ lc_572 dX12_goesAll_45 rfl rfl (Nat.le_of_ble_eq_true rfl) (by decide) rfl (Nat.le_refl _) (Nat.le_refl _) (fun m2 hO2 => ?_)
      have hO3 : OfM F24 Sga μ m2 := hO.trans (hO2.m (fun k hk => ⟨by unfold S9 at hk; omega, Or.inl hk⟩))
      have hM2 : MadeAt m2 (afL X.R w f.1 (mkR X.R (f.2.1 + 1)) f.2.2 q) := hM.of (hO2.m (F := fun _ => False) (fun k hk => ⟨by unfold S9 at hk; omega, hk⟩)) (fun z => z) (by unfold S9; omega)
      cases e8 : lrR X.R w f.1 q with
      | none =>
        have hf0 := lr_no e8
        have eN := gaK_no (R := X.R) (w := w) (l := f.1) (k := q) h3 hf0
        have aN := afL_no (rr := mkR X.R (f.2.1 + 1)) (L := f.2.2) hlen h3 hql he hf0
        have hen : enU (llR X.R) 0 (gaK X.R w f.1 (q + 1)) ≤ q + 1 := by rw [eN]; omega
        have hb := big (q + 1) (by omega)
        rw [eN] at hb
        have hll := List.length_take (i := 1) (l := f.2.2.drop q)
        show T _ _ _ _ _ _ _ _ 48 [some (.ref 572), some (.int (nI k)), some (.long (lN (cd th))), none, some (.long (lN (cd f.1))), none, some (.int ((f.2.1 + 1))), some (.int (nI q)), none, none] [.int ((-1))] (rm m2)
        refine T_istore (pc := 48) (i := 8) (ls' := [some (.ref 572), some (.int (nI k)), some (.long (lN (cd th))), none, some (.long (lN (cd f.1))), none, some (.int ((f.2.1 + 1))), some (.int (nI q)), some (.int ((-1))), none]) dX12_goesAll_48 (by decide) rfl ?_
        refine T_iload (pc := 50) (i := 8) dX12_goesAll_50 rfl ?_
        refine T_if_ge (pc := 52) (tgt := 63) dX12_goesAll_52 (by decide) (fun g2 => ?_) (fun g2 => ?_)
        · exact absurd g2 (by decide)
        · skip
          refine T_aload_n (pc := 55) (i := 0) dX12_goesAll_55 rfl rfl ?_
          refine T_iload_n (pc := 56) (i := 1) dX12_goesAll_56 rfl rfl ?_
          refine T_iload (pc := 57) (i := 7) dX12_goesAll_57 rfl ?_
          refine T_iconst (pc := 59) (v := nI 1) dX12_goesAll_59 (by decide) ?_
          refine R_callVm0 (pc := 60) (As := [.int (nI k), .int (nI q), .int (nI 1)]) (rest := []) (Or.inl lk_X12_395) mk_X12_keepsMakers (m_keepsMakers (n := 1) (by omega) (by rw [(kp m2 hO3).1]; exact hf) hM2 (by omega) (by omega)) kc_572 ⟨by decide, rfl⟩ lc_572 dX12_goesAll_60 rfl rfl (Nat.le_of_ble_eq_true rfl) (by decide) rfl (Nat.le_refl _) (Nat.le_refl _) (fun m3 h4 => ?_)
          have hO4 : OfM F24 Sga μ m3 := hO3.trans (h4.2.mono (fun j hj => hj) (fun k hk => Or.inr hk))
          refine T_iconst (pc := 63) (v := nI 0) dX12_goesAll_63 (by decide) ?_
          refine T_istore (pc := 64) (i := 9) (ls' := [some (.ref 572), some (.int (nI k)), some (.long (lN (cd th))), none, some (.long (lN (cd f.1))), none, some (.int ((f.2.1 + 1))), some (.int (nI q)), some (.int ((-1))), some (.int (nI 0))]) dX12_goesAll_64 (by decide) rfl ?_
          refine T_iload (pc := 66) (i := 8) dX12_goesAll_66 rfl ?_
          refine T_if_lt (pc := 68) (tgt := 96) dX12_goesAll_68 (by decide) (fun g3 => ?_) (fun g3 => ?_)
          · skip
            refine T_iload (pc := 96) (i := 7) dX12_goesAll_96 rfl ?_
            refine T_iload (pc := 98) (i := 8) dX12_goesAll_98 rfl ?_
            refine T_if_ge (pc := 100) (tgt := 107) dX12_goesAll_100 (by decide) (fun g4 => ?_) (fun g4 => ?_)
            · exact absurd g4 (by decide)
            · skip
              refine T_iconst (pc := 103) (v := nI 1) dX12_goesAll_103 (by decide) ?_
              refine T_goto (pc := 104) (tgt := 113) dX12_goesAll_104 (by decide) ?_
              refine R_iadd (pc := 113) dX12_goesAll_113 ?_
              refine T_istore (pc := 114) (i := 7) (ls' := [some (.ref 572), some (.int (nI k)), some (.long (lN (cd th))), none, some (.long (lN (cd f.1))), none, some (.int ((f.2.1 + 1))), some (.int (nI (q + 1))), some (.int ((-1))), some (.int (nI 0))]) dX12_goesAll_114 (by decide) rfl ?_
              refine T_goto (pc := 116) (tgt := 30) dX12_goesAll_116 (by decide) ?_
              refine T_ls (ls' := [some (.ref 572), some (.int (nI k)), some (.long (lN (cd th))), none, some (.long (lN (cd f.1))), none, some (.int ((f.2.1 + 1))), some (.int (nI (q + 1))), none, none]) (And.intro rfl (And.intro rfl (And.intro rfl (And.intro rfl (And.intro rfl (And.intro rfl True.intro)))))) ?_
              have h9 := ih (q + 1) m3 (by omega) (by omega) hen (by rw [aN]; exact h4.1) hO4
              exact h9
          · exact absurd (by decide) g3
      | some r =>
        obtain ⟨hr, hf1, hf2⟩ := lr_so e8
        have hg2 := fitB_get hf1
        have eN := gaK_yes (R := X.R) (w := w) (l := f.1) (k := q) h3 h1 h20 hql he hr hf1 hf2
        have aN := afL_yes (rr := mkR X.R (f.2.1 + 1)) (L := f.2.2) hlen h3 h1 h20 hql he hr hf1 hf2
        have hen : enU (llR X.R) 0 (gaK X.R w f.1 (q + llR X.R r)) ≤ q + llR X.R r := by rw [eN, enU_snoc]; exact Nat.le_refl _
        have hr1 := h1 r hr
        have hll : llR X.R r = (rAt X.R r).1.length := rfl
        have hb := big (q + llR X.R r) (by omega)
        have hlq2 := afL_len (rr := mkR X.R (f.2.1 + 1)) (L := f.2.2) hlen (show q + llR X.R r ≤ f.1.length by omega) hen
        have hmk : (mkR X.R (f.2.1 + 1) r).length = (rAt X.R r).2.length := List.length_replicate
        rw [aN, List.length_append, hmk] at hlq2
        have h12 := hR.1.2
        show T _ _ _ _ _ _ _ _ 48 [some (.ref 572), some (.int (nI k)), some (.long (lN (cd th))), none, some (.long (lN (cd f.1))), none, some (.int ((f.2.1 + 1))), some (.int (nI q)), none, none] [.int (nI r)] (rm m2)
        refine T_istore (pc := 48) (i := 8) (ls' := [some (.ref 572), some (.int (nI k)), some (.long (lN (cd th))), none, some (.long (lN (cd f.1))), none, some (.int ((f.2.1 + 1))), some (.int (nI q)), some (.int (nI r)), none]) dX12_goesAll_48 (by decide) rfl ?_
        refine T_iload (pc := 50) (i := 8) dX12_goesAll_50 rfl ?_
        refine R_if_ge (pc := 52) (tgt := 63) (by omega) dX12_goesAll_52 (by decide) (fun g2 => ?_) (fun g2 => ?_)
        · skip
          refine T_iconst (pc := 63) (v := nI 0) dX12_goesAll_63 (by decide) ?_
          refine T_istore (pc := 64) (i := 9) (ls' := [some (.ref 572), some (.int (nI k)), some (.long (lN (cd th))), none, some (.long (lN (cd f.1))), none, some (.int ((f.2.1 + 1))), some (.int (nI q)), some (.int (nI r)), some (.int (nI 0))]) dX12_goesAll_64 (by decide) rfl ?_
          suffices inner : ∀ (j i : Nat) (m : SM2), i + j = (rAt X.R r).2.length → MadeAt m (afL X.R w f.1 (mkR X.R (f.2.1 + 1)) f.2.2 q ++ List.replicate i (nI r, f.2.1 + 1)) → OfM F24 Sga μ m → T γ 10 0 0 M_X12_goesAll (Rm none (fun m => (mdM (m.1 573) (41 + 43 * k) (chF X.R f (gaR X.R w f.1)) ∧ Wk1 k μ m) ∧ OfM F24 Swd μ m)) 0 0 66 [some (.ref 572), some (.int (nI k)), some (.long (lN (cd th))), none, some (.long (lN (cd f.1))), none, some (.int (f.2.1 + 1)), some (.int (nI q)), some (.int (nI r)), some (.int (nI i))] [] (rm m) by
            exact inner (rAt X.R r).2.length 0 m2 (Nat.zero_add _) (by rw [List.replicate_zero, List.append_nil]; exact hM2) hO3
          intro j
          induction j with
          | zero =>
            intro i m4 hi hM4 hO4
            obtain rfl : i = (rAt X.R r).2.length := by omega
            have e94 := kp m4 hO4
            refine T_iload (pc := 66) (i := 8) dX12_goesAll_66 rfl ?_
            refine R_if_lt (pc := 68) (tgt := 96) (by omega) dX12_goesAll_68 (by decide) (fun g3 => ?_) (fun g3 => ?_)
            · exact g3.elim
            · skip
              refine T_iload (pc := 71) (i := 9) dX12_goesAll_71 rfl ?_
              refine T_aload_n (pc := 73) (i := 0) dX12_goesAll_73 rfl rfl ?_
              refine T_iload (pc := 74) (i := 8) dX12_goesAll_74 rfl ?_
              refine R_callV1 (pc := 76) (As := [.int (nI r)]) (rest := [.int (nI ((rAt X.R r).2.length))]) (Or.inl lk_X12_322) mk_X12_rights (m_rights e94.2.1 hr) kc_572 ⟨by decide, rfl⟩ lc_572 dX12_goesAll_76 rfl rfl (Nat.le_of_ble_eq_true rfl) (by decide) rfl (Nat.le_refl _) (Nat.le_refl _) ?_
              refine R_icmp_ge (pc := 79) (tgt := 96) (by omega) (by omega) dX12_goesAll_79 (by decide) (fun g4 => ?_) (fun g4 => ?_)
              · skip
                refine T_iload (pc := 96) (i := 7) dX12_goesAll_96 rfl ?_
                refine T_iload (pc := 98) (i := 8) dX12_goesAll_98 rfl ?_
                refine R_if_ge (pc := 100) (tgt := 107) (by omega) dX12_goesAll_100 (by decide) (fun g5 => ?_) (fun g5 => ?_)
                · skip
                  refine T_aload_n (pc := 107) (i := 0) dX12_goesAll_107 rfl rfl ?_
                  refine T_iload (pc := 108) (i := 8) dX12_goesAll_108 rfl ?_
                  refine R_callV1 (pc := 110) (As := [.int (nI r)]) (rest := [.int (nI q)]) (Or.inl lk_X12_311) mk_X12_lefts (m_lefts e94.2.1 hr) kc_572 ⟨by decide, rfl⟩ lc_572 dX12_goesAll_110 rfl rfl (Nat.le_of_ble_eq_true rfl) (by decide) rfl (Nat.le_refl _) (Nat.le_refl _) ?_
                  refine R_iadd (pc := 113) dX12_goesAll_113 ?_
                  refine T_istore (pc := 114) (i := 7) (ls' := [some (.ref 572), some (.int (nI k)), some (.long (lN (cd th))), none, some (.long (lN (cd f.1))), none, some (.int ((f.2.1 + 1))), some (.int (nI (q + ((rAt X.R r).1.length)))), some (.int (nI r)), some (.int (nI ((rAt X.R r).2.length)))]) dX12_goesAll_114 (by decide) rfl ?_
                  refine T_goto (pc := 116) (tgt := 30) dX12_goesAll_116 (by decide) ?_
                  refine T_ls (ls' := [some (.ref 572), some (.int (nI k)), some (.long (lN (cd th))), none, some (.long (lN (cd f.1))), none, some (.int ((f.2.1 + 1))), some (.int (nI (q + ((rAt X.R r).1.length)))), none, none]) (And.intro rfl (And.intro rfl (And.intro rfl (And.intro rfl (And.intro rfl (And.intro rfl True.intro)))))) ?_
                  exact ih (q + llR X.R r) m4 (by omega) (by omega) hen (by rw [aN]; exact hM4) hO4
                · exact g5.elim
              · exact absurd g4 (by omega)
          | succ j ihj =>
            intro i m4 hi hM4 hO4
            have e94 := kp m4 hO4
            have hl5 : (afL X.R w f.1 (mkR X.R (f.2.1 + 1)) f.2.2 q ++ List.replicate i (nI r, f.2.1 + 1)).length = (afL X.R w f.1 (mkR X.R (f.2.1 + 1)) f.2.2 q).length + i := by rw [List.length_append, List.length_replicate]
            refine T_iload (pc := 66) (i := 8) dX12_goesAll_66 rfl ?_
            refine R_if_lt (pc := 68) (tgt := 96) (by omega) dX12_goesAll_68 (by decide) (fun g3 => ?_) (fun g3 => ?_)
            · exact g3.elim
            · skip
              refine T_iload (pc := 71) (i := 9) dX12_goesAll_71 rfl ?_
              refine T_aload_n (pc := 73) (i := 0) dX12_goesAll_73 rfl rfl ?_
              refine T_iload (pc := 74) (i := 8) dX12_goesAll_74 rfl ?_
              refine R_callV1 (pc := 76) (As := [.int (nI r)]) (rest := [.int (nI i)]) (Or.inl lk_X12_322) mk_X12_rights (m_rights e94.2.1 hr) kc_572 ⟨by decide, rfl⟩ lc_572 dX12_goesAll_76 rfl rfl (Nat.le_of_ble_eq_true rfl) (by decide) rfl (Nat.le_refl _) (Nat.le_refl _) ?_
              refine R_icmp_ge (pc := 79) (tgt := 96) (by omega) (by omega) dX12_goesAll_79 (by decide) (fun g4 => ?_) (fun g4 => ?_)
              · exact absurd g4 (by omega)
              · skip
                refine T_aload_n (pc := 82) (i := 0) dX12_goesAll_82 rfl rfl ?_
                refine T_iload (pc := 83) (i := 8) dX12_goesAll_83 rfl ?_
                refine T_iload (pc := 85) (i := 6) dX12_goesAll_85 rfl ?_
                refine R_callVm0 (pc := 87) (As := [.int (nI r), .int ((f.2.1 + 1))]) (rest := []) (Or.inl lk_X12_392) mk_X12_makes (m_makes hM4 (by omega)) kc_572 ⟨by decide, rfl⟩ lc_572 dX12_goesAll_87 rfl rfl (Nat.le_of_ble_eq_true rfl) (by decide) rfl (Nat.le_refl _) (Nat.le_refl _) (fun m5 h5 => ?_)
                refine R_iinc (pc := 90) (i := 9) (n := 1) (ls' := [some (.ref 572), some (.int (nI k)), some (.long (lN (cd th))), none, some (.long (lN (cd f.1))), none, some (.int ((f.2.1 + 1))), some (.int (nI q)), some (.int (nI r)), some (.int (nI (i + 1)))]) dX12_goesAll_90 rfl rfl ?_
                refine T_goto (pc := 93) (tgt := 66) dX12_goesAll_93 (by decide) ?_
                refine ihj (i + 1) m5 (by omega) ?_ (hO4.trans (h5.2.mono (fun j hj => hj) (fun k hk => Or.inr hk)))
                have h8 := h5.1
                rw [List.append_assoc, ← List.replicate_succ'] at h8
                exact h8
        · exact g2.elim
def Fst (j : Nat) : Prop := j = 19 ∨ j = 20 ∨ j = 24
/-- what a STEP makes of a FIELD -/
def stF (X : Td) (w : Wk) (k : Nat) : Fld := if (gaR X.R w (fAt X.F k).1).length = 0 then fAt X.F k else chF X.R (fAt X.F k) (gaR X.R w (fAt X.F k).1)
theorem m_stepsOn {k : Nat} {X : Td} {LL : List (List Int32)} {w : Wk} (hX : mdT (μ.1 573) X) (hE : mEw μ X.R LL w) (hk : k < X.F.length) : Ex γ 12 0 0 M_X12_stepsOn [.ref 572, .int (nI k)] (rm μ) (Rm (some (.int (bI (decide ((gaR X.R w (fAt X.F k).1).length ≠ 0))))) (fun m => (mdT (m.1 573) (tdF X k (stF X w k)) ∧ mEw m X.R LL w ∧ Wk1 k μ m) ∧ OfM Fst Swd μ m)) := by
  have h6 := hX.2.1.1.2
  have hw4 := hE.1.2.2.1.1
  have hok := hX.1.2.1
  have hf := hX.2.1.2 k hk
  refine Ex.of (by decide +kernel) rfl (Nat.le_of_ble_eq_true rfl) ?_
  show T _ _ _ _ _ _ _ _ _ [some (.ref 572), some (.int (nI k)), none, none] [] (rm μ)
  refine T_aload_n (pc := 0) (i := 0) dX12_stepsOn_0 rfl rfl ?_
  refine T_aload_n (pc := 1) (i := 0) dX12_stepsOn_1 rfl rfl ?_
  refine T_iload_n (pc := 2) (i := 1) dX12_stepsOn_2 rfl rfl ?_
  refine R_callV1 (pc := 3) (As := [.int (nI k)]) (rest := [.ref 572]) (Or.inl lk_X12_379) mk_X12_meadow (m_meadow hX.2.1 hk) kc_572 ⟨by decide, rfl⟩ lc_572 dX12_stepsOn_3 rfl rfl (Nat.le_of_ble_eq_true rfl) (by decide) rfl (Nat.le_refl _) (Nat.le_refl _) ?_
  refine T_aload_n (pc := 6) (i := 0) dX12_stepsOn_6 rfl rfl ?_
  refine R_getR (pc := 7) (i := 573) fl_X12_29 rfl kc_572 lc_572 rc_572_1 dX12_stepsOn_7 ?_
  refine T_iconst (pc := 10) (v := nI 5) dX12_stepsOn_10 (by decide) ?_
  refine R_iald (pc := 11) (x := nI w.1) kc_573 lc_573 (by omega) (by first | decide | assumption) hE.2 dX12_stepsOn_11 ?_
  refine R_callVm1 (pc := 12) (As := [.long (lN (cd (fAt X.F k).1)), .int (nI w.1)]) (rest := []) (Or.inl lk_X12_370) mk_X12_next (m_next hE.1 hf.1.1) kc_572 ⟨by decide, rfl⟩ lc_572 dX12_stepsOn_12 rfl rfl (Nat.le_of_ble_eq_true rfl) (by decide) rfl (Nat.le_refl _) (Nat.le_refl _) (fun m h => ?_)
  obtain ⟨hI, hO⟩ := h
  have hO' : OfM Fst Swd μ m := hO.mono (fun j hj => by unfold Fk at hj; unfold Fst; omega) (fun k hk => by unfold S9 at hk; unfold Swd; omega)
  have e573 : m.1 573 = μ.1 573 := (hO.c (by decide) (by unfold S9; omega)).1
  have hXm : mdT (m.1 573) X := by rw [e573]; exact hX
  have hEm : mEw m X.R LL w := hE.k hO (by unfold Fk; omega) (by unfold Fk; omega)
  have hW0 : Wk1 k μ m := fun j _ => congrFun e573 j
  by_cases hg : (gaR X.R w (fAt X.F k).1).length = 0
  · have en : nxR X.R w (fAt X.F k).1 = none := by unfold nxR; rw [if_pos hg]
    have es : stF X w k = fAt X.F k := by unfold stF; rw [if_pos hg]
    rw [en, es, decide_eq_false (fun z => z hg)]
    show T _ _ _ _ _ _ _ _ 15 [some (.ref 572), some (.int (nI k)), none, none] [.long ((-1))] (rm m)
    refine T_lstore_n (pc := 15) (i := 2) (ls' := [some (.ref 572), some (.int (nI k)), some (.long ((-1))), none]) dX12_stepsOn_15 rfl (by decide) rfl ?_
    refine T_lload_n (pc := 16) (i := 2) dX12_stepsOn_16 rfl rfl ?_
    refine T_lconst (pc := 17) (v := lN 0) dX12_stepsOn_17 rfl ?_
    refine T_lcmp (pc := 18) dX12_stepsOn_18 ?_
    refine R_lx_ge (pc := 19) (tgt := 24) dX12_stepsOn_19 (by decide) (fun h1 => ?_) (fun h1 => ?_)
    · exact absurd (by decide) h1
    · skip
      refine T_iconst (pc := 22) (v := nI 0) dX12_stepsOn_22 (by decide) ?_
      exact T_iret (pc := 23) (ty := .boolean) dX12_stepsOn_23 rfl (by decide) (Nat.le_refl _) (Nat.le_refl _) ⟨_, rfl, rfl, ⟨hXm.fld hk (hXm.2.1.2 k hk) (fun j _ _ => rfl), hEm, hW0⟩, hO'⟩
  · have en : nxR X.R w (fAt X.F k).1 = some (aftW X.R (fAt X.F k).1 (gaR X.R w (fAt X.F k).1)) := by unfold nxR; rw [if_neg hg]
    have es : stF X w k = chF X.R (fAt X.F k) (gaR X.R w (fAt X.F k).1) := by unfold stF; rw [if_neg hg]
    have ht := nxR_mw hf.1.1 hok en
    have hct := cd_lt ht
    have fin : ∀ m3 : SM2, mdM (m3.1 573) (41 + 43 * k) (chF X.R (fAt X.F k) (gaR X.R w (fAt X.F k).1)) → Wk1 k m m3 → OfM F24 Swd m m3 → (mdT (m3.1 573) (tdF X k (chF X.R (fAt X.F k) (gaR X.R w (fAt X.F k).1))) ∧ mEw m3 X.R LL w ∧ Wk1 k μ m3) ∧ OfM Fst Swd μ m3 := fun m3 a b c =>
      ⟨⟨hXm.fld hk a (fun j _ hj => b j hj), ⟨hEm.1.wk (by omega) b (c.fi (by unfold F24; omega)) (c.fi (by unfold F24; omega)), (b 5 (by omega)).trans hEm.2⟩, fun j hj => (b j hj).trans (hW0 j hj)⟩, hO'.trans (c.mono (fun j hj => Or.inr (Or.inr hj)) (fun k hk => hk))⟩
    rw [en, es, decide_eq_true hg]
    show T _ _ _ _ _ _ _ _ 15 [some (.ref 572), some (.int (nI k)), none, none] [.long (lN (cd (aftW X.R (fAt X.F k).1 (gaR X.R w (fAt X.F k).1))))] (rm m)
    refine T_lstore_n (pc := 15) (i := 2) (ls' := [some (.ref 572), some (.int (nI k)), some (.long (lN (cd (aftW X.R (fAt X.F k).1 (gaR X.R w (fAt X.F k).1))))), none]) dX12_stepsOn_15 rfl (by decide) rfl ?_
    refine T_lload_n (pc := 16) (i := 2) dX12_stepsOn_16 rfl rfl ?_
    refine T_lconst (pc := 17) (v := lN 0) dX12_stepsOn_17 rfl ?_
    refine T_lcmp (pc := 18) dX12_stepsOn_18 ?_
    refine R_ln_ge (pc := 19) (tgt := 24) (by omega) (by omega) dX12_stepsOn_19 (by decide) (fun h1 => ?_) (fun h1 => ?_)
    · skip
      refine T_aload_n (pc := 24) (i := 0) dX12_stepsOn_24 rfl rfl ?_
      refine R_getR (pc := 25) (i := 573) fl_X12_29 rfl kc_572 lc_572 rc_572_1 dX12_stepsOn_25 ?_
      refine T_iconst (pc := 28) (v := nI 5) dX12_stepsOn_28 (by decide) ?_
      refine R_iald (pc := 29) (x := nI w.1) kc_573 lc_573 (by omega) (by first | decide | assumption) hEm.2 dX12_stepsOn_29 ?_
      refine T_iconst (pc := 30) (v := nI 3) dX12_stepsOn_30 (by decide) ?_
      refine R_icmp_ne (pc := 31) (tgt := 43) (by omega) (by omega) dX12_stepsOn_31 (by decide) (fun h2 => ?_) (fun h2 => ?_)
      · skip
        have h3 : w.1 < 3 := by omega
        rcases ga_cases (R := X.R) (l := (fAt X.F k).1) h3 with e | ⟨q, e⟩
        · rw [e] at hg
          exact absurd rfl hg
        · have hq := gaR_ok (R := X.R) (w := w) (l := (fAt X.F k).1)
          have hnw := gaR_nw (R := X.R) (w := w) (l := (fAt X.F k).1) hf.1.1.1
          rw [e] at hq hnw fin
          rw [e]
          have hq1 := hq.1
          have hp1 : q.1 + (rAt X.R q.2).1.length ≤ (fAt X.F k).1.length := hq1.2.1
          have hr1 : q.2 < X.R.length := hq1.2.2.1
          have hnw2 : (fAt X.F k).1.length + ((rAt X.R q.2).2.length + 0) - ((rAt X.R q.2).1.length + 0) ≤ 20 := hnw
          have hi := hI h3 q e
          refine T_aload_n (pc := 43) (i := 0) dX12_stepsOn_43 rfl rfl ?_
          refine T_iload_n (pc := 44) (i := 1) dX12_stepsOn_44 rfl rfl ?_
          refine T_aload_n (pc := 45) (i := 0) dX12_stepsOn_45 rfl rfl ?_
          refine R_getI (pc := 46) (x := nI q.2) fl_X12_343 rfl kc_572 lc_572 hi.1 dX12_stepsOn_46 ?_
          refine T_aload_n (pc := 49) (i := 0) dX12_stepsOn_49 rfl rfl ?_
          refine R_getI (pc := 50) (x := nI q.1) fl_X12_346 rfl kc_572 lc_572 hi.2 dX12_stepsOn_50 ?_
          refine R_callVm0 (pc := 53) (As := [.int (nI k), .int (nI q.2), .int (nI q.1)]) (rest := []) (Or.inl lk_X12_405) mk_X12_goes (m_goes hXm hk hr1 hp1 (by omega)) kc_572 ⟨by decide, rfl⟩ lc_572 dX12_stepsOn_53 rfl rfl (Nat.le_of_ble_eq_true rfl) (by decide) rfl (Nat.le_refl _) (Nat.le_refl _) (fun m3 h9 => ?_)
          refine T_iconst (pc := 56) (v := nI 1) dX12_stepsOn_56 (by decide) ?_
          exact T_iret (pc := 57) (ty := .boolean) dX12_stepsOn_57 rfl (by decide) (Nat.le_refl _) (Nat.le_refl _) ⟨_, rfl, rfl, fin m3 h9.1.1 h9.1.2 (h9.2.mono (fun j hj => hj) (fun k hk => by unfold Sgo at hk; unfold Swd; omega))⟩
      · skip
        refine T_aload_n (pc := 34) (i := 0) dX12_stepsOn_34 rfl rfl ?_
        refine T_iload_n (pc := 35) (i := 1) dX12_stepsOn_35 rfl rfl ?_
        refine T_lload_n (pc := 36) (i := 2) dX12_stepsOn_36 rfl rfl ?_
        refine R_callVm0 (pc := 37) (As := [.int (nI k), .long (lN (cd (aftW X.R (fAt X.F k).1 (gaR X.R w (fAt X.F k).1))))]) (rest := []) (Or.inl lk_X12_402) mk_X12_goesAll (m_goesAll hXm hEm.1 h2 hk hg) kc_572 ⟨by decide, rfl⟩ lc_572 dX12_stepsOn_37 rfl rfl (Nat.le_of_ble_eq_true rfl) (by decide) rfl (Nat.le_refl _) (Nat.le_refl _) (fun m3 h9 => ?_)
        refine T_goto (pc := 40) (tgt := 56) dX12_stepsOn_40 (by decide) ?_
        refine T_iconst (pc := 56) (v := nI 1) dX12_stepsOn_56 (by decide) ?_
        exact T_iret (pc := 57) (ty := .boolean) dX12_stepsOn_57 rfl (by decide) (Nat.le_refl _) (Nat.le_refl _) ⟨_, rfl, rfl, fin m3 h9.1.1 h9.1.2 h9.2⟩
    · exact absurd h1 (by omega)
end MQ2

