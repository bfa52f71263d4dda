/-! THE MODEL: guessed, the answer -/
theorem gaB_iff {x y : List Nat × List Nat} : gaB x y = true ↔ x.1.length < y.1.length ∨ (x.1.length = y.1.length ∧ (x.2.length < y.2.length ∨ (x.2.length = y.2.length ∧ (cd x.1 < cd y.1 ∨ (cd x.1 = cd y.1 ∧ cd x.2 < cd y.2))))) := by
  unfold gaB
  by_cases e1 : x.1.length = y.1.length
  · rw [if_neg (fun z => z e1)]
    by_cases e2 : x.2.length = y.2.length
    · rw [if_neg (fun z => z e2)]
      by_cases e3 : cd x.1 = cd y.1
      · rw [if_neg (fun z => z e3), decide_eq_true_iff]
        omega
      · rw [if_pos e3, decide_eq_true_iff]
        omega
    · rw [if_pos e2, decide_eq_true_iff]
      omega
  · rw [if_pos e1, decide_eq_true_iff]
    omega
theorem gaB_tr {x y z : List Nat × List Nat} (h1 : gaB x y = false) (h2 : gaB z y = true) : gaB x z = false := by
  rw [Bool.eq_false_iff, ne_eq, gaB_iff] at h1 ⊢
  rw [gaB_iff] at h2
  omega
theorem inB_no {r n : Nat} (hr : r < 2 ^ 31) (hn : n < 2 ^ 31) (h : n ≤ r) : inB (nI r) n = false := by
  cases e : inB (nI r) n with
  | false => rfl
  | true =>
    obtain ⟨k, h1, h2⟩ := inB_of hn e
    have h3 : r = k := by
      have i1 := nI_toInt (n := r) hr
      have i2 := nI_toInt (n := k) (by omega)
      rw [h2] at i1
      omega
    omega
theorem inB_neg {x : Int32} {n : Nat} (h : x < 0) : inB x n = false := by
  cases e : inB x n with
  | false => rfl
  | true =>
    unfold inB at e
    rw [Bool.and_eq_true] at e
    exfalso
    revert e
    simp
    intro e1
    rw [fa_le] at e1
    rw [fa_lt] at h
    omega
theorem gL_e {a : List Nat} {p n : Nat} : (a.drop p).take n = gL a p n := by
  unfold gL
  rw [List.drop_take, Nat.add_sub_cancel_left]
section MGH
variable {γ : Ga} {μ : SM2}
theorem m_guessed {z : Int32} {X : Td} (hX : mdT (μ.1 573) X) : Ex γ 9 0 0 M_X12_guessed [.ref 572, .int z] (rm μ) (Rm (some (.long (if inB z 3 = true then guO (guV X.S) z.toNatClampNeg else lN 0))) (fun m => MdN μ m (mT1 (inB z 3)))) := by
  have h10 := hX.2.2.1.1.2
  refine Ex.of (by decide +kernel) rfl (Nat.le_of_ble_eq_true rfl) ?_
  show T _ _ _ _ _ _ _ _ _ [some (.ref 572), some (.int (z)), none, none, none, none, none, none, none] [] (rm μ)
  refine T_aload_n (pc := 0) (i := 0) dX12_guessed_0 rfl rfl ?_
  refine T_iconst (pc := 1) (v := nI 0) dX12_guessed_1 (by decide) ?_
  refine R_putI (pc := 2) fl_X12_3 ⟨rfl, rfl⟩ (Or.inl rfl) kc_572 lc_572 dX12_guessed_2 ?_
  refine T_aload_n (pc := 5) (i := 0) dX12_guessed_5 rfl rfl ?_
  refine T_iload_n (pc := 6) (i := 1) dX12_guessed_6 rfl rfl ?_
  refine T_iconst (pc := 7) (v := nI 0) dX12_guessed_7 (by decide) ?_
  refine T_iconst (pc := 8) (v := nI 2) dX12_guessed_8 (by decide) ?_
  refine R_callS1 (pc := 9) (av := [.int (z), .int (nI 0), .int (nI 2)]) (rest := [.ref 572]) (Or.inl lk_X12_125) mk_X12_in m_inK dX12_guessed_9 rfl rfl (Nat.le_of_ble_eq_true rfl) (by decide) rfl (Nat.le_refl _) (Nat.le_refl _) ?_
  rw [chk3]
  cases ex0 : inB z 3 with
  | false =>
    rw [if_neg Bool.false_ne_true]
    refine R_ifb_ne (pc := 12) (tgt := 19) dX12_guessed_12 (by decide) (fun h1 => ?_) (fun h1 => ?_)
    · exact absurd h1 (by decide)
    · skip
      refine T_iconst (pc := 15) (v := nI 1) dX12_guessed_15 (by decide) ?_
      refine T_goto (pc := 16) (tgt := 20) dX12_guessed_16 (by decide) ?_
      refine T_iconst (pc := 20) (v := nI 1) dX12_guessed_20 (by decide) ?_
      refine R_callV1 (pc := 21) (As := [.int (nI 1), .int (nI 1)]) (rest := []) (Or.inl lk_X12_302) mk_X12_throwsIf m_throws1n kc_572 ⟨by decide, rfl⟩ lc_572 dX12_guessed_21 rfl rfl (Nat.le_of_ble_eq_true rfl) (by decide) rfl (Nat.le_refl _) (Nat.le_refl _) ?_
      refine R_ifb_eq (pc := 24) (tgt := 29) dX12_guessed_24 (by decide) (fun h2 => ?_) (fun h2 => ?_)
      · exact absurd h2 (by decide)
      · skip
        refine T_lconst (pc := 27) (v := lN 0) dX12_guessed_27 rfl ?_
        exact T_lret dX12_guessed_28 rfl (Nat.le_refl _) (Nat.le_refl _) ⟨_, rfl, rfl, Tn.two.n⟩
  | true =>
    obtain ⟨k, hk, rfl⟩ := inB_of (by omega) ex0
    rw [if_pos (c := true = true) rfl, nI_clamp (n := k) (by omega), show mT1 true = 0 from rfl]
    obtain ⟨S, hSe⟩ : ∃ S, X.S = S := ⟨_, rfl⟩
    have hS : mdS (μ.1 573) S := by rw [← hSe]; exact hX.2.2.1
    rw [hSe] at h10 ⊢
    have hat : Mw (sAt S 0).1 ∧ Mw (sAt S 0).2 := by
      by_cases h0 : S.length = 0
      · rw [List.eq_nil_of_length_eq_zero h0]
        exact ⟨⟨Nat.zero_le _, okb_nil⟩, ⟨Nat.zero_le _, okb_nil⟩⟩
      · exact (hS.2 0 (by omega)).1
    obtain ⟨ha, ht⟩ := hat
    obtain ⟨m0, hm0⟩ : ∃ m0, m0 = wI (wI μ 572 0 (nI 0)) 572 47 (nI 0) := ⟨_, rfl⟩
    obtain ⟨Q, hQ⟩ : ∃ Q, Q = Rm (some (.long (guO (guV S) k))) (fun m => MdN μ m 0) := ⟨_, rfl⟩
    rw [← hQ]
    have fin9 : ∀ m : SM2, OfM (fun j => j = 47) S591 m0 m → MdN μ m 0 := fun m g => by
      rw [hm0] at g
      have g2 : OfM (fun j => j = 47) S591 (wI μ 572 0 (nI 0)) m := OfM.trans (OfM.sF (OfM.refl _ _ _) rfl) g
      exact MdN.of g2 (by decide) (fun j hj => by unfold Fz; omega) (fun k hk => by unfold S591 at hk; unfold Sz; omega)
    have hS0 : mdS (m0.1 573) S := by
      have e : m0.1 573 = μ.1 573 := by
        rw [hm0]
        exact ((OfS.sI (OfS.sI (OfS.refl _ _) rfl) rfl : OfS (fun k => k = 572) μ (wI (wI μ 572 0 (nI 0)) 572 47 (nI 0))) 573 (fun z => absurd (show (573 : Nat) = 572 from z) (by decide))).1
      rw [e]
      exact hS
    have hG0 : MGs m0 (mgA S 0) := by
      rw [hm0]
      exact ⟨e_wI ⟨rfl, rfl⟩, fun i hi => absurd hi (Nat.not_lt_zero _)⟩
    have a20 := ha.1
    have t20 := ht.1
    -- the answer
    have t159 : ∀ m : SM2, MGs m (mgA S 3) → MGk (mgA S 3) → OfM (fun j => j = 47) S591 m0 m → T γ 9 0 0 M_X12_guessed Q 0 0 159 [some (.ref 572), some (.int (nI k)), some (.long (lN (cd (sAt S 0).1))), none, some (.long (lN (cd (sAt S 0).2))), none, some (.int (nI (3 + 1))), none, none] [] (rm m) := fun m iG iK iO => by
      obtain ⟨g1, g2⟩ := mgA_ok S
      have g3 := mgA_len (S := S) 3
      generalize mgA S 3 = l at *
      have l60 : l.length ≤ 60 := by omega
      have noq : ∀ q, (guV S).2 = some q → 0 < l.length := fun q e => by
        rw [e] at g2
        exact List.length_pos_of_mem g2.1
      by_cases hk0 : k = 0
      · have eq9 : guO (guV S) k = lN l.length := by
          unfold guO
          rw [if_pos hk0, g1]
        rw [hQ, eq9, hk0]
        refine T_iload_n (pc := 159) (i := 1) dX12_guessed_159 rfl rfl ?_
        refine R_if_eq (pc := 160) (tgt := 170) (by omega) dX12_guessed_160 (by decide) (fun b1 => ?_) (fun b1 => ?_)
        · skip
          refine T_iload_n (pc := 170) (i := 1) dX12_guessed_170 rfl rfl ?_
          refine R_if_ne (pc := 171) (tgt := 182) (by omega) dX12_guessed_171 (by decide) (fun b2 => ?_) (fun b2 => ?_)
          · exact absurd rfl b2
          · skip
            refine T_aload_n (pc := 174) (i := 0) dX12_guessed_174 rfl rfl ?_
            refine R_getI (pc := 175) (x := nI l.length) fl_X12_579 rfl kc_572 lc_572 iG.1 dX12_guessed_175 ?_
            refine R_i2l (pc := 178) (by omega) dX12_guessed_178 ?_
            refine T_goto (pc := 179) (tgt := 185) dX12_guessed_179 (by decide) ?_
            exact T_lret dX12_guessed_185 rfl (Nat.le_refl _) (Nat.le_refl _) ⟨_, rfl, rfl, fin9 m iO⟩
        · exact absurd rfl b1
      · by_cases hl0 : l.length = 0
        · have eq9 : guO (guV S) k = -1 := by
            cases eo : (guV S).2 with
            | none =>
              unfold guO
              rw [if_neg hk0, eo]
              split <;> rfl
            | some q =>
              have := noq q eo
              omega
          rw [hQ, eq9]
          refine T_iload_n (pc := 159) (i := 1) dX12_guessed_159 rfl rfl ?_
          refine R_if_eq (pc := 160) (tgt := 170) (by omega) dX12_guessed_160 (by decide) (fun b1 => ?_) (fun b1 => ?_)
          · exact absurd b1 hk0
          · skip
            refine T_aload_n (pc := 163) (i := 0) dX12_guessed_163 rfl rfl ?_
            refine R_getI (pc := 164) (x := nI l.length) fl_X12_579 rfl kc_572 lc_572 iG.1 dX12_guessed_164 ?_
            refine R_if_ne (pc := 167) (tgt := 186) (by omega) dX12_guessed_167 (by decide) (fun b2 => ?_) (fun b2 => ?_)
            · exact absurd hl0 b2
            · skip
              refine T_iload_n (pc := 170) (i := 1) dX12_guessed_170 rfl rfl ?_
              refine R_if_ne (pc := 171) (tgt := 182) (by omega) dX12_guessed_171 (by decide) (fun b3 => ?_) (fun b3 => ?_)
              · skip
                refine T_ldc2 (pc := 182) dX12_guessed_182 cn_X12_171 ?_
                exact T_lret dX12_guessed_185 rfl (Nat.le_refl _) (Nat.le_refl _) ⟨_, rfl, rfl, fin9 m iO⟩
              · exact absurd b3 hk0
        · obtain ⟨q, eo⟩ : ∃ q, (guV S).2 = some q := by
            cases eo : (guV S).2 with
            | none =>
              rw [eo] at g2
              have e9 : l = [] := g2
              rw [e9] at hl0
              exact absurd rfl hl0
            | some q => exact ⟨q, rfl⟩
          rw [eo] at g2
          have eq9 : guO (guV S) k = if k = 1 then lN (cd q.1) else lN (cd q.2) := by
            unfold guO
            rw [if_neg hk0, eo]
            rfl
          rw [hQ, eq9]
          obtain ⟨Q2, hQ2⟩ : ∃ Q2, Q2 = Rm (some (.long (if k = 1 then lN (cd q.1) else lN (cd q.2)))) (fun m => MdN μ m 0) := ⟨_, rfl⟩
          rw [← hQ2]
          have last : ∀ f : Nat, f < l.length → (∀ i, i < l.length → gaB (sAt l i) (sAt l f) = false) → T γ 9 0 0 M_X12_guessed Q2 0 0 227 [some (.ref 572), some (.int (nI k)), some (.long (lN (cd (sAt S 0).1))), none, some (.long (lN (cd (sAt S 0).2))), none, some (.int (nI f)), some (.int (nI l.length)), none] [] (rm m) := fun f hf hm => by
            have hq := iK q g2.1
            have hw := iK _ (sAt_mem hf)
            have e8 : sAt l f = q := by
              obtain ⟨i, hi, e⟩ := List.mem_iff_getElem.mp g2.1
              have h8 := hm i hi
              rw [sAt_get hi, e] at h8
              exact gaB_tot ⟨hw.1.2, hw.2.2⟩ ⟨hq.1.2, hq.2.2⟩ (g2.2 _ (sAt_mem hf)) h8
            have f1 := (iG.2 f hf).1
            have f2 := (iG.2 f hf).2
            rw [e8] at f1 f2
            rw [hQ2]
            refine T_iload_n (pc := 227) (i := 1) dX12_guessed_227 rfl rfl ?_
            refine T_iconst (pc := 228) (v := nI 1) dX12_guessed_228 (by decide) ?_
            refine R_icmp_ne (pc := 229) (tgt := 242) (by omega) (by omega) dX12_guessed_229 (by decide) (fun b4 => ?_) (fun b4 => ?_)
            · skip
              rw [if_neg b4]
              refine T_aload_n (pc := 242) (i := 0) dX12_guessed_242 rfl rfl ?_
              refine R_getR (pc := 243) (i := 591) fl_X12_89 rfl kc_572 lc_572 rc_572_46 dX12_guessed_243 ?_
              refine T_iload (pc := 246) (i := 6) dX12_guessed_246 rfl ?_
              refine R_lald (pc := 248) (x := lN (cd q.2)) kc_591 lc_591 (by omega) (by first | decide | assumption) f2 dX12_guessed_248 ?_
              exact T_lret dX12_guessed_249 rfl (Nat.le_refl _) (Nat.le_refl _) ⟨_, rfl, rfl, fin9 m iO⟩
            · skip
              rw [if_pos b4]
              refine T_aload_n (pc := 232) (i := 0) dX12_guessed_232 rfl rfl ?_
              refine R_getR (pc := 233) (i := 590) fl_X12_86 rfl kc_572 lc_572 rc_572_45 dX12_guessed_233 ?_
              refine T_iload (pc := 236) (i := 6) dX12_guessed_236 rfl ?_
              refine R_lald (pc := 238) (x := lN (cd q.1)) kc_590 lc_590 (by omega) (by first | decide | assumption) f1 dX12_guessed_238 ?_
              refine T_goto (pc := 239) (tgt := 249) dX12_guessed_239 (by decide) ?_
              exact T_lret dX12_guessed_249 rfl (Nat.le_refl _) (Nat.le_refl _) ⟨_, rfl, rfl, fin9 m iO⟩
          have find : ∀ (g i f : Nat), i + g = l.length → f < i → (∀ c, c < i → gaB (sAt l c) (sAt l f) = false) → T γ 9 0 0 M_X12_guessed Q2 0 0 192 [some (.ref 572), some (.int (nI k)), some (.long (lN (cd (sAt S 0).1))), none, some (.long (lN (cd (sAt S 0).2))), none, some (.int (nI f)), some (.int (nI i)), none] [] (rm m) := by
            intro g
            induction g with
            | zero =>
              intro i f hi hf hm
              obtain rfl : i = l.length := by omega
              refine T_iload (pc := 192) (i := 7) dX12_guessed_192 rfl ?_
              refine T_aload_n (pc := 194) (i := 0) dX12_guessed_194 rfl rfl ?_
              refine R_getI (pc := 195) (x := nI l.length) fl_X12_579 rfl kc_572 lc_572 iG.1 dX12_guessed_195 ?_
              refine R_icmp_ge (pc := 198) (tgt := 227) (by omega) (by omega) dX12_guessed_198 (by decide) (fun b4 => ?_) (fun b4 => ?_)
              · exact last f hf hm
              · exact absurd b4 (by omega)
            | succ g ih =>
              intro i f hi hf hm
              have hi2 : i < l.length := by omega
              refine T_iload (pc := 192) (i := 7) dX12_guessed_192 rfl ?_
              refine T_aload_n (pc := 194) (i := 0) dX12_guessed_194 rfl rfl ?_
              refine R_getI (pc := 195) (x := nI l.length) fl_X12_579 rfl kc_572 lc_572 iG.1 dX12_guessed_195 ?_
              refine R_icmp_ge (pc := 198) (tgt := 227) (by omega) (by omega) dX12_guessed_198 (by decide) (fun b4 => ?_) (fun b4 => ?_)
              · exact absurd b4 (by omega)
              · skip
                refine T_aload_n (pc := 201) (i := 0) dX12_guessed_201 rfl rfl ?_
                refine T_iload (pc := 202) (i := 7) dX12_guessed_202 rfl ?_
                refine T_iload (pc := 204) (i := 6) dX12_guessed_204 rfl ?_
                refine R_callV1 (pc := 206) (As := [.int (nI i), .int (nI f)]) (rest := []) (Or.inl lk_X12_585) mk_X12_isAhead (m_isAhead iG iK (by omega) hi2 (by omega)) kc_572 ⟨by decide, rfl⟩ lc_572 dX12_guessed_206 rfl rfl (Nat.le_of_ble_eq_true rfl) (by decide) rfl (Nat.le_refl _) (Nat.le_refl _) ?_
                refine R_ifb_eq (pc := 209) (tgt := 217) dX12_guessed_209 (by decide) (fun b5 => ?_) (fun b5 => ?_)
                · skip
                  refine T_iload (pc := 217) (i := 6) dX12_guessed_217 rfl ?_
                  refine T_istore (pc := 219) (i := 6) (ls' := [some (.ref 572), some (.int (nI k)), some (.long (lN (cd (sAt S 0).1))), none, some (.long (lN (cd (sAt S 0).2))), none, some (.int (nI f)), some (.int (nI i)), none]) dX12_guessed_219 (by decide) rfl ?_
                  refine R_iinc (pc := 221) (i := 7) (n := 1) (ls' := [some (.ref 572), some (.int (nI k)), some (.long (lN (cd (sAt S 0).1))), none, some (.long (lN (cd (sAt S 0).2))), none, some (.int (nI f)), some (.int (nI (i + 1))), none]) dX12_guessed_221 rfl rfl ?_
                  refine T_goto (pc := 224) (tgt := 192) dX12_guessed_224 (by decide) ?_
                  refine ih (i + 1) f (by omega) (by omega) (fun c hc => ?_)
                  by_cases e : c = i
                  · rw [e]
                    exact b5
                  · exact hm c (by omega)
                · skip
                  refine T_iload (pc := 212) (i := 7) dX12_guessed_212 rfl ?_
                  refine T_goto (pc := 214) (tgt := 219) dX12_guessed_214 (by decide) ?_
                  refine T_istore (pc := 219) (i := 6) (ls' := [some (.ref 572), some (.int (nI k)), some (.long (lN (cd (sAt S 0).1))), none, some (.long (lN (cd (sAt S 0).2))), none, some (.int (nI i)), some (.int (nI i)), none]) dX12_guessed_219 (by decide) rfl ?_
                  refine R_iinc (pc := 221) (i := 7) (n := 1) (ls' := [some (.ref 572), some (.int (nI k)), some (.long (lN (cd (sAt S 0).1))), none, some (.long (lN (cd (sAt S 0).2))), none, some (.int (nI i)), some (.int (nI (i + 1))), none]) dX12_guessed_221 rfl rfl ?_
                  refine T_goto (pc := 224) (tgt := 192) dX12_guessed_224 (by decide) ?_
                  refine ih (i + 1) i (by omega) (by omega) (fun c hc => ?_)
                  by_cases e : c = i
                  · rw [e]
                    exact gaB_self _
                  · exact gaB_tr (hm c (by omega)) b5
          refine T_iload_n (pc := 159) (i := 1) dX12_guessed_159 rfl rfl ?_
          refine R_if_eq (pc := 160) (tgt := 170) (by omega) dX12_guessed_160 (by decide) (fun b1 => ?_) (fun b1 => ?_)
          · exact absurd b1 hk0
          · skip
            refine T_aload_n (pc := 163) (i := 0) dX12_guessed_163 rfl rfl ?_
            refine R_getI (pc := 164) (x := nI l.length) fl_X12_579 rfl kc_572 lc_572 iG.1 dX12_guessed_164 ?_
            refine R_if_ne (pc := 167) (tgt := 186) (by omega) dX12_guessed_167 (by decide) (fun b2 => ?_) (fun b2 => ?_)
            · skip
              refine T_iconst (pc := 186) (v := nI 0) dX12_guessed_186 (by decide) ?_
              refine T_istore (pc := 187) (i := 6) (ls' := [some (.ref 572), some (.int (nI k)), some (.long (lN (cd (sAt S 0).1))), none, some (.long (lN (cd (sAt S 0).2))), none, some (.int (nI 0)), none, none]) dX12_guessed_187 (by decide) rfl ?_
              refine T_iconst (pc := 189) (v := nI 1) dX12_guessed_189 (by decide) ?_
              refine T_istore (pc := 190) (i := 7) (ls' := [some (.ref 572), some (.int (nI k)), some (.long (lN (cd (sAt S 0).1))), none, some (.long (lN (cd (sAt S 0).2))), none, some (.int (nI 0)), some (.int (nI 1)), none]) dX12_guessed_190 (by decide) rfl ?_
              exact find (l.length - 1) 1 0 (by omega) (by omega) (fun c hc => by
                rw [show c = 0 by omega]
                exact gaB_self _)
            · exact absurd b2 hl0
    -- the lengths
    have outer : ∀ (g j : Nat) (m : SM2), j + g = 3 → MGs m (mgA S j) → MGk (mgA S j) → OfM (fun j => j = 47) S591 m0 m → T γ 9 0 0 M_X12_guessed Q 0 0 80 [some (.ref 572), some (.int (nI k)), some (.long (lN (cd (sAt S 0).1))), none, some (.long (lN (cd (sAt S 0).2))), none, some (.int (nI (j + 1))), none, none] [] (rm m) := by
      intro g
      induction g with
      | zero =>
        intro j m hj iG iK iO
        obtain rfl : j = 3 := by omega
        refine T_iload (pc := 80) (i := 6) dX12_guessed_80 rfl ?_
        refine T_iconst (pc := 82) (v := nI 4) dX12_guessed_82 (by decide) ?_
        refine R_icmp_ge (pc := 83) (tgt := 159) (by omega) (by omega) dX12_guessed_83 (by decide) (fun b1 => ?_) (fun b1 => ?_)
        · exact t159 m iG iK iO
        · exact absurd b1 (by decide)
      | succ g ih =>
        intro j m hj iG iK iO
        have h9 := ih (j + 1)
        have lj := mgA_len (S := S) j
        have lj2 : (mgA S j).length ≤ 2 * 20 := Nat.le_trans lj (Nat.mul_le_mul (by omega) a20)
        have e3 : mgA S (j + 1) = if gCd S j then mgS S (j + 1) (j + 1 + (sAt S 0).2.length - (sAt S 0).1.length) (mgA S j) ((sAt S 0).1.length + 1 - (j + 1)) else mgA S j := rfl
        rw [e3] at h9
        generalize mgA S j = l at *
        have skip9 : ∀ x : Int32, inB x 4 = false → ¬ gCd S j → T γ 9 0 0 M_X12_guessed Q 0 0 104 [some (.ref 572), some (.int (nI k)), some (.long (lN (cd (sAt S 0).1))), none, some (.long (lN (cd (sAt S 0).2))), none, some (.int (nI (j + 1))), some (.int x), some (.int (nI 0))] [] (rm m) := fun x hx hn => by
          rw [if_neg hn] at h9
          refine T_iload (pc := 104) (i := 7) dX12_guessed_104 rfl ?_
          refine T_iconst (pc := 106) (v := nI 0) dX12_guessed_106 (by decide) ?_
          refine T_iconst (pc := 107) (v := nI 3) dX12_guessed_107 (by decide) ?_
          refine R_callS1 (pc := 108) (av := [.int (x), .int (nI 0), .int (nI 3)]) (rest := []) (Or.inl lk_X12_125) mk_X12_in m_inK dX12_guessed_108 rfl rfl (Nat.le_of_ble_eq_true rfl) (by decide) rfl (Nat.le_refl _) (Nat.le_refl _) ?_
          rw [chk4, hx]
          refine R_ifb_eq (pc := 111) (tgt := 153) dX12_guessed_111 (by decide) (fun b2 => ?_) (fun b2 => ?_)
          · skip
            refine R_iinc (pc := 153) (i := 6) (n := 1) (ls' := [some (.ref 572), some (.int (nI k)), some (.long (lN (cd (sAt S 0).1))), none, some (.long (lN (cd (sAt S 0).2))), none, some (.int (nI (j + 1 + 1))), some (.int (x)), some (.int (nI 0))]) dX12_guessed_153 rfl rfl ?_
            refine T_goto (pc := 156) (tgt := 80) dX12_guessed_156 (by decide) ?_
            refine T_ls (ls' := [some (.ref 572), some (.int (nI k)), some (.long (lN (cd (sAt S 0).1))), none, some (.long (lN (cd (sAt S 0).2))), none, some (.int (nI (j + 1 + 1))), none, none]) (And.intro rfl (And.intro rfl (And.intro rfl (And.intro rfl (And.intro rfl True.intro))))) ?_
            exact h9 m (by omega) iG iK iO
          · exact absurd b2 (by decide)
        refine T_iload (pc := 80) (i := 6) dX12_guessed_80 rfl ?_
        refine T_iconst (pc := 82) (v := nI 4) dX12_guessed_82 (by decide) ?_
        refine R_icmp_ge (pc := 83) (tgt := 159) (by omega) (by omega) dX12_guessed_83 (by decide) (fun b1 => ?_) (fun b1 => ?_)
        · exact absurd b1 (by omega)
        · skip
          refine T_lload (pc := 86) (i := 4) dX12_guessed_86 rfl ?_
          refine R_callS1 (pc := 88) (av := [.long (lN (cd (sAt S 0).2))]) (rest := []) (Or.inl lk_X12_13) mk_X12_size (m_size ht) dX12_guessed_88 rfl rfl (Nat.le_of_ble_eq_true rfl) (by decide) rfl (Nat.le_refl _) (Nat.le_refl _) ?_
          refine T_lload_n (pc := 91) (i := 2) dX12_guessed_91 rfl rfl ?_
          refine R_callS1 (pc := 92) (av := [.long (lN (cd (sAt S 0).1))]) (rest := [.int (nI ((sAt S 0).2.length))]) (Or.inl lk_X12_13) mk_X12_size (m_size ha) dX12_guessed_92 rfl rfl (Nat.le_of_ble_eq_true rfl) (by decide) rfl (Nat.le_refl _) (Nat.le_refl _) ?_
          refine T_isub (pc := 95) dX12_guessed_95 ?_
          refine T_iload (pc := 96) (i := 6) dX12_guessed_96 rfl ?_
          refine T_iadd (pc := 98) dX12_guessed_98 ?_
          refine T_istore (pc := 99) (i := 7) (ls' := [some (.ref 572), some (.int (nI k)), some (.long (lN (cd (sAt S 0).1))), none, some (.long (lN (cd (sAt S 0).2))), none, some (.int (nI (j + 1))), some (.int (((((nI ((sAt S 0).2.length)) - (nI ((sAt S 0).1.length)))) + (nI (j + 1))))), none]) dX12_guessed_99 (by decide) rfl ?_
          refine T_iconst (pc := 101) (v := nI 0) dX12_guessed_101 (by decide) ?_
          refine T_istore (pc := 102) (i := 8) (ls' := [some (.ref 572), some (.int (nI k)), some (.long (lN (cd (sAt S 0).1))), none, some (.long (lN (cd (sAt S 0).2))), none, some (.int (nI (j + 1))), some (.int (((((nI ((sAt S 0).2.length)) - (nI ((sAt S 0).1.length)))) + (nI (j + 1))))), some (.int (nI 0))]) dX12_guessed_102 (by decide) rfl ?_
          have eadd : nI (sAt S 0).2.length - nI (sAt S 0).1.length + nI (j + 1) = nI (j + 1) + (nI (sAt S 0).2.length - nI (sAt S 0).1.length) := Int32.add_comm _ _
          rw [eadd]
          by_cases hle : (sAt S 0).1.length ≤ j + 1 + (sAt S 0).2.length
          · rw [nI_sh hle]
            by_cases h3 : j + 1 + (sAt S 0).2.length - (sAt S 0).1.length ≤ 3
            · rw [if_pos ⟨hle, h3⟩] at h9
              have hr : (sAt S 0).1.length + (j + 1 + (sAt S 0).2.length - (sAt S 0).1.length) = j + 1 + (sAt S 0).2.length := by omega
              clear e3 skip9
              generalize j + 1 + (sAt S 0).2.length - (sAt S 0).1.length = r at *
              have inner : ∀ (f p : Nat) (m : SM2), p + f = (sAt S 0).1.length + 1 - (j + 1) → MGs m (mgS S (j + 1) r l p) → MGk (mgS S (j + 1) r l p) → OfM (fun j => j = 47) S591 m0 m → T γ 9 0 0 M_X12_guessed Q 0 0 104 [some (.ref 572), some (.int (nI k)), some (.long (lN (cd (sAt S 0).1))), none, some (.long (lN (cd (sAt S 0).2))), none, some (.int (nI (j + 1))), some (.int (nI r)), some (.int (nI p))] [] (rm m) := by
                intro f
                induction f with
                | zero =>
                  intro p m hp jG jK jO
                  obtain rfl : p = (sAt S 0).1.length + 1 - (j + 1) := by omega
                  refine T_iload (pc := 104) (i := 7) dX12_guessed_104 rfl ?_
                  refine T_iconst (pc := 106) (v := nI 0) dX12_guessed_106 (by decide) ?_
                  refine T_iconst (pc := 107) (v := nI 3) dX12_guessed_107 (by decide) ?_
                  refine R_callS1 (pc := 108) (av := [.int (nI r), .int (nI 0), .int (nI 3)]) (rest := []) (Or.inl lk_X12_125) mk_X12_in m_inK dX12_guessed_108 rfl rfl (Nat.le_of_ble_eq_true rfl) (by decide) rfl (Nat.le_refl _) (Nat.le_refl _) ?_
                  rw [chk4, inB_n (k := r) (n := 4) (by omega) (by decide)]
                  refine R_ifb_eq (pc := 111) (tgt := 153) dX12_guessed_111 (by decide) (fun b2 => ?_) (fun b2 => ?_)
                  · exact absurd b2 (by decide)
                  · skip
                    refine T_iload (pc := 114) (i := 8) dX12_guessed_114 rfl ?_
                    refine T_iload (pc := 116) (i := 6) dX12_guessed_116 rfl ?_
                    refine R_iadd (pc := 118) dX12_guessed_118 ?_
                    refine T_lload_n (pc := 119) (i := 2) dX12_guessed_119 rfl rfl ?_
                    refine R_callS1 (pc := 120) (av := [.long (lN (cd (sAt S 0).1))]) (rest := [.int (nI (((sAt S 0).1.length + 1 - (j + 1)) + (j + 1)))]) (Or.inl lk_X12_13) mk_X12_size (m_size ha) dX12_guessed_120 rfl rfl (Nat.le_of_ble_eq_true rfl) (by decide) rfl (Nat.le_refl _) (Nat.le_refl _) ?_
                    refine R_icmp_gt (pc := 123) (tgt := 153) (by omega) (by omega) dX12_guessed_123 (by decide) (fun b3 => ?_) (fun b3 => ?_)
                    · skip
                      refine R_iinc (pc := 153) (i := 6) (n := 1) (ls' := [some (.ref 572), some (.int (nI k)), some (.long (lN (cd (sAt S 0).1))), none, some (.long (lN (cd (sAt S 0).2))), none, some (.int (nI (j + 1 + 1))), some (.int (nI r)), some (.int (nI ((sAt S 0).1.length + 1 - (j + 1))))]) dX12_guessed_153 rfl rfl ?_
                      refine T_goto (pc := 156) (tgt := 80) dX12_guessed_156 (by decide) ?_
                      refine T_ls (ls' := [some (.ref 572), some (.int (nI k)), some (.long (lN (cd (sAt S 0).1))), none, some (.long (lN (cd (sAt S 0).2))), none, some (.int (nI (j + 1 + 1))), none, none]) (And.intro rfl (And.intro rfl (And.intro rfl (And.intro rfl (And.intro rfl True.intro))))) ?_
                      exact h9 m (by omega) jG jK jO
                    · exact absurd b3 (by omega)
                | succ f ihf =>
                  intro p m hp jG jK jO
                  have lp := mgS_len (S := S) (n := j + 1) (r := r) (l := l) (p := p)
                  have hn := ihf (p + 1)
                  have e4 : mgS S (j + 1) r l (p + 1) = mgN S (mgS S (j + 1) r l p) (gL (sAt S 0).1 p (j + 1), gL (sAt S 0).2 p r) := rfl
                  rw [e4] at hn
                  generalize mgS S (j + 1) r l p = l2 at *
                  have gl1 := gL_ok (p := p) (n := j + 1) ha (by omega)
                  have gl2 := gL_ok (p := p) (n := r) ht (by omega)
                  have hSm : mdS (m.1 573) S := by
                    rw [(jO.c (by decide) (by unfold S591; omega)).1]
                    exact hS0
                  refine T_iload (pc := 104) (i := 7) dX12_guessed_104 rfl ?_
                  refine T_iconst (pc := 106) (v := nI 0) dX12_guessed_106 (by decide) ?_
                  refine T_iconst (pc := 107) (v := nI 3) dX12_guessed_107 (by decide) ?_
                  refine R_callS1 (pc := 108) (av := [.int (nI r), .int (nI 0), .int (nI 3)]) (rest := []) (Or.inl lk_X12_125) mk_X12_in m_inK dX12_guessed_108 rfl rfl (Nat.le_of_ble_eq_true rfl) (by decide) rfl (Nat.le_refl _) (Nat.le_refl _) ?_
                  rw [chk4, inB_n (k := r) (n := 4) (by omega) (by decide)]
                  refine R_ifb_eq (pc := 111) (tgt := 153) dX12_guessed_111 (by decide) (fun b2 => ?_) (fun b2 => ?_)
                  · exact absurd b2 (by decide)
                  · skip
                    refine T_iload (pc := 114) (i := 8) dX12_guessed_114 rfl ?_
                    refine T_iload (pc := 116) (i := 6) dX12_guessed_116 rfl ?_
                    refine R_iadd (pc := 118) dX12_guessed_118 ?_
                    refine T_lload_n (pc := 119) (i := 2) dX12_guessed_119 rfl rfl ?_
                    refine R_callS1 (pc := 120) (av := [.long (lN (cd (sAt S 0).1))]) (rest := [.int (nI (p + (j + 1)))]) (Or.inl lk_X12_13) mk_X12_size (m_size ha) dX12_guessed_120 rfl rfl (Nat.le_of_ble_eq_true rfl) (by decide) rfl (Nat.le_refl _) (Nat.le_refl _) ?_
                    refine R_icmp_gt (pc := 123) (tgt := 153) (by omega) (by omega) dX12_guessed_123 (by decide) (fun b3 => ?_) (fun b3 => ?_)
                    · exact absurd b3 (by omega)
                    · skip
                      refine T_aload_n (pc := 126) (i := 0) dX12_guessed_126 rfl rfl ?_
                      refine T_lload_n (pc := 127) (i := 2) dX12_guessed_127 rfl rfl ?_
                      refine T_iload (pc := 128) (i := 8) dX12_guessed_128 rfl ?_
                      refine T_iload (pc := 130) (i := 6) dX12_guessed_130 rfl ?_
                      refine R_callS1 (pc := 132) (av := [.long (lN (cd (sAt S 0).1)), .int (nI p), .int (nI (j + 1))]) (rest := [.ref 572]) (Or.inl lk_X12_328) mk_X12_part (m_part ha (by omega)) dX12_guessed_132 rfl rfl (Nat.le_of_ble_eq_true rfl) (by decide) rfl (Nat.le_refl _) (Nat.le_refl _) ?_
                      rw [gL_e]
                      refine T_lload (pc := 135) (i := 4) dX12_guessed_135 rfl ?_
                      refine T_iload (pc := 137) (i := 8) dX12_guessed_137 rfl ?_
                      refine T_iload (pc := 139) (i := 7) dX12_guessed_139 rfl ?_
                      refine R_callS1 (pc := 141) (av := [.long (lN (cd (sAt S 0).2)), .int (nI p), .int (nI r)]) (rest := [.long (lN (cd (gL (sAt S 0).1 p (j + 1)))), .ref 572]) (Or.inl lk_X12_328) mk_X12_part (m_part ht (by omega)) dX12_guessed_141 rfl rfl (Nat.le_of_ble_eq_true rfl) (by decide) rfl (Nat.le_refl _) (Nat.le_refl _) ?_
                      rw [gL_e]
                      refine R_callVm0 (pc := 144) (As := [.long (lN (cd (gL (sAt S 0).1 p (j + 1)))), .long (lN (cd (gL (sAt S 0).2 p r)))]) (rest := []) (Or.inl lk_X12_582) mk_X12_guess (m_guess hSm jG jK (by omega) gl1.1 gl2.1 (by omega)) kc_572 ⟨by decide, rfl⟩ lc_572 dX12_guessed_144 rfl rfl (Nat.le_of_ble_eq_true rfl) (by decide) rfl (Nat.le_refl _) (Nat.le_refl _) (fun m2 q => ?_)
                      obtain ⟨q1, q2⟩ := q
                      refine R_iinc (pc := 147) (i := 8) (n := 1) (ls' := [some (.ref 572), some (.int (nI k)), some (.long (lN (cd (sAt S 0).1))), none, some (.long (lN (cd (sAt S 0).2))), none, some (.int (nI (j + 1))), some (.int (nI r)), some (.int (nI (p + 1)))]) dX12_guessed_147 rfl rfl ?_
                      refine T_goto (pc := 150) (tgt := 104) dX12_guessed_150 (by decide) ?_
                      exact hn m2 (by omega) q1 (mgN_ok jK ⟨gl1.1, gl2.1⟩) (jO.trans q2)
              exact inner _ 0 m (Nat.zero_add _) iG iK iO
            · exact skip9 _ (inB_no (by omega) (by decide) (by omega)) (fun z => h3 z.2)
          · have hneg : nI (j + 1) + (nI (sAt S 0).2.length - nI (sAt S 0).1.length) < 0 := by
              rw [fa_lt, show (0 : Int32).toInt = 0 from rfl]
              have i1 := nI_toInt (n := j + 1) (by omega)
              have i2 := nI_toInt (n := (sAt S 0).2.length) (by omega)
              have i3 := nI_toInt (n := (sAt S 0).1.length) (by omega)
              rw [fb_addI (by rw [fb_subI (by omega) (by omega)]; omega) (by rw [fb_subI (by omega) (by omega)]; omega), fb_subI (by omega) (by omega)]
              omega
            exact skip9 _ (inB_neg hneg) (fun z => hle z.1)
    -- the first of SEEN
    have t77 : ∀ m : SM2, m = m0 → T γ 9 0 0 M_X12_guessed Q 0 0 77 [some (.ref 572), some (.int (nI k)), some (.long (lN (cd (sAt S 0).1))), none, some (.long (lN (cd (sAt S 0).2))), none, none, none, none] [] (rm m) := fun m hm => by
      rw [hm]
      refine T_iconst (pc := 77) (v := nI 1) dX12_guessed_77 (by decide) ?_
      refine T_istore (pc := 78) (i := 6) (ls' := [some (.ref 572), some (.int (nI k)), some (.long (lN (cd (sAt S 0).1))), none, some (.long (lN (cd (sAt S 0).2))), none, some (.int (nI 1)), none, none]) dX12_guessed_78 (by decide) rfl ?_
      exact outer 3 0 m0 rfl hG0 (fun x hx => by cases hx) (OfM.refl _ _ _)
    refine R_ifb_ne (pc := 12) (tgt := 19) dX12_guessed_12 (by decide) (fun h1 => ?_) (fun h1 => ?_)
    · skip
      refine T_iconst (pc := 19) (v := nI 0) dX12_guessed_19 (by decide) ?_
      refine T_iconst (pc := 20) (v := nI 1) dX12_guessed_20 (by decide) ?_
      refine R_callV1 (pc := 21) (As := [.int (nI 0), .int (nI 1)]) (rest := []) (Or.inl lk_X12_302) mk_X12_throwsIf m_throws0n kc_572 ⟨by decide, rfl⟩ lc_572 dX12_guessed_21 rfl rfl (Nat.le_of_ble_eq_true rfl) (by decide) rfl (Nat.le_refl _) (Nat.le_refl _) ?_
      refine R_ifb_eq (pc := 24) (tgt := 29) dX12_guessed_24 (by decide) (fun h2 => ?_) (fun h2 => ?_)
      · skip
        have fS2 : (wI μ 572 0 (nI 0)).1 573 2 = nI S.length := (congrFun w573 2).trans hS.1.1
        refine T_aload_n (pc := 29) (i := 0) dX12_guessed_29 rfl rfl ?_
        refine T_iconst (pc := 30) (v := nI 0) dX12_guessed_30 (by decide) ?_
        refine R_putI (pc := 31) fl_X12_579 ⟨rfl, rfl⟩ (Or.inl rfl) kc_572 lc_572 dX12_guessed_31 ?_
        refine T_aload_n (pc := 34) (i := 0) dX12_guessed_34 rfl rfl ?_
        refine R_getR (pc := 35) (i := 573) fl_X12_29 rfl kc_572 lc_572 rc_572_1 dX12_guessed_35 ?_
        refine T_iconst (pc := 38) (v := nI 2) dX12_guessed_38 (by decide) ?_
        refine R_iald (pc := 39) (x := nI S.length) kc_573 lc_573 (by omega) (by first | decide | assumption) ((wI_ne (by decide)).trans fS2) dX12_guessed_39 ?_
        by_cases h0 : S.length = 0
        · have es : S = [] := List.eq_nil_of_length_eq_zero h0
          have e1 : cd (sAt S 0).1 = 1 := by rw [es]; rfl
          have e2 : cd (sAt S 0).2 = 1 := by rw [es]; rfl
          rw [e1, e2] at t77
          refine R_if_ne (pc := 40) (tgt := 47) (by omega) dX12_guessed_40 (by decide) (fun b1 => ?_) (fun b1 => ?_)
          · exact absurd h0 b1
          · skip
            refine T_lconst (pc := 43) (v := lN 1) dX12_guessed_43 rfl ?_
            refine T_goto (pc := 44) (tgt := 54) dX12_guessed_44 (by decide) ?_
            refine T_lstore_n (pc := 54) (i := 2) (ls' := [some (.ref 572), some (.int (nI k)), some (.long (lN 1)), none, none, none, none, none, none]) dX12_guessed_54 rfl (by decide) rfl ?_
            refine T_aload_n (pc := 55) (i := 0) dX12_guessed_55 rfl rfl ?_
            refine R_getR (pc := 56) (i := 573) fl_X12_29 rfl kc_572 lc_572 rc_572_1 dX12_guessed_56 ?_
            refine T_iconst (pc := 59) (v := nI 2) dX12_guessed_59 (by decide) ?_
            refine R_iald (pc := 60) (x := nI S.length) kc_573 lc_573 (by omega) (by first | decide | assumption) ((wI_ne (by decide)).trans fS2) dX12_guessed_60 ?_
            refine R_if_ne (pc := 61) (tgt := 68) (by omega) dX12_guessed_61 (by decide) (fun b2 => ?_) (fun b2 => ?_)
            · exact absurd h0 b2
            · skip
              refine T_lconst (pc := 64) (v := lN 1) dX12_guessed_64 rfl ?_
              refine T_goto (pc := 65) (tgt := 75) dX12_guessed_65 (by decide) ?_
              refine T_lstore (pc := 75) (i := 4) (ls' := [some (.ref 572), some (.int (nI k)), some (.long (lN 1)), none, some (.long (lN 1)), none, none, none, none]) dX12_guessed_75 (by decide) rfl ?_
              exact t77 _ hm0.symm
        · have hs := hS0.2 0 (by omega)
          refine R_if_ne (pc := 40) (tgt := 47) (by omega) dX12_guessed_40 (by decide) (fun b1 => ?_) (fun b1 => ?_)
          · skip
            rw [← hm0]
            refine T_aload_n (pc := 47) (i := 0) dX12_guessed_47 rfl rfl ?_
            refine T_sipush (pc := 48) (v := nI 299) dX12_guessed_48 (by decide) ?_
            refine R_callV1 (pc := 51) (As := [.int (nI 299)]) (rest := []) (Or.inl lk_X12_118) mk_X12_codeAt (m_codeAt hs.1.1 hs.2.1 (by omega)) kc_572 ⟨by decide, rfl⟩ lc_572 dX12_guessed_51 rfl rfl (Nat.le_of_ble_eq_true rfl) (by decide) rfl (Nat.le_refl _) (Nat.le_refl _) ?_
            refine T_lstore_n (pc := 54) (i := 2) (ls' := [some (.ref 572), some (.int (nI k)), some (.long (lN (cd (sAt S 0).1))), none, none, none, none, none, none]) dX12_guessed_54 rfl (by decide) rfl ?_
            refine T_aload_n (pc := 55) (i := 0) dX12_guessed_55 rfl rfl ?_
            refine R_getR (pc := 56) (i := 573) fl_X12_29 rfl kc_572 lc_572 rc_572_1 dX12_guessed_56 ?_
            refine T_iconst (pc := 59) (v := nI 2) dX12_guessed_59 (by decide) ?_
            refine R_iald (pc := 60) (x := nI S.length) kc_573 lc_573 (by omega) (by first | decide | assumption) hS0.1.1 dX12_guessed_60 ?_
            refine R_if_ne (pc := 61) (tgt := 68) (by omega) dX12_guessed_61 (by decide) (fun b2 => ?_) (fun b2 => ?_)
            · skip
              refine T_aload_n (pc := 68) (i := 0) dX12_guessed_68 rfl rfl ?_
              refine T_sipush (pc := 69) (v := nI 301) dX12_guessed_69 (by decide) ?_
              refine R_callV1 (pc := 72) (As := [.int (nI 301)]) (rest := []) (Or.inl lk_X12_118) mk_X12_codeAt (m_codeAt hs.1.2 hs.2.2 (by omega)) kc_572 ⟨by decide, rfl⟩ lc_572 dX12_guessed_72 rfl rfl (Nat.le_of_ble_eq_true rfl) (by decide) rfl (Nat.le_refl _) (Nat.le_refl _) ?_
              refine T_lstore (pc := 75) (i := 4) (ls' := [some (.ref 572), some (.int (nI k)), some (.long (lN (cd (sAt S 0).1))), none, some (.long (lN (cd (sAt S 0).2))), none, none, none, none]) dX12_guessed_75 (by decide) rfl ?_
              exact t77 _ rfl
            · exact absurd b2 h0
          · exact absurd b1 h0
      · exact absurd h2 (by decide)
    · exact absurd h1 (by decide)
end MGH

