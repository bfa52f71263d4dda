/-! guessed -/
theorem gsS_ok {S : List (List Nat × List Nat)} {ls rs p n : Nat} {fs : Bool} {s : Gu} (h : GuOk s n) (ha : Mw (sAt S 0).1) (ht : Mw (sAt S 0).2) (h1 : p + ls ≤ (sAt S 0).1.length) (h2 : p + rs ≤ (sAt S 0).2.length) : GuOk (gsS S ls rs fs p s) (n + 1) := by
  have l1 := (gL_ok ha h1).1
  have l2 := (gL_ok ht h2).1
  have hn := h.1
  unfold gsS
  split
  · refine ⟨Nat.succ_le_succ h.1, fun q hq => ?_⟩
    dsimp only at hq
    split at hq
    · cases hq
      exact ⟨l1, l2⟩
    · exact h.2 q hq
  · exact ⟨by omega, h.2⟩
section GS
variable {γ : Ga} {μ : SM2}
theorem c_surveySizes {S : List (List Nat × List Nat)} {ls rs n : Nat} {s : Gu} (hS : SeenAt μ 3 S) (h0 : 0 < S.length) (hs : GuAt μ s) (hk : GuOk s n) (hn : n ≤ 1000) (hl : 1 ≤ ls ∧ ls ≤ 3) (hr : rs ≤ 3) (hsz : (sAt S 0).1.length + rs = ls + (sAt S 0).2.length) : Ex γ 6 0 0 M_X3_surveySizes [.ref 122, .ref 3, .int (nI ls), .int (nI rs)] (rm μ) (Rm none (fun m => (GuAt m (gsP S ls rs s.2.isNone s ((sAt S 0).1.length + 1 - ls)) ∧ GuOk (gsP S ls rs s.2.isNone s ((sAt S 0).1.length + 1 - ls)) (n + 21)) ∧ OfS (fun k => k = 122) μ m)) := by
  have hs0 := hS.2.2 0 h0
  obtain ⟨⟨ha, ht⟩, e1, e2⟩ := hs0
  have a20 := ha.1
  have t20 := ht.1
  have bt := cd_lt ht
  obtain ⟨fs, hfs⟩ : ∃ b, b = s.2.isNone := ⟨_, rfl⟩
  rw [← hfs]
  suffices loop : ∀ (g p : Nat) (m : SM2), p + g = (sAt S 0).1.length + 1 - ls → GuAt m (gsP S ls rs fs s p) → GuOk (gsP S ls rs fs s p) (n + p) → OfS (fun k => k = 122) μ m → T γ 6 0 0 M_X3_surveySizes (Rm none (fun m => (GuAt m (gsP S ls rs fs s ((sAt S 0).1.length + 1 - ls)) ∧ GuOk (gsP S ls rs fs s ((sAt S 0).1.length + 1 - ls)) (n + 21)) ∧ OfS (fun k => k = 122) μ m)) 0 0 44 [some (.ref 122), some (.ref 3), some (.int (nI ls)), some (.int (nI rs)), some (.long (lN (cd (sAt S 0).1))), none, some (.long (lN (cd (sAt S 0).2))), none, some (.int (nI (sAt S 0).1.length)), some (.int (bI fs)), some (.int (nI p)), none, none, none, none, none] [] (rm m) by
    refine Ex.of (by decide +kernel) rfl (Nat.le_of_ble_eq_true rfl) ?_
    show T _ _ _ _ _ _ _ _ _ [some (.ref 122), some (.ref 3), some (.int (nI ls)), some (.int (nI rs)), none, none, none, none, none, none, none, none, none, none, none, none] [] (rm μ)
    refine T_aload_n (pc := 0) (i := 1) dX3_surveySizes_0 rfl rfl ?_
    refine R_getR (pc := 1) (i := 10) fl_X3_63 rfl (kt_told told3) (lt_told told3) (rt_told_seenFirst told3) dX3_surveySizes_1 ?_
    refine T_iconst (pc := 4) (v := nI 0) dX3_surveySizes_4 (by decide) ?_
    refine R_lald (pc := 5) (x := lN (cd (sAt S 0).1)) (kt_told_seenFirst told3) (lt_told_seenFirst told3) (by omega) (by first | decide | assumption) e1 dX3_surveySizes_5 ?_
    refine T_lstore (pc := 6) (i := 4) (ls' := [some (.ref 122), some (.ref 3), some (.int (nI ls)), some (.int (nI rs)), some (.long (lN (cd (sAt S 0).1))), none, none, none, none, none, none, none, none, none, none, none]) dX3_surveySizes_6 (by decide) rfl ?_
    refine T_aload_n (pc := 8) (i := 1) dX3_surveySizes_8 rfl rfl ?_
    refine R_getR (pc := 9) (i := 11) fl_X3_55 rfl (kt_told told3) (lt_told told3) (rt_told_seenThen told3) dX3_surveySizes_9 ?_
    refine T_iconst (pc := 12) (v := nI 0) dX3_surveySizes_12 (by decide) ?_
    refine R_lald (pc := 13) (x := lN (cd (sAt S 0).2)) (kt_told_seenThen told3) (lt_told_seenThen told3) (by omega) (by first | decide | assumption) e2 dX3_surveySizes_13 ?_
    refine T_lstore (pc := 14) (i := 6) (ls' := [some (.ref 122), some (.ref 3), some (.int (nI ls)), some (.int (nI rs)), some (.long (lN (cd (sAt S 0).1))), none, some (.long (lN (cd (sAt S 0).2))), none, none, none, none, none, none, none, none, none]) dX3_surveySizes_14 (by decide) rfl ?_
    refine T_lload (pc := 16) (i := 4) dX3_surveySizes_16 rfl ?_
    refine R_callS1 (pc := 18) (av := [.long (lN (cd (sAt S 0).1))]) (rest := []) (Or.inr lk_X3_59) mk_X11_sizeOf (c_sizeOf_cd ha) dX3_surveySizes_18 rfl rfl (Nat.le_of_ble_eq_true rfl) (by decide) rfl (Nat.le_refl _) (Nat.le_refl _) ?_
    have h9 := loop _ 0 μ (Nat.zero_add _) hs hk (OfS.refl _ _)
    cases eo : s.2 with
    | none =>
      have hg := hs.2.1
      rw [eo] at hg hfs
      rw [hfs] at h9 ⊢
      refine T_istore (pc := 21) (i := 8) (ls' := [some (.ref 122), some (.ref 3), some (.int (nI ls)), some (.int (nI rs)), some (.long (lN (cd (sAt S 0).1))), none, some (.long (lN (cd (sAt S 0).2))), none, some (.int (nI ((sAt S 0).1.length))), none, none, none, none, none, none, none]) dX3_surveySizes_21 (by decide) rfl ?_
      refine T_aload_n (pc := 23) (i := 0) dX3_surveySizes_23 rfl rfl ?_
      refine R_getL (pc := 24) (x := (-1)) fl_X3_48 rfl kc_122 lc_122 hg dX3_surveySizes_24 ?_
      refine T_ldc2 (pc := 27) dX3_surveySizes_27 cn_X3_46 ?_
      refine T_lcmp (pc := 30) dX3_surveySizes_30 ?_
      refine R_lx_ne (pc := 31) (tgt := 38) dX3_surveySizes_31 (by decide) (fun h1 => ?_) (fun h1 => ?_)
      · exact absurd rfl h1
      · skip
        refine T_iconst (pc := 34) (v := nI 1) dX3_surveySizes_34 (by decide) ?_
        refine T_goto (pc := 35) (tgt := 39) dX3_surveySizes_35 (by decide) ?_
        refine T_istore (pc := 39) (i := 9) (ls' := [some (.ref 122), some (.ref 3), some (.int (nI ls)), some (.int (nI rs)), some (.long (lN (cd (sAt S 0).1))), none, some (.long (lN (cd (sAt S 0).2))), none, some (.int (nI ((sAt S 0).1.length))), some (.int (nI 1)), none, none, none, none, none, none]) dX3_surveySizes_39 (by decide) rfl ?_
        refine T_iconst (pc := 41) (v := nI 0) dX3_surveySizes_41 (by decide) ?_
        refine T_istore (pc := 42) (i := 10) (ls' := [some (.ref 122), some (.ref 3), some (.int (nI ls)), some (.int (nI rs)), some (.long (lN (cd (sAt S 0).1))), none, some (.long (lN (cd (sAt S 0).2))), none, some (.int (nI ((sAt S 0).1.length))), some (.int (nI 1)), some (.int (nI 0)), none, none, none, none, none]) dX3_surveySizes_42 (by decide) rfl ?_
        exact h9
    | some q =>
      have hg := hs.2.1
      have bq := cd_lt (hk.2 q eo).1
      rw [eo] at hg hfs
      rw [hfs] at h9 ⊢
      refine T_istore (pc := 21) (i := 8) (ls' := [some (.ref 122), some (.ref 3), some (.int (nI ls)), some (.int (nI rs)), some (.long (lN (cd (sAt S 0).1))), none, some (.long (lN (cd (sAt S 0).2))), none, some (.int (nI ((sAt S 0).1.length))), none, none, none, none, none, none, none]) dX3_surveySizes_21 (by decide) rfl ?_
      refine T_aload_n (pc := 23) (i := 0) dX3_surveySizes_23 rfl rfl ?_
      refine R_getL (pc := 24) (x := lN (cd q.1)) fl_X3_48 rfl kc_122 lc_122 hg dX3_surveySizes_24 ?_
      refine T_ldc2 (pc := 27) dX3_surveySizes_27 cn_X3_46 ?_
      refine T_lcmp (pc := 30) dX3_surveySizes_30 ?_
      refine R_lx_ne (pc := 31) (tgt := 38) dX3_surveySizes_31 (by decide) (fun h1 => ?_) (fun h1 => ?_)
      · skip
        refine T_iconst (pc := 38) (v := nI 0) dX3_surveySizes_38 (by decide) ?_
        refine T_istore (pc := 39) (i := 9) (ls' := [some (.ref 122), some (.ref 3), some (.int (nI ls)), some (.int (nI rs)), some (.long (lN (cd (sAt S 0).1))), none, some (.long (lN (cd (sAt S 0).2))), none, some (.int (nI ((sAt S 0).1.length))), some (.int (nI 0)), none, none, none, none, none, none]) dX3_surveySizes_39 (by decide) rfl ?_
        refine T_iconst (pc := 41) (v := nI 0) dX3_surveySizes_41 (by decide) ?_
        refine T_istore (pc := 42) (i := 10) (ls' := [some (.ref 122), some (.ref 3), some (.int (nI ls)), some (.int (nI rs)), some (.long (lN (cd (sAt S 0).1))), none, some (.long (lN (cd (sAt S 0).2))), none, some (.int (nI ((sAt S 0).1.length))), some (.int (nI 0)), some (.int (nI 0)), none, none, none, none, none]) dX3_surveySizes_42 (by decide) rfl ?_
        exact h9
      · exact absurd h1 (lN_ne (by omega))
  intro g
  induction g with
  | zero =>
    intro p m hp iG iK iO
    obtain rfl : p = (sAt S 0).1.length + 1 - ls := by omega
    refine T_iload (pc := 44) (i := 10) dX3_surveySizes_44 rfl ?_
    refine T_iload_n (pc := 46) (i := 2) dX3_surveySizes_46 rfl rfl ?_
    refine R_iadd (pc := 47) dX3_surveySizes_47 ?_
    refine T_iload (pc := 48) (i := 8) dX3_surveySizes_48 rfl ?_
    refine R_icmp_gt (pc := 50) (tgt := 228) (by omega) (by omega) dX3_surveySizes_50 (by decide) (fun h1 => ?_) (fun h1 => ?_)
    · skip
      exact T_vret dX3_surveySizes_228 rfl (Nat.le_refl _) (Nat.le_refl _) ⟨_, rfl, rfl, ⟨iG, by have := iK.1; omega, iK.2⟩, iO⟩
    · exact absurd h1 (by omega)
  | succ g ih =>
    intro p m hp iG iK iO
    have q1 : p + ls ≤ (sAt S 0).1.length := by omega
    have q2 : p + rs ≤ (sAt S 0).2.length := by omega
    obtain ⟨l1, l2⟩ := gL_ok ha q1
    obtain ⟨r1, r2⟩ := gL_ok ht q2
    have iK1 := gsS_ok (fs := fs) iK ha ht q1 q2
    have eP : gsP S ls rs fs s (p + 1) = gsS S ls rs fs p (gsP S ls rs fs s p) := rfl
    have h9 := ih (p + 1)
    rw [eP] at h9
    have n1 := iK.1
    have k2 := iK.2
    generalize gsP S ls rs fs s p = st at *
    have hS1 : SeenAt m 3 S := hS.ofs iO (fun k h1 h2 => by omega)
    have b1 := cd_lt l1
    have b2 := cd_lt r1
    have nxt : gsC S ls rs p = false → ∀ x11 x13 : Int64, T γ 6 0 0 M_X3_surveySizes (Rm none (fun m => (GuAt m (gsP S ls rs fs s ((sAt S 0).1.length + 1 - ls)) ∧ GuOk (gsP S ls rs fs s ((sAt S 0).1.length + 1 - ls)) (n + 21)) ∧ OfS (fun k => k = 122) μ m)) 0 0 222 [some (.ref 122), some (.ref 3), some (.int (nI ls)), some (.int (nI rs)), some (.long (lN (cd (sAt S 0).1))), none, some (.long (lN (cd (sAt S 0).2))), none, some (.int (nI (sAt S 0).1.length)), some (.int (bI fs)), some (.int (nI p)), some (.long x11), none, some (.long x13), none, none] [] (rm m) := fun e x11 x13 => by
      have es : gsS S ls rs fs p st = st := if_neg (by rw [e]; decide)
      rw [es] at h9 iK1
      refine R_iinc (pc := 222) (i := 10) (n := 1) (ls' := [some (.ref 122), some (.ref 3), some (.int (nI ls)), some (.int (nI rs)), some (.long (lN (cd (sAt S 0).1))), none, some (.long (lN (cd (sAt S 0).2))), none, some (.int (nI ((sAt S 0).1.length))), some (.int (bI fs)), some (.int (nI (p + 1))), some (.long (x11)), none, some (.long (x13)), none, none]) dX3_surveySizes_222 rfl rfl ?_
      refine T_goto (pc := 225) (tgt := 44) dX3_surveySizes_225 (by decide) ?_
      refine T_ls (ls' := [some (.ref 122), some (.ref 3), some (.int (nI ls)), some (.int (nI rs)), some (.long (lN (cd (sAt S 0).1))), none, some (.long (lN (cd (sAt S 0).2))), none, some (.int (nI ((sAt S 0).1.length))), some (.int (bI fs)), some (.int (nI (p + 1))), none, none, none, none, none]) (And.intro rfl (And.intro rfl (And.intro rfl (And.intro rfl (And.intro rfl (And.intro rfl (And.intro rfl (And.intro rfl (And.intro rfl True.intro))))))))) ?_
      exact h9 m (by omega) iG iK1 iO
    have eC : gsC S ls rs p = (decide (gL (sAt S 0).1 p ls ≠ gL (sAt S 0).2 p rs) && (decide (usd (sAt S 0).1 p (gL (sAt S 0).1 p ls) (gL (sAt S 0).2 p rs) = (sAt S 0).2) && (!ceB (sAt S 0).1 (sAt S 0).2 (gL (sAt S 0).1 p ls) (gL (sAt S 0).2 p rs) p && taB S (gL (sAt S 0).1 p ls) (gL (sAt S 0).2 p rs)))) := rfl
    have eSt : gsC S ls rs p = true → gsS S ls rs fs p st = (st.1 + 1, if (fs && gsL st.2 (gL (sAt S 0).1 p ls) (gL (sAt S 0).2 p rs)) = true then some (gL (sAt S 0).1 p ls, gL (sAt S 0).2 p rs) else st.2) := fun e => if_pos e
    have eW1 : ([] : List Nat) ++ ((sAt S 0).1.take (p + ls)).drop p = gL (sAt S 0).1 p ls := rfl
    have eW2 : ([] : List Nat) ++ ((sAt S 0).2.take (p + rs)).drop p = gL (sAt S 0).2 p rs := rfl
    generalize gL (sAt S 0).1 p ls = L at *
    generalize gL (sAt S 0).2 p rs = K at *
    refine T_iload (pc := 44) (i := 10) dX3_surveySizes_44 rfl ?_
    refine T_iload_n (pc := 46) (i := 2) dX3_surveySizes_46 rfl rfl ?_
    refine R_iadd (pc := 47) dX3_surveySizes_47 ?_
    refine T_iload (pc := 48) (i := 8) dX3_surveySizes_48 rfl ?_
    refine R_icmp_gt (pc := 50) (tgt := 228) (by omega) (by omega) dX3_surveySizes_50 (by decide) (fun h1 => ?_) (fun h1 => ?_)
    · exact absurd h1 (by omega)
    · skip
      refine T_lconst (pc := 53) (v := lN 1) dX3_surveySizes_53 rfl ?_
      refine T_lload (pc := 54) (i := 4) dX3_surveySizes_54 rfl ?_
      refine T_iload (pc := 56) (i := 8) dX3_surveySizes_56 rfl ?_
      refine T_iload (pc := 58) (i := 10) dX3_surveySizes_58 rfl ?_
      refine T_iload (pc := 60) (i := 10) dX3_surveySizes_60 rfl ?_
      refine T_iload_n (pc := 62) (i := 2) dX3_surveySizes_62 rfl rfl ?_
      refine R_iadd (pc := 63) dX3_surveySizes_63 ?_
      refine R_callS1 (pc := 64) (av := [.long (lN 1), .long (lN (cd (sAt S 0).1)), .int (nI ((sAt S 0).1.length)), .int (nI p), .int (nI (p + ls))]) (rest := []) (Or.inr lk_X3_70) mk_X11_withPart (c_withPart (l := []) ha (by omega) q1) dX3_surveySizes_64 rfl rfl (Nat.le_of_ble_eq_true rfl) (by decide) rfl (Nat.le_refl _) (Nat.le_refl _) ?_
      rw [eW1]
      refine T_lstore (pc := 67) (i := 11) (ls' := [some (.ref 122), some (.ref 3), some (.int (nI ls)), some (.int (nI rs)), some (.long (lN (cd (sAt S 0).1))), none, some (.long (lN (cd (sAt S 0).2))), none, some (.int (nI ((sAt S 0).1.length))), some (.int (bI fs)), some (.int (nI p)), some (.long (lN (cd L))), none, none, none, none]) dX3_surveySizes_67 (by decide) rfl ?_
      refine T_lconst (pc := 69) (v := lN 1) dX3_surveySizes_69 rfl ?_
      refine T_lload (pc := 70) (i := 6) dX3_surveySizes_70 rfl ?_
      refine T_lload (pc := 72) (i := 6) dX3_surveySizes_72 rfl ?_
      refine R_callS1 (pc := 74) (av := [.long (lN (cd (sAt S 0).2))]) (rest := [.long (lN (cd (sAt S 0).2)), .long (lN 1)]) (Or.inr lk_X3_59) mk_X11_sizeOf (c_sizeOf_cd ht) dX3_surveySizes_74 rfl rfl (Nat.le_of_ble_eq_true rfl) (by decide) rfl (Nat.le_refl _) (Nat.le_refl _) ?_
      refine T_iload (pc := 77) (i := 10) dX3_surveySizes_77 rfl ?_
      refine T_iload (pc := 79) (i := 10) dX3_surveySizes_79 rfl ?_
      refine T_iload_n (pc := 81) (i := 3) dX3_surveySizes_81 rfl rfl ?_
      refine R_iadd (pc := 82) dX3_surveySizes_82 ?_
      refine R_callS1 (pc := 83) (av := [.long (lN 1), .long (lN (cd (sAt S 0).2)), .int (nI ((sAt S 0).2.length)), .int (nI p), .int (nI (p + rs))]) (rest := []) (Or.inr lk_X3_70) mk_X11_withPart (c_withPart (l := []) ht (by omega) q2) dX3_surveySizes_83 rfl rfl (Nat.le_of_ble_eq_true rfl) (by decide) rfl (Nat.le_refl _) (Nat.le_refl _) ?_
      rw [eW2]
      refine T_lstore (pc := 86) (i := 13) (ls' := [some (.ref 122), some (.ref 3), some (.int (nI ls)), some (.int (nI rs)), some (.long (lN (cd (sAt S 0).1))), none, some (.long (lN (cd (sAt S 0).2))), none, some (.int (nI ((sAt S 0).1.length))), some (.int (bI fs)), some (.int (nI p)), some (.long (lN (cd L))), none, some (.long (lN (cd K))), none, none]) dX3_surveySizes_86 (by decide) rfl ?_
      refine T_lload (pc := 88) (i := 11) dX3_surveySizes_88 rfl ?_
      refine T_lload (pc := 90) (i := 13) dX3_surveySizes_90 rfl ?_
      refine T_lcmp (pc := 92) dX3_surveySizes_92 ?_
      refine R_ln_eq (pc := 93) (tgt := 222) (by omega) (by omega) dX3_surveySizes_93 (by decide) (fun h2 => ?_) (fun h2 => ?_)
      · skip
        have hLK : L = K := cd_inj l1.2 r1.2 h2
        exact nxt (by rw [eC, hLK]; simp) _ _
      · skip
        have hLK : L ≠ K := fun z => h2 (by rw [z])
        rw [← l2, ← r2]
        refine T_lload (pc := 96) (i := 4) dX3_surveySizes_96 rfl ?_
        refine T_iload (pc := 98) (i := 8) dX3_surveySizes_98 rfl ?_
        refine T_iload (pc := 100) (i := 10) dX3_surveySizes_100 rfl ?_
        refine T_iload_n (pc := 102) (i := 2) dX3_surveySizes_102 rfl rfl ?_
        refine T_lload (pc := 103) (i := 13) dX3_surveySizes_103 rfl ?_
        refine T_iload_n (pc := 105) (i := 3) dX3_surveySizes_105 rfl rfl ?_
        refine R_callS1 (pc := 106) (av := [.long (lN (cd (sAt S 0).1)), .int (nI ((sAt S 0).1.length)), .int (nI p), .int (nI L.length), .long (lN (cd K)), .int (nI K.length)]) (rest := []) (Or.inr lk_X3_74) mk_X11_replaced (c_replaced ha r1 (by omega)) dX3_surveySizes_106 rfl rfl (Nat.le_of_ble_eq_true rfl) (by decide) rfl (Nat.le_refl _) (Nat.le_refl _) ?_
        have hu := usd_len (R := K) (show p + L.length ≤ (sAt S 0).1.length by omega)
        have hum : Mw (usd (sAt S 0).1 p L K) := ⟨by omega, usd_ok ha.2 r1.2⟩
        have bu := cd_lt hum
        refine T_lload (pc := 109) (i := 6) dX3_surveySizes_109 rfl ?_
        refine T_lcmp (pc := 111) dX3_surveySizes_111 ?_
        rw [← l2, ← r2] at nxt
        refine R_ln_ne (pc := 112) (tgt := 222) (by omega) (by omega) dX3_surveySizes_112 (by decide) (fun h3 => ?_) (fun h3 => ?_)
        · exact nxt (by rw [l2, r2, eC, decide_eq_false (p := usd (sAt S 0).1 p L K = (sAt S 0).2) (fun z => h3 (by rw [z]))]; simp) _ _
        · skip
          have hus := cd_inj hum.2 ht.2 h3
          refine T_lload (pc := 115) (i := 4) dX3_surveySizes_115 rfl ?_
          refine T_lload (pc := 117) (i := 6) dX3_surveySizes_117 rfl ?_
          refine T_lload (pc := 119) (i := 11) dX3_surveySizes_119 rfl ?_
          refine T_lload (pc := 121) (i := 13) dX3_surveySizes_121 rfl ?_
          refine T_iload (pc := 123) (i := 10) dX3_surveySizes_123 rfl ?_
          refine R_callS1 (pc := 125) (av := [.long (lN (cd (sAt S 0).1)), .long (lN (cd (sAt S 0).2)), .long (lN (cd L)), .long (lN (cd K)), .int (nI p)]) (rest := []) (Or.inl lk_X3_78) mk_X3_cameEarlier (c_cameEarlier ha ht l1 r1 (by omega) (by omega)) dX3_surveySizes_125 rfl rfl (Nat.le_of_ble_eq_true rfl) (by decide) rfl (Nat.le_refl _) (Nat.le_refl _) ?_
          refine R_ifb_ne (pc := 128) (tgt := 222) dX3_surveySizes_128 (by decide) (fun h4 => ?_) (fun h4 => ?_)
          · exact nxt (by rw [l2, r2, eC, h4]; simp) _ _
          · skip
            refine T_aload_n (pc := 131) (i := 1) dX3_surveySizes_131 rfl rfl ?_
            refine T_lload (pc := 132) (i := 11) dX3_surveySizes_132 rfl ?_
            refine T_lload (pc := 134) (i := 13) dX3_surveySizes_134 rfl ?_
            refine R_callS1 (pc := 136) (av := [.ref 3, .long (lN (cd L)), .long (lN (cd K))]) (rest := []) (Or.inl lk_X3_82) mk_X3_tellsAll (c_tellsAll hS1 l1 r1) dX3_surveySizes_136 rfl rfl (Nat.le_of_ble_eq_true rfl) (by decide) rfl (Nat.le_refl _) (Nat.le_refl _) ?_
            refine R_ifb_eq (pc := 139) (tgt := 222) dX3_surveySizes_139 (by decide) (fun h5 => ?_) (fun h5 => ?_)
            · exact nxt (by rw [l2, r2, eC, h5]; simp) _ _
            · skip
              have hC : gsC S L.length K.length p = true := by
                rw [l2, r2, eC, decide_eq_true hLK, decide_eq_true hus, h4, h5]
                rfl
              rw [l2, r2] at hC
              have es := eSt hC
              rw [es] at h9 iK1
              have oo : OfS (fun k => k = 122) m (wI m 122 0 (nI (st.1 + 1))) := OfS.sI (OfS.refl _ _) rfl
              have fin : ∀ (o' : Option (List Nat × List Nat)) (m' : SM2) (x15 : Int32), (if (fs && gsL st.2 L K) = true then some (L, K) else st.2) = o' → OfS (fun k => k = 122) m m' → GuAt m' (st.1 + 1, o') → T γ 6 0 0 M_X3_surveySizes (Rm none (fun m => (GuAt m (gsP S L.length K.length fs s ((sAt S 0).1.length + 1 - L.length)) ∧ GuOk (gsP S L.length K.length fs s ((sAt S 0).1.length + 1 - L.length)) (n + 21)) ∧ OfS (fun k => k = 122) μ m)) 0 0 222 [some (.ref 122), some (.ref 3), some (.int (nI L.length)), some (.int (nI K.length)), some (.long (lN (cd (sAt S 0).1))), none, some (.long (lN (cd (sAt S 0).2))), none, some (.int (nI (sAt S 0).1.length)), some (.int (bI fs)), some (.int (nI p)), some (.long (lN (cd L))), none, some (.long (lN (cd K))), none, some (.int x15)] [] (rm m') := fun o' m' x15 e o1 hg => by
                rw [e] at h9 iK1
                rw [l2, r2]
                refine R_iinc (pc := 222) (i := 10) (n := 1) (ls' := [some (.ref 122), some (.ref 3), some (.int (nI ls)), some (.int (nI rs)), some (.long (lN (cd (sAt S 0).1))), none, some (.long (lN (cd (sAt S 0).2))), none, some (.int (nI ((sAt S 0).1.length))), some (.int (bI fs)), some (.int (nI (p + 1))), some (.long (lN (cd L))), none, some (.long (lN (cd K))), none, some (.int (x15))]) dX3_surveySizes_222 rfl rfl ?_
                refine T_goto (pc := 225) (tgt := 44) dX3_surveySizes_225 (by decide) ?_
                refine T_ls (ls' := [some (.ref 122), some (.ref 3), some (.int (nI ls)), some (.int (nI rs)), some (.long (lN (cd (sAt S 0).1))), none, some (.long (lN (cd (sAt S 0).2))), none, some (.int (nI ((sAt S 0).1.length))), some (.int (bI fs)), some (.int (nI (p + 1))), none, none, none, none, none]) (And.intro rfl (And.intro rfl (And.intro rfl (And.intro rfl (And.intro rfl (And.intro rfl (And.intro rfl (And.intro rfl (And.intro rfl True.intro))))))))) ?_
                exact h9 m' (by omega) hg iK1 (iO.trans o1)
              have put : (fs && gsL st.2 L K) = true → ∀ x15 : Int32, T γ 6 0 0 M_X3_surveySizes (Rm none (fun m => (GuAt m (gsP S L.length K.length fs s ((sAt S 0).1.length + 1 - L.length)) ∧ GuOk (gsP S L.length K.length fs s ((sAt S 0).1.length + 1 - L.length)) (n + 21)) ∧ OfS (fun k => k = 122) μ m)) 0 0 210 [some (.ref 122), some (.ref 3), some (.int (nI L.length)), some (.int (nI K.length)), some (.long (lN (cd (sAt S 0).1))), none, some (.long (lN (cd (sAt S 0).2))), none, some (.int (nI (sAt S 0).1.length)), some (.int (bI fs)), some (.int (nI p)), some (.long (lN (cd L))), none, some (.long (lN (cd K))), none, some (.int x15)] [] (rm (wI m 122 0 (nI (st.1 + 1)))) := fun e x15 => by
                refine T_aload_n (pc := 210) (i := 0) dX3_surveySizes_210 rfl rfl ?_
                refine T_lload (pc := 211) (i := 11) dX3_surveySizes_211 rfl ?_
                refine R_putL (pc := 213) fl_X3_48 ⟨rfl, rfl⟩ kc_122 lc_122 dX3_surveySizes_213 ?_
                refine T_aload_n (pc := 216) (i := 0) dX3_surveySizes_216 rfl rfl ?_
                refine T_lload (pc := 217) (i := 13) dX3_surveySizes_217 rfl ?_
                refine R_putL (pc := 219) fl_X3_52 ⟨rfl, rfl⟩ kc_122 lc_122 dX3_surveySizes_219 ?_
                refine fin (some (L, K)) _ x15 (if_pos e) (oo.trans (OfS.sL (OfS.sL (OfS.refl _ _) rfl) rfl)) ⟨?_, ?_, ?_⟩
                · exact (show (wI m 122 0 (nI (st.1 + 1))).1 122 0 = _ from e_wI ⟨rfl, rfl⟩)
                · skip
                  simp (disch := omega) only [n_wI, e_wI, n_wL, e_wL, m_wI2, m_wL1, n_wCI, e_wCI, n_wCL, e_wCL, m_wCI2, m_wCL1, n_wF, e_wF, m_wF2]
                  rfl
                · skip
                  simp (disch := omega) only [n_wI, e_wI, n_wL, e_wL, m_wI2, m_wL1, n_wCI, e_wCI, n_wCL, e_wCL, m_wCI2, m_wCL1, n_wF, e_wF, m_wF2]
                  rfl
              have keep : (fs && gsL st.2 L K) = false → ∀ x15 : Int32, T γ 6 0 0 M_X3_surveySizes (Rm none (fun m => (GuAt m (gsP S L.length K.length fs s ((sAt S 0).1.length + 1 - L.length)) ∧ GuOk (gsP S L.length K.length fs s ((sAt S 0).1.length + 1 - L.length)) (n + 21)) ∧ OfS (fun k => k = 122) μ m)) 0 0 222 [some (.ref 122), some (.ref 3), some (.int (nI L.length)), some (.int (nI K.length)), some (.long (lN (cd (sAt S 0).1))), none, some (.long (lN (cd (sAt S 0).2))), none, some (.int (nI (sAt S 0).1.length)), some (.int (bI fs)), some (.int (nI p)), some (.long (lN (cd L))), none, some (.long (lN (cd K))), none, some (.int x15)] [] (rm (wI m 122 0 (nI (st.1 + 1)))) := fun e x15 =>
                fin st.2 _ x15 (if_neg (by rw [e]; decide)) oo ⟨e_wI ⟨rfl, rfl⟩, iG.2.1, iG.2.2⟩
              refine T_aload_n (pc := 142) (i := 0) dX3_surveySizes_142 rfl rfl ?_
              refine T_dup (pc := 143) dX3_surveySizes_143 rfl ?_
              refine R_getI (pc := 144) (x := nI st.1) fl_X3_43 rfl kc_122 lc_122 iG.1 dX3_surveySizes_144 ?_
              refine T_iconst (pc := 147) (v := nI 1) dX3_surveySizes_147 (by decide) ?_
              refine R_iadd (pc := 148) dX3_surveySizes_148 ?_
              refine R_putI (pc := 149) fl_X3_43 ⟨rfl, rfl⟩ (Or.inl rfl) kc_122 lc_122 dX3_surveySizes_149 ?_
              cases eo : st.2 with
              | none =>
                have g1 := iG.2.1
                have g2 := iG.2.2
                rw [eo] at g1 g2 put keep
                refine T_lload (pc := 152) (i := 11) dX3_surveySizes_152 rfl ?_
                refine T_aload_n (pc := 154) (i := 0) dX3_surveySizes_154 rfl rfl ?_
                refine R_getL (pc := 155) (x := (-1)) fl_X3_48 rfl kc_122 lc_122 g1 dX3_surveySizes_155 ?_
                refine T_lcmp (pc := 158) dX3_surveySizes_158 ?_
                refine R_lx_lt (pc := 159) (tgt := 182) dX3_surveySizes_159 (by decide) (fun h6 => ?_) (fun h6 => ?_)
                · exact absurd h6 (lN_nlt (by omega))
                · skip
                  refine T_lload (pc := 162) (i := 11) dX3_surveySizes_162 rfl ?_
                  refine T_aload_n (pc := 164) (i := 0) dX3_surveySizes_164 rfl rfl ?_
                  refine R_getL (pc := 165) (x := (-1)) fl_X3_48 rfl kc_122 lc_122 g1 dX3_surveySizes_165 ?_
                  refine T_lcmp (pc := 168) dX3_surveySizes_168 ?_
                  refine R_lx_ne (pc := 169) (tgt := 186) dX3_surveySizes_169 (by decide) (fun h7 => ?_) (fun h7 => ?_)
                  · skip
                    refine T_iconst (pc := 186) (v := nI 0) dX3_surveySizes_186 (by decide) ?_
                    refine T_istore (pc := 187) (i := 15) (ls' := [some (.ref 122), some (.ref 3), some (.int (nI L.length)), some (.int (nI K.length)), some (.long (lN (cd (sAt S 0).1))), none, some (.long (lN (cd (sAt S 0).2))), none, some (.int (nI ((sAt S 0).1.length))), some (.int (bI fs)), some (.int (nI p)), some (.long (lN (cd L))), none, some (.long (lN (cd K))), none, some (.int (nI 0))]) dX3_surveySizes_187 (by decide) rfl ?_
                    refine T_iload (pc := 189) (i := 9) dX3_surveySizes_189 rfl ?_
                    refine R_ifb_eq (pc := 191) (tgt := 222) dX3_surveySizes_191 (by decide) (fun h8 => ?_) (fun h8 => ?_)
                    · exact keep (by rw [h8]; rfl) _
                    · skip
                      refine T_aload_n (pc := 194) (i := 0) dX3_surveySizes_194 rfl rfl ?_
                      refine R_getL (pc := 195) (x := (-1)) fl_X3_48 rfl kc_122 lc_122 g1 dX3_surveySizes_195 ?_
                      refine T_ldc2 (pc := 198) dX3_surveySizes_198 cn_X3_46 ?_
                      refine T_lcmp (pc := 201) dX3_surveySizes_201 ?_
                      refine R_lx_eq (pc := 202) (tgt := 210) dX3_surveySizes_202 (by decide) (fun h9 => ?_) (fun h9 => ?_)
                      · exact put (by rw [h8]; rfl) _
                      · exact absurd rfl h9
                  · exact absurd h7 (lN_ne (by omega))
              | some q =>
                have g1 := iG.2.1
                have g2 := iG.2.2
                have bq := k2 q eo
                have bq1 := cd_lt bq.1
                have bq2 := cd_lt bq.2
                rw [eo] at g1 g2 put keep
                have el : gsL (some q) L K = (decide (cd L < cd q.1) || (decide (cd L = cd q.1) && decide (cd K < cd q.2))) := rfl
                have t187 : ∀ b : Bool, gsL (some q) L K = b → T γ 6 0 0 M_X3_surveySizes (Rm none (fun m => (GuAt m (gsP S L.length K.length fs s ((sAt S 0).1.length + 1 - L.length)) ∧ GuOk (gsP S L.length K.length fs s ((sAt S 0).1.length + 1 - L.length)) (n + 21)) ∧ OfS (fun k => k = 122) μ m)) 0 0 187 [some (.ref 122), some (.ref 3), some (.int (nI L.length)), some (.int (nI K.length)), some (.long (lN (cd (sAt S 0).1))), none, some (.long (lN (cd (sAt S 0).2))), none, some (.int (nI (sAt S 0).1.length)), some (.int (bI fs)), some (.int (nI p)), some (.long (lN (cd L))), none, some (.long (lN (cd K))), none, none] [.int (bI b)] (rm (wI m 122 0 (nI (st.1 + 1)))) := fun b eb => by
                  refine T_istore (pc := 187) (i := 15) (ls' := [some (.ref 122), some (.ref 3), some (.int (nI L.length)), some (.int (nI K.length)), some (.long (lN (cd (sAt S 0).1))), none, some (.long (lN (cd (sAt S 0).2))), none, some (.int (nI ((sAt S 0).1.length))), some (.int (bI fs)), some (.int (nI p)), some (.long (lN (cd L))), none, some (.long (lN (cd K))), none, some (.int (bI b))]) dX3_surveySizes_187 (by decide) rfl ?_
                  refine T_iload (pc := 189) (i := 9) dX3_surveySizes_189 rfl ?_
                  refine R_ifb_eq (pc := 191) (tgt := 222) dX3_surveySizes_191 (by decide) (fun h6 => ?_) (fun h6 => ?_)
                  · exact keep (by rw [h6]; rfl) _
                  · skip
                    refine T_aload_n (pc := 194) (i := 0) dX3_surveySizes_194 rfl rfl ?_
                    refine R_getL (pc := 195) (x := lN (cd q.1)) fl_X3_48 rfl kc_122 lc_122 g1 dX3_surveySizes_195 ?_
                    refine T_ldc2 (pc := 198) dX3_surveySizes_198 cn_X3_46 ?_
                    refine T_lcmp (pc := 201) dX3_surveySizes_201 ?_
                    refine R_lx_eq (pc := 202) (tgt := 210) dX3_surveySizes_202 (by decide) (fun h7 => ?_) (fun h7 => ?_)
                    · exact absurd h7 (lN_ne (by omega))
                    · skip
                      refine T_iload (pc := 205) (i := 15) dX3_surveySizes_205 rfl ?_
                      refine R_ifb_eq (pc := 207) (tgt := 222) dX3_surveySizes_207 (by decide) (fun h8 => ?_) (fun h8 => ?_)
                      · exact keep (by rw [h6, eb, h8]; rfl) _
                      · exact put (by rw [h6, eb, h8]; rfl) _
                refine T_lload (pc := 152) (i := 11) dX3_surveySizes_152 rfl ?_
                refine T_aload_n (pc := 154) (i := 0) dX3_surveySizes_154 rfl rfl ?_
                refine R_getL (pc := 155) (x := lN (cd q.1)) fl_X3_48 rfl kc_122 lc_122 g1 dX3_surveySizes_155 ?_
                refine T_lcmp (pc := 158) dX3_surveySizes_158 ?_
                refine R_ln_lt (pc := 159) (tgt := 182) (by omega) (by omega) dX3_surveySizes_159 (by decide) (fun h6 => ?_) (fun h6 => ?_)
                · skip
                  refine T_iconst (pc := 182) (v := nI 1) dX3_surveySizes_182 (by decide) ?_
                  refine T_goto (pc := 183) (tgt := 187) dX3_surveySizes_183 (by decide) ?_
                  exact t187 true (by rw [el, decide_eq_true h6]; rfl)
                · skip
                  refine T_lload (pc := 162) (i := 11) dX3_surveySizes_162 rfl ?_
                  refine T_aload_n (pc := 164) (i := 0) dX3_surveySizes_164 rfl rfl ?_
                  refine R_getL (pc := 165) (x := lN (cd q.1)) fl_X3_48 rfl kc_122 lc_122 g1 dX3_surveySizes_165 ?_
                  refine T_lcmp (pc := 168) dX3_surveySizes_168 ?_
                  refine R_ln_ne (pc := 169) (tgt := 186) (by omega) (by omega) dX3_surveySizes_169 (by decide) (fun h7 => ?_) (fun h7 => ?_)
                  · skip
                    refine T_iconst (pc := 186) (v := nI 0) dX3_surveySizes_186 (by decide) ?_
                    exact t187 false (by rw [el, decide_eq_false (by omega), decide_eq_false h7]; rfl)
                  · skip
                    refine T_lload (pc := 172) (i := 13) dX3_surveySizes_172 rfl ?_
                    refine T_aload_n (pc := 174) (i := 0) dX3_surveySizes_174 rfl rfl ?_
                    refine R_getL (pc := 175) (x := lN (cd q.2)) fl_X3_52 rfl kc_122 lc_122 g2 dX3_surveySizes_175 ?_
                    refine T_lcmp (pc := 178) dX3_surveySizes_178 ?_
                    refine R_ln_ge (pc := 179) (tgt := 186) (by omega) (by omega) dX3_surveySizes_179 (by decide) (fun h8 => ?_) (fun h8 => ?_)
                    · skip
                      refine T_iconst (pc := 186) (v := nI 0) dX3_surveySizes_186 (by decide) ?_
                      exact t187 false (by rw [el, decide_eq_false (by omega), decide_eq_false (p := cd K < cd q.2) (by omega)]; simp)
                    · skip
                      refine T_iconst (pc := 182) (v := nI 1) dX3_surveySizes_182 (by decide) ?_
                      refine T_goto (pc := 183) (tgt := 187) dX3_surveySizes_183 (by decide) ?_
                      exact t187 true (by rw [el, decide_eq_true h7, decide_eq_true h8]; simp)
theorem c_Guess_survey {S : List (List Nat × List Nat)} (hS : SeenAt μ 3 S) : Ex γ 7 0 0 M_X3_survey [.ref 122, .ref 3] (rm μ) (Rm none (fun m => (GuAt m (guV S) ∧ GuOk (guV S) 100) ∧ OfS (fun k => k = 122) μ m)) := by
  have h10 := hS.2.1
  have oo : OfS (fun k => k = 122) μ (wL (wL (wI μ 122 0 (nI 0)) 122 1 (-1)) 122 2 (-1)) := OfS.sL (OfS.sL (OfS.sI (OfS.refl _ _) rfl) rfl) rfl
  have g0 : GuAt (wL (wL (wI μ 122 0 (nI 0)) 122 1 (-1)) 122 2 (-1)) (0, none) := by
    refine ⟨?_, ?_, ?_⟩
    · exact (show (wI μ 122 0 (nI 0)).1 122 0 = _ from e_wI ⟨rfl, rfl⟩)
    · skip
      simp (disch := omega) only [n_wI, e_wI, n_wL, e_wL, m_wI2, m_wL1, n_wCI, e_wCI, n_wCL, e_wCL, m_wCI2, m_wCL1, n_wF, e_wF, m_wF2]
      rfl
    · skip
      simp (disch := omega) only [n_wI, e_wI, n_wL, e_wL, m_wI2, m_wL1, n_wCI, e_wCI, n_wCL, e_wCL, m_wCI2, m_wCL1, n_wF, e_wF, m_wF2]
      rfl
  have k0 : GuOk (0, none) 0 := ⟨Nat.le_refl _, fun q hq => by cases hq⟩
  refine Ex.of (by decide +kernel) rfl (Nat.le_of_ble_eq_true rfl) ?_
  show T _ _ _ _ _ _ _ _ _ [some (.ref 122), some (.ref 3), none, none, none] [] (rm μ)
  refine T_aload_n (pc := 0) (i := 0) dX3_survey_0 rfl rfl ?_
  refine T_iconst (pc := 1) (v := nI 0) dX3_survey_1 (by decide) ?_
  refine R_putI (pc := 2) fl_X3_43 ⟨rfl, rfl⟩ (Or.inl rfl) kc_122 lc_122 dX3_survey_2 ?_
  refine T_aload_n (pc := 5) (i := 0) dX3_survey_5 rfl rfl ?_
  refine T_ldc2 (pc := 6) dX3_survey_6 cn_X3_46 ?_
  refine R_putL (pc := 9) fl_X3_48 ⟨rfl, rfl⟩ kc_122 lc_122 dX3_survey_9 ?_
  refine T_aload_n (pc := 12) (i := 0) dX3_survey_12 rfl rfl ?_
  refine T_ldc2 (pc := 13) dX3_survey_13 cn_X3_46 ?_
  refine R_putL (pc := 16) fl_X3_52 ⟨rfl, rfl⟩ kc_122 lc_122 dX3_survey_16 ?_
  refine T_aload_n (pc := 19) (i := 1) dX3_survey_19 rfl rfl ?_
  refine R_getI (pc := 20) (x := nI S.length) fl_X3_15 rfl (kt_told told3) (lt_told told3) (skL.trans (skL.trans ((wI_ne (by decide)).trans hS.1))) dX3_survey_20 ?_
  refine R_if_ne (pc := 23) (tgt := 27) (by omega) dX3_survey_23 (by decide) (fun h1 => ?_) (fun h1 => ?_)
  · skip
    have h0 : 0 < S.length := by omega
    have eV : guV S = guS S 3 := if_neg h1
    rw [eV]
    refine T_mem (μ' := rm (wL (wL (wI μ 122 0 (nI 0)) 122 1 (-1)) 122 2 (-1))) (rfl) ?_
    generalize wL (wL (wI μ 122 0 (nI 0)) 122 1 (-1)) 122 2 (-1) = μ1 at *
    have hS1 : SeenAt μ1 3 S := hS.ofs oo (fun k h1 h2 => by omega)
    obtain ⟨⟨ha, ht⟩, e1, e2⟩ := hS1.2.2 0 h0
    have a20 := ha.1
    have t20 := ht.1
    refine T_aload_n (pc := 27) (i := 1) dX3_survey_27 rfl rfl ?_
    refine R_getR (pc := 28) (i := 11) fl_X3_55 rfl (kt_told told3) (lt_told told3) (rt_told_seenThen told3) dX3_survey_28 ?_
    refine T_iconst (pc := 31) (v := nI 0) dX3_survey_31 (by decide) ?_
    refine R_lald (pc := 32) (x := lN (cd (sAt S 0).2)) (kt_told_seenThen told3) (lt_told_seenThen told3) (by omega) (by first | decide | assumption) e2 dX3_survey_32 ?_
    refine R_callS1 (pc := 33) (av := [.long (lN (cd (sAt S 0).2))]) (rest := []) (Or.inr lk_X3_59) mk_X11_sizeOf (c_sizeOf_cd ht) dX3_survey_33 rfl rfl (Nat.le_of_ble_eq_true rfl) (by decide) rfl (Nat.le_refl _) (Nat.le_refl _) ?_
    refine T_aload_n (pc := 36) (i := 1) dX3_survey_36 rfl rfl ?_
    refine R_getR (pc := 37) (i := 10) fl_X3_63 rfl (kt_told told3) (lt_told told3) (rt_told_seenFirst told3) dX3_survey_37 ?_
    refine T_iconst (pc := 40) (v := nI 0) dX3_survey_40 (by decide) ?_
    refine R_lald (pc := 41) (x := lN (cd (sAt S 0).1)) (kt_told_seenFirst told3) (lt_told_seenFirst told3) (by omega) (by first | decide | assumption) e1 dX3_survey_41 ?_
    refine R_callS1 (pc := 42) (av := [.long (lN (cd (sAt S 0).1))]) (rest := [.int (nI ((sAt S 0).2.length))]) (Or.inr lk_X3_59) mk_X11_sizeOf (c_sizeOf_cd ha) dX3_survey_42 rfl rfl (Nat.le_of_ble_eq_true rfl) (by decide) rfl (Nat.le_refl _) (Nat.le_refl _) ?_
    refine T_isub (pc := 45) dX3_survey_45 ?_
    refine T_istore_n (pc := 46) (i := 2) (ls' := [some (.ref 122), some (.ref 3), some (.int (((nI ((sAt S 0).2.length)) - (nI ((sAt S 0).1.length))))), none, none]) dX3_survey_46 rfl (by decide) rfl ?_
    refine T_iconst (pc := 47) (v := nI 1) dX3_survey_47 (by decide) ?_
    refine T_istore_n (pc := 48) (i := 3) (ls' := [some (.ref 122), some (.ref 3), some (.int (((nI ((sAt S 0).2.length)) - (nI ((sAt S 0).1.length))))), some (.int (nI 1)), none]) dX3_survey_48 rfl (by decide) rfl ?_
    suffices loop : ∀ (g j : Nat) (m : SM2), j + g = 3 → GuAt m (guS S j) → GuOk (guS S j) (21 * j) → OfS (fun k => k = 122) μ m → T γ 7 0 0 M_X3_survey (Rm none (fun m => (GuAt m (guS S 3) ∧ GuOk (guS S 3) 100) ∧ OfS (fun k => k = 122) μ m)) 0 0 49 [some (.ref 122), some (.ref 3), some (.int (nI (sAt S 0).2.length - nI (sAt S 0).1.length)), some (.int (nI (j + 1))), none] [] (rm m) by
      exact loop 3 0 μ1 rfl g0 k0 oo
    intro g
    induction g with
    | zero =>
      intro j m hj iG iK iO
      obtain rfl : j = 3 := by omega
      refine T_iload_n (pc := 49) (i := 3) dX3_survey_49 rfl rfl ?_
      refine T_iconst (pc := 50) (v := nI 3) dX3_survey_50 (by decide) ?_
      refine R_icmp_gt (pc := 51) (tgt := 84) (by omega) (by omega) dX3_survey_51 (by decide) (fun h2 => ?_) (fun h2 => ?_)
      · skip
        exact T_vret dX3_survey_84 rfl (Nat.le_refl _) (Nat.le_refl _) ⟨_, rfl, rfl, ⟨iG, by have := iK.1; omega, iK.2⟩, iO⟩
      · exact absurd h2 (by decide)
    | succ g ih =>
      intro j m hj iG iK iO
      have iS : SeenAt m 3 S := hS.ofs iO (fun k h1 h2 => by omega)
      have h9 := ih (j + 1)
      have eS : guS S (j + 1) = if (sAt S 0).1.length ≤ j + 1 + (sAt S 0).2.length ∧ j + 1 + (sAt S 0).2.length - (sAt S 0).1.length ≤ 3 then gsP S (j + 1) (j + 1 + (sAt S 0).2.length - (sAt S 0).1.length) (guS S j).2.isNone (guS S j) ((sAt S 0).1.length + 1 - (j + 1)) else guS S j := rfl
      rw [eS] at h9
      generalize guS S j = st at *
      have nxt : ∀ x4 : Int32, ¬ ((sAt S 0).1.length ≤ j + 1 + (sAt S 0).2.length ∧ j + 1 + (sAt S 0).2.length - (sAt S 0).1.length ≤ 3) → T γ 7 0 0 M_X3_survey (Rm none (fun m => (GuAt m (guS S 3) ∧ GuOk (guS S 3) 100) ∧ OfS (fun k => k = 122) μ m)) 0 0 78 [some (.ref 122), some (.ref 3), some (.int (nI (sAt S 0).2.length - nI (sAt S 0).1.length)), some (.int (nI (j + 1))), some (.int x4)] [] (rm m) := fun x4 hn => by
        rw [if_neg hn] at h9
        refine R_iinc (pc := 78) (i := 3) (n := 1) (ls' := [some (.ref 122), some (.ref 3), some (.int ((nI (sAt S 0).2.length - nI (sAt S 0).1.length))), some (.int (nI (j + 1 + 1))), some (.int (x4))]) dX3_survey_78 rfl rfl ?_
        refine T_goto (pc := 81) (tgt := 49) dX3_survey_81 (by decide) ?_
        refine T_ls (ls' := [some (.ref 122), some (.ref 3), some (.int ((nI (sAt S 0).2.length - nI (sAt S 0).1.length))), some (.int (nI (j + 1 + 1))), none]) (And.intro rfl (And.intro rfl (And.intro rfl (And.intro rfl True.intro)))) ?_
        exact h9 m (by omega) iG ⟨by have := iK.1; omega, iK.2⟩ iO
      refine T_iload_n (pc := 49) (i := 3) dX3_survey_49 rfl rfl ?_
      refine T_iconst (pc := 50) (v := nI 3) dX3_survey_50 (by decide) ?_
      refine R_icmp_gt (pc := 51) (tgt := 84) (by omega) (by omega) dX3_survey_51 (by decide) (fun h2 => ?_) (fun h2 => ?_)
      · exact absurd h2 (by omega)
      · skip
        refine T_iload_n (pc := 54) (i := 3) dX3_survey_54 rfl rfl ?_
        refine T_iload_n (pc := 55) (i := 2) dX3_survey_55 rfl rfl ?_
        refine T_iadd (pc := 56) dX3_survey_56 ?_
        by_cases hle : (sAt S 0).1.length ≤ j + 1 + (sAt S 0).2.length
        · rw [nI_sh hle]
          refine T_istore (pc := 57) (i := 4) (ls' := [some (.ref 122), some (.ref 3), some (.int ((nI (sAt S 0).2.length - nI (sAt S 0).1.length))), some (.int (nI (j + 1))), some (.int (nI (j + 1 + (sAt S 0).2.length - (sAt S 0).1.length)))]) dX3_survey_57 (by decide) rfl ?_
          refine T_iload (pc := 59) (i := 4) dX3_survey_59 rfl ?_
          refine R_if_lt (pc := 61) (tgt := 78) (by omega) dX3_survey_61 (by decide) (fun h3 => ?_) (fun h3 => ?_)
          · exact h3.elim
          · skip
            refine T_iload (pc := 64) (i := 4) dX3_survey_64 rfl ?_
            refine T_iconst (pc := 66) (v := nI 3) dX3_survey_66 (by decide) ?_
            refine R_icmp_gt (pc := 67) (tgt := 78) (by omega) (by omega) dX3_survey_67 (by decide) (fun h4 => ?_) (fun h4 => ?_)
            · exact nxt _ (fun z => by omega)
            · skip
              rw [if_pos ⟨hle, by omega⟩] at h9
              refine T_aload_n (pc := 70) (i := 0) dX3_survey_70 rfl rfl ?_
              refine T_aload_n (pc := 71) (i := 1) dX3_survey_71 rfl rfl ?_
              refine T_iload_n (pc := 72) (i := 3) dX3_survey_72 rfl rfl ?_
              refine T_iload (pc := 73) (i := 4) dX3_survey_73 rfl ?_
              refine R_callVm0 (pc := 75) (As := [.ref 3, .int (nI (j + 1)), .int (nI (j + 1 + (sAt S 0).2.length - (sAt S 0).1.length))]) (rest := []) (Or.inl lk_X3_66) mk_X3_surveySizes (c_surveySizes iS h0 iG iK (by omega) (by omega) (by omega) (by omega)) kc_122 ⟨by decide, rfl⟩ lc_122 dX3_survey_75 rfl rfl (Nat.le_of_ble_eq_true rfl) (by decide) rfl (Nat.le_refl _) (Nat.le_refl _) (fun m2 q => ?_)
              obtain ⟨⟨q1, q2⟩, q3⟩ := q
              refine R_iinc (pc := 78) (i := 3) (n := 1) (ls' := [some (.ref 122), some (.ref 3), some (.int ((nI (sAt S 0).2.length - nI (sAt S 0).1.length))), some (.int (nI (j + 1 + 1))), some (.int (nI (j + 1 + (sAt S 0).2.length - (sAt S 0).1.length)))]) dX3_survey_78 rfl rfl ?_
              refine T_goto (pc := 81) (tgt := 49) dX3_survey_81 (by decide) ?_
              refine T_ls (ls' := [some (.ref 122), some (.ref 3), some (.int ((nI (sAt S 0).2.length - nI (sAt S 0).1.length))), some (.int (nI (j + 1 + 1))), none]) (And.intro rfl (And.intro rfl (And.intro rfl (And.intro rfl True.intro)))) ?_
              exact h9 m2 (by omega) q1 ⟨by have := q2.1; omega, q2.2⟩ (iO.trans q3)
        · have hneg : nI (j + 1) + (nI (sAt S 0).2.length - nI (sAt S 0).1.length) < 0 := by
            rw [fa_lt, show (0 : Int32).toInt = 0 from rfl]
            have i1 := nI_toInt (n := j + 1) (by omega)
            have i2 := nI_toInt (n := (sAt S 0).2.length) (by omega)
            have i3 := nI_toInt (n := (sAt S 0).1.length) (by omega)
            rw [fb_addI (by rw [fb_subI (by omega) (by omega)]; omega) (by rw [fb_subI (by omega) (by omega)]; omega), fb_subI (by omega) (by omega)]
            omega
          refine T_istore (pc := 57) (i := 4) (ls' := [some (.ref 122), some (.ref 3), some (.int ((nI (sAt S 0).2.length - nI (sAt S 0).1.length))), some (.int (nI (j + 1))), some (.int ((nI (j + 1) + (nI (sAt S 0).2.length - nI (sAt S 0).1.length))))]) dX3_survey_57 (by decide) rfl ?_
          refine T_iload (pc := 59) (i := 4) dX3_survey_59 rfl ?_
          refine T_if_lt (pc := 61) (tgt := 78) dX3_survey_61 (by decide) (fun h3 => ?_) (fun h3 => ?_)
          · exact nxt _ (fun z => hle z.1)
          · exact absurd hneg h3
  · skip
    have eV : guV S = (0, none) := if_pos h1
    rw [eV]
    exact T_vret dX3_survey_26 rfl (Nat.le_refl _) (Nat.le_refl _) ⟨_, rfl, rfl, ⟨g0, Nat.zero_le _, k0.2⟩, oo⟩
theorem c_guessed {z : Int32} {X : Td} (hX : ToldAt μ 3 X) : Ex γ 8 1 6 M_X11_guessed [.ref 0, .int z] (rm μ) (Ax (if inB z 3 = true then none else some "java/util/NoSuchElementException") (.long (guO (guV X.S) z.toNatClampNeg)) μ (fun m => OfS SQ μ m)) := by
  refine Ex.of (by decide +kernel) rfl (Nat.le_of_ble_eq_true rfl) ?_
  show T _ _ _ _ _ _ _ _ _ [some (.ref 0), some (.int (z))] [] (rm μ)
  refine T_iload_n (pc := 0) (i := 1) dX11_guessed_0 rfl rfl ?_
  refine T_iconst (pc := 1) (v := nI 3) dX11_guessed_1 (by decide) ?_
  refine R_chkS (pc := 2) (av := [.int (z), .int (nI 3)]) (rest := []) (Or.inl lk_X11_187) mk_X11_checkWhat c_checkWhat dX11_guessed_2 rfl rfl (Nat.le_of_ble_eq_true rfl) (by decide) rfl (by decide) (by decide) (fun w => Ax_e (by unfold inB; rw [w]; decide)) (fun hC => ?_)
  rw [if_pos (c := inB z 3 = true) hC]
  obtain ⟨k, hk, rfl⟩ := inB_of (n := 3) (by decide) hC
  rw [nI_clamp (n := k) (by omega)]
  refine T_aload_n (pc := 5) (i := 0) dX11_guessed_5 rfl rfl ?_
  refine R_getR (pc := 6) (i := 122) fl_X11_93 rfl kc_0 lc_0 rc_0_17 dX11_guessed_6 ?_
  refine T_aload_n (pc := 9) (i := 0) dX11_guessed_9 rfl rfl ?_
  refine R_getR (pc := 10) (i := 3) fl_X11_19 rfl kc_0 lc_0 rc_0_1 dX11_guessed_10 ?_
  refine R_callVm0 (pc := 13) (As := [.ref 3]) (rest := []) (Or.inl lk_X11_427) mk_X3_survey (c_Guess_survey hX.2.2.1) kc_122 ⟨by decide, rfl⟩ lc_122 dX11_guessed_13 rfl rfl (Nat.le_of_ble_eq_true rfl) (by decide) rfl (by decide) (by decide) (fun m h => ?_)
  obtain ⟨⟨hG, hK⟩, hO⟩ := h
  have hO2 : OfS SQ μ m := hO.mono (fun c hc => by unfold SQ; omega)
  have hn := hK.1
  refine T_iload_n (pc := 16) (i := 1) dX11_guessed_16 rfl rfl ?_
  refine R_if_ne (pc := 17) (tgt := 31) (by omega) dX11_guessed_17 (by decide) (fun h1 => ?_) (fun h1 => ?_)
  · skip
    refine T_iload_n (pc := 31) (i := 1) dX11_guessed_31 rfl rfl ?_
    refine T_iconst (pc := 32) (v := nI 1) dX11_guessed_32 (by decide) ?_
    refine R_icmp_ne (pc := 33) (tgt := 46) (by omega) (by omega) dX11_guessed_33 (by decide) (fun h2 => ?_) (fun h2 => ?_)
    · skip
      have e : guO (guV X.S) k = vO ((guV X.S).2.map (fun q => q.2)) := by unfold guO; rw [if_neg h1, if_neg h2]
      rw [e]
      refine T_aload_n (pc := 46) (i := 0) dX11_guessed_46 rfl rfl ?_
      refine R_getR (pc := 47) (i := 122) fl_X11_93 rfl kc_0 lc_0 rc_0_17 dX11_guessed_47 ?_
      refine R_getL (pc := 50) (x := (vO ((guV X.S).2.map (fun q => q.2)))) fl_X11_433 rfl kc_122 lc_122 hG.2.2 dX11_guessed_50 ?_
      exact T_lret dX11_guessed_53 rfl (by decide) (by decide) ⟨m, rfl, rfl, hO2⟩
    · skip
      have e : guO (guV X.S) k = vO ((guV X.S).2.map (fun q => q.1)) := by unfold guO; rw [if_neg h1, if_pos h2]
      rw [e]
      refine T_aload_n (pc := 36) (i := 0) dX11_guessed_36 rfl rfl ?_
      refine R_getR (pc := 37) (i := 122) fl_X11_93 rfl kc_0 lc_0 rc_0_17 dX11_guessed_37 ?_
      refine R_getL (pc := 40) (x := (vO ((guV X.S).2.map (fun q => q.1)))) fl_X11_430 rfl kc_122 lc_122 hG.2.1 dX11_guessed_40 ?_
      refine T_goto (pc := 43) (tgt := 53) dX11_guessed_43 (by decide) ?_
      exact T_lret dX11_guessed_53 rfl (by decide) (by decide) ⟨m, rfl, rfl, hO2⟩
  · skip
    have e : guO (guV X.S) k = lN (guV X.S).1 := by unfold guO; rw [if_pos h1]
    rw [e]
    refine T_aload_n (pc := 20) (i := 0) dX11_guessed_20 rfl rfl ?_
    refine R_getR (pc := 21) (i := 122) fl_X11_93 rfl kc_0 lc_0 rc_0_17 dX11_guessed_21 ?_
    refine R_getI (pc := 24) (x := nI ((guV X.S).1)) fl_X11_429 rfl kc_122 lc_122 hG.1 dX11_guessed_24 ?_
    refine R_i2l (pc := 27) (by omega) dX11_guessed_27 ?_
    refine T_goto (pc := 28) (tgt := 53) dX11_guessed_28 (by decide) ?_
    exact T_lret dX11_guessed_53 rfl (by decide) (by decide) ⟨m, rfl, rfl, hO2⟩
end GS

