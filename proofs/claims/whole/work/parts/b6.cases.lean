/-! the law: each kind of call -/
def M_L_law_ : MI := (yL_law_, cL_law_, 8, some (.boolean), [])
/-- where a round goes on -/
def LawNext (γ : Ga) (D mc ms : Nat) (Q : Out → SMem → Prop) (i kc ks : Nat) : Prop := ∀ (kc' ks' : Nat) (m' : SM2) (s' : Sta), CAll m' s' → MAll m' s' → kc' ≤ kc + 5 → ks' ≤ ks + 30 → T γ D mc ms M_L_law_ Q kc' ks' 3335 [some (.ref XB), some (.ref 0), some (.ref 572), some (.ref 594), some (.int (nI i)), none, none, none] [] (rm m')
theorem MO.call {μ m : SM2} {t : Nat} {N : Sta} (h : MO μ m t N) (hs : CAll μ N) : CAll m N := hs.hi (fun k hk => h.2.2 k (by unfold Smo; omega))
theorem CO.mall {μ m : SM2} {s N : Sta} (h : CO μ m N) (hs : MAll μ s) : MAll m s := hs.ofc (fun k h1 h2 => h.2 k (by unfold Sca; omega))
section LC
variable {γ : Ga} {D mc ms : Nat} {Q : Out → SMem → Prop} {i kc ks : Nat} {m : SM2} {s : Sta}
theorem z_feed (hD : 40 ≤ D) (hi : i + 7 ≤ gsl γ) (h3 : gsl γ ≤ 3584) (hk : kc + 5 ≤ mc) (hks : ks + 30 ≤ ms) (hc : CAll m s) (hm : MAll m s) (nx : LawNext γ D mc ms Q i kc ks) : T γ D mc ms M_L_law_ Q kc ks 232 [some (.ref XB), some (.ref 0), some (.ref 572), some (.ref 594), some (.int (nI i)), none, none, none] [] (rm m) := by
  refine T_aload_n (pc := 232) (i := 1) dL_law__232 rfl rfl ?_
  refine T_aload_n (pc := 233) (i := 0) dL_law__233 rfl rfl ?_
  refine T_iload (pc := 234) (i := 4) dL_law__234 rfl ?_
  refine T_iconst (pc := 236) (v := nI 1) dL_law__236 (by decide) ?_
  refine R_iadd (pc := 237) dL_law__237 ?_
  refine T_sld (pc := 238) (i := (i + 1)) (by omega) (by omega) dL_law__238 ?_
  refine T_aload_n (pc := 239) (i := 0) dL_law__239 rfl rfl ?_
  refine T_iload (pc := 240) (i := 4) dL_law__240 rfl ?_
  refine T_iconst (pc := 242) (v := nI 2) dL_law__242 (by decide) ?_
  refine R_iadd (pc := 243) dL_law__243 ?_
  refine T_sld (pc := 244) (i := (i + 2)) (by omega) (by omega) dL_law__244 ?_
  refine T_aload_n (pc := 245) (i := 0) dL_law__245 rfl rfl ?_
  refine T_iload (pc := 246) (i := 4) dL_law__246 rfl ?_
  refine T_iconst (pc := 248) (v := nI 3) dL_law__248 (by decide) ?_
  refine R_iadd (pc := 249) dL_law__249 ?_
  refine T_sld (pc := 250) (i := (i + 3)) (by omega) (by omega) dL_law__250 ?_
  refine T_aload_n (pc := 251) (i := 0) dL_law__251 rfl rfl ?_
  refine T_iload (pc := 252) (i := 4) dL_law__252 rfl ?_
  refine T_iconst (pc := 254) (v := nI 4) dL_law__254 (by decide) ?_
  refine R_iadd (pc := 255) dL_law__255 ?_
  refine T_sld (pc := 256) (i := (i + 4)) (by omega) (by omega) dL_law__256 ?_
  refine T_aload_n (pc := 257) (i := 0) dL_law__257 rfl rfl ?_
  refine T_iload (pc := 258) (i := 4) dL_law__258 rfl ?_
  refine T_iconst (pc := 260) (v := nI 5) dL_law__260 (by decide) ?_
  refine R_iadd (pc := 261) dL_law__261 ?_
  refine T_sld (pc := 262) (i := (i + 5)) (by omega) (by omega) dL_law__262 ?_
  refine R_callVm1 (pc := 263) (As := [.int ((gsx γ (i + 1))), .int ((gsx γ (i + 2))), .int ((gsx γ (i + 3))), .int ((gsx γ (i + 4))), .int ((gsx γ (i + 5)))]) (rest := []) (Or.inl lk_L_141) mk_X11_feed (k_feed hc) kc_0 ⟨by decide, rfl⟩ lc_0 dL_law__263 rfl rfl (Nat.le_of_ble_eq_true rfl) (by omega) rfl (by omega) (by omega) (fun m1 h1 => ?_)
  have hm1 := h1.mall hm
  refine T_aload_n (pc := 266) (i := 2) dL_law__266 rfl rfl ?_
  refine T_aload_n (pc := 267) (i := 0) dL_law__267 rfl rfl ?_
  refine T_iload (pc := 268) (i := 4) dL_law__268 rfl ?_
  refine T_iconst (pc := 270) (v := nI 1) dL_law__270 (by decide) ?_
  refine R_iadd (pc := 271) dL_law__271 ?_
  refine T_sld (pc := 272) (i := (i + 1)) (by omega) (by omega) dL_law__272 ?_
  refine T_aload_n (pc := 273) (i := 0) dL_law__273 rfl rfl ?_
  refine T_iload (pc := 274) (i := 4) dL_law__274 rfl ?_
  refine T_iconst (pc := 276) (v := nI 2) dL_law__276 (by decide) ?_
  refine R_iadd (pc := 277) dL_law__277 ?_
  refine T_sld (pc := 278) (i := (i + 2)) (by omega) (by omega) dL_law__278 ?_
  refine T_aload_n (pc := 279) (i := 0) dL_law__279 rfl rfl ?_
  refine T_iload (pc := 280) (i := 4) dL_law__280 rfl ?_
  refine T_iconst (pc := 282) (v := nI 3) dL_law__282 (by decide) ?_
  refine R_iadd (pc := 283) dL_law__283 ?_
  refine T_sld (pc := 284) (i := (i + 3)) (by omega) (by omega) dL_law__284 ?_
  refine T_aload_n (pc := 285) (i := 0) dL_law__285 rfl rfl ?_
  refine T_iload (pc := 286) (i := 4) dL_law__286 rfl ?_
  refine T_iconst (pc := 288) (v := nI 4) dL_law__288 (by decide) ?_
  refine R_iadd (pc := 289) dL_law__289 ?_
  refine T_sld (pc := 290) (i := (i + 4)) (by omega) (by omega) dL_law__290 ?_
  refine T_aload_n (pc := 291) (i := 0) dL_law__291 rfl rfl ?_
  refine T_iload (pc := 292) (i := 4) dL_law__292 rfl ?_
  refine T_iconst (pc := 294) (v := nI 5) dL_law__294 (by decide) ?_
  refine R_iadd (pc := 295) dL_law__295 ?_
  refine T_sld (pc := 296) (i := (i + 5)) (by omega) (by omega) dL_law__296 ?_
  refine R_callVm1 (pc := 297) (As := [.int ((gsx γ (i + 1))), .int ((gsx γ (i + 2))), .int ((gsx γ (i + 3))), .int ((gsx γ (i + 4))), .int ((gsx γ (i + 5)))]) (rest := [.int ((if s.2.2.2.2.1.length + 20 ≤ 400 then nI (s.2.2.2.2.1.length + 20) else -1))]) (Or.inl lk_L_145) mk_X12_feed (m_feedA hm1) kc_572 ⟨by decide, rfl⟩ lc_572 dL_law__297 rfl rfl (Nat.le_of_ble_eq_true rfl) (by omega) rfl (by omega) (by omega) (fun m2 h2 => ?_)
  have hc2 := h2.call h1.1
  show T _ _ _ _ _ _ _ _ 300 [some (.ref XB), some (.ref 0), some (.ref 572), some (.ref 594), some (.int (nI i)), none, none, none] [.int ((if s.2.2.2.2.1.length + 20 ≤ 400 then nI (s.2.2.2.2.1.length + 20) else -1)), .int ((if s.2.2.2.2.1.length + 20 ≤ 400 then nI (s.2.2.2.2.1.length + 20) else -1))] (rm m2)
  refine T_icmp_eq (pc := 300) (tgt := 3335) dL_law__300 (by decide) (fun g1 => ?_) (fun g1 => ?_)
  · exact nx _ _ m2 _ hc2 h2.1 (by omega) (by omega)
  · exact absurd rfl g1
theorem z_end (hD : 40 ≤ D) (hi : i + 7 ≤ gsl γ) (h3 : gsl γ ≤ 3584) (hk : kc + 5 ≤ mc) (hks : ks + 30 ≤ ms) (hc : CAll m s) (hm : MAll m s) (nx : LawNext γ D mc ms Q i kc ks) : T γ D mc ms M_L_law_ Q kc ks 305 [some (.ref XB), some (.ref 0), some (.ref 572), some (.ref 594), some (.int (nI i)), none, none, none] [] (rm m) := by
  refine T_aload_n (pc := 305) (i := 1) dL_law__305 rfl rfl ?_
  refine T_aload_n (pc := 306) (i := 0) dL_law__306 rfl rfl ?_
  refine T_iload (pc := 307) (i := 4) dL_law__307 rfl ?_
  refine T_iconst (pc := 309) (v := nI 1) dL_law__309 (by decide) ?_
  refine R_iadd (pc := 310) dL_law__310 ?_
  refine T_sld (pc := 311) (i := (i + 1)) (by omega) (by omega) dL_law__311 ?_
  refine R_callVm1 (pc := 312) (As := [.int ((gsx γ (i + 1)))]) (rest := []) (Or.inl lk_L_146) mk_X11_end (k_end hc) kc_0 ⟨by decide, rfl⟩ lc_0 dL_law__312 rfl rfl (Nat.le_of_ble_eq_true rfl) (by omega) rfl (by omega) (by omega) (fun m1 h1 => ?_)
  have hm1 := h1.mall hm
  refine T_aload_n (pc := 315) (i := 2) dL_law__315 rfl rfl ?_
  refine T_aload_n (pc := 316) (i := 0) dL_law__316 rfl rfl ?_
  refine T_iload (pc := 317) (i := 4) dL_law__317 rfl ?_
  refine T_iconst (pc := 319) (v := nI 1) dL_law__319 (by decide) ?_
  refine R_iadd (pc := 320) dL_law__320 ?_
  refine T_sld (pc := 321) (i := (i + 1)) (by omega) (by omega) dL_law__321 ?_
  refine R_callVm1 (pc := 322) (As := [.int ((gsx γ (i + 1)))]) (rest := [.int (bI (inB (gsx γ (i + 1)) (s.2.2.2.2.1.length + 1)))]) (Or.inl lk_L_150) mk_X12_end (m_endA hm1) kc_572 ⟨by decide, rfl⟩ lc_572 dL_law__322 rfl rfl (Nat.le_of_ble_eq_true rfl) (by omega) rfl (by omega) (by omega) (fun m2 h2 => ?_)
  have hc2 := h2.call h1.1
  show T _ _ _ _ _ _ _ _ 325 [some (.ref XB), some (.ref 0), some (.ref 572), some (.ref 594), some (.int (nI i)), none, none, none] [.int (bI (inB (gsx γ (i + 1)) (s.2.2.2.2.1.length + 1))), .int (bI (inB (gsx γ (i + 1)) (s.2.2.2.2.1.length + 1)))] (rm m2)
  refine T_icmp_eq (pc := 325) (tgt := 3335) dL_law__325 (by decide) (fun g1 => ?_) (fun g1 => ?_)
  · exact nx _ _ m2 _ hc2 h2.1 (by omega) (by omega)
  · exact absurd rfl g1
theorem z_valley (hD : 40 ≤ D) (hi : i + 7 ≤ gsl γ) (h3 : gsl γ ≤ 3584) (hk : kc + 5 ≤ mc) (hks : ks + 30 ≤ ms) (hc : CAll m s) (hm : MAll m s) (nx : LawNext γ D mc ms Q i kc ks) : T γ D mc ms M_L_law_ Q kc ks 330 [some (.ref XB), some (.ref 0), some (.ref 572), some (.ref 594), some (.int (nI i)), none, none, none] [] (rm m) := by
  refine T_aload_n (pc := 330) (i := 1) dL_law__330 rfl rfl ?_
  refine T_aload_n (pc := 331) (i := 3) dL_law__331 rfl rfl ?_
  refine T_callSH (pc := 332) (av := [.ref 0, .ref 594]) (rest := []) lk_L_151 mk_L_valley (w_valley hc) dL_law__332 rfl rfl (Nat.le_of_ble_eq_true rfl) (by omega) rfl (by omega) (by omega) (fun E m' h => by obtain ⟨_, z, _⟩ := h; cases z) (fun v m' h => ?_)
  obtain ⟨m1, h0, rfl, h1, h2, h4⟩ := h
  cases h0
  have hm1 : MAll m1 s := hm.ofc (fun k a b => h4 k (by unfold Swr; omega))
  have tle : (vyT s.2.2.2.2.1 s.1) ≤ 2 := Nat.le_trans (vyT_le _ _) (by decide)
  show T _ _ _ _ _ _ _ _ 335 [some (.ref XB), some (.ref 0), some (.ref 572), some (.ref 594), some (.int (nI i)), none, none, none] [.int (nI (vyT s.2.2.2.2.1 s.1))] (rm m1)
  refine T_istore (pc := 335) (i := 5) (ls' := [some (.ref XB), some (.ref 0), some (.ref 572), some (.ref 594), some (.int (nI i)), some (.int (nI (vyT s.2.2.2.2.1 s.1))), none, none]) dL_law__335 (by decide) rfl ?_
  refine T_aload_n (pc := 337) (i := 2) dL_law__337 rfl rfl ?_
  refine R_callVm1 (pc := 338) (As := []) (rest := []) (Or.inl lk_L_156) mk_X12_valley (m_valleyA hm1) kc_572 ⟨by decide, rfl⟩ lc_572 dL_law__338 rfl rfl (Nat.le_of_ble_eq_true rfl) (by omega) rfl (by omega) (by omega) (fun m2 h5 => ?_)
  have hc2 := h5.call h1
  refine T_istore (pc := 341) (i := 6) (ls' := [some (.ref XB), some (.ref 0), some (.ref 572), some (.ref 594), some (.int (nI i)), some (.int (nI (vyT s.2.2.2.2.1 s.1))), some (.int ((vyV s.2.2.2.2.1 s.1))), none]) dL_law__341 (by decide) rfl ?_
  refine T_aload_n (pc := 343) (i := 2) dL_law__343 rfl rfl ?_
  refine R_callV1 (pc := 344) (As := []) (rest := []) (Or.inl lk_L_157) mk_X12_thrown (m_thrown h5.2.1) kc_572 ⟨by decide, rfl⟩ lc_572 dL_law__344 rfl rfl (Nat.le_of_ble_eq_true rfl) (by omega) rfl (by omega) (by omega) ?_
  refine T_iload (pc := 347) (i := 5) dL_law__347 rfl ?_
  refine R_icmp_eq (pc := 349) (tgt := 354) (by omega) (by omega) dL_law__349 (by decide) (fun g1 => ?_) (fun g1 => ?_)
  · skip
    refine T_iload (pc := 354) (i := 5) dL_law__354 rfl ?_
    refine R_if_ne (pc := 356) (tgt := 371) (by omega) dL_law__356 (by decide) (fun g2 => ?_) (fun g2 => ?_)
    · skip
      refine T_goto (pc := 371) (tgt := 3335) dL_law__371 (by decide) ?_
      refine T_ls (ls' := [some (.ref XB), some (.ref 0), some (.ref 572), some (.ref 594), some (.int (nI i)), none, none, none]) (And.intro rfl (And.intro rfl (And.intro rfl (And.intro rfl (And.intro rfl True.intro))))) ?_
      exact nx _ _ m2 _ hc2 h5.1 (by omega) (by omega)
    · skip
      have ho : m2.2 594 0 = ((vyV s.2.2.2.2.1 s.1)).toInt64 := (congrFun (h5.2.2 594 (by unfold Smo; omega)).2 0).trans (h2 g2)
      refine T_aload_n (pc := 359) (i := 3) dL_law__359 rfl rfl ?_
      refine T_iconst (pc := 360) (v := nI 0) dL_law__360 (by decide) ?_
      refine R_lald (pc := 361) (x := (((vyV s.2.2.2.2.1 s.1)).toInt64)) kc_594 lc_594 (by omega) (by first | decide | assumption) ho dL_law__361 ?_
      refine T_iload (pc := 362) (i := 6) dL_law__362 rfl ?_
      refine T_i2l (pc := 364) dL_law__364 ?_
      refine T_lcmp (pc := 365) dL_law__365 ?_
      refine R_lx_eq (pc := 366) (tgt := 371) dL_law__366 (by decide) (fun g4 => ?_) (fun g4 => ?_)
      · skip
        refine T_goto (pc := 371) (tgt := 3335) dL_law__371 (by decide) ?_
        refine T_ls (ls' := [some (.ref XB), some (.ref 0), some (.ref 572), some (.ref 594), some (.int (nI i)), none, none, none]) (And.intro rfl (And.intro rfl (And.intro rfl (And.intro rfl (And.intro rfl True.intro))))) ?_
        exact nx _ _ m2 _ hc2 h5.1 (by omega) (by omega)
      · exact absurd rfl g4
  · exact absurd rfl g1
theorem z_law (hD : 40 ≤ D) (hi : i + 7 ≤ gsl γ) (h3 : gsl γ ≤ 3584) (hk : kc + 5 ≤ mc) (hks : ks + 30 ≤ ms) (hc : CAll m s) (hm : MAll m s) (nx : LawNext γ D mc ms Q i kc ks) : T γ D mc ms M_L_law_ Q kc ks 374 [some (.ref XB), some (.ref 0), some (.ref 572), some (.ref 594), some (.int (nI i)), none, none, none] [] (rm m) := by
  refine T_aload_n (pc := 374) (i := 1) dL_law__374 rfl rfl ?_
  refine T_aload_n (pc := 375) (i := 3) dL_law__375 rfl rfl ?_
  refine T_callSH (pc := 376) (av := [.ref 0, .ref 594]) (rest := []) lk_L_160 mk_L_law (w_law hc) dL_law__376 rfl rfl (Nat.le_of_ble_eq_true rfl) (by omega) rfl (by omega) (by omega) (fun E m' h => by obtain ⟨_, z, _⟩ := h; cases z) (fun v m' h => ?_)
  obtain ⟨m1, h0, rfl, h1, h2, h4⟩ := h
  cases h0
  have hm1 : MAll m1 s := hm.ofc (fun k a b => h4 k (by unfold Swr; omega))
  have tle : (lyT s.2.2.2.2.1) ≤ 2 := Nat.le_trans (lyT_le _) (by decide)
  show T _ _ _ _ _ _ _ _ 379 [some (.ref XB), some (.ref 0), some (.ref 572), some (.ref 594), some (.int (nI i)), none, none, none] [.int (nI (lyT s.2.2.2.2.1))] (rm m1)
  refine T_istore (pc := 379) (i := 5) (ls' := [some (.ref XB), some (.ref 0), some (.ref 572), some (.ref 594), some (.int (nI i)), some (.int (nI (lyT s.2.2.2.2.1))), none, none]) dL_law__379 (by decide) rfl ?_
  refine T_aload_n (pc := 381) (i := 2) dL_law__381 rfl rfl ?_
  refine R_callVm1 (pc := 382) (As := []) (rest := []) (Or.inl lk_L_162) mk_X12_law (m_lawA hm1) kc_572 ⟨by decide, rfl⟩ lc_572 dL_law__382 rfl rfl (Nat.le_of_ble_eq_true rfl) (by omega) rfl (by omega) (by omega) (fun m2 h5 => ?_)
  have hc2 := h5.call h1
  refine T_istore (pc := 385) (i := 6) (ls' := [some (.ref XB), some (.ref 0), some (.ref 572), some (.ref 594), some (.int (nI i)), some (.int (nI (lyT s.2.2.2.2.1))), some (.int ((lyV s.2.2.2.2.1))), none]) dL_law__385 (by decide) rfl ?_
  refine T_aload_n (pc := 387) (i := 2) dL_law__387 rfl rfl ?_
  refine R_callV1 (pc := 388) (As := []) (rest := []) (Or.inl lk_L_157) mk_X12_thrown (m_thrown h5.2.1) kc_572 ⟨by decide, rfl⟩ lc_572 dL_law__388 rfl rfl (Nat.le_of_ble_eq_true rfl) (by omega) rfl (by omega) (by omega) ?_
  refine T_iload (pc := 391) (i := 5) dL_law__391 rfl ?_
  refine R_icmp_eq (pc := 393) (tgt := 398) (by omega) (by omega) dL_law__393 (by decide) (fun g1 => ?_) (fun g1 => ?_)
  · skip
    refine T_iload (pc := 398) (i := 5) dL_law__398 rfl ?_
    refine R_if_ne (pc := 400) (tgt := 415) (by omega) dL_law__400 (by decide) (fun g2 => ?_) (fun g2 => ?_)
    · skip
      refine T_goto (pc := 415) (tgt := 3335) dL_law__415 (by decide) ?_
      refine T_ls (ls' := [some (.ref XB), some (.ref 0), some (.ref 572), some (.ref 594), some (.int (nI i)), none, none, none]) (And.intro rfl (And.intro rfl (And.intro rfl (And.intro rfl (And.intro rfl True.intro))))) ?_
      exact nx _ _ m2 _ hc2 h5.1 (by omega) (by omega)
    · skip
      have ho : m2.2 594 0 = ((lyV s.2.2.2.2.1)).toInt64 := (congrFun (h5.2.2 594 (by unfold Smo; omega)).2 0).trans (h2 g2)
      refine T_aload_n (pc := 403) (i := 3) dL_law__403 rfl rfl ?_
      refine T_iconst (pc := 404) (v := nI 0) dL_law__404 (by decide) ?_
      refine R_lald (pc := 405) (x := (((lyV s.2.2.2.2.1)).toInt64)) kc_594 lc_594 (by omega) (by first | decide | assumption) ho dL_law__405 ?_
      refine T_iload (pc := 406) (i := 6) dL_law__406 rfl ?_
      refine T_i2l (pc := 408) dL_law__408 ?_
      refine T_lcmp (pc := 409) dL_law__409 ?_
      refine R_lx_eq (pc := 410) (tgt := 415) dL_law__410 (by decide) (fun g4 => ?_) (fun g4 => ?_)
      · skip
        refine T_goto (pc := 415) (tgt := 3335) dL_law__415 (by decide) ?_
        refine T_ls (ls' := [some (.ref XB), some (.ref 0), some (.ref 572), some (.ref 594), some (.int (nI i)), none, none, none]) (And.intro rfl (And.intro rfl (And.intro rfl (And.intro rfl (And.intro rfl True.intro))))) ?_
        exact nx _ _ m2 _ hc2 h5.1 (by omega) (by omega)
      · exact absurd rfl g4
  · exact absurd rfl g1
theorem z_fault (hD : 40 ≤ D) (hi : i + 7 ≤ gsl γ) (h3 : gsl γ ≤ 3584) (hk : kc + 5 ≤ mc) (hks : ks + 30 ≤ ms) (hc : CAll m s) (hm : MAll m s) (nx : LawNext γ D mc ms Q i kc ks) : T γ D mc ms M_L_law_ Q kc ks 418 [some (.ref XB), some (.ref 0), some (.ref 572), some (.ref 594), some (.int (nI i)), none, none, none] [] (rm m) := by
  refine T_aload_n (pc := 418) (i := 1) dL_law__418 rfl rfl ?_
  refine R_callVm1 (pc := 419) (As := []) (rest := []) (Or.inl lk_L_163) mk_X11_fault (k_fault hc) kc_0 ⟨by decide, rfl⟩ lc_0 dL_law__419 rfl rfl (Nat.le_of_ble_eq_true rfl) (by omega) rfl (by omega) (by omega) (fun m1 h1 => ?_)
  have hm1 := h1.mall hm
  refine T_aload_n (pc := 422) (i := 2) dL_law__422 rfl rfl ?_
  refine R_callVm1 (pc := 423) (As := []) (rest := [.int (s.2.2.2.2.2)]) (Or.inl lk_L_166) mk_X12_fault (q_fault hm1) kc_572 ⟨by decide, rfl⟩ lc_572 dL_law__423 rfl rfl (Nat.le_of_ble_eq_true rfl) (by omega) rfl (by omega) (by omega) (fun m2 h2 => ?_)
  have hc2 := h2.call h1.1
  show T _ _ _ _ _ _ _ _ 426 [some (.ref XB), some (.ref 0), some (.ref 572), some (.ref 594), some (.int (nI i)), none, none, none] [.int (s.2.2.2.2.2), .int (s.2.2.2.2.2)] (rm m2)
  refine T_icmp_eq (pc := 426) (tgt := 3335) dL_law__426 (by decide) (fun g1 => ?_) (fun g1 => ?_)
  · exact nx _ _ m2 _ hc2 h2.1 (by omega) (by omega)
  · exact absurd rfl g1
theorem z_rule (hD : 40 ≤ D) (hi : i + 7 ≤ gsl γ) (h3 : gsl γ ≤ 3584) (hk : kc + 5 ≤ mc) (hks : ks + 30 ≤ ms) (hc : CAll m s) (hm : MAll m s) (nx : LawNext γ D mc ms Q i kc ks) : T γ D mc ms M_L_law_ Q kc ks 431 [some (.ref XB), some (.ref 0), some (.ref 572), some (.ref 594), some (.int (nI i)), none, none, none] [] (rm m) := by
  refine T_aload_n (pc := 431) (i := 1) dL_law__431 rfl rfl ?_
  refine T_aload_n (pc := 432) (i := 0) dL_law__432 rfl rfl ?_
  refine T_iload (pc := 433) (i := 4) dL_law__433 rfl ?_
  refine T_iconst (pc := 435) (v := nI 1) dL_law__435 (by decide) ?_
  refine R_iadd (pc := 436) dL_law__436 ?_
  refine T_sld (pc := 437) (i := (i + 1)) (by omega) (by omega) dL_law__437 ?_
  refine T_aload_n (pc := 438) (i := 0) dL_law__438 rfl rfl ?_
  refine T_iload (pc := 439) (i := 4) dL_law__439 rfl ?_
  refine T_iconst (pc := 441) (v := nI 2) dL_law__441 (by decide) ?_
  refine R_iadd (pc := 442) dL_law__442 ?_
  refine T_sld (pc := 443) (i := (i + 2)) (by omega) (by omega) dL_law__443 ?_
  refine T_if_eq (pc := 444) (tgt := 451) dL_law__444 (by decide) (fun hb1 => ?_) (fun hb1 => ?_)
  · skip
    refine T_iconst (pc := 451) (v := nI 0) dL_law__451 (by decide) ?_
    refine T_topi (v := bI false) rfl ?_
    refine T_aload_n (pc := 452) (i := 3) dL_law__452 rfl rfl ?_
    refine T_callSH (pc := 453) (av := [.ref 0, .int ((gsx γ (i + 1))), .int (bI false), .ref 594]) (rest := []) lk_L_167 mk_L_rule (w_rule hc) dL_law__453 rfl rfl (Nat.le_of_ble_eq_true rfl) (by omega) rfl (by omega) (by omega) (fun E m' h => by obtain ⟨_, z, _⟩ := h; cases z) (fun v m' h => ?_)
    obtain ⟨m1, h0, rfl, h1, h2, h4⟩ := h
    cases h0
    have hm1 : MAll m1 s := hm.ofc (fun k a b => h4 k (by unfold Swr; omega))
    have tle : (if inB (gsx γ (i + 1)) s.1.R.length = true then 0 else 1) ≤ 2 := Nat.le_trans (mI_le _) (by decide)
    show T _ _ _ _ _ _ _ _ 456 [some (.ref XB), some (.ref 0), some (.ref 572), some (.ref 594), some (.int (nI i)), none, none, none] [.int (nI (if inB (gsx γ (i + 1)) s.1.R.length = true then 0 else 1))] (rm m1)
    refine T_istore (pc := 456) (i := 5) (ls' := [some (.ref XB), some (.ref 0), some (.ref 572), some (.ref 594), some (.int (nI i)), some (.int (nI (if inB (gsx γ (i + 1)) s.1.R.length = true then 0 else 1))), none, none]) dL_law__456 (by decide) rfl ?_
    refine T_aload_n (pc := 458) (i := 2) dL_law__458 rfl rfl ?_
    refine T_aload_n (pc := 459) (i := 0) dL_law__459 rfl rfl ?_
    refine T_iload (pc := 460) (i := 4) dL_law__460 rfl ?_
    refine T_iconst (pc := 462) (v := nI 1) dL_law__462 (by decide) ?_
    refine R_iadd (pc := 463) dL_law__463 ?_
    refine T_sld (pc := 464) (i := (i + 1)) (by omega) (by omega) dL_law__464 ?_
    refine T_aload_n (pc := 465) (i := 0) dL_law__465 rfl rfl ?_
    refine T_iload (pc := 466) (i := 4) dL_law__466 rfl ?_
    refine T_iconst (pc := 468) (v := nI 2) dL_law__468 (by decide) ?_
    refine R_iadd (pc := 469) dL_law__469 ?_
    refine T_sld (pc := 470) (i := (i + 2)) (by omega) (by omega) dL_law__470 ?_
    refine T_if_eq (pc := 471) (tgt := 478) dL_law__471 (by decide) (fun hb2 => ?_) (fun hb2 => ?_)
    · skip
      refine T_iconst (pc := 478) (v := nI 0) dL_law__478 (by decide) ?_
      refine T_topi (v := bI false) rfl ?_
      refine R_callVm1 (pc := 479) (As := [.int ((gsx γ (i + 1))), .int (bI false)]) (rest := []) (Or.inl lk_L_170) mk_X12_rule (q_rule hm1) kc_572 ⟨by decide, rfl⟩ lc_572 dL_law__479 rfl rfl (Nat.le_of_ble_eq_true rfl) (by omega) rfl (by omega) (by omega) (fun m2 h5 => ?_)
      have hc2 := h5.call h1
      refine T_lstore (pc := 482) (i := 6) (ls' := [some (.ref XB), some (.ref 0), some (.ref 572), some (.ref 594), some (.int (nI i)), some (.int (nI (if inB (gsx γ (i + 1)) s.1.R.length = true then 0 else 1))), some (.long ((if inB (gsx γ (i + 1)) s.1.R.length = true then lN (cd (if false = true then (rAt s.1.R (gsx γ (i + 1)).toNatClampNeg).2 else (rAt s.1.R (gsx γ (i + 1)).toNatClampNeg).1)) else lN 0))), none]) dL_law__482 (by decide) rfl ?_
      refine T_aload_n (pc := 484) (i := 2) dL_law__484 rfl rfl ?_
      refine R_callV1 (pc := 485) (As := []) (rest := []) (Or.inl lk_L_157) mk_X12_thrown (m_thrown h5.2.1) kc_572 ⟨by decide, rfl⟩ lc_572 dL_law__485 rfl rfl (Nat.le_of_ble_eq_true rfl) (by omega) rfl (by omega) (by omega) ?_
      refine T_iload (pc := 488) (i := 5) dL_law__488 rfl ?_
      refine R_icmp_eq (pc := 490) (tgt := 495) (by omega) (by omega) dL_law__490 (by decide) (fun g1 => ?_) (fun g1 => ?_)
      · skip
        refine T_iload (pc := 495) (i := 5) dL_law__495 rfl ?_
        refine R_if_ne (pc := 497) (tgt := 511) (by omega) dL_law__497 (by decide) (fun g2 => ?_) (fun g2 => ?_)
        · skip
          refine T_goto (pc := 511) (tgt := 3335) dL_law__511 (by decide) ?_
          refine T_ls (ls' := [some (.ref XB), some (.ref 0), some (.ref 572), some (.ref 594), some (.int (nI i)), none, none, none]) (And.intro rfl (And.intro rfl (And.intro rfl (And.intro rfl (And.intro rfl True.intro))))) ?_
          exact nx _ _ m2 _ hc2 h5.1 (by omega) (by omega)
        · skip
          have ho : m2.2 594 0 = (if inB (gsx γ (i + 1)) s.1.R.length = true then lN (cd (if false = true then (rAt s.1.R (gsx γ (i + 1)).toNatClampNeg).2 else (rAt s.1.R (gsx γ (i + 1)).toNatClampNeg).1)) else lN 0) := (congrFun (h5.2.2 594 (by unfold Smo; omega)).2 0).trans (h2 g2)
          refine T_aload_n (pc := 500) (i := 3) dL_law__500 rfl rfl ?_
          refine T_iconst (pc := 501) (v := nI 0) dL_law__501 (by decide) ?_
          refine R_lald (pc := 502) (x := (if inB (gsx γ (i + 1)) s.1.R.length = true then lN (cd (if false = true then (rAt s.1.R (gsx γ (i + 1)).toNatClampNeg).2 else (rAt s.1.R (gsx γ (i + 1)).toNatClampNeg).1)) else lN 0)) kc_594 lc_594 (by omega) (by first | decide | assumption) ho dL_law__502 ?_
          refine T_lload (pc := 503) (i := 6) dL_law__503 rfl ?_
          refine T_lcmp (pc := 505) dL_law__505 ?_
          refine R_lx_eq (pc := 506) (tgt := 511) dL_law__506 (by decide) (fun g4 => ?_) (fun g4 => ?_)
          · skip
            refine T_goto (pc := 511) (tgt := 3335) dL_law__511 (by decide) ?_
            refine T_ls (ls' := [some (.ref XB), some (.ref 0), some (.ref 572), some (.ref 594), some (.int (nI i)), none, none, none]) (And.intro rfl (And.intro rfl (And.intro rfl (And.intro rfl (And.intro rfl True.intro))))) ?_
            exact nx _ _ m2 _ hc2 h5.1 (by omega) (by omega)
          · exact absurd rfl g4
      · exact absurd rfl g1
    · skip
      exact absurd hb1 hb2
  · skip
    refine T_iconst (pc := 447) (v := nI 1) dL_law__447 (by decide) ?_
    refine T_goto (pc := 448) (tgt := 452) dL_law__448 (by decide) ?_
    refine T_topi (v := bI true) rfl ?_
    refine T_aload_n (pc := 452) (i := 3) dL_law__452 rfl rfl ?_
    refine T_callSH (pc := 453) (av := [.ref 0, .int ((gsx γ (i + 1))), .int (bI true), .ref 594]) (rest := []) lk_L_167 mk_L_rule (w_rule hc) dL_law__453 rfl rfl (Nat.le_of_ble_eq_true rfl) (by omega) rfl (by omega) (by omega) (fun E m' h => by obtain ⟨_, z, _⟩ := h; cases z) (fun v m' h => ?_)
    obtain ⟨m1, h0, rfl, h1, h2, h4⟩ := h
    cases h0
    have hm1 : MAll m1 s := hm.ofc (fun k a b => h4 k (by unfold Swr; omega))
    have tle : (if inB (gsx γ (i + 1)) s.1.R.length = true then 0 else 1) ≤ 2 := Nat.le_trans (mI_le _) (by decide)
    show T _ _ _ _ _ _ _ _ 456 [some (.ref XB), some (.ref 0), some (.ref 572), some (.ref 594), some (.int (nI i)), none, none, none] [.int (nI (if inB (gsx γ (i + 1)) s.1.R.length = true then 0 else 1))] (rm m1)
    refine T_istore (pc := 456) (i := 5) (ls' := [some (.ref XB), some (.ref 0), some (.ref 572), some (.ref 594), some (.int (nI i)), some (.int (nI (if inB (gsx γ (i + 1)) s.1.R.length = true then 0 else 1))), none, none]) dL_law__456 (by decide) rfl ?_
    refine T_aload_n (pc := 458) (i := 2) dL_law__458 rfl rfl ?_
    refine T_aload_n (pc := 459) (i := 0) dL_law__459 rfl rfl ?_
    refine T_iload (pc := 460) (i := 4) dL_law__460 rfl ?_
    refine T_iconst (pc := 462) (v := nI 1) dL_law__462 (by decide) ?_
    refine R_iadd (pc := 463) dL_law__463 ?_
    refine T_sld (pc := 464) (i := (i + 1)) (by omega) (by omega) dL_law__464 ?_
    refine T_aload_n (pc := 465) (i := 0) dL_law__465 rfl rfl ?_
    refine T_iload (pc := 466) (i := 4) dL_law__466 rfl ?_
    refine T_iconst (pc := 468) (v := nI 2) dL_law__468 (by decide) ?_
    refine R_iadd (pc := 469) dL_law__469 ?_
    refine T_sld (pc := 470) (i := (i + 2)) (by omega) (by omega) dL_law__470 ?_
    refine T_if_eq (pc := 471) (tgt := 478) dL_law__471 (by decide) (fun hb3 => ?_) (fun hb3 => ?_)
    · skip
      exact absurd hb3 hb1
    · skip
      refine T_iconst (pc := 474) (v := nI 1) dL_law__474 (by decide) ?_
      refine T_goto (pc := 475) (tgt := 479) dL_law__475 (by decide) ?_
      refine T_topi (v := bI true) rfl ?_
      refine R_callVm1 (pc := 479) (As := [.int ((gsx γ (i + 1))), .int (bI true)]) (rest := []) (Or.inl lk_L_170) mk_X12_rule (q_rule hm1) kc_572 ⟨by decide, rfl⟩ lc_572 dL_law__479 rfl rfl (Nat.le_of_ble_eq_true rfl) (by omega) rfl (by omega) (by omega) (fun m2 h5 => ?_)
      have hc2 := h5.call h1
      refine T_lstore (pc := 482) (i := 6) (ls' := [some (.ref XB), some (.ref 0), some (.ref 572), some (.ref 594), some (.int (nI i)), some (.int (nI (if inB (gsx γ (i + 1)) s.1.R.length = true then 0 else 1))), some (.long ((if inB (gsx γ (i + 1)) s.1.R.length = true then lN (cd (if true = true then (rAt s.1.R (gsx γ (i + 1)).toNatClampNeg).2 else (rAt s.1.R (gsx γ (i + 1)).toNatClampNeg).1)) else lN 0))), none]) dL_law__482 (by decide) rfl ?_
      refine T_aload_n (pc := 484) (i := 2) dL_law__484 rfl rfl ?_
      refine R_callV1 (pc := 485) (As := []) (rest := []) (Or.inl lk_L_157) mk_X12_thrown (m_thrown h5.2.1) kc_572 ⟨by decide, rfl⟩ lc_572 dL_law__485 rfl rfl (Nat.le_of_ble_eq_true rfl) (by omega) rfl (by omega) (by omega) ?_
      refine T_iload (pc := 488) (i := 5) dL_law__488 rfl ?_
      refine R_icmp_eq (pc := 490) (tgt := 495) (by omega) (by omega) dL_law__490 (by decide) (fun g1 => ?_) (fun g1 => ?_)
      · skip
        refine T_iload (pc := 495) (i := 5) dL_law__495 rfl ?_
        refine R_if_ne (pc := 497) (tgt := 511) (by omega) dL_law__497 (by decide) (fun g2 => ?_) (fun g2 => ?_)
        · skip
          refine T_goto (pc := 511) (tgt := 3335) dL_law__511 (by decide) ?_
          refine T_ls (ls' := [some (.ref XB), some (.ref 0), some (.ref 572), some (.ref 594), some (.int (nI i)), none, none, none]) (And.intro rfl (And.intro rfl (And.intro rfl (And.intro rfl (And.intro rfl True.intro))))) ?_
          exact nx _ _ m2 _ hc2 h5.1 (by omega) (by omega)
        · skip
          have ho : m2.2 594 0 = (if inB (gsx γ (i + 1)) s.1.R.length = true then lN (cd (if true = true then (rAt s.1.R (gsx γ (i + 1)).toNatClampNeg).2 else (rAt s.1.R (gsx γ (i + 1)).toNatClampNeg).1)) else lN 0) := (congrFun (h5.2.2 594 (by unfold Smo; omega)).2 0).trans (h2 g2)
          refine T_aload_n (pc := 500) (i := 3) dL_law__500 rfl rfl ?_
          refine T_iconst (pc := 501) (v := nI 0) dL_law__501 (by decide) ?_
          refine R_lald (pc := 502) (x := (if inB (gsx γ (i + 1)) s.1.R.length = true then lN (cd (if true = true then (rAt s.1.R (gsx γ (i + 1)).toNatClampNeg).2 else (rAt s.1.R (gsx γ (i + 1)).toNatClampNeg).1)) else lN 0)) kc_594 lc_594 (by omega) (by first | decide | assumption) ho dL_law__502 ?_
          refine T_lload (pc := 503) (i := 6) dL_law__503 rfl ?_
          refine T_lcmp (pc := 505) dL_law__505 ?_
          refine R_lx_eq (pc := 506) (tgt := 511) dL_law__506 (by decide) (fun g4 => ?_) (fun g4 => ?_)
          · skip
            refine T_goto (pc := 511) (tgt := 3335) dL_law__511 (by decide) ?_
            refine T_ls (ls' := [some (.ref XB), some (.ref 0), some (.ref 572), some (.ref 594), some (.int (nI i)), none, none, none]) (And.intro rfl (And.intro rfl (And.intro rfl (And.intro rfl (And.intro rfl True.intro))))) ?_
            exact nx _ _ m2 _ hc2 h5.1 (by omega) (by omega)
          · exact absurd rfl g4
      · exact absurd rfl g1
theorem z_field (hD : 40 ≤ D) (hi : i + 7 ≤ gsl γ) (h3 : gsl γ ≤ 3584) (hk : kc + 5 ≤ mc) (hks : ks + 30 ≤ ms) (hc : CAll m s) (hm : MAll m s) (nx : LawNext γ D mc ms Q i kc ks) : T γ D mc ms M_L_law_ Q kc ks 514 [some (.ref XB), some (.ref 0), some (.ref 572), some (.ref 594), some (.int (nI i)), none, none, none] [] (rm m) := by
  refine T_aload_n (pc := 514) (i := 1) dL_law__514 rfl rfl ?_
  refine T_aload_n (pc := 515) (i := 0) dL_law__515 rfl rfl ?_
  refine T_iload (pc := 516) (i := 4) dL_law__516 rfl ?_
  refine T_iconst (pc := 518) (v := nI 1) dL_law__518 (by decide) ?_
  refine R_iadd (pc := 519) dL_law__519 ?_
  refine T_sld (pc := 520) (i := (i + 1)) (by omega) (by omega) dL_law__520 ?_
  refine T_aload_n (pc := 521) (i := 3) dL_law__521 rfl rfl ?_
  refine T_callSH (pc := 522) (av := [.ref 0, .int ((gsx γ (i + 1))), .ref 594]) (rest := []) lk_L_171 mk_L_field (w_field hc) dL_law__522 rfl rfl (Nat.le_of_ble_eq_true rfl) (by omega) rfl (by omega) (by omega) (fun E m' h => by obtain ⟨_, z, _⟩ := h; cases z) (fun v m' h => ?_)
  obtain ⟨m1, h0, rfl, h1, h2, h4⟩ := h
  cases h0
  have hm1 : MAll m1 s := hm.ofc (fun k a b => h4 k (by unfold Swr; omega))
  have tle : (if inB (gsx γ (i + 1)) s.1.F.length = true then 0 else 1) ≤ 2 := Nat.le_trans (mI_le _) (by decide)
  show T _ _ _ _ _ _ _ _ 525 [some (.ref XB), some (.ref 0), some (.ref 572), some (.ref 594), some (.int (nI i)), none, none, none] [.int (nI (if inB (gsx γ (i + 1)) s.1.F.length = true then 0 else 1))] (rm m1)
  refine T_istore (pc := 525) (i := 5) (ls' := [some (.ref XB), some (.ref 0), some (.ref 572), some (.ref 594), some (.int (nI i)), some (.int (nI (if inB (gsx γ (i + 1)) s.1.F.length = true then 0 else 1))), none, none]) dL_law__525 (by decide) rfl ?_
  refine T_aload_n (pc := 527) (i := 2) dL_law__527 rfl rfl ?_
  refine T_aload_n (pc := 528) (i := 0) dL_law__528 rfl rfl ?_
  refine T_iload (pc := 529) (i := 4) dL_law__529 rfl ?_
  refine T_iconst (pc := 531) (v := nI 1) dL_law__531 (by decide) ?_
  refine R_iadd (pc := 532) dL_law__532 ?_
  refine T_sld (pc := 533) (i := (i + 1)) (by omega) (by omega) dL_law__533 ?_
  refine R_callVm1 (pc := 534) (As := [.int ((gsx γ (i + 1)))]) (rest := []) (Or.inl lk_L_174) mk_X12_field (q_field hm1) kc_572 ⟨by decide, rfl⟩ lc_572 dL_law__534 rfl rfl (Nat.le_of_ble_eq_true rfl) (by omega) rfl (by omega) (by omega) (fun m2 h5 => ?_)
  have hc2 := h5.call h1
  refine T_lstore (pc := 537) (i := 6) (ls' := [some (.ref XB), some (.ref 0), some (.ref 572), some (.ref 594), some (.int (nI i)), some (.int (nI (if inB (gsx γ (i + 1)) s.1.F.length = true then 0 else 1))), some (.long ((if inB (gsx γ (i + 1)) s.1.F.length = true then lN (cd (fAt s.1.F (gsx γ (i + 1)).toNatClampNeg).1) else lN 0))), none]) dL_law__537 (by decide) rfl ?_
  refine T_aload_n (pc := 539) (i := 2) dL_law__539 rfl rfl ?_
  refine R_callV1 (pc := 540) (As := []) (rest := []) (Or.inl lk_L_157) mk_X12_thrown (m_thrown h5.2.1) kc_572 ⟨by decide, rfl⟩ lc_572 dL_law__540 rfl rfl (Nat.le_of_ble_eq_true rfl) (by omega) rfl (by omega) (by omega) ?_
  refine T_iload (pc := 543) (i := 5) dL_law__543 rfl ?_
  refine R_icmp_eq (pc := 545) (tgt := 550) (by omega) (by omega) dL_law__545 (by decide) (fun g1 => ?_) (fun g1 => ?_)
  · skip
    refine T_iload (pc := 550) (i := 5) dL_law__550 rfl ?_
    refine R_if_ne (pc := 552) (tgt := 566) (by omega) dL_law__552 (by decide) (fun g2 => ?_) (fun g2 => ?_)
    · skip
      refine T_goto (pc := 566) (tgt := 3335) dL_law__566 (by decide) ?_
      refine T_ls (ls' := [some (.ref XB), some (.ref 0), some (.ref 572), some (.ref 594), some (.int (nI i)), none, none, none]) (And.intro rfl (And.intro rfl (And.intro rfl (And.intro rfl (And.intro rfl True.intro))))) ?_
      exact nx _ _ m2 _ hc2 h5.1 (by omega) (by omega)
    · skip
      have ho : m2.2 594 0 = (if inB (gsx γ (i + 1)) s.1.F.length = true then lN (cd (fAt s.1.F (gsx γ (i + 1)).toNatClampNeg).1) else lN 0) := (congrFun (h5.2.2 594 (by unfold Smo; omega)).2 0).trans (h2 g2)
      refine T_aload_n (pc := 555) (i := 3) dL_law__555 rfl rfl ?_
      refine T_iconst (pc := 556) (v := nI 0) dL_law__556 (by decide) ?_
      refine R_lald (pc := 557) (x := (if inB (gsx γ (i + 1)) s.1.F.length = true then lN (cd (fAt s.1.F (gsx γ (i + 1)).toNatClampNeg).1) else lN 0)) kc_594 lc_594 (by omega) (by first | decide | assumption) ho dL_law__557 ?_
      refine T_lload (pc := 558) (i := 6) dL_law__558 rfl ?_
      refine T_lcmp (pc := 560) dL_law__560 ?_
      refine R_lx_eq (pc := 561) (tgt := 566) dL_law__561 (by decide) (fun g4 => ?_) (fun g4 => ?_)
      · skip
        refine T_goto (pc := 566) (tgt := 3335) dL_law__566 (by decide) ?_
        refine T_ls (ls' := [some (.ref XB), some (.ref 0), some (.ref 572), some (.ref 594), some (.int (nI i)), none, none, none]) (And.intro rfl (And.intro rfl (And.intro rfl (And.intro rfl (And.intro rfl True.intro))))) ?_
        exact nx _ _ m2 _ hc2 h5.1 (by omega) (by omega)
      · exact absurd rfl g4
  · exact absurd rfl g1
theorem z_seen (hD : 40 ≤ D) (hi : i + 7 ≤ gsl γ) (h3 : gsl γ ≤ 3584) (hk : kc + 5 ≤ mc) (hks : ks + 30 ≤ ms) (hc : CAll m s) (hm : MAll m s) (nx : LawNext γ D mc ms Q i kc ks) : T γ D mc ms M_L_law_ Q kc ks 569 [some (.ref XB), some (.ref 0), some (.ref 572), some (.ref 594), some (.int (nI i)), none, none, none] [] (rm m) := by
  refine T_aload_n (pc := 569) (i := 1) dL_law__569 rfl rfl ?_
  refine T_aload_n (pc := 570) (i := 0) dL_law__570 rfl rfl ?_
  refine T_iload (pc := 571) (i := 4) dL_law__571 rfl ?_
  refine T_iconst (pc := 573) (v := nI 1) dL_law__573 (by decide) ?_
  refine R_iadd (pc := 574) dL_law__574 ?_
  refine T_sld (pc := 575) (i := (i + 1)) (by omega) (by omega) dL_law__575 ?_
  refine T_aload_n (pc := 576) (i := 0) dL_law__576 rfl rfl ?_
  refine T_iload (pc := 577) (i := 4) dL_law__577 rfl ?_
  refine T_iconst (pc := 579) (v := nI 2) dL_law__579 (by decide) ?_
  refine R_iadd (pc := 580) dL_law__580 ?_
  refine T_sld (pc := 581) (i := (i + 2)) (by omega) (by omega) dL_law__581 ?_
  refine T_if_eq (pc := 582) (tgt := 589) dL_law__582 (by decide) (fun hb1 => ?_) (fun hb1 => ?_)
  · skip
    refine T_iconst (pc := 589) (v := nI 0) dL_law__589 (by decide) ?_
    refine T_topi (v := bI false) rfl ?_
    refine T_aload_n (pc := 590) (i := 3) dL_law__590 rfl rfl ?_
    refine T_callSH (pc := 591) (av := [.ref 0, .int ((gsx γ (i + 1))), .int (bI false), .ref 594]) (rest := []) lk_L_175 mk_L_seen (w_seen hc) dL_law__591 rfl rfl (Nat.le_of_ble_eq_true rfl) (by omega) rfl (by omega) (by omega) (fun E m' h => by obtain ⟨_, z, _⟩ := h; cases z) (fun v m' h => ?_)
    obtain ⟨m1, h0, rfl, h1, h2, h4⟩ := h
    cases h0
    have hm1 : MAll m1 s := hm.ofc (fun k a b => h4 k (by unfold Swr; omega))
    have tle : (if inB (gsx γ (i + 1)) s.1.S.length = true then 0 else 1) ≤ 2 := Nat.le_trans (mI_le _) (by decide)
    show T _ _ _ _ _ _ _ _ 594 [some (.ref XB), some (.ref 0), some (.ref 572), some (.ref 594), some (.int (nI i)), none, none, none] [.int (nI (if inB (gsx γ (i + 1)) s.1.S.length = true then 0 else 1))] (rm m1)
    refine T_istore (pc := 594) (i := 5) (ls' := [some (.ref XB), some (.ref 0), some (.ref 572), some (.ref 594), some (.int (nI i)), some (.int (nI (if inB (gsx γ (i + 1)) s.1.S.length = true then 0 else 1))), none, none]) dL_law__594 (by decide) rfl ?_
    refine T_aload_n (pc := 596) (i := 2) dL_law__596 rfl rfl ?_
    refine T_aload_n (pc := 597) (i := 0) dL_law__597 rfl rfl ?_
    refine T_iload (pc := 598) (i := 4) dL_law__598 rfl ?_
    refine T_iconst (pc := 600) (v := nI 1) dL_law__600 (by decide) ?_
    refine R_iadd (pc := 601) dL_law__601 ?_
    refine T_sld (pc := 602) (i := (i + 1)) (by omega) (by omega) dL_law__602 ?_
    refine T_aload_n (pc := 603) (i := 0) dL_law__603 rfl rfl ?_
    refine T_iload (pc := 604) (i := 4) dL_law__604 rfl ?_
    refine T_iconst (pc := 606) (v := nI 2) dL_law__606 (by decide) ?_
    refine R_iadd (pc := 607) dL_law__607 ?_
    refine T_sld (pc := 608) (i := (i + 2)) (by omega) (by omega) dL_law__608 ?_
    refine T_if_eq (pc := 609) (tgt := 616) dL_law__609 (by decide) (fun hb2 => ?_) (fun hb2 => ?_)
    · skip
      refine T_iconst (pc := 616) (v := nI 0) dL_law__616 (by decide) ?_
      refine T_topi (v := bI false) rfl ?_
      refine R_callVm1 (pc := 617) (As := [.int ((gsx γ (i + 1))), .int (bI false)]) (rest := []) (Or.inl lk_L_177) mk_X12_seen (q_seen hm1) kc_572 ⟨by decide, rfl⟩ lc_572 dL_law__617 rfl rfl (Nat.le_of_ble_eq_true rfl) (by omega) rfl (by omega) (by omega) (fun m2 h5 => ?_)
      have hc2 := h5.call h1
      refine T_lstore (pc := 620) (i := 6) (ls' := [some (.ref XB), some (.ref 0), some (.ref 572), some (.ref 594), some (.int (nI i)), some (.int (nI (if inB (gsx γ (i + 1)) s.1.S.length = true then 0 else 1))), some (.long ((if inB (gsx γ (i + 1)) s.1.S.length = true then lN (cd (if false = true then (sAt s.1.S (gsx γ (i + 1)).toNatClampNeg).2 else (sAt s.1.S (gsx γ (i + 1)).toNatClampNeg).1)) else lN 0))), none]) dL_law__620 (by decide) rfl ?_
      refine T_aload_n (pc := 622) (i := 2) dL_law__622 rfl rfl ?_
      refine R_callV1 (pc := 623) (As := []) (rest := []) (Or.inl lk_L_157) mk_X12_thrown (m_thrown h5.2.1) kc_572 ⟨by decide, rfl⟩ lc_572 dL_law__623 rfl rfl (Nat.le_of_ble_eq_true rfl) (by omega) rfl (by omega) (by omega) ?_
      refine T_iload (pc := 626) (i := 5) dL_law__626 rfl ?_
      refine R_icmp_eq (pc := 628) (tgt := 633) (by omega) (by omega) dL_law__628 (by decide) (fun g1 => ?_) (fun g1 => ?_)
      · skip
        refine T_iload (pc := 633) (i := 5) dL_law__633 rfl ?_
        refine R_if_ne (pc := 635) (tgt := 649) (by omega) dL_law__635 (by decide) (fun g2 => ?_) (fun g2 => ?_)
        · skip
          refine T_goto (pc := 649) (tgt := 3335) dL_law__649 (by decide) ?_
          refine T_ls (ls' := [some (.ref XB), some (.ref 0), some (.ref 572), some (.ref 594), some (.int (nI i)), none, none, none]) (And.intro rfl (And.intro rfl (And.intro rfl (And.intro rfl (And.intro rfl True.intro))))) ?_
          exact nx _ _ m2 _ hc2 h5.1 (by omega) (by omega)
        · skip
          have ho : m2.2 594 0 = (if inB (gsx γ (i + 1)) s.1.S.length = true then lN (cd (if false = true then (sAt s.1.S (gsx γ (i + 1)).toNatClampNeg).2 else (sAt s.1.S (gsx γ (i + 1)).toNatClampNeg).1)) else lN 0) := (congrFun (h5.2.2 594 (by unfold Smo; omega)).2 0).trans (h2 g2)
          refine T_aload_n (pc := 638) (i := 3) dL_law__638 rfl rfl ?_
          refine T_iconst (pc := 639) (v := nI 0) dL_law__639 (by decide) ?_
          refine R_lald (pc := 640) (x := (if inB (gsx γ (i + 1)) s.1.S.length = true then lN (cd (if false = true then (sAt s.1.S (gsx γ (i + 1)).toNatClampNeg).2 else (sAt s.1.S (gsx γ (i + 1)).toNatClampNeg).1)) else lN 0)) kc_594 lc_594 (by omega) (by first | decide | assumption) ho dL_law__640 ?_
          refine T_lload (pc := 641) (i := 6) dL_law__641 rfl ?_
          refine T_lcmp (pc := 643) dL_law__643 ?_
          refine R_lx_eq (pc := 644) (tgt := 649) dL_law__644 (by decide) (fun g4 => ?_) (fun g4 => ?_)
          · skip
            refine T_goto (pc := 649) (tgt := 3335) dL_law__649 (by decide) ?_
            refine T_ls (ls' := [some (.ref XB), some (.ref 0), some (.ref 572), some (.ref 594), some (.int (nI i)), none, none, none]) (And.intro rfl (And.intro rfl (And.intro rfl (And.intro rfl (And.intro rfl True.intro))))) ?_
            exact nx _ _ m2 _ hc2 h5.1 (by omega) (by omega)
          · exact absurd rfl g4
      · exact absurd rfl g1
    · skip
      exact absurd hb1 hb2
  · skip
    refine T_iconst (pc := 585) (v := nI 1) dL_law__585 (by decide) ?_
    refine T_goto (pc := 586) (tgt := 590) dL_law__586 (by decide) ?_
    refine T_topi (v := bI true) rfl ?_
    refine T_aload_n (pc := 590) (i := 3) dL_law__590 rfl rfl ?_
    refine T_callSH (pc := 591) (av := [.ref 0, .int ((gsx γ (i + 1))), .int (bI true), .ref 594]) (rest := []) lk_L_175 mk_L_seen (w_seen hc) dL_law__591 rfl rfl (Nat.le_of_ble_eq_true rfl) (by omega) rfl (by omega) (by omega) (fun E m' h => by obtain ⟨_, z, _⟩ := h; cases z) (fun v m' h => ?_)
    obtain ⟨m1, h0, rfl, h1, h2, h4⟩ := h
    cases h0
    have hm1 : MAll m1 s := hm.ofc (fun k a b => h4 k (by unfold Swr; omega))
    have tle : (if inB (gsx γ (i + 1)) s.1.S.length = true then 0 else 1) ≤ 2 := Nat.le_trans (mI_le _) (by decide)
    show T _ _ _ _ _ _ _ _ 594 [some (.ref XB), some (.ref 0), some (.ref 572), some (.ref 594), some (.int (nI i)), none, none, none] [.int (nI (if inB (gsx γ (i + 1)) s.1.S.length = true then 0 else 1))] (rm m1)
    refine T_istore (pc := 594) (i := 5) (ls' := [some (.ref XB), some (.ref 0), some (.ref 572), some (.ref 594), some (.int (nI i)), some (.int (nI (if inB (gsx γ (i + 1)) s.1.S.length = true then 0 else 1))), none, none]) dL_law__594 (by decide) rfl ?_
    refine T_aload_n (pc := 596) (i := 2) dL_law__596 rfl rfl ?_
    refine T_aload_n (pc := 597) (i := 0) dL_law__597 rfl rfl ?_
    refine T_iload (pc := 598) (i := 4) dL_law__598 rfl ?_
    refine T_iconst (pc := 600) (v := nI 1) dL_law__600 (by decide) ?_
    refine R_iadd (pc := 601) dL_law__601 ?_
    refine T_sld (pc := 602) (i := (i + 1)) (by omega) (by omega) dL_law__602 ?_
    refine T_aload_n (pc := 603) (i := 0) dL_law__603 rfl rfl ?_
    refine T_iload (pc := 604) (i := 4) dL_law__604 rfl ?_
    refine T_iconst (pc := 606) (v := nI 2) dL_law__606 (by decide) ?_
    refine R_iadd (pc := 607) dL_law__607 ?_
    refine T_sld (pc := 608) (i := (i + 2)) (by omega) (by omega) dL_law__608 ?_
    refine T_if_eq (pc := 609) (tgt := 616) dL_law__609 (by decide) (fun hb3 => ?_) (fun hb3 => ?_)
    · skip
      exact absurd hb3 hb1
    · skip
      refine T_iconst (pc := 612) (v := nI 1) dL_law__612 (by decide) ?_
      refine T_goto (pc := 613) (tgt := 617) dL_law__613 (by decide) ?_
      refine T_topi (v := bI true) rfl ?_
      refine R_callVm1 (pc := 617) (As := [.int ((gsx γ (i + 1))), .int (bI true)]) (rest := []) (Or.inl lk_L_177) mk_X12_seen (q_seen hm1) kc_572 ⟨by decide, rfl⟩ lc_572 dL_law__617 rfl rfl (Nat.le_of_ble_eq_true rfl) (by omega) rfl (by omega) (by omega) (fun m2 h5 => ?_)
      have hc2 := h5.call h1
      refine T_lstore (pc := 620) (i := 6) (ls' := [some (.ref XB), some (.ref 0), some (.ref 572), some (.ref 594), some (.int (nI i)), some (.int (nI (if inB (gsx γ (i + 1)) s.1.S.length = true then 0 else 1))), some (.long ((if inB (gsx γ (i + 1)) s.1.S.length = true then lN (cd (if true = true then (sAt s.1.S (gsx γ (i + 1)).toNatClampNeg).2 else (sAt s.1.S (gsx γ (i + 1)).toNatClampNeg).1)) else lN 0))), none]) dL_law__620 (by decide) rfl ?_
      refine T_aload_n (pc := 622) (i := 2) dL_law__622 rfl rfl ?_
      refine R_callV1 (pc := 623) (As := []) (rest := []) (Or.inl lk_L_157) mk_X12_thrown (m_thrown h5.2.1) kc_572 ⟨by decide, rfl⟩ lc_572 dL_law__623 rfl rfl (Nat.le_of_ble_eq_true rfl) (by omega) rfl (by omega) (by omega) ?_
      refine T_iload (pc := 626) (i := 5) dL_law__626 rfl ?_
      refine R_icmp_eq (pc := 628) (tgt := 633) (by omega) (by omega) dL_law__628 (by decide) (fun g1 => ?_) (fun g1 => ?_)
      · skip
        refine T_iload (pc := 633) (i := 5) dL_law__633 rfl ?_
        refine R_if_ne (pc := 635) (tgt := 649) (by omega) dL_law__635 (by decide) (fun g2 => ?_) (fun g2 => ?_)
        · skip
          refine T_goto (pc := 649) (tgt := 3335) dL_law__649 (by decide) ?_
          refine T_ls (ls' := [some (.ref XB), some (.ref 0), some (.ref 572), some (.ref 594), some (.int (nI i)), none, none, none]) (And.intro rfl (And.intro rfl (And.intro rfl (And.intro rfl (And.intro rfl True.intro))))) ?_
          exact nx _ _ m2 _ hc2 h5.1 (by omega) (by omega)
        · skip
          have ho : m2.2 594 0 = (if inB (gsx γ (i + 1)) s.1.S.length = true then lN (cd (if true = true then (sAt s.1.S (gsx γ (i + 1)).toNatClampNeg).2 else (sAt s.1.S (gsx γ (i + 1)).toNatClampNeg).1)) else lN 0) := (congrFun (h5.2.2 594 (by unfold Smo; omega)).2 0).trans (h2 g2)
          refine T_aload_n (pc := 638) (i := 3) dL_law__638 rfl rfl ?_
          refine T_iconst (pc := 639) (v := nI 0) dL_law__639 (by decide) ?_
          refine R_lald (pc := 640) (x := (if inB (gsx γ (i + 1)) s.1.S.length = true then lN (cd (if true = true then (sAt s.1.S (gsx γ (i + 1)).toNatClampNeg).2 else (sAt s.1.S (gsx γ (i + 1)).toNatClampNeg).1)) else lN 0)) kc_594 lc_594 (by omega) (by first | decide | assumption) ho dL_law__640 ?_
          refine T_lload (pc := 641) (i := 6) dL_law__641 rfl ?_
          refine T_lcmp (pc := 643) dL_law__643 ?_
          refine R_lx_eq (pc := 644) (tgt := 649) dL_law__644 (by decide) (fun g4 => ?_) (fun g4 => ?_)
          · skip
            refine T_goto (pc := 649) (tgt := 3335) dL_law__649 (by decide) ?_
            refine T_ls (ls' := [some (.ref XB), some (.ref 0), some (.ref 572), some (.ref 594), some (.int (nI i)), none, none, none]) (And.intro rfl (And.intro rfl (And.intro rfl (And.intro rfl (And.intro rfl True.intro))))) ?_
            exact nx _ _ m2 _ hc2 h5.1 (by omega) (by omega)
          · exact absurd rfl g4
      · exact absurd rfl g1
theorem z_beast (hD : 40 ≤ D) (hi : i + 7 ≤ gsl γ) (h3 : gsl γ ≤ 3584) (hk : kc + 5 ≤ mc) (hks : ks + 30 ≤ ms) (hc : CAll m s) (hm : MAll m s) (nx : LawNext γ D mc ms Q i kc ks) : T γ D mc ms M_L_law_ Q kc ks 652 [some (.ref XB), some (.ref 0), some (.ref 572), some (.ref 594), some (.int (nI i)), none, none, none] [] (rm m) := by
  refine T_aload_n (pc := 652) (i := 1) dL_law__652 rfl rfl ?_
  refine T_aload_n (pc := 653) (i := 0) dL_law__653 rfl rfl ?_
  refine T_iload (pc := 654) (i := 4) dL_law__654 rfl ?_
  refine T_iconst (pc := 656) (v := nI 1) dL_law__656 (by decide) ?_
  refine R_iadd (pc := 657) dL_law__657 ?_
  refine T_sld (pc := 658) (i := (i + 1)) (by omega) (by omega) dL_law__658 ?_
  refine T_i2l (pc := 659) dL_law__659 ?_
  refine T_bipush (pc := 660) (v := nI 32) dL_law__660 (by decide) ?_
  refine T_lshl (pc := 662) dL_law__662 ?_
  refine T_aload_n (pc := 663) (i := 0) dL_law__663 rfl rfl ?_
  refine T_iload (pc := 664) (i := 4) dL_law__664 rfl ?_
  refine T_iconst (pc := 666) (v := nI 2) dL_law__666 (by decide) ?_
  refine R_iadd (pc := 667) dL_law__667 ?_
  refine T_sld (pc := 668) (i := (i + 2)) (by omega) (by omega) dL_law__668 ?_
  refine T_i2l (pc := 669) dL_law__669 ?_
  refine T_ldc2 (pc := 670) dL_law__670 cn_L_178 ?_
  refine T_topl (v := lN 4294967295) (fa_litL _) ?_
  refine T_land (pc := 673) dL_law__673 ?_
  refine T_lor (pc := 674) dL_law__674 ?_
  refine T_aload_n (pc := 675) (i := 0) dL_law__675 rfl rfl ?_
  refine T_iload (pc := 676) (i := 4) dL_law__676 rfl ?_
  refine T_iconst (pc := 678) (v := nI 3) dL_law__678 (by decide) ?_
  refine R_iadd (pc := 679) dL_law__679 ?_
  refine T_sld (pc := 680) (i := (i + 3)) (by omega) (by omega) dL_law__680 ?_
  refine T_aload_n (pc := 681) (i := 3) dL_law__681 rfl rfl ?_
  refine T_callSH (pc := 682) (av := [.ref 0, .long ((((lshl ((((gsx γ (i + 1))).toInt64)) (nI 32))) ||| ((((((gsx γ (i + 2))).toInt64)) &&& (lN 4294967295))))), .int ((gsx γ (i + 3))), .ref 594]) (rest := []) lk_L_180 mk_L_beast (w_beast hc) dL_law__682 rfl rfl (Nat.le_of_ble_eq_true rfl) (by omega) rfl (by omega) (by omega) (fun E m' h => by obtain ⟨_, z, _⟩ := h; cases z) (fun v m' h => ?_)
  obtain ⟨m1, h0, rfl, h1, h2, h4⟩ := h
  cases h0
  have hm1 : MAll m1 s := hm.ofc (fun k a b => h4 k (by unfold Swr; omega))
  have tle : (if codeB (((lshl ((((gsx γ (i + 1))).toInt64)) (nI 32))) ||| ((((((gsx γ (i + 2))).toInt64)) &&& (lN 4294967295)))) = true then 0 else 1) ≤ 2 := Nat.le_trans (mI_le _) (by decide)
  show T _ _ _ _ _ _ _ _ 685 [some (.ref XB), some (.ref 0), some (.ref 572), some (.ref 594), some (.int (nI i)), none, none, none] [.int (nI (if codeB (((lshl ((((gsx γ (i + 1))).toInt64)) (nI 32))) ||| ((((((gsx γ (i + 2))).toInt64)) &&& (lN 4294967295)))) = true then 0 else 1))] (rm m1)
  refine T_istore (pc := 685) (i := 5) (ls' := [some (.ref XB), some (.ref 0), some (.ref 572), some (.ref 594), some (.int (nI i)), some (.int (nI (if codeB (((lshl ((((gsx γ (i + 1))).toInt64)) (nI 32))) ||| ((((((gsx γ (i + 2))).toInt64)) &&& (lN 4294967295)))) = true then 0 else 1))), none, none]) dL_law__685 (by decide) rfl ?_
  refine T_aload_n (pc := 687) (i := 2) dL_law__687 rfl rfl ?_
  refine T_aload_n (pc := 688) (i := 0) dL_law__688 rfl rfl ?_
  refine T_iload (pc := 689) (i := 4) dL_law__689 rfl ?_
  refine T_iconst (pc := 691) (v := nI 1) dL_law__691 (by decide) ?_
  refine R_iadd (pc := 692) dL_law__692 ?_
  refine T_sld (pc := 693) (i := (i + 1)) (by omega) (by omega) dL_law__693 ?_
  refine T_i2l (pc := 694) dL_law__694 ?_
  refine T_bipush (pc := 695) (v := nI 32) dL_law__695 (by decide) ?_
  refine T_lshl (pc := 697) dL_law__697 ?_
  refine T_aload_n (pc := 698) (i := 0) dL_law__698 rfl rfl ?_
  refine T_iload (pc := 699) (i := 4) dL_law__699 rfl ?_
  refine T_iconst (pc := 701) (v := nI 2) dL_law__701 (by decide) ?_
  refine R_iadd (pc := 702) dL_law__702 ?_
  refine T_sld (pc := 703) (i := (i + 2)) (by omega) (by omega) dL_law__703 ?_
  refine T_i2l (pc := 704) dL_law__704 ?_
  refine T_ldc2 (pc := 705) dL_law__705 cn_L_178 ?_
  refine T_topl (v := lN 4294967295) (fa_litL _) ?_
  refine T_land (pc := 708) dL_law__708 ?_
  refine T_lor (pc := 709) dL_law__709 ?_
  refine T_aload_n (pc := 710) (i := 0) dL_law__710 rfl rfl ?_
  refine T_iload (pc := 711) (i := 4) dL_law__711 rfl ?_
  refine T_iconst (pc := 713) (v := nI 3) dL_law__713 (by decide) ?_
  refine R_iadd (pc := 714) dL_law__714 ?_
  refine T_sld (pc := 715) (i := (i + 3)) (by omega) (by omega) dL_law__715 ?_
  refine R_callVm1 (pc := 716) (As := [.long ((((lshl ((((gsx γ (i + 1))).toInt64)) (nI 32))) ||| ((((((gsx γ (i + 2))).toInt64)) &&& (lN 4294967295))))), .int ((gsx γ (i + 3)))]) (rest := []) (Or.inl lk_L_183) mk_X12_beast (q_beast hm1) kc_572 ⟨by decide, rfl⟩ lc_572 dL_law__716 rfl rfl (Nat.le_of_ble_eq_true rfl) (by omega) rfl (by omega) (by omega) (fun m2 h5 => ?_)
  have hc2 := h5.call h1
  refine T_istore (pc := 719) (i := 6) (ls' := [some (.ref XB), some (.ref 0), some (.ref 572), some (.ref 594), some (.int (nI i)), some (.int (nI (if codeB (((lshl ((((gsx γ (i + 1))).toInt64)) (nI 32))) ||| ((((((gsx γ (i + 2))).toInt64)) &&& (lN 4294967295)))) = true then 0 else 1))), some (.int ((if codeB (((lshl ((((gsx γ (i + 1))).toInt64)) (nI 32))) ||| ((((((gsx γ (i + 2))).toInt64)) &&& (lN 4294967295)))) = true then (if inB (gsx γ (i + 3)) (ml (((lshl ((((gsx γ (i + 1))).toInt64)) (nI 32))) ||| ((((((gsx γ (i + 2))).toInt64)) &&& (lN 4294967295))))).length = true then nI ((ml (((lshl ((((gsx γ (i + 1))).toInt64)) (nI 32))) ||| ((((((gsx γ (i + 2))).toInt64)) &&& (lN 4294967295))))).getD (gsx γ (i + 3)).toNatClampNeg 0) else -1) else nI 0))), none]) dL_law__719 (by decide) rfl ?_
  refine T_aload_n (pc := 721) (i := 2) dL_law__721 rfl rfl ?_
  refine R_callV1 (pc := 722) (As := []) (rest := []) (Or.inl lk_L_157) mk_X12_thrown (m_thrown h5.2.1) kc_572 ⟨by decide, rfl⟩ lc_572 dL_law__722 rfl rfl (Nat.le_of_ble_eq_true rfl) (by omega) rfl (by omega) (by omega) ?_
  refine T_iload (pc := 725) (i := 5) dL_law__725 rfl ?_
  refine R_icmp_eq (pc := 727) (tgt := 732) (by omega) (by omega) dL_law__727 (by decide) (fun g1 => ?_) (fun g1 => ?_)
  · skip
    refine T_iload (pc := 732) (i := 5) dL_law__732 rfl ?_
    refine R_if_ne (pc := 734) (tgt := 749) (by omega) dL_law__734 (by decide) (fun g2 => ?_) (fun g2 => ?_)
    · skip
      refine T_goto (pc := 749) (tgt := 3335) dL_law__749 (by decide) ?_
      refine T_ls (ls' := [some (.ref XB), some (.ref 0), some (.ref 572), some (.ref 594), some (.int (nI i)), none, none, none]) (And.intro rfl (And.intro rfl (And.intro rfl (And.intro rfl (And.intro rfl True.intro))))) ?_
      exact nx _ _ m2 _ hc2 h5.1 (by omega) (by omega)
    · skip
      have ho : m2.2 594 0 = ((if codeB (((lshl ((((gsx γ (i + 1))).toInt64)) (nI 32))) ||| ((((((gsx γ (i + 2))).toInt64)) &&& (lN 4294967295)))) = true then (if inB (gsx γ (i + 3)) (ml (((lshl ((((gsx γ (i + 1))).toInt64)) (nI 32))) ||| ((((((gsx γ (i + 2))).toInt64)) &&& (lN 4294967295))))).length = true then nI ((ml (((lshl ((((gsx γ (i + 1))).toInt64)) (nI 32))) ||| ((((((gsx γ (i + 2))).toInt64)) &&& (lN 4294967295))))).getD (gsx γ (i + 3)).toNatClampNeg 0) else -1) else nI 0)).toInt64 := (congrFun (h5.2.2 594 (by unfold Smo; omega)).2 0).trans (h2 g2)
      refine T_aload_n (pc := 737) (i := 3) dL_law__737 rfl rfl ?_
      refine T_iconst (pc := 738) (v := nI 0) dL_law__738 (by decide) ?_
      refine R_lald (pc := 739) (x := (((if codeB (((lshl ((((gsx γ (i + 1))).toInt64)) (nI 32))) ||| ((((((gsx γ (i + 2))).toInt64)) &&& (lN 4294967295)))) = true then (if inB (gsx γ (i + 3)) (ml (((lshl ((((gsx γ (i + 1))).toInt64)) (nI 32))) ||| ((((((gsx γ (i + 2))).toInt64)) &&& (lN 4294967295))))).length = true then nI ((ml (((lshl ((((gsx γ (i + 1))).toInt64)) (nI 32))) ||| ((((((gsx γ (i + 2))).toInt64)) &&& (lN 4294967295))))).getD (gsx γ (i + 3)).toNatClampNeg 0) else -1) else nI 0)).toInt64)) kc_594 lc_594 (by omega) (by first | decide | assumption) ho dL_law__739 ?_
      refine T_iload (pc := 740) (i := 6) dL_law__740 rfl ?_
      refine T_i2l (pc := 742) dL_law__742 ?_
      refine T_lcmp (pc := 743) dL_law__743 ?_
      refine R_lx_eq (pc := 744) (tgt := 749) dL_law__744 (by decide) (fun g4 => ?_) (fun g4 => ?_)
      · skip
        refine T_goto (pc := 749) (tgt := 3335) dL_law__749 (by decide) ?_
        refine T_ls (ls' := [some (.ref XB), some (.ref 0), some (.ref 572), some (.ref 594), some (.int (nI i)), none, none, none]) (And.intro rfl (And.intro rfl (And.intro rfl (And.intro rfl (And.intro rfl True.intro))))) ?_
        exact nx _ _ m2 _ hc2 h5.1 (by omega) (by omega)
      · exact absurd rfl g4
  · exact absurd rfl g1
theorem z_steps (hD : 40 ≤ D) (hi : i + 7 ≤ gsl γ) (h3 : gsl γ ≤ 3584) (hk : kc + 5 ≤ mc) (hks : ks + 30 ≤ ms) (hc : CAll m s) (hm : MAll m s) (nx : LawNext γ D mc ms Q i kc ks) : T γ D mc ms M_L_law_ Q kc ks 752 [some (.ref XB), some (.ref 0), some (.ref 572), some (.ref 594), some (.int (nI i)), none, none, none] [] (rm m) := by
  refine T_aload_n (pc := 752) (i := 1) dL_law__752 rfl rfl ?_
  refine T_aload_n (pc := 753) (i := 0) dL_law__753 rfl rfl ?_
  refine T_iload (pc := 754) (i := 4) dL_law__754 rfl ?_
  refine T_iconst (pc := 756) (v := nI 1) dL_law__756 (by decide) ?_
  refine R_iadd (pc := 757) dL_law__757 ?_
  refine T_sld (pc := 758) (i := (i + 1)) (by omega) (by omega) dL_law__758 ?_
  refine T_aload_n (pc := 759) (i := 3) dL_law__759 rfl rfl ?_
  refine T_callSH (pc := 760) (av := [.ref 0, .int ((gsx γ (i + 1))), .ref 594]) (rest := []) lk_L_184 mk_L_steps (w_steps hc) dL_law__760 rfl rfl (Nat.le_of_ble_eq_true rfl) (by omega) rfl (by omega) (by omega) (fun E m' h => by obtain ⟨_, z, _⟩ := h; cases z) (fun v m' h => ?_)
  obtain ⟨m1, h0, rfl, h1, h2, h4⟩ := h
  cases h0
  have hm1 : MAll m1 s := hm.ofc (fun k a b => h4 k (by unfold Swr; omega))
  have tle : (if inB (gsx γ (i + 1)) s.1.F.length = true then 0 else 1) ≤ 2 := Nat.le_trans (mI_le _) (by decide)
  show T _ _ _ _ _ _ _ _ 763 [some (.ref XB), some (.ref 0), some (.ref 572), some (.ref 594), some (.int (nI i)), none, none, none] [.int (nI (if inB (gsx γ (i + 1)) s.1.F.length = true then 0 else 1))] (rm m1)
  refine T_istore (pc := 763) (i := 5) (ls' := [some (.ref XB), some (.ref 0), some (.ref 572), some (.ref 594), some (.int (nI i)), some (.int (nI (if inB (gsx γ (i + 1)) s.1.F.length = true then 0 else 1))), none, none]) dL_law__763 (by decide) rfl ?_
  refine T_aload_n (pc := 765) (i := 2) dL_law__765 rfl rfl ?_
  refine T_aload_n (pc := 766) (i := 0) dL_law__766 rfl rfl ?_
  refine T_iload (pc := 767) (i := 4) dL_law__767 rfl ?_
  refine T_iconst (pc := 769) (v := nI 1) dL_law__769 (by decide) ?_
  refine R_iadd (pc := 770) dL_law__770 ?_
  refine T_sld (pc := 771) (i := (i + 1)) (by omega) (by omega) dL_law__771 ?_
  refine R_callVm1 (pc := 772) (As := [.int ((gsx γ (i + 1)))]) (rest := []) (Or.inl lk_L_186) mk_X12_steps (q_steps hm1) kc_572 ⟨by decide, rfl⟩ lc_572 dL_law__772 rfl rfl (Nat.le_of_ble_eq_true rfl) (by omega) rfl (by omega) (by omega) (fun m2 h5 => ?_)
  have hc2 := h5.call h1
  refine T_istore (pc := 775) (i := 6) (ls' := [some (.ref XB), some (.ref 0), some (.ref 572), some (.ref 594), some (.int (nI i)), some (.int (nI (if inB (gsx γ (i + 1)) s.1.F.length = true then 0 else 1))), some (.int ((if inB (gsx γ (i + 1)) s.1.F.length = true then (fAt s.1.F (gsx γ (i + 1)).toNatClampNeg).2.1 else nI 0))), none]) dL_law__775 (by decide) rfl ?_
  refine T_aload_n (pc := 777) (i := 2) dL_law__777 rfl rfl ?_
  refine R_callV1 (pc := 778) (As := []) (rest := []) (Or.inl lk_L_157) mk_X12_thrown (m_thrown h5.2.1) kc_572 ⟨by decide, rfl⟩ lc_572 dL_law__778 rfl rfl (Nat.le_of_ble_eq_true rfl) (by omega) rfl (by omega) (by omega) ?_
  refine T_iload (pc := 781) (i := 5) dL_law__781 rfl ?_
  refine R_icmp_eq (pc := 783) (tgt := 788) (by omega) (by omega) dL_law__783 (by decide) (fun g1 => ?_) (fun g1 => ?_)
  · skip
    refine T_iload (pc := 788) (i := 5) dL_law__788 rfl ?_
    refine R_if_ne (pc := 790) (tgt := 805) (by omega) dL_law__790 (by decide) (fun g2 => ?_) (fun g2 => ?_)
    · skip
      refine T_goto (pc := 805) (tgt := 3335) dL_law__805 (by decide) ?_
      refine T_ls (ls' := [some (.ref XB), some (.ref 0), some (.ref 572), some (.ref 594), some (.int (nI i)), none, none, none]) (And.intro rfl (And.intro rfl (And.intro rfl (And.intro rfl (And.intro rfl True.intro))))) ?_
      exact nx _ _ m2 _ hc2 h5.1 (by omega) (by omega)
    · skip
      have ho : m2.2 594 0 = ((if inB (gsx γ (i + 1)) s.1.F.length = true then (fAt s.1.F (gsx γ (i + 1)).toNatClampNeg).2.1 else nI 0)).toInt64 := (congrFun (h5.2.2 594 (by unfold Smo; omega)).2 0).trans (h2 g2)
      refine T_aload_n (pc := 793) (i := 3) dL_law__793 rfl rfl ?_
      refine T_iconst (pc := 794) (v := nI 0) dL_law__794 (by decide) ?_
      refine R_lald (pc := 795) (x := (((if inB (gsx γ (i + 1)) s.1.F.length = true then (fAt s.1.F (gsx γ (i + 1)).toNatClampNeg).2.1 else nI 0)).toInt64)) kc_594 lc_594 (by omega) (by first | decide | assumption) ho dL_law__795 ?_
      refine T_iload (pc := 796) (i := 6) dL_law__796 rfl ?_
      refine T_i2l (pc := 798) dL_law__798 ?_
      refine T_lcmp (pc := 799) dL_law__799 ?_
      refine R_lx_eq (pc := 800) (tgt := 805) dL_law__800 (by decide) (fun g4 => ?_) (fun g4 => ?_)
      · skip
        refine T_goto (pc := 805) (tgt := 3335) dL_law__805 (by decide) ?_
        refine T_ls (ls' := [some (.ref XB), some (.ref 0), some (.ref 572), some (.ref 594), some (.int (nI i)), none, none, none]) (And.intro rfl (And.intro rfl (And.intro rfl (And.intro rfl (And.intro rfl True.intro))))) ?_
        exact nx _ _ m2 _ hc2 h5.1 (by omega) (by omega)
      · exact absurd rfl g4
  · exact absurd rfl g1
theorem z_maker (hD : 40 ≤ D) (hi : i + 7 ≤ gsl γ) (h3 : gsl γ ≤ 3584) (hk : kc + 5 ≤ mc) (hks : ks + 30 ≤ ms) (hc : CAll m s) (hm : MAll m s) (nx : LawNext γ D mc ms Q i kc ks) : T γ D mc ms M_L_law_ Q kc ks 808 [some (.ref XB), some (.ref 0), some (.ref 572), some (.ref 594), some (.int (nI i)), none, none, none] [] (rm m) := by
  refine T_aload_n (pc := 808) (i := 1) dL_law__808 rfl rfl ?_
  refine T_aload_n (pc := 809) (i := 0) dL_law__809 rfl rfl ?_
  refine T_iload (pc := 810) (i := 4) dL_law__810 rfl ?_
  refine T_iconst (pc := 812) (v := nI 1) dL_law__812 (by decide) ?_
  refine R_iadd (pc := 813) dL_law__813 ?_
  refine T_sld (pc := 814) (i := (i + 1)) (by omega) (by omega) dL_law__814 ?_
  refine T_aload_n (pc := 815) (i := 0) dL_law__815 rfl rfl ?_
  refine T_iload (pc := 816) (i := 4) dL_law__816 rfl ?_
  refine T_iconst (pc := 818) (v := nI 2) dL_law__818 (by decide) ?_
  refine R_iadd (pc := 819) dL_law__819 ?_
  refine T_sld (pc := 820) (i := (i + 2)) (by omega) (by omega) dL_law__820 ?_
  refine T_aload_n (pc := 821) (i := 0) dL_law__821 rfl rfl ?_
  refine T_iload (pc := 822) (i := 4) dL_law__822 rfl ?_
  refine T_iconst (pc := 824) (v := nI 3) dL_law__824 (by decide) ?_
  refine R_iadd (pc := 825) dL_law__825 ?_
  refine T_sld (pc := 826) (i := (i + 3)) (by omega) (by omega) dL_law__826 ?_
  refine T_aload_n (pc := 827) (i := 3) dL_law__827 rfl rfl ?_
  refine T_callSH (pc := 828) (av := [.ref 0, .int ((gsx γ (i + 1))), .int ((gsx γ (i + 2))), .int ((gsx γ (i + 3))), .ref 594]) (rest := []) lk_L_187 mk_L_maker (w_maker hc) dL_law__828 rfl rfl (Nat.le_of_ble_eq_true rfl) (by omega) rfl (by omega) (by omega) (fun E m' h => by obtain ⟨_, z, _⟩ := h; cases z) (fun v m' h => ?_)
  obtain ⟨m1, h0, rfl, h1, h2, h4⟩ := h
  cases h0
  have hm1 : MAll m1 s := hm.ofc (fun k a b => h4 k (by unfold Swr; omega))
  have tle : (mkT s.1.F (gsx γ (i + 1)) (gsx γ (i + 2)) (gsx γ (i + 3))) ≤ 2 := Nat.le_trans (mkT_le _ _ _ _) (by decide)
  show T _ _ _ _ _ _ _ _ 831 [some (.ref XB), some (.ref 0), some (.ref 572), some (.ref 594), some (.int (nI i)), none, none, none] [.int (nI (mkT s.1.F (gsx γ (i + 1)) (gsx γ (i + 2)) (gsx γ (i + 3))))] (rm m1)
  refine T_istore (pc := 831) (i := 5) (ls' := [some (.ref XB), some (.ref 0), some (.ref 572), some (.ref 594), some (.int (nI i)), some (.int (nI (mkT s.1.F (gsx γ (i + 1)) (gsx γ (i + 2)) (gsx γ (i + 3))))), none, none]) dL_law__831 (by decide) rfl ?_
  refine T_aload_n (pc := 833) (i := 2) dL_law__833 rfl rfl ?_
  refine T_aload_n (pc := 834) (i := 0) dL_law__834 rfl rfl ?_
  refine T_iload (pc := 835) (i := 4) dL_law__835 rfl ?_
  refine T_iconst (pc := 837) (v := nI 1) dL_law__837 (by decide) ?_
  refine R_iadd (pc := 838) dL_law__838 ?_
  refine T_sld (pc := 839) (i := (i + 1)) (by omega) (by omega) dL_law__839 ?_
  refine T_aload_n (pc := 840) (i := 0) dL_law__840 rfl rfl ?_
  refine T_iload (pc := 841) (i := 4) dL_law__841 rfl ?_
  refine T_iconst (pc := 843) (v := nI 2) dL_law__843 (by decide) ?_
  refine R_iadd (pc := 844) dL_law__844 ?_
  refine T_sld (pc := 845) (i := (i + 2)) (by omega) (by omega) dL_law__845 ?_
  refine T_aload_n (pc := 846) (i := 0) dL_law__846 rfl rfl ?_
  refine T_iload (pc := 847) (i := 4) dL_law__847 rfl ?_
  refine T_iconst (pc := 849) (v := nI 3) dL_law__849 (by decide) ?_
  refine R_iadd (pc := 850) dL_law__850 ?_
  refine T_sld (pc := 851) (i := (i + 3)) (by omega) (by omega) dL_law__851 ?_
  refine R_callVm1 (pc := 852) (As := [.int ((gsx γ (i + 1))), .int ((gsx γ (i + 2))), .int ((gsx γ (i + 3)))]) (rest := []) (Or.inl lk_L_190) mk_X12_maker (q_maker hm1) kc_572 ⟨by decide, rfl⟩ lc_572 dL_law__852 rfl rfl (Nat.le_of_ble_eq_true rfl) (by omega) rfl (by omega) (by omega) (fun m2 h5 => ?_)
  have hc2 := h5.call h1
  refine T_istore (pc := 855) (i := 6) (ls' := [some (.ref XB), some (.ref 0), some (.ref 572), some (.ref 594), some (.int (nI i)), some (.int (nI (mkT s.1.F (gsx γ (i + 1)) (gsx γ (i + 2)) (gsx γ (i + 3))))), some (.int ((mkI s.1.F (gsx γ (i + 1)) (gsx γ (i + 2)) (gsx γ (i + 3))))), none]) dL_law__855 (by decide) rfl ?_
  refine T_aload_n (pc := 857) (i := 2) dL_law__857 rfl rfl ?_
  refine R_callV1 (pc := 858) (As := []) (rest := []) (Or.inl lk_L_157) mk_X12_thrown (m_thrown h5.2.1) kc_572 ⟨by decide, rfl⟩ lc_572 dL_law__858 rfl rfl (Nat.le_of_ble_eq_true rfl) (by omega) rfl (by omega) (by omega) ?_
  refine T_iload (pc := 861) (i := 5) dL_law__861 rfl ?_
  refine R_icmp_eq (pc := 863) (tgt := 868) (by omega) (by omega) dL_law__863 (by decide) (fun g1 => ?_) (fun g1 => ?_)
  · skip
    refine T_iload (pc := 868) (i := 5) dL_law__868 rfl ?_
    refine R_if_ne (pc := 870) (tgt := 885) (by omega) dL_law__870 (by decide) (fun g2 => ?_) (fun g2 => ?_)
    · skip
      refine T_goto (pc := 885) (tgt := 3335) dL_law__885 (by decide) ?_
      refine T_ls (ls' := [some (.ref XB), some (.ref 0), some (.ref 572), some (.ref 594), some (.int (nI i)), none, none, none]) (And.intro rfl (And.intro rfl (And.intro rfl (And.intro rfl (And.intro rfl True.intro))))) ?_
      exact nx _ _ m2 _ hc2 h5.1 (by omega) (by omega)
    · skip
      have ho : m2.2 594 0 = ((mkI s.1.F (gsx γ (i + 1)) (gsx γ (i + 2)) (gsx γ (i + 3)))).toInt64 := (congrFun (h5.2.2 594 (by unfold Smo; omega)).2 0).trans (h2 g2)
      refine T_aload_n (pc := 873) (i := 3) dL_law__873 rfl rfl ?_
      refine T_iconst (pc := 874) (v := nI 0) dL_law__874 (by decide) ?_
      refine R_lald (pc := 875) (x := (((mkI s.1.F (gsx γ (i + 1)) (gsx γ (i + 2)) (gsx γ (i + 3)))).toInt64)) kc_594 lc_594 (by omega) (by first | decide | assumption) ho dL_law__875 ?_
      refine T_iload (pc := 876) (i := 6) dL_law__876 rfl ?_
      refine T_i2l (pc := 878) dL_law__878 ?_
      refine T_lcmp (pc := 879) dL_law__879 ?_
      refine R_lx_eq (pc := 880) (tgt := 885) dL_law__880 (by decide) (fun g4 => ?_) (fun g4 => ?_)
      · skip
        refine T_goto (pc := 885) (tgt := 3335) dL_law__885 (by decide) ?_
        refine T_ls (ls' := [some (.ref XB), some (.ref 0), some (.ref 572), some (.ref 594), some (.int (nI i)), none, none, none]) (And.intro rfl (And.intro rfl (And.intro rfl (And.intro rfl (And.intro rfl True.intro))))) ?_
        exact nx _ _ m2 _ hc2 h5.1 (by omega) (by omega)
      · exact absurd rfl g4
  · exact absurd rfl g1
theorem z_fits (hD : 40 ≤ D) (hi : i + 7 ≤ gsl γ) (h3 : gsl γ ≤ 3584) (hk : kc + 5 ≤ mc) (hks : ks + 30 ≤ ms) (hc : CAll m s) (hm : MAll m s) (nx : LawNext γ D mc ms Q i kc ks) : T γ D mc ms M_L_law_ Q kc ks 888 [some (.ref XB), some (.ref 0), some (.ref 572), some (.ref 594), some (.int (nI i)), none, none, none] [] (rm m) := by
  refine T_aload_n (pc := 888) (i := 1) dL_law__888 rfl rfl ?_
  refine T_aload_n (pc := 889) (i := 0) dL_law__889 rfl rfl ?_
  refine T_iload (pc := 890) (i := 4) dL_law__890 rfl ?_
  refine T_iconst (pc := 892) (v := nI 1) dL_law__892 (by decide) ?_
  refine R_iadd (pc := 893) dL_law__893 ?_
  refine T_sld (pc := 894) (i := (i + 1)) (by omega) (by omega) dL_law__894 ?_
  refine T_i2l (pc := 895) dL_law__895 ?_
  refine T_bipush (pc := 896) (v := nI 32) dL_law__896 (by decide) ?_
  refine T_lshl (pc := 898) dL_law__898 ?_
  refine T_aload_n (pc := 899) (i := 0) dL_law__899 rfl rfl ?_
  refine T_iload (pc := 900) (i := 4) dL_law__900 rfl ?_
  refine T_iconst (pc := 902) (v := nI 2) dL_law__902 (by decide) ?_
  refine R_iadd (pc := 903) dL_law__903 ?_
  refine T_sld (pc := 904) (i := (i + 2)) (by omega) (by omega) dL_law__904 ?_
  refine T_i2l (pc := 905) dL_law__905 ?_
  refine T_ldc2 (pc := 906) dL_law__906 cn_L_178 ?_
  refine T_topl (v := lN 4294967295) (fa_litL _) ?_
  refine T_land (pc := 909) dL_law__909 ?_
  refine T_lor (pc := 910) dL_law__910 ?_
  refine T_aload_n (pc := 911) (i := 0) dL_law__911 rfl rfl ?_
  refine T_iload (pc := 912) (i := 4) dL_law__912 rfl ?_
  refine T_iconst (pc := 914) (v := nI 3) dL_law__914 (by decide) ?_
  refine R_iadd (pc := 915) dL_law__915 ?_
  refine T_sld (pc := 916) (i := (i + 3)) (by omega) (by omega) dL_law__916 ?_
  refine T_aload_n (pc := 917) (i := 0) dL_law__917 rfl rfl ?_
  refine T_iload (pc := 918) (i := 4) dL_law__918 rfl ?_
  refine T_iconst (pc := 920) (v := nI 4) dL_law__920 (by decide) ?_
  refine R_iadd (pc := 921) dL_law__921 ?_
  refine T_sld (pc := 922) (i := (i + 4)) (by omega) (by omega) dL_law__922 ?_
  refine T_aload_n (pc := 923) (i := 3) dL_law__923 rfl rfl ?_
  refine T_callSH (pc := 924) (av := [.ref 0, .long ((((lshl ((((gsx γ (i + 1))).toInt64)) (nI 32))) ||| ((((((gsx γ (i + 2))).toInt64)) &&& (lN 4294967295))))), .int ((gsx γ (i + 3))), .int ((gsx γ (i + 4))), .ref 594]) (rest := []) lk_L_191 mk_L_fits (w_fits hc) dL_law__924 rfl rfl (Nat.le_of_ble_eq_true rfl) (by omega) rfl (by omega) (by omega) (fun E m' h => by obtain ⟨_, z, _⟩ := h; cases z) (fun v m' h => ?_)
  obtain ⟨m1, h0, rfl, h1, h2, h4⟩ := h
  cases h0
  have hm1 : MAll m1 s := hm.ofc (fun k a b => h4 k (by unfold Swr; omega))
  have tle : (mT2 (inB (gsx γ (i + 3)) s.1.R.length) (codeB (((lshl ((((gsx γ (i + 1))).toInt64)) (nI 32))) ||| ((((((gsx γ (i + 2))).toInt64)) &&& (lN 4294967295)))))) ≤ 2 := Nat.le_trans (mT2_le _ _) (by decide)
  show T _ _ _ _ _ _ _ _ 927 [some (.ref XB), some (.ref 0), some (.ref 572), some (.ref 594), some (.int (nI i)), none, none, none] [.int (nI (mT2 (inB (gsx γ (i + 3)) s.1.R.length) (codeB (((lshl ((((gsx γ (i + 1))).toInt64)) (nI 32))) ||| ((((((gsx γ (i + 2))).toInt64)) &&& (lN 4294967295)))))))] (rm m1)
  refine T_istore (pc := 927) (i := 5) (ls' := [some (.ref XB), some (.ref 0), some (.ref 572), some (.ref 594), some (.int (nI i)), some (.int (nI (mT2 (inB (gsx γ (i + 3)) s.1.R.length) (codeB (((lshl ((((gsx γ (i + 1))).toInt64)) (nI 32))) ||| ((((((gsx γ (i + 2))).toInt64)) &&& (lN 4294967295)))))))), none, none]) dL_law__927 (by decide) rfl ?_
  refine T_aload_n (pc := 929) (i := 2) dL_law__929 rfl rfl ?_
  refine T_aload_n (pc := 930) (i := 0) dL_law__930 rfl rfl ?_
  refine T_iload (pc := 931) (i := 4) dL_law__931 rfl ?_
  refine T_iconst (pc := 933) (v := nI 1) dL_law__933 (by decide) ?_
  refine R_iadd (pc := 934) dL_law__934 ?_
  refine T_sld (pc := 935) (i := (i + 1)) (by omega) (by omega) dL_law__935 ?_
  refine T_i2l (pc := 936) dL_law__936 ?_
  refine T_bipush (pc := 937) (v := nI 32) dL_law__937 (by decide) ?_
  refine T_lshl (pc := 939) dL_law__939 ?_
  refine T_aload_n (pc := 940) (i := 0) dL_law__940 rfl rfl ?_
  refine T_iload (pc := 941) (i := 4) dL_law__941 rfl ?_
  refine T_iconst (pc := 943) (v := nI 2) dL_law__943 (by decide) ?_
  refine R_iadd (pc := 944) dL_law__944 ?_
  refine T_sld (pc := 945) (i := (i + 2)) (by omega) (by omega) dL_law__945 ?_
  refine T_i2l (pc := 946) dL_law__946 ?_
  refine T_ldc2 (pc := 947) dL_law__947 cn_L_178 ?_
  refine T_topl (v := lN 4294967295) (fa_litL _) ?_
  refine T_land (pc := 950) dL_law__950 ?_
  refine T_lor (pc := 951) dL_law__951 ?_
  refine T_aload_n (pc := 952) (i := 0) dL_law__952 rfl rfl ?_
  refine T_iload (pc := 953) (i := 4) dL_law__953 rfl ?_
  refine T_iconst (pc := 955) (v := nI 3) dL_law__955 (by decide) ?_
  refine R_iadd (pc := 956) dL_law__956 ?_
  refine T_sld (pc := 957) (i := (i + 3)) (by omega) (by omega) dL_law__957 ?_
  refine T_aload_n (pc := 958) (i := 0) dL_law__958 rfl rfl ?_
  refine T_iload (pc := 959) (i := 4) dL_law__959 rfl ?_
  refine T_iconst (pc := 961) (v := nI 4) dL_law__961 (by decide) ?_
  refine R_iadd (pc := 962) dL_law__962 ?_
  refine T_sld (pc := 963) (i := (i + 4)) (by omega) (by omega) dL_law__963 ?_
  refine R_callVm1 (pc := 964) (As := [.long ((((lshl ((((gsx γ (i + 1))).toInt64)) (nI 32))) ||| ((((((gsx γ (i + 2))).toInt64)) &&& (lN 4294967295))))), .int ((gsx γ (i + 3))), .int ((gsx γ (i + 4)))]) (rest := []) (Or.inl lk_L_194) mk_X12_fits (q_fits hm1) kc_572 ⟨by decide, rfl⟩ lc_572 dL_law__964 rfl rfl (Nat.le_of_ble_eq_true rfl) (by omega) rfl (by omega) (by omega) (fun m2 h5 => ?_)
  have hc2 := h5.call h1
  refine T_istore (pc := 967) (i := 6) (ls' := [some (.ref XB), some (.ref 0), some (.ref 572), some (.ref 594), some (.int (nI i)), some (.int (nI (mT2 (inB (gsx γ (i + 3)) s.1.R.length) (codeB (((lshl ((((gsx γ (i + 1))).toInt64)) (nI 32))) ||| ((((((gsx γ (i + 2))).toInt64)) &&& (lN 4294967295)))))))), some (.int (bI (inB (gsx γ (i + 3)) s.1.R.length && (codeB (((lshl ((((gsx γ (i + 1))).toInt64)) (nI 32))) ||| ((((((gsx γ (i + 2))).toInt64)) &&& (lN 4294967295)))) && fitZ s.1.R (wOf s.1 s.2.1.2) (ml (((lshl ((((gsx γ (i + 1))).toInt64)) (nI 32))) ||| ((((((gsx γ (i + 2))).toInt64)) &&& (lN 4294967295))))) (gsx γ (i + 3)).toNatClampNeg (gsx γ (i + 4)))))), none]) dL_law__967 (by decide) rfl ?_
  refine T_aload_n (pc := 969) (i := 2) dL_law__969 rfl rfl ?_
  refine R_callV1 (pc := 970) (As := []) (rest := []) (Or.inl lk_L_157) mk_X12_thrown (m_thrown h5.2.1) kc_572 ⟨by decide, rfl⟩ lc_572 dL_law__970 rfl rfl (Nat.le_of_ble_eq_true rfl) (by omega) rfl (by omega) (by omega) ?_
  refine T_iload (pc := 973) (i := 5) dL_law__973 rfl ?_
  refine R_icmp_eq (pc := 975) (tgt := 980) (by omega) (by omega) dL_law__975 (by decide) (fun g1 => ?_) (fun g1 => ?_)
  · skip
    refine T_iload (pc := 980) (i := 5) dL_law__980 rfl ?_
    refine R_if_ne (pc := 982) (tgt := 1004) (by omega) dL_law__982 (by decide) (fun g2 => ?_) (fun g2 => ?_)
    · skip
      refine T_goto (pc := 1004) (tgt := 3335) dL_law__1004 (by decide) ?_
      refine T_ls (ls' := [some (.ref XB), some (.ref 0), some (.ref 572), some (.ref 594), some (.int (nI i)), none, none, none]) (And.intro rfl (And.intro rfl (And.intro rfl (And.intro rfl (And.intro rfl True.intro))))) ?_
      exact nx _ _ m2 _ hc2 h5.1 (by omega) (by omega)
    · skip
      have ho : m2.2 594 0 = (if (inB (gsx γ (i + 3)) s.1.R.length && (codeB (((lshl ((((gsx γ (i + 1))).toInt64)) (nI 32))) ||| ((((((gsx γ (i + 2))).toInt64)) &&& (lN 4294967295)))) && fitZ s.1.R (wOf s.1 s.2.1.2) (ml (((lshl ((((gsx γ (i + 1))).toInt64)) (nI 32))) ||| ((((((gsx γ (i + 2))).toInt64)) &&& (lN 4294967295))))) (gsx γ (i + 3)).toNatClampNeg (gsx γ (i + 4)))) = true then lN 1 else lN 0) := (congrFun (h5.2.2 594 (by unfold Smo; omega)).2 0).trans (h2 g2)
      refine T_aload_n (pc := 985) (i := 3) dL_law__985 rfl rfl ?_
      refine T_iconst (pc := 986) (v := nI 0) dL_law__986 (by decide) ?_
      refine R_lald (pc := 987) (x := (if (inB (gsx γ (i + 3)) s.1.R.length && (codeB (((lshl ((((gsx γ (i + 1))).toInt64)) (nI 32))) ||| ((((((gsx γ (i + 2))).toInt64)) &&& (lN 4294967295)))) && fitZ s.1.R (wOf s.1 s.2.1.2) (ml (((lshl ((((gsx γ (i + 1))).toInt64)) (nI 32))) ||| ((((((gsx γ (i + 2))).toInt64)) &&& (lN 4294967295))))) (gsx γ (i + 3)).toNatClampNeg (gsx γ (i + 4)))) = true then lN 1 else lN 0)) kc_594 lc_594 (by omega) (by first | decide | assumption) ho dL_law__987 ?_
      refine T_iload (pc := 988) (i := 6) dL_law__988 rfl ?_
      refine R_ifb_eq (pc := 990) (tgt := 997) dL_law__990 (by decide) (fun g3 => ?_) (fun g3 => ?_)
      · skip
        refine T_lconst (pc := 997) (v := lN 0) dL_law__997 rfl ?_
        refine T_lcmp (pc := 998) dL_law__998 ?_
        refine R_lx_eq (pc := 999) (tgt := 1004) dL_law__999 (by decide) (fun g4 => ?_) (fun g4 => ?_)
        · skip
          refine T_goto (pc := 1004) (tgt := 3335) dL_law__1004 (by decide) ?_
          refine T_ls (ls' := [some (.ref XB), some (.ref 0), some (.ref 572), some (.ref 594), some (.int (nI i)), none, none, none]) (And.intro rfl (And.intro rfl (And.intro rfl (And.intro rfl (And.intro rfl True.intro))))) ?_
          exact nx _ _ m2 _ hc2 h5.1 (by omega) (by omega)
        · exact absurd (by rw [g3]; rfl) g4
      · skip
        refine T_lconst (pc := 993) (v := lN 1) dL_law__993 rfl ?_
        refine T_goto (pc := 994) (tgt := 998) dL_law__994 (by decide) ?_
        refine T_lcmp (pc := 998) dL_law__998 ?_
        refine R_lx_eq (pc := 999) (tgt := 1004) dL_law__999 (by decide) (fun g4 => ?_) (fun g4 => ?_)
        · skip
          refine T_goto (pc := 1004) (tgt := 3335) dL_law__1004 (by decide) ?_
          refine T_ls (ls' := [some (.ref XB), some (.ref 0), some (.ref 572), some (.ref 594), some (.int (nI i)), none, none, none]) (And.intro rfl (And.intro rfl (And.intro rfl (And.intro rfl (And.intro rfl True.intro))))) ?_
          exact nx _ _ m2 _ hc2 h5.1 (by omega) (by omega)
        · exact absurd (by rw [g3]; rfl) g4
  · exact absurd rfl g1
theorem z_use (hD : 40 ≤ D) (hi : i + 7 ≤ gsl γ) (h3 : gsl γ ≤ 3584) (hk : kc + 5 ≤ mc) (hks : ks + 30 ≤ ms) (hc : CAll m s) (hm : MAll m s) (nx : LawNext γ D mc ms Q i kc ks) : T γ D mc ms M_L_law_ Q kc ks 1007 [some (.ref XB), some (.ref 0), some (.ref 572), some (.ref 594), some (.int (nI i)), none, none, none] [] (rm m) := by
  refine T_aload_n (pc := 1007) (i := 1) dL_law__1007 rfl rfl ?_
  refine T_aload_n (pc := 1008) (i := 0) dL_law__1008 rfl rfl ?_
  refine T_iload (pc := 1009) (i := 4) dL_law__1009 rfl ?_
  refine T_iconst (pc := 1011) (v := nI 1) dL_law__1011 (by decide) ?_
  refine R_iadd (pc := 1012) dL_law__1012 ?_
  refine T_sld (pc := 1013) (i := (i + 1)) (by omega) (by omega) dL_law__1013 ?_
  refine T_aload_n (pc := 1014) (i := 0) dL_law__1014 rfl rfl ?_
  refine T_iload (pc := 1015) (i := 4) dL_law__1015 rfl ?_
  refine T_iconst (pc := 1017) (v := nI 2) dL_law__1017 (by decide) ?_
  refine R_iadd (pc := 1018) dL_law__1018 ?_
  refine T_sld (pc := 1019) (i := (i + 2)) (by omega) (by omega) dL_law__1019 ?_
  refine T_aload_n (pc := 1020) (i := 0) dL_law__1020 rfl rfl ?_
  refine T_iload (pc := 1021) (i := 4) dL_law__1021 rfl ?_
  refine T_iconst (pc := 1023) (v := nI 3) dL_law__1023 (by decide) ?_
  refine R_iadd (pc := 1024) dL_law__1024 ?_
  refine T_sld (pc := 1025) (i := (i + 3)) (by omega) (by omega) dL_law__1025 ?_
  refine T_aload_n (pc := 1026) (i := 3) dL_law__1026 rfl rfl ?_
  refine T_callSH (pc := 1027) (av := [.ref 0, .int ((gsx γ (i + 1))), .int ((gsx γ (i + 2))), .int ((gsx γ (i + 3))), .ref 594]) (rest := []) lk_L_195 mk_L_use (w_use hc) dL_law__1027 rfl rfl (Nat.le_of_ble_eq_true rfl) (by omega) rfl (by omega) (by omega) (fun E m' h => by obtain ⟨_, z, _⟩ := h; cases z) (fun v m' h => ?_)
  obtain ⟨m1, h0, rfl, h1, h2, h4⟩ := h
  cases h0
  have hm1 : MAll m1 s := hm.ofc (fun k a b => h4 k (by unfold Swr; omega))
  have tle : (useT s.1 s.2.1.2 (gsx γ (i + 1)) (gsx γ (i + 2)) (gsx γ (i + 3))) ≤ 2 := Nat.le_trans (useT_le _ _ _ _ _) (by decide)
  show T _ _ _ _ _ _ _ _ 1030 [some (.ref XB), some (.ref 0), some (.ref 572), some (.ref 594), some (.int (nI i)), none, none, none] [.int (nI (useT s.1 s.2.1.2 (gsx γ (i + 1)) (gsx γ (i + 2)) (gsx γ (i + 3))))] (rm m1)
  refine T_istore (pc := 1030) (i := 5) (ls' := [some (.ref XB), some (.ref 0), some (.ref 572), some (.ref 594), some (.int (nI i)), some (.int (nI (useT s.1 s.2.1.2 (gsx γ (i + 1)) (gsx γ (i + 2)) (gsx γ (i + 3))))), none, none]) dL_law__1030 (by decide) rfl ?_
  refine T_aload_n (pc := 1032) (i := 2) dL_law__1032 rfl rfl ?_
  refine T_aload_n (pc := 1033) (i := 0) dL_law__1033 rfl rfl ?_
  refine T_iload (pc := 1034) (i := 4) dL_law__1034 rfl ?_
  refine T_iconst (pc := 1036) (v := nI 1) dL_law__1036 (by decide) ?_
  refine R_iadd (pc := 1037) dL_law__1037 ?_
  refine T_sld (pc := 1038) (i := (i + 1)) (by omega) (by omega) dL_law__1038 ?_
  refine T_aload_n (pc := 1039) (i := 0) dL_law__1039 rfl rfl ?_
  refine T_iload (pc := 1040) (i := 4) dL_law__1040 rfl ?_
  refine T_iconst (pc := 1042) (v := nI 2) dL_law__1042 (by decide) ?_
  refine R_iadd (pc := 1043) dL_law__1043 ?_
  refine T_sld (pc := 1044) (i := (i + 2)) (by omega) (by omega) dL_law__1044 ?_
  refine T_aload_n (pc := 1045) (i := 0) dL_law__1045 rfl rfl ?_
  refine T_iload (pc := 1046) (i := 4) dL_law__1046 rfl ?_
  refine T_iconst (pc := 1048) (v := nI 3) dL_law__1048 (by decide) ?_
  refine R_iadd (pc := 1049) dL_law__1049 ?_
  refine T_sld (pc := 1050) (i := (i + 3)) (by omega) (by omega) dL_law__1050 ?_
  refine R_callVm1 (pc := 1051) (As := [.int ((gsx γ (i + 1))), .int ((gsx γ (i + 2))), .int ((gsx γ (i + 3)))]) (rest := []) (Or.inl lk_L_197) mk_X12_use (q_use hm1) kc_572 ⟨by decide, rfl⟩ lc_572 dL_law__1051 rfl rfl (Nat.le_of_ble_eq_true rfl) (by omega) rfl (by omega) (by omega) (fun m2 h5 => ?_)
  have hc2 := h5.call h1
  refine T_lstore (pc := 1054) (i := 6) (ls' := [some (.ref XB), some (.ref 0), some (.ref 572), some (.ref 594), some (.int (nI i)), some (.int (nI (useT s.1 s.2.1.2 (gsx γ (i + 1)) (gsx γ (i + 2)) (gsx γ (i + 3))))), some (.long ((if useC s.1 s.2.1.2 (gsx γ (i + 1)) (gsx γ (i + 2)) (gsx γ (i + 3)) = true then lN (cd (useF s.1 (gsx γ (i + 1)) (gsx γ (i + 2)) (gsx γ (i + 3))).1) else lN 0))), none]) dL_law__1054 (by decide) rfl ?_
  refine T_aload_n (pc := 1056) (i := 2) dL_law__1056 rfl rfl ?_
  refine R_callV1 (pc := 1057) (As := []) (rest := []) (Or.inl lk_L_157) mk_X12_thrown (m_thrown h5.2.1) kc_572 ⟨by decide, rfl⟩ lc_572 dL_law__1057 rfl rfl (Nat.le_of_ble_eq_true rfl) (by omega) rfl (by omega) (by omega) ?_
  refine T_iload (pc := 1060) (i := 5) dL_law__1060 rfl ?_
  refine R_icmp_eq (pc := 1062) (tgt := 1067) (by omega) (by omega) dL_law__1062 (by decide) (fun g1 => ?_) (fun g1 => ?_)
  · skip
    refine T_iload (pc := 1067) (i := 5) dL_law__1067 rfl ?_
    refine R_if_ne (pc := 1069) (tgt := 1083) (by omega) dL_law__1069 (by decide) (fun g2 => ?_) (fun g2 => ?_)
    · skip
      refine T_goto (pc := 1083) (tgt := 3335) dL_law__1083 (by decide) ?_
      refine T_ls (ls' := [some (.ref XB), some (.ref 0), some (.ref 572), some (.ref 594), some (.int (nI i)), none, none, none]) (And.intro rfl (And.intro rfl (And.intro rfl (And.intro rfl (And.intro rfl True.intro))))) ?_
      exact nx _ _ m2 _ hc2 h5.1 (by omega) (by omega)
    · skip
      have ho : m2.2 594 0 = (if useC s.1 s.2.1.2 (gsx γ (i + 1)) (gsx γ (i + 2)) (gsx γ (i + 3)) = true then lN (cd (useF s.1 (gsx γ (i + 1)) (gsx γ (i + 2)) (gsx γ (i + 3))).1) else lN 0) := (congrFun (h5.2.2 594 (by unfold Smo; omega)).2 0).trans (h2 g2)
      refine T_aload_n (pc := 1072) (i := 3) dL_law__1072 rfl rfl ?_
      refine T_iconst (pc := 1073) (v := nI 0) dL_law__1073 (by decide) ?_
      refine R_lald (pc := 1074) (x := (if useC s.1 s.2.1.2 (gsx γ (i + 1)) (gsx γ (i + 2)) (gsx γ (i + 3)) = true then lN (cd (useF s.1 (gsx γ (i + 1)) (gsx γ (i + 2)) (gsx γ (i + 3))).1) else lN 0)) kc_594 lc_594 (by omega) (by first | decide | assumption) ho dL_law__1074 ?_
      refine T_lload (pc := 1075) (i := 6) dL_law__1075 rfl ?_
      refine T_lcmp (pc := 1077) dL_law__1077 ?_
      refine R_lx_eq (pc := 1078) (tgt := 1083) dL_law__1078 (by decide) (fun g4 => ?_) (fun g4 => ?_)
      · skip
        refine T_goto (pc := 1083) (tgt := 3335) dL_law__1083 (by decide) ?_
        refine T_ls (ls' := [some (.ref XB), some (.ref 0), some (.ref 572), some (.ref 594), some (.int (nI i)), none, none, none]) (And.intro rfl (And.intro rfl (And.intro rfl (And.intro rfl (And.intro rfl True.intro))))) ?_
        exact nx _ _ m2 _ hc2 h5.1 (by omega) (by omega)
      · exact absurd rfl g4
  · exact absurd rfl g1
theorem z_run (hD : 40 ≤ D) (hi : i + 7 ≤ gsl γ) (h3 : gsl γ ≤ 3584) (hk : kc + 5 ≤ mc) (hks : ks + 30 ≤ ms) (hc : CAll m s) (hm : MAll m s) (nx : LawNext γ D mc ms Q i kc ks) : T γ D mc ms M_L_law_ Q kc ks 1086 [some (.ref XB), some (.ref 0), some (.ref 572), some (.ref 594), some (.int (nI i)), none, none, none] [] (rm m) := by
  refine T_aload_n (pc := 1086) (i := 1) dL_law__1086 rfl rfl ?_
  refine T_aload_n (pc := 1087) (i := 0) dL_law__1087 rfl rfl ?_
  refine T_iload (pc := 1088) (i := 4) dL_law__1088 rfl ?_
  refine T_iconst (pc := 1090) (v := nI 1) dL_law__1090 (by decide) ?_
  refine R_iadd (pc := 1091) dL_law__1091 ?_
  refine T_sld (pc := 1092) (i := (i + 1)) (by omega) (by omega) dL_law__1092 ?_
  refine T_aload_n (pc := 1093) (i := 0) dL_law__1093 rfl rfl ?_
  refine T_iload (pc := 1094) (i := 4) dL_law__1094 rfl ?_
  refine T_iconst (pc := 1096) (v := nI 2) dL_law__1096 (by decide) ?_
  refine R_iadd (pc := 1097) dL_law__1097 ?_
  refine T_sld (pc := 1098) (i := (i + 2)) (by omega) (by omega) dL_law__1098 ?_
  refine T_aload_n (pc := 1099) (i := 3) dL_law__1099 rfl rfl ?_
  refine T_callSH (pc := 1100) (av := [.ref 0, .int ((gsx γ (i + 1))), .int ((gsx γ (i + 2))), .ref 594]) (rest := []) lk_L_198 mk_L_run (w_run hc) dL_law__1100 rfl rfl (Nat.le_of_ble_eq_true rfl) (by omega) rfl (by omega) (by omega) (fun E m' h => by obtain ⟨_, z, _⟩ := h; cases z) (fun v m' h => ?_)
  obtain ⟨m1, h0, rfl, h1, h2, h4⟩ := h
  cases h0
  have hm1 : MAll m1 s := hm.ofc (fun k a b => h4 k (by unfold Swr; omega))
  have tle : (mT2 (inB (gsx γ (i + 1)) s.1.F.length) (chkN (gsx γ (i + 2)) 1 200)) ≤ 2 := Nat.le_trans (mT2_le _ _) (by decide)
  show T _ _ _ _ _ _ _ _ 1103 [some (.ref XB), some (.ref 0), some (.ref 572), some (.ref 594), some (.int (nI i)), none, none, none] [.int (nI (mT2 (inB (gsx γ (i + 1)) s.1.F.length) (chkN (gsx γ (i + 2)) 1 200)))] (rm m1)
  refine T_istore (pc := 1103) (i := 5) (ls' := [some (.ref XB), some (.ref 0), some (.ref 572), some (.ref 594), some (.int (nI i)), some (.int (nI (mT2 (inB (gsx γ (i + 1)) s.1.F.length) (chkN (gsx γ (i + 2)) 1 200)))), none, none]) dL_law__1103 (by decide) rfl ?_
  refine T_aload_n (pc := 1105) (i := 2) dL_law__1105 rfl rfl ?_
  refine T_aload_n (pc := 1106) (i := 0) dL_law__1106 rfl rfl ?_
  refine T_iload (pc := 1107) (i := 4) dL_law__1107 rfl ?_
  refine T_iconst (pc := 1109) (v := nI 1) dL_law__1109 (by decide) ?_
  refine R_iadd (pc := 1110) dL_law__1110 ?_
  refine T_sld (pc := 1111) (i := (i + 1)) (by omega) (by omega) dL_law__1111 ?_
  refine T_aload_n (pc := 1112) (i := 0) dL_law__1112 rfl rfl ?_
  refine T_iload (pc := 1113) (i := 4) dL_law__1113 rfl ?_
  refine T_iconst (pc := 1115) (v := nI 2) dL_law__1115 (by decide) ?_
  refine R_iadd (pc := 1116) dL_law__1116 ?_
  refine T_sld (pc := 1117) (i := (i + 2)) (by omega) (by omega) dL_law__1117 ?_
  refine R_callVm1 (pc := 1118) (As := [.int ((gsx γ (i + 1))), .int ((gsx γ (i + 2)))]) (rest := []) (Or.inl lk_L_201) mk_X12_run (q_run hm1) kc_572 ⟨by decide, rfl⟩ lc_572 dL_law__1118 rfl rfl (Nat.le_of_ble_eq_true rfl) (by omega) rfl (by omega) (by omega) (fun m2 h5 => ?_)
  have hc2 := h5.call h1
  refine T_istore (pc := 1121) (i := 6) (ls' := [some (.ref XB), some (.ref 0), some (.ref 572), some (.ref 594), some (.int (nI i)), some (.int (nI (mT2 (inB (gsx γ (i + 1)) s.1.F.length) (chkN (gsx γ (i + 2)) 1 200)))), some (.int ((if (inB (gsx γ (i + 1)) s.1.F.length && chkN (gsx γ (i + 2)) 1 200) = true then nI (runN s.1 s.2.1.2 (gsx γ (i + 1)) (gsx γ (i + 2))).1 else nI 0))), none]) dL_law__1121 (by decide) rfl ?_
  refine T_aload_n (pc := 1123) (i := 2) dL_law__1123 rfl rfl ?_
  refine R_callV1 (pc := 1124) (As := []) (rest := []) (Or.inl lk_L_157) mk_X12_thrown (m_thrown h5.2.1) kc_572 ⟨by decide, rfl⟩ lc_572 dL_law__1124 rfl rfl (Nat.le_of_ble_eq_true rfl) (by omega) rfl (by omega) (by omega) ?_
  refine T_iload (pc := 1127) (i := 5) dL_law__1127 rfl ?_
  refine R_icmp_eq (pc := 1129) (tgt := 1134) (by omega) (by omega) dL_law__1129 (by decide) (fun g1 => ?_) (fun g1 => ?_)
  · skip
    refine T_iload (pc := 1134) (i := 5) dL_law__1134 rfl ?_
    refine R_if_ne (pc := 1136) (tgt := 1151) (by omega) dL_law__1136 (by decide) (fun g2 => ?_) (fun g2 => ?_)
    · skip
      refine T_goto (pc := 1151) (tgt := 3335) dL_law__1151 (by decide) ?_
      refine T_ls (ls' := [some (.ref XB), some (.ref 0), some (.ref 572), some (.ref 594), some (.int (nI i)), none, none, none]) (And.intro rfl (And.intro rfl (And.intro rfl (And.intro rfl (And.intro rfl True.intro))))) ?_
      exact nx _ _ m2 _ hc2 h5.1 (by omega) (by omega)
    · skip
      have ho : m2.2 594 0 = ((if (inB (gsx γ (i + 1)) s.1.F.length && chkN (gsx γ (i + 2)) 1 200) = true then nI (runN s.1 s.2.1.2 (gsx γ (i + 1)) (gsx γ (i + 2))).1 else nI 0)).toInt64 := (congrFun (h5.2.2 594 (by unfold Smo; omega)).2 0).trans (h2 g2)
      refine T_aload_n (pc := 1139) (i := 3) dL_law__1139 rfl rfl ?_
      refine T_iconst (pc := 1140) (v := nI 0) dL_law__1140 (by decide) ?_
      refine R_lald (pc := 1141) (x := (((if (inB (gsx γ (i + 1)) s.1.F.length && chkN (gsx γ (i + 2)) 1 200) = true then nI (runN s.1 s.2.1.2 (gsx γ (i + 1)) (gsx γ (i + 2))).1 else nI 0)).toInt64)) kc_594 lc_594 (by omega) (by first | decide | assumption) ho dL_law__1141 ?_
      refine T_iload (pc := 1142) (i := 6) dL_law__1142 rfl ?_
      refine T_i2l (pc := 1144) dL_law__1144 ?_
      refine T_lcmp (pc := 1145) dL_law__1145 ?_
      refine R_lx_eq (pc := 1146) (tgt := 1151) dL_law__1146 (by decide) (fun g4 => ?_) (fun g4 => ?_)
      · skip
        refine T_goto (pc := 1151) (tgt := 3335) dL_law__1151 (by decide) ?_
        refine T_ls (ls' := [some (.ref XB), some (.ref 0), some (.ref 572), some (.ref 594), some (.int (nI i)), none, none, none]) (And.intro rfl (And.intro rfl (And.intro rfl (And.intro rfl (And.intro rfl True.intro))))) ?_
        exact nx _ _ m2 _ hc2 h5.1 (by omega) (by omega)
      · exact absurd rfl g4
  · exact absurd rfl g1
theorem z_put (hD : 40 ≤ D) (hi : i + 7 ≤ gsl γ) (h3 : gsl γ ≤ 3584) (hk : kc + 5 ≤ mc) (hks : ks + 30 ≤ ms) (hc : CAll m s) (hm : MAll m s) (nx : LawNext γ D mc ms Q i kc ks) : T γ D mc ms M_L_law_ Q kc ks 1154 [some (.ref XB), some (.ref 0), some (.ref 572), some (.ref 594), some (.int (nI i)), none, none, none] [] (rm m) := by
  refine T_aload_n (pc := 1154) (i := 1) dL_law__1154 rfl rfl ?_
  refine T_aload_n (pc := 1155) (i := 0) dL_law__1155 rfl rfl ?_
  refine T_iload (pc := 1156) (i := 4) dL_law__1156 rfl ?_
  refine T_iconst (pc := 1158) (v := nI 1) dL_law__1158 (by decide) ?_
  refine R_iadd (pc := 1159) dL_law__1159 ?_
  refine T_sld (pc := 1160) (i := (i + 1)) (by omega) (by omega) dL_law__1160 ?_
  refine T_aload_n (pc := 1161) (i := 0) dL_law__1161 rfl rfl ?_
  refine T_iload (pc := 1162) (i := 4) dL_law__1162 rfl ?_
  refine T_iconst (pc := 1164) (v := nI 2) dL_law__1164 (by decide) ?_
  refine R_iadd (pc := 1165) dL_law__1165 ?_
  refine T_sld (pc := 1166) (i := (i + 2)) (by omega) (by omega) dL_law__1166 ?_
  refine T_i2l (pc := 1167) dL_law__1167 ?_
  refine T_bipush (pc := 1168) (v := nI 32) dL_law__1168 (by decide) ?_
  refine T_lshl (pc := 1170) dL_law__1170 ?_
  refine T_aload_n (pc := 1171) (i := 0) dL_law__1171 rfl rfl ?_
  refine T_iload (pc := 1172) (i := 4) dL_law__1172 rfl ?_
  refine T_iconst (pc := 1174) (v := nI 3) dL_law__1174 (by decide) ?_
  refine R_iadd (pc := 1175) dL_law__1175 ?_
  refine T_sld (pc := 1176) (i := (i + 3)) (by omega) (by omega) dL_law__1176 ?_
  refine T_i2l (pc := 1177) dL_law__1177 ?_
  refine T_ldc2 (pc := 1178) dL_law__1178 cn_L_178 ?_
  refine T_topl (v := lN 4294967295) (fa_litL _) ?_
  refine T_land (pc := 1181) dL_law__1181 ?_
  refine T_lor (pc := 1182) dL_law__1182 ?_
  refine T_aload_n (pc := 1183) (i := 3) dL_law__1183 rfl rfl ?_
  refine T_callSH (pc := 1184) (av := [.ref 0, .int ((gsx γ (i + 1))), .long ((((lshl ((((gsx γ (i + 2))).toInt64)) (nI 32))) ||| ((((((gsx γ (i + 3))).toInt64)) &&& (lN 4294967295))))), .ref 594]) (rest := []) lk_L_202 mk_L_put (w_put hc) dL_law__1184 rfl rfl (Nat.le_of_ble_eq_true rfl) (by omega) rfl (by omega) (by omega) (fun E m' h => by obtain ⟨_, z, _⟩ := h; cases z) (fun v m' h => ?_)
  obtain ⟨m1, h0, rfl, h1, h2, h4⟩ := h
  cases h0
  have hm1 : MAll m1 s := hm.ofc (fun k a b => h4 k (by unfold Swr; omega))
  have tle : (mT2 (inB (gsx γ (i + 1)) s.1.F.length) (codeB (((lshl ((((gsx γ (i + 2))).toInt64)) (nI 32))) ||| ((((((gsx γ (i + 3))).toInt64)) &&& (lN 4294967295)))))) ≤ 2 := Nat.le_trans (mT2_le _ _) (by decide)
  show T _ _ _ _ _ _ _ _ 1187 [some (.ref XB), some (.ref 0), some (.ref 572), some (.ref 594), some (.int (nI i)), none, none, none] [.int (nI (mT2 (inB (gsx γ (i + 1)) s.1.F.length) (codeB (((lshl ((((gsx γ (i + 2))).toInt64)) (nI 32))) ||| ((((((gsx γ (i + 3))).toInt64)) &&& (lN 4294967295)))))))] (rm m1)
  refine T_istore (pc := 1187) (i := 5) (ls' := [some (.ref XB), some (.ref 0), some (.ref 572), some (.ref 594), some (.int (nI i)), some (.int (nI (mT2 (inB (gsx γ (i + 1)) s.1.F.length) (codeB (((lshl ((((gsx γ (i + 2))).toInt64)) (nI 32))) ||| ((((((gsx γ (i + 3))).toInt64)) &&& (lN 4294967295)))))))), none, none]) dL_law__1187 (by decide) rfl ?_
  refine T_aload_n (pc := 1189) (i := 2) dL_law__1189 rfl rfl ?_
  refine T_aload_n (pc := 1190) (i := 0) dL_law__1190 rfl rfl ?_
  refine T_iload (pc := 1191) (i := 4) dL_law__1191 rfl ?_
  refine T_iconst (pc := 1193) (v := nI 1) dL_law__1193 (by decide) ?_
  refine R_iadd (pc := 1194) dL_law__1194 ?_
  refine T_sld (pc := 1195) (i := (i + 1)) (by omega) (by omega) dL_law__1195 ?_
  refine T_aload_n (pc := 1196) (i := 0) dL_law__1196 rfl rfl ?_
  refine T_iload (pc := 1197) (i := 4) dL_law__1197 rfl ?_
  refine T_iconst (pc := 1199) (v := nI 2) dL_law__1199 (by decide) ?_
  refine R_iadd (pc := 1200) dL_law__1200 ?_
  refine T_sld (pc := 1201) (i := (i + 2)) (by omega) (by omega) dL_law__1201 ?_
  refine T_i2l (pc := 1202) dL_law__1202 ?_
  refine T_bipush (pc := 1203) (v := nI 32) dL_law__1203 (by decide) ?_
  refine T_lshl (pc := 1205) dL_law__1205 ?_
  refine T_aload_n (pc := 1206) (i := 0) dL_law__1206 rfl rfl ?_
  refine T_iload (pc := 1207) (i := 4) dL_law__1207 rfl ?_
  refine T_iconst (pc := 1209) (v := nI 3) dL_law__1209 (by decide) ?_
  refine R_iadd (pc := 1210) dL_law__1210 ?_
  refine T_sld (pc := 1211) (i := (i + 3)) (by omega) (by omega) dL_law__1211 ?_
  refine T_i2l (pc := 1212) dL_law__1212 ?_
  refine T_ldc2 (pc := 1213) dL_law__1213 cn_L_178 ?_
  refine T_topl (v := lN 4294967295) (fa_litL _) ?_
  refine T_land (pc := 1216) dL_law__1216 ?_
  refine T_lor (pc := 1217) dL_law__1217 ?_
  refine R_callVm1 (pc := 1218) (As := [.int ((gsx γ (i + 1))), .long ((((lshl ((((gsx γ (i + 2))).toInt64)) (nI 32))) ||| ((((((gsx γ (i + 3))).toInt64)) &&& (lN 4294967295)))))]) (rest := []) (Or.inl lk_L_205) mk_X12_put (q_put hm1) kc_572 ⟨by decide, rfl⟩ lc_572 dL_law__1218 rfl rfl (Nat.le_of_ble_eq_true rfl) (by omega) rfl (by omega) (by omega) (fun m2 h5 => ?_)
  have hc2 := h5.call h1
  refine T_lstore (pc := 1221) (i := 6) (ls' := [some (.ref XB), some (.ref 0), some (.ref 572), some (.ref 594), some (.int (nI i)), some (.int (nI (mT2 (inB (gsx γ (i + 1)) s.1.F.length) (codeB (((lshl ((((gsx γ (i + 2))).toInt64)) (nI 32))) ||| ((((((gsx γ (i + 3))).toInt64)) &&& (lN 4294967295)))))))), some (.long ((if (inB (gsx γ (i + 1)) s.1.F.length && codeB (((lshl ((((gsx γ (i + 2))).toInt64)) (nI 32))) ||| ((((((gsx γ (i + 3))).toInt64)) &&& (lN 4294967295))))) = true then lN (cd (fAt s.1.F (gsx γ (i + 1)).toNatClampNeg).1) else lN 0))), none]) dL_law__1221 (by decide) rfl ?_
  refine T_aload_n (pc := 1223) (i := 2) dL_law__1223 rfl rfl ?_
  refine R_callV1 (pc := 1224) (As := []) (rest := []) (Or.inl lk_L_157) mk_X12_thrown (m_thrown h5.2.1) kc_572 ⟨by decide, rfl⟩ lc_572 dL_law__1224 rfl rfl (Nat.le_of_ble_eq_true rfl) (by omega) rfl (by omega) (by omega) ?_
  refine T_iload (pc := 1227) (i := 5) dL_law__1227 rfl ?_
  refine R_icmp_eq (pc := 1229) (tgt := 1234) (by omega) (by omega) dL_law__1229 (by decide) (fun g1 => ?_) (fun g1 => ?_)
  · skip
    refine T_iload (pc := 1234) (i := 5) dL_law__1234 rfl ?_
    refine R_if_ne (pc := 1236) (tgt := 1250) (by omega) dL_law__1236 (by decide) (fun g2 => ?_) (fun g2 => ?_)
    · skip
      refine T_goto (pc := 1250) (tgt := 3335) dL_law__1250 (by decide) ?_
      refine T_ls (ls' := [some (.ref XB), some (.ref 0), some (.ref 572), some (.ref 594), some (.int (nI i)), none, none, none]) (And.intro rfl (And.intro rfl (And.intro rfl (And.intro rfl (And.intro rfl True.intro))))) ?_
      exact nx _ _ m2 _ hc2 h5.1 (by omega) (by omega)
    · skip
      have ho : m2.2 594 0 = (if (inB (gsx γ (i + 1)) s.1.F.length && codeB (((lshl ((((gsx γ (i + 2))).toInt64)) (nI 32))) ||| ((((((gsx γ (i + 3))).toInt64)) &&& (lN 4294967295))))) = true then lN (cd (fAt s.1.F (gsx γ (i + 1)).toNatClampNeg).1) else lN 0) := (congrFun (h5.2.2 594 (by unfold Smo; omega)).2 0).trans (h2 g2)
      refine T_aload_n (pc := 1239) (i := 3) dL_law__1239 rfl rfl ?_
      refine T_iconst (pc := 1240) (v := nI 0) dL_law__1240 (by decide) ?_
      refine R_lald (pc := 1241) (x := (if (inB (gsx γ (i + 1)) s.1.F.length && codeB (((lshl ((((gsx γ (i + 2))).toInt64)) (nI 32))) ||| ((((((gsx γ (i + 3))).toInt64)) &&& (lN 4294967295))))) = true then lN (cd (fAt s.1.F (gsx γ (i + 1)).toNatClampNeg).1) else lN 0)) kc_594 lc_594 (by omega) (by first | decide | assumption) ho dL_law__1241 ?_
      refine T_lload (pc := 1242) (i := 6) dL_law__1242 rfl ?_
      refine T_lcmp (pc := 1244) dL_law__1244 ?_
      refine R_lx_eq (pc := 1245) (tgt := 1250) dL_law__1245 (by decide) (fun g4 => ?_) (fun g4 => ?_)
      · skip
        refine T_goto (pc := 1250) (tgt := 3335) dL_law__1250 (by decide) ?_
        refine T_ls (ls' := [some (.ref XB), some (.ref 0), some (.ref 572), some (.ref 594), some (.int (nI i)), none, none, none]) (And.intro rfl (And.intro rfl (And.intro rfl (And.intro rfl (And.intro rfl True.intro))))) ?_
        exact nx _ _ m2 _ hc2 h5.1 (by omega) (by omega)
      · exact absurd rfl g4
  · exact absurd rfl g1
theorem z_add (hD : 40 ≤ D) (hi : i + 7 ≤ gsl γ) (h3 : gsl γ ≤ 3584) (hk : kc + 5 ≤ mc) (hks : ks + 30 ≤ ms) (hc : CAll m s) (hm : MAll m s) (nx : LawNext γ D mc ms Q i kc ks) : T γ D mc ms M_L_law_ Q kc ks 1253 [some (.ref XB), some (.ref 0), some (.ref 572), some (.ref 594), some (.int (nI i)), none, none, none] [] (rm m) := by
  refine T_aload_n (pc := 1253) (i := 1) dL_law__1253 rfl rfl ?_
  refine T_aload_n (pc := 1254) (i := 0) dL_law__1254 rfl rfl ?_
  refine T_iload (pc := 1255) (i := 4) dL_law__1255 rfl ?_
  refine T_iconst (pc := 1257) (v := nI 1) dL_law__1257 (by decide) ?_
  refine R_iadd (pc := 1258) dL_law__1258 ?_
  refine T_sld (pc := 1259) (i := (i + 1)) (by omega) (by omega) dL_law__1259 ?_
  refine T_i2l (pc := 1260) dL_law__1260 ?_
  refine T_bipush (pc := 1261) (v := nI 32) dL_law__1261 (by decide) ?_
  refine T_lshl (pc := 1263) dL_law__1263 ?_
  refine T_aload_n (pc := 1264) (i := 0) dL_law__1264 rfl rfl ?_
  refine T_iload (pc := 1265) (i := 4) dL_law__1265 rfl ?_
  refine T_iconst (pc := 1267) (v := nI 2) dL_law__1267 (by decide) ?_
  refine R_iadd (pc := 1268) dL_law__1268 ?_
  refine T_sld (pc := 1269) (i := (i + 2)) (by omega) (by omega) dL_law__1269 ?_
  refine T_i2l (pc := 1270) dL_law__1270 ?_
  refine T_ldc2 (pc := 1271) dL_law__1271 cn_L_178 ?_
  refine T_topl (v := lN 4294967295) (fa_litL _) ?_
  refine T_land (pc := 1274) dL_law__1274 ?_
  refine T_lor (pc := 1275) dL_law__1275 ?_
  refine T_aload_n (pc := 1276) (i := 0) dL_law__1276 rfl rfl ?_
  refine T_iload (pc := 1277) (i := 4) dL_law__1277 rfl ?_
  refine T_iconst (pc := 1279) (v := nI 3) dL_law__1279 (by decide) ?_
  refine R_iadd (pc := 1280) dL_law__1280 ?_
  refine T_sld (pc := 1281) (i := (i + 3)) (by omega) (by omega) dL_law__1281 ?_
  refine T_i2l (pc := 1282) dL_law__1282 ?_
  refine T_bipush (pc := 1283) (v := nI 32) dL_law__1283 (by decide) ?_
  refine T_lshl (pc := 1285) dL_law__1285 ?_
  refine T_aload_n (pc := 1286) (i := 0) dL_law__1286 rfl rfl ?_
  refine T_iload (pc := 1287) (i := 4) dL_law__1287 rfl ?_
  refine T_iconst (pc := 1289) (v := nI 4) dL_law__1289 (by decide) ?_
  refine R_iadd (pc := 1290) dL_law__1290 ?_
  refine T_sld (pc := 1291) (i := (i + 4)) (by omega) (by omega) dL_law__1291 ?_
  refine T_i2l (pc := 1292) dL_law__1292 ?_
  refine T_ldc2 (pc := 1293) dL_law__1293 cn_L_178 ?_
  refine T_topl (v := lN 4294967295) (fa_litL _) ?_
  refine T_land (pc := 1296) dL_law__1296 ?_
  refine T_lor (pc := 1297) dL_law__1297 ?_
  refine T_aload_n (pc := 1298) (i := 3) dL_law__1298 rfl rfl ?_
  refine T_callSH (pc := 1299) (av := [.ref 0, .long ((((lshl ((((gsx γ (i + 1))).toInt64)) (nI 32))) ||| ((((((gsx γ (i + 2))).toInt64)) &&& (lN 4294967295))))), .long ((((lshl ((((gsx γ (i + 3))).toInt64)) (nI 32))) ||| ((((((gsx γ (i + 4))).toInt64)) &&& (lN 4294967295))))), .ref 594]) (rest := []) lk_L_206 mk_L_add (w_add hc) dL_law__1299 rfl rfl (Nat.le_of_ble_eq_true rfl) (by omega) rfl (by omega) (by omega) (fun E m' h => by obtain ⟨_, z, _⟩ := h; cases z) (fun v m' h => ?_)
  obtain ⟨m1, h0, rfl, h1, h2, h4⟩ := h
  cases h0
  have hm1 : MAll m1 s := hm.ofc (fun k a b => h4 k (by unfold Swr; omega))
  have tle : (mT2 (addB (((lshl ((((gsx γ (i + 1))).toInt64)) (nI 32))) ||| ((((((gsx γ (i + 2))).toInt64)) &&& (lN 4294967295)))) (((lshl ((((gsx γ (i + 3))).toInt64)) (nI 32))) ||| ((((((gsx γ (i + 4))).toInt64)) &&& (lN 4294967295))))) (decide (s.1.R.length < 12))) ≤ 2 := Nat.le_trans (mT2_le _ _) (by decide)
  show T _ _ _ _ _ _ _ _ 1302 [some (.ref XB), some (.ref 0), some (.ref 572), some (.ref 594), some (.int (nI i)), none, none, none] [.int (nI (mT2 (addB (((lshl ((((gsx γ (i + 1))).toInt64)) (nI 32))) ||| ((((((gsx γ (i + 2))).toInt64)) &&& (lN 4294967295)))) (((lshl ((((gsx γ (i + 3))).toInt64)) (nI 32))) ||| ((((((gsx γ (i + 4))).toInt64)) &&& (lN 4294967295))))) (decide (s.1.R.length < 12))))] (rm m1)
  refine T_istore (pc := 1302) (i := 5) (ls' := [some (.ref XB), some (.ref 0), some (.ref 572), some (.ref 594), some (.int (nI i)), some (.int (nI (mT2 (addB (((lshl ((((gsx γ (i + 1))).toInt64)) (nI 32))) ||| ((((((gsx γ (i + 2))).toInt64)) &&& (lN 4294967295)))) (((lshl ((((gsx γ (i + 3))).toInt64)) (nI 32))) ||| ((((((gsx γ (i + 4))).toInt64)) &&& (lN 4294967295))))) (decide (s.1.R.length < 12))))), none, none]) dL_law__1302 (by decide) rfl ?_
  refine T_aload_n (pc := 1304) (i := 2) dL_law__1304 rfl rfl ?_
  refine T_aload_n (pc := 1305) (i := 0) dL_law__1305 rfl rfl ?_
  refine T_iload (pc := 1306) (i := 4) dL_law__1306 rfl ?_
  refine T_iconst (pc := 1308) (v := nI 1) dL_law__1308 (by decide) ?_
  refine R_iadd (pc := 1309) dL_law__1309 ?_
  refine T_sld (pc := 1310) (i := (i + 1)) (by omega) (by omega) dL_law__1310 ?_
  refine T_i2l (pc := 1311) dL_law__1311 ?_
  refine T_bipush (pc := 1312) (v := nI 32) dL_law__1312 (by decide) ?_
  refine T_lshl (pc := 1314) dL_law__1314 ?_
  refine T_aload_n (pc := 1315) (i := 0) dL_law__1315 rfl rfl ?_
  refine T_iload (pc := 1316) (i := 4) dL_law__1316 rfl ?_
  refine T_iconst (pc := 1318) (v := nI 2) dL_law__1318 (by decide) ?_
  refine R_iadd (pc := 1319) dL_law__1319 ?_
  refine T_sld (pc := 1320) (i := (i + 2)) (by omega) (by omega) dL_law__1320 ?_
  refine T_i2l (pc := 1321) dL_law__1321 ?_
  refine T_ldc2 (pc := 1322) dL_law__1322 cn_L_178 ?_
  refine T_topl (v := lN 4294967295) (fa_litL _) ?_
  refine T_land (pc := 1325) dL_law__1325 ?_
  refine T_lor (pc := 1326) dL_law__1326 ?_
  refine T_aload_n (pc := 1327) (i := 0) dL_law__1327 rfl rfl ?_
  refine T_iload (pc := 1328) (i := 4) dL_law__1328 rfl ?_
  refine T_iconst (pc := 1330) (v := nI 3) dL_law__1330 (by decide) ?_
  refine R_iadd (pc := 1331) dL_law__1331 ?_
  refine T_sld (pc := 1332) (i := (i + 3)) (by omega) (by omega) dL_law__1332 ?_
  refine T_i2l (pc := 1333) dL_law__1333 ?_
  refine T_bipush (pc := 1334) (v := nI 32) dL_law__1334 (by decide) ?_
  refine T_lshl (pc := 1336) dL_law__1336 ?_
  refine T_aload_n (pc := 1337) (i := 0) dL_law__1337 rfl rfl ?_
  refine T_iload (pc := 1338) (i := 4) dL_law__1338 rfl ?_
  refine T_iconst (pc := 1340) (v := nI 4) dL_law__1340 (by decide) ?_
  refine R_iadd (pc := 1341) dL_law__1341 ?_
  refine T_sld (pc := 1342) (i := (i + 4)) (by omega) (by omega) dL_law__1342 ?_
  refine T_i2l (pc := 1343) dL_law__1343 ?_
  refine T_ldc2 (pc := 1344) dL_law__1344 cn_L_178 ?_
  refine T_topl (v := lN 4294967295) (fa_litL _) ?_
  refine T_land (pc := 1347) dL_law__1347 ?_
  refine T_lor (pc := 1348) dL_law__1348 ?_
  refine R_callVm1 (pc := 1349) (As := [.long ((((lshl ((((gsx γ (i + 1))).toInt64)) (nI 32))) ||| ((((((gsx γ (i + 2))).toInt64)) &&& (lN 4294967295))))), .long ((((lshl ((((gsx γ (i + 3))).toInt64)) (nI 32))) ||| ((((((gsx γ (i + 4))).toInt64)) &&& (lN 4294967295)))))]) (rest := []) (Or.inl lk_L_209) mk_X12_add (q_add hm1) kc_572 ⟨by decide, rfl⟩ lc_572 dL_law__1349 rfl rfl (Nat.le_of_ble_eq_true rfl) (by omega) rfl (by omega) (by omega) (fun m2 h5 => ?_)
  have hc2 := h5.call h1
  refine T_istore (pc := 1352) (i := 6) (ls' := [some (.ref XB), some (.ref 0), some (.ref 572), some (.ref 594), some (.int (nI i)), some (.int (nI (mT2 (addB (((lshl ((((gsx γ (i + 1))).toInt64)) (nI 32))) ||| ((((((gsx γ (i + 2))).toInt64)) &&& (lN 4294967295)))) (((lshl ((((gsx γ (i + 3))).toInt64)) (nI 32))) ||| ((((((gsx γ (i + 4))).toInt64)) &&& (lN 4294967295))))) (decide (s.1.R.length < 12))))), some (.int ((if (addB (((lshl ((((gsx γ (i + 1))).toInt64)) (nI 32))) ||| ((((((gsx γ (i + 2))).toInt64)) &&& (lN 4294967295)))) (((lshl ((((gsx γ (i + 3))).toInt64)) (nI 32))) ||| ((((((gsx γ (i + 4))).toInt64)) &&& (lN 4294967295)))) && decide (s.1.R.length < 12)) = true then nI s.1.R.length else nI 0))), none]) dL_law__1352 (by decide) rfl ?_
  refine T_aload_n (pc := 1354) (i := 2) dL_law__1354 rfl rfl ?_
  refine R_callV1 (pc := 1355) (As := []) (rest := []) (Or.inl lk_L_157) mk_X12_thrown (m_thrown h5.2.1) kc_572 ⟨by decide, rfl⟩ lc_572 dL_law__1355 rfl rfl (Nat.le_of_ble_eq_true rfl) (by omega) rfl (by omega) (by omega) ?_
  refine T_iload (pc := 1358) (i := 5) dL_law__1358 rfl ?_
  refine R_icmp_eq (pc := 1360) (tgt := 1365) (by omega) (by omega) dL_law__1360 (by decide) (fun g1 => ?_) (fun g1 => ?_)
  · skip
    refine T_iload (pc := 1365) (i := 5) dL_law__1365 rfl ?_
    refine R_if_ne (pc := 1367) (tgt := 1382) (by omega) dL_law__1367 (by decide) (fun g2 => ?_) (fun g2 => ?_)
    · skip
      refine T_goto (pc := 1382) (tgt := 3335) dL_law__1382 (by decide) ?_
      refine T_ls (ls' := [some (.ref XB), some (.ref 0), some (.ref 572), some (.ref 594), some (.int (nI i)), none, none, none]) (And.intro rfl (And.intro rfl (And.intro rfl (And.intro rfl (And.intro rfl True.intro))))) ?_
      exact nx _ _ m2 _ hc2 h5.1 (by omega) (by omega)
    · skip
      have ho : m2.2 594 0 = ((if (addB (((lshl ((((gsx γ (i + 1))).toInt64)) (nI 32))) ||| ((((((gsx γ (i + 2))).toInt64)) &&& (lN 4294967295)))) (((lshl ((((gsx γ (i + 3))).toInt64)) (nI 32))) ||| ((((((gsx γ (i + 4))).toInt64)) &&& (lN 4294967295)))) && decide (s.1.R.length < 12)) = true then nI s.1.R.length else nI 0)).toInt64 := (congrFun (h5.2.2 594 (by unfold Smo; omega)).2 0).trans (h2 g2)
      refine T_aload_n (pc := 1370) (i := 3) dL_law__1370 rfl rfl ?_
      refine T_iconst (pc := 1371) (v := nI 0) dL_law__1371 (by decide) ?_
      refine R_lald (pc := 1372) (x := (((if (addB (((lshl ((((gsx γ (i + 1))).toInt64)) (nI 32))) ||| ((((((gsx γ (i + 2))).toInt64)) &&& (lN 4294967295)))) (((lshl ((((gsx γ (i + 3))).toInt64)) (nI 32))) ||| ((((((gsx γ (i + 4))).toInt64)) &&& (lN 4294967295)))) && decide (s.1.R.length < 12)) = true then nI s.1.R.length else nI 0)).toInt64)) kc_594 lc_594 (by omega) (by first | decide | assumption) ho dL_law__1372 ?_
      refine T_iload (pc := 1373) (i := 6) dL_law__1373 rfl ?_
      refine T_i2l (pc := 1375) dL_law__1375 ?_
      refine T_lcmp (pc := 1376) dL_law__1376 ?_
      refine R_lx_eq (pc := 1377) (tgt := 1382) dL_law__1377 (by decide) (fun g4 => ?_) (fun g4 => ?_)
      · skip
        refine T_goto (pc := 1382) (tgt := 3335) dL_law__1382 (by decide) ?_
        refine T_ls (ls' := [some (.ref XB), some (.ref 0), some (.ref 572), some (.ref 594), some (.int (nI i)), none, none, none]) (And.intro rfl (And.intro rfl (And.intro rfl (And.intro rfl (And.intro rfl True.intro))))) ?_
        exact nx _ _ m2 _ hc2 h5.1 (by omega) (by omega)
      · exact absurd rfl g4
  · exact absurd rfl g1
theorem z_drop (hD : 40 ≤ D) (hi : i + 7 ≤ gsl γ) (h3 : gsl γ ≤ 3584) (hk : kc + 5 ≤ mc) (hks : ks + 30 ≤ ms) (hc : CAll m s) (hm : MAll m s) (nx : LawNext γ D mc ms Q i kc ks) : T γ D mc ms M_L_law_ Q kc ks 1385 [some (.ref XB), some (.ref 0), some (.ref 572), some (.ref 594), some (.int (nI i)), none, none, none] [] (rm m) := by
  refine T_aload_n (pc := 1385) (i := 1) dL_law__1385 rfl rfl ?_
  refine T_aload_n (pc := 1386) (i := 0) dL_law__1386 rfl rfl ?_
  refine T_iload (pc := 1387) (i := 4) dL_law__1387 rfl ?_
  refine T_iconst (pc := 1389) (v := nI 1) dL_law__1389 (by decide) ?_
  refine R_iadd (pc := 1390) dL_law__1390 ?_
  refine T_sld (pc := 1391) (i := (i + 1)) (by omega) (by omega) dL_law__1391 ?_
  refine T_aload_n (pc := 1392) (i := 3) dL_law__1392 rfl rfl ?_
  refine T_callSH (pc := 1393) (av := [.ref 0, .int ((gsx γ (i + 1))), .ref 594]) (rest := []) lk_L_210 mk_L_drop (w_drop hc) dL_law__1393 rfl rfl (Nat.le_of_ble_eq_true rfl) (by omega) rfl (by omega) (by omega) (fun E m' h => by obtain ⟨_, z, _⟩ := h; cases z) (fun v m' h => ?_)
  obtain ⟨m1, h0, rfl, h1, h2, h4⟩ := h
  cases h0
  have hm1 : MAll m1 s := hm.ofc (fun k a b => h4 k (by unfold Swr; omega))
  have tle : (mT1 (inB (gsx γ (i + 1)) s.1.R.length)) ≤ 2 := Nat.le_trans (mT1_le _) (by decide)
  show T _ _ _ _ _ _ _ _ 1396 [some (.ref XB), some (.ref 0), some (.ref 572), some (.ref 594), some (.int (nI i)), none, none, none] [.int (nI (mT1 (inB (gsx γ (i + 1)) s.1.R.length)))] (rm m1)
  refine T_istore (pc := 1396) (i := 5) (ls' := [some (.ref XB), some (.ref 0), some (.ref 572), some (.ref 594), some (.int (nI i)), some (.int (nI (mT1 (inB (gsx γ (i + 1)) s.1.R.length)))), none, none]) dL_law__1396 (by decide) rfl ?_
  refine T_aload_n (pc := 1398) (i := 2) dL_law__1398 rfl rfl ?_
  refine T_aload_n (pc := 1399) (i := 0) dL_law__1399 rfl rfl ?_
  refine T_iload (pc := 1400) (i := 4) dL_law__1400 rfl ?_
  refine T_iconst (pc := 1402) (v := nI 1) dL_law__1402 (by decide) ?_
  refine R_iadd (pc := 1403) dL_law__1403 ?_
  refine T_sld (pc := 1404) (i := (i + 1)) (by omega) (by omega) dL_law__1404 ?_
  refine R_callVm1 (pc := 1405) (As := [.int ((gsx γ (i + 1)))]) (rest := []) (Or.inl lk_L_212) mk_X12_drop (q_drop hm1) kc_572 ⟨by decide, rfl⟩ lc_572 dL_law__1405 rfl rfl (Nat.le_of_ble_eq_true rfl) (by omega) rfl (by omega) (by omega) (fun m2 h5 => ?_)
  have hc2 := h5.call h1
  refine T_istore (pc := 1408) (i := 6) (ls' := [some (.ref XB), some (.ref 0), some (.ref 572), some (.ref 594), some (.int (nI i)), some (.int (nI (mT1 (inB (gsx γ (i + 1)) s.1.R.length)))), some (.int ((if inB (gsx γ (i + 1)) s.1.R.length = true then nI (s.1.R.length - 1) else nI 0))), none]) dL_law__1408 (by decide) rfl ?_
  refine T_aload_n (pc := 1410) (i := 2) dL_law__1410 rfl rfl ?_
  refine R_callV1 (pc := 1411) (As := []) (rest := []) (Or.inl lk_L_157) mk_X12_thrown (m_thrown h5.2.1) kc_572 ⟨by decide, rfl⟩ lc_572 dL_law__1411 rfl rfl (Nat.le_of_ble_eq_true rfl) (by omega) rfl (by omega) (by omega) ?_
  refine T_iload (pc := 1414) (i := 5) dL_law__1414 rfl ?_
  refine R_icmp_eq (pc := 1416) (tgt := 1421) (by omega) (by omega) dL_law__1416 (by decide) (fun g1 => ?_) (fun g1 => ?_)
  · skip
    refine T_iload (pc := 1421) (i := 5) dL_law__1421 rfl ?_
    refine R_if_ne (pc := 1423) (tgt := 1438) (by omega) dL_law__1423 (by decide) (fun g2 => ?_) (fun g2 => ?_)
    · skip
      refine T_goto (pc := 1438) (tgt := 3335) dL_law__1438 (by decide) ?_
      refine T_ls (ls' := [some (.ref XB), some (.ref 0), some (.ref 572), some (.ref 594), some (.int (nI i)), none, none, none]) (And.intro rfl (And.intro rfl (And.intro rfl (And.intro rfl (And.intro rfl True.intro))))) ?_
      exact nx _ _ m2 _ hc2 h5.1 (by omega) (by omega)
    · skip
      have ho : m2.2 594 0 = ((if inB (gsx γ (i + 1)) s.1.R.length = true then nI (s.1.R.length - 1) else nI 0)).toInt64 := (congrFun (h5.2.2 594 (by unfold Smo; omega)).2 0).trans (h2 g2)
      refine T_aload_n (pc := 1426) (i := 3) dL_law__1426 rfl rfl ?_
      refine T_iconst (pc := 1427) (v := nI 0) dL_law__1427 (by decide) ?_
      refine R_lald (pc := 1428) (x := (((if inB (gsx γ (i + 1)) s.1.R.length = true then nI (s.1.R.length - 1) else nI 0)).toInt64)) kc_594 lc_594 (by omega) (by first | decide | assumption) ho dL_law__1428 ?_
      refine T_iload (pc := 1429) (i := 6) dL_law__1429 rfl ?_
      refine T_i2l (pc := 1431) dL_law__1431 ?_
      refine T_lcmp (pc := 1432) dL_law__1432 ?_
      refine R_lx_eq (pc := 1433) (tgt := 1438) dL_law__1433 (by decide) (fun g4 => ?_) (fun g4 => ?_)
      · skip
        refine T_goto (pc := 1438) (tgt := 3335) dL_law__1438 (by decide) ?_
        refine T_ls (ls' := [some (.ref XB), some (.ref 0), some (.ref 572), some (.ref 594), some (.int (nI i)), none, none, none]) (And.intro rfl (And.intro rfl (And.intro rfl (And.intro rfl (And.intro rfl True.intro))))) ?_
        exact nx _ _ m2 _ hc2 h5.1 (by omega) (by omega)
      · exact absurd rfl g4
  · exact absurd rfl g1
theorem z_years (hD : 40 ≤ D) (hi : i + 7 ≤ gsl γ) (h3 : gsl γ ≤ 3584) (hk : kc + 5 ≤ mc) (hks : ks + 30 ≤ ms) (hc : CAll m s) (hm : MAll m s) (nx : LawNext γ D mc ms Q i kc ks) : T γ D mc ms M_L_law_ Q kc ks 1441 [some (.ref XB), some (.ref 0), some (.ref 572), some (.ref 594), some (.int (nI i)), none, none, none] [] (rm m) := by
  refine T_aload_n (pc := 1441) (i := 1) dL_law__1441 rfl rfl ?_
  refine T_aload_n (pc := 1442) (i := 0) dL_law__1442 rfl rfl ?_
  refine T_iload (pc := 1443) (i := 4) dL_law__1443 rfl ?_
  refine T_iconst (pc := 1445) (v := nI 1) dL_law__1445 (by decide) ?_
  refine R_iadd (pc := 1446) dL_law__1446 ?_
  refine T_sld (pc := 1447) (i := (i + 1)) (by omega) (by omega) dL_law__1447 ?_
  refine T_aload_n (pc := 1448) (i := 0) dL_law__1448 rfl rfl ?_
  refine T_iload (pc := 1449) (i := 4) dL_law__1449 rfl ?_
  refine T_iconst (pc := 1451) (v := nI 2) dL_law__1451 (by decide) ?_
  refine R_iadd (pc := 1452) dL_law__1452 ?_
  refine T_sld (pc := 1453) (i := (i + 2)) (by omega) (by omega) dL_law__1453 ?_
  refine T_aload_n (pc := 1454) (i := 3) dL_law__1454 rfl rfl ?_
  refine T_callSH (pc := 1455) (av := [.ref 0, .int ((gsx γ (i + 1))), .int ((gsx γ (i + 2))), .ref 594]) (rest := []) lk_L_213 mk_L_years (w_years hc) dL_law__1455 rfl rfl (Nat.le_of_ble_eq_true rfl) (by omega) rfl (by omega) (by omega) (fun E m' h => by obtain ⟨_, z, _⟩ := h; cases z) (fun v m' h => ?_)
  obtain ⟨m1, h0, rfl, h1, h2, h4⟩ := h
  cases h0
  have hm1 : MAll m1 s := hm.ofc (fun k a b => h4 k (by unfold Swr; omega))
  have tle : (mT2 (inB (gsx γ (i + 1)) s.1.F.length) (chkN (gsx γ (i + 2)) 1 200)) ≤ 2 := Nat.le_trans (mT2_le _ _) (by decide)
  show T _ _ _ _ _ _ _ _ 1458 [some (.ref XB), some (.ref 0), some (.ref 572), some (.ref 594), some (.int (nI i)), none, none, none] [.int (nI (mT2 (inB (gsx γ (i + 1)) s.1.F.length) (chkN (gsx γ (i + 2)) 1 200)))] (rm m1)
  refine T_istore (pc := 1458) (i := 5) (ls' := [some (.ref XB), some (.ref 0), some (.ref 572), some (.ref 594), some (.int (nI i)), some (.int (nI (mT2 (inB (gsx γ (i + 1)) s.1.F.length) (chkN (gsx γ (i + 2)) 1 200)))), none, none]) dL_law__1458 (by decide) rfl ?_
  refine T_aload_n (pc := 1460) (i := 2) dL_law__1460 rfl rfl ?_
  refine T_aload_n (pc := 1461) (i := 0) dL_law__1461 rfl rfl ?_
  refine T_iload (pc := 1462) (i := 4) dL_law__1462 rfl ?_
  refine T_iconst (pc := 1464) (v := nI 1) dL_law__1464 (by decide) ?_
  refine R_iadd (pc := 1465) dL_law__1465 ?_
  refine T_sld (pc := 1466) (i := (i + 1)) (by omega) (by omega) dL_law__1466 ?_
  refine T_aload_n (pc := 1467) (i := 0) dL_law__1467 rfl rfl ?_
  refine T_iload (pc := 1468) (i := 4) dL_law__1468 rfl ?_
  refine T_iconst (pc := 1470) (v := nI 2) dL_law__1470 (by decide) ?_
  refine R_iadd (pc := 1471) dL_law__1471 ?_
  refine T_sld (pc := 1472) (i := (i + 2)) (by omega) (by omega) dL_law__1472 ?_
  refine R_callVm1 (pc := 1473) (As := [.int ((gsx γ (i + 1))), .int ((gsx γ (i + 2)))]) (rest := []) (Or.inl lk_L_215) mk_X12_years (q_years hm1) kc_572 ⟨by decide, rfl⟩ lc_572 dL_law__1473 rfl rfl (Nat.le_of_ble_eq_true rfl) (by omega) rfl (by omega) (by omega) (fun m2 h5 => ?_)
  have hc2 := h5.call h1
  refine T_istore (pc := 1476) (i := 6) (ls' := [some (.ref XB), some (.ref 0), some (.ref 572), some (.ref 594), some (.int (nI i)), some (.int (nI (mT2 (inB (gsx γ (i + 1)) s.1.F.length) (chkN (gsx γ (i + 2)) 1 200)))), some (.int ((if (inB (gsx γ (i + 1)) s.1.F.length && chkN (gsx γ (i + 2)) 1 200) = true then nI (yrsN s.2.1.2 (gsx γ (i + 1)).toNatClampNeg (gsx γ (i + 2)).toNatClampNeg s.1).1 else nI 0))), none]) dL_law__1476 (by decide) rfl ?_
  refine T_aload_n (pc := 1478) (i := 2) dL_law__1478 rfl rfl ?_
  refine R_callV1 (pc := 1479) (As := []) (rest := []) (Or.inl lk_L_157) mk_X12_thrown (m_thrown h5.2.1) kc_572 ⟨by decide, rfl⟩ lc_572 dL_law__1479 rfl rfl (Nat.le_of_ble_eq_true rfl) (by omega) rfl (by omega) (by omega) ?_
  refine T_iload (pc := 1482) (i := 5) dL_law__1482 rfl ?_
  refine R_icmp_eq (pc := 1484) (tgt := 1489) (by omega) (by omega) dL_law__1484 (by decide) (fun g1 => ?_) (fun g1 => ?_)
  · skip
    refine T_iload (pc := 1489) (i := 5) dL_law__1489 rfl ?_
    refine R_if_ne (pc := 1491) (tgt := 1506) (by omega) dL_law__1491 (by decide) (fun g2 => ?_) (fun g2 => ?_)
    · skip
      refine T_goto (pc := 1506) (tgt := 3335) dL_law__1506 (by decide) ?_
      refine T_ls (ls' := [some (.ref XB), some (.ref 0), some (.ref 572), some (.ref 594), some (.int (nI i)), none, none, none]) (And.intro rfl (And.intro rfl (And.intro rfl (And.intro rfl (And.intro rfl True.intro))))) ?_
      exact nx _ _ m2 _ hc2 h5.1 (by omega) (by omega)
    · skip
      have ho : m2.2 594 0 = ((if (inB (gsx γ (i + 1)) s.1.F.length && chkN (gsx γ (i + 2)) 1 200) = true then nI (yrsN s.2.1.2 (gsx γ (i + 1)).toNatClampNeg (gsx γ (i + 2)).toNatClampNeg s.1).1 else nI 0)).toInt64 := (congrFun (h5.2.2 594 (by unfold Smo; omega)).2 0).trans (h2 g2)
      refine T_aload_n (pc := 1494) (i := 3) dL_law__1494 rfl rfl ?_
      refine T_iconst (pc := 1495) (v := nI 0) dL_law__1495 (by decide) ?_
      refine R_lald (pc := 1496) (x := (((if (inB (gsx γ (i + 1)) s.1.F.length && chkN (gsx γ (i + 2)) 1 200) = true then nI (yrsN s.2.1.2 (gsx γ (i + 1)).toNatClampNeg (gsx γ (i + 2)).toNatClampNeg s.1).1 else nI 0)).toInt64)) kc_594 lc_594 (by omega) (by first | decide | assumption) ho dL_law__1496 ?_
      refine T_iload (pc := 1497) (i := 6) dL_law__1497 rfl ?_
      refine T_i2l (pc := 1499) dL_law__1499 ?_
      refine T_lcmp (pc := 1500) dL_law__1500 ?_
      refine R_lx_eq (pc := 1501) (tgt := 1506) dL_law__1501 (by decide) (fun g4 => ?_) (fun g4 => ?_)
      · skip
        refine T_goto (pc := 1506) (tgt := 3335) dL_law__1506 (by decide) ?_
        refine T_ls (ls' := [some (.ref XB), some (.ref 0), some (.ref 572), some (.ref 594), some (.int (nI i)), none, none, none]) (And.intro rfl (And.intro rfl (And.intro rfl (And.intro rfl (And.intro rfl True.intro))))) ?_
        exact nx _ _ m2 _ hc2 h5.1 (by omega) (by omega)
      · exact absurd rfl g4
  · exact absurd rfl g1
theorem z_settles (hD : 40 ≤ D) (hi : i + 7 ≤ gsl γ) (h3 : gsl γ ≤ 3584) (hk : kc + 5 ≤ mc) (hks : ks + 30 ≤ ms) (hc : CAll m s) (hm : MAll m s) (nx : LawNext γ D mc ms Q i kc ks) : T γ D mc ms M_L_law_ Q kc ks 1509 [some (.ref XB), some (.ref 0), some (.ref 572), some (.ref 594), some (.int (nI i)), none, none, none] [] (rm m) := by
  refine T_aload_n (pc := 1509) (i := 1) dL_law__1509 rfl rfl ?_
  refine T_aload_n (pc := 1510) (i := 0) dL_law__1510 rfl rfl ?_
  refine T_iload (pc := 1511) (i := 4) dL_law__1511 rfl ?_
  refine T_iconst (pc := 1513) (v := nI 1) dL_law__1513 (by decide) ?_
  refine R_iadd (pc := 1514) dL_law__1514 ?_
  refine T_sld (pc := 1515) (i := (i + 1)) (by omega) (by omega) dL_law__1515 ?_
  refine T_i2l (pc := 1516) dL_law__1516 ?_
  refine T_bipush (pc := 1517) (v := nI 32) dL_law__1517 (by decide) ?_
  refine T_lshl (pc := 1519) dL_law__1519 ?_
  refine T_aload_n (pc := 1520) (i := 0) dL_law__1520 rfl rfl ?_
  refine T_iload (pc := 1521) (i := 4) dL_law__1521 rfl ?_
  refine T_iconst (pc := 1523) (v := nI 2) dL_law__1523 (by decide) ?_
  refine R_iadd (pc := 1524) dL_law__1524 ?_
  refine T_sld (pc := 1525) (i := (i + 2)) (by omega) (by omega) dL_law__1525 ?_
  refine T_i2l (pc := 1526) dL_law__1526 ?_
  refine T_ldc2 (pc := 1527) dL_law__1527 cn_L_178 ?_
  refine T_topl (v := lN 4294967295) (fa_litL _) ?_
  refine T_land (pc := 1530) dL_law__1530 ?_
  refine T_lor (pc := 1531) dL_law__1531 ?_
  refine T_aload_n (pc := 1532) (i := 0) dL_law__1532 rfl rfl ?_
  refine T_iload (pc := 1533) (i := 4) dL_law__1533 rfl ?_
  refine T_iconst (pc := 1535) (v := nI 3) dL_law__1535 (by decide) ?_
  refine R_iadd (pc := 1536) dL_law__1536 ?_
  refine T_sld (pc := 1537) (i := (i + 3)) (by omega) (by omega) dL_law__1537 ?_
  refine T_aload_n (pc := 1538) (i := 0) dL_law__1538 rfl rfl ?_
  refine T_iload (pc := 1539) (i := 4) dL_law__1539 rfl ?_
  refine T_iconst (pc := 1541) (v := nI 4) dL_law__1541 (by decide) ?_
  refine R_iadd (pc := 1542) dL_law__1542 ?_
  refine T_sld (pc := 1543) (i := (i + 4)) (by omega) (by omega) dL_law__1543 ?_
  refine T_if_eq (pc := 1544) (tgt := 1551) dL_law__1544 (by decide) (fun hb1 => ?_) (fun hb1 => ?_)
  · skip
    refine T_iconst (pc := 1551) (v := nI 0) dL_law__1551 (by decide) ?_
    refine T_topi (v := bI false) rfl ?_
    refine T_aload_n (pc := 1552) (i := 3) dL_law__1552 rfl rfl ?_
    refine T_callSH (pc := 1553) (av := [.ref 0, .long ((((lshl ((((gsx γ (i + 1))).toInt64)) (nI 32))) ||| ((((((gsx γ (i + 2))).toInt64)) &&& (lN 4294967295))))), .int ((gsx γ (i + 3))), .int (bI false), .ref 594]) (rest := []) lk_L_216 mk_L_settles (w_settles hc) dL_law__1553 rfl rfl (Nat.le_of_ble_eq_true rfl) (by omega) rfl (by omega) (by omega) (fun E m' h => by obtain ⟨_, z, _⟩ := h; cases z) (fun v m' h => ?_)
    obtain ⟨m1, h0, rfl, h1, h2, h4⟩ := h
    cases h0
    have hm1 : MAll m1 s := hm.ofc (fun k a b => h4 k (by unfold Swr; omega))
    have tle : (mT1 (codeB (((lshl ((((gsx γ (i + 1))).toInt64)) (nI 32))) ||| ((((((gsx γ (i + 2))).toInt64)) &&& (lN 4294967295)))) && chkN (gsx γ (i + 3)) 0 500)) ≤ 2 := Nat.le_trans (mT1_le _) (by decide)
    show T _ _ _ _ _ _ _ _ 1556 [some (.ref XB), some (.ref 0), some (.ref 572), some (.ref 594), some (.int (nI i)), none, none, none] [.int (nI (mT1 (codeB (((lshl ((((gsx γ (i + 1))).toInt64)) (nI 32))) ||| ((((((gsx γ (i + 2))).toInt64)) &&& (lN 4294967295)))) && chkN (gsx γ (i + 3)) 0 500)))] (rm m1)
    refine T_istore (pc := 1556) (i := 5) (ls' := [some (.ref XB), some (.ref 0), some (.ref 572), some (.ref 594), some (.int (nI i)), some (.int (nI (mT1 (codeB (((lshl ((((gsx γ (i + 1))).toInt64)) (nI 32))) ||| ((((((gsx γ (i + 2))).toInt64)) &&& (lN 4294967295)))) && chkN (gsx γ (i + 3)) 0 500)))), none, none]) dL_law__1556 (by decide) rfl ?_
    refine T_aload_n (pc := 1558) (i := 2) dL_law__1558 rfl rfl ?_
    refine T_aload_n (pc := 1559) (i := 0) dL_law__1559 rfl rfl ?_
    refine T_iload (pc := 1560) (i := 4) dL_law__1560 rfl ?_
    refine T_iconst (pc := 1562) (v := nI 1) dL_law__1562 (by decide) ?_
    refine R_iadd (pc := 1563) dL_law__1563 ?_
    refine T_sld (pc := 1564) (i := (i + 1)) (by omega) (by omega) dL_law__1564 ?_
    refine T_i2l (pc := 1565) dL_law__1565 ?_
    refine T_bipush (pc := 1566) (v := nI 32) dL_law__1566 (by decide) ?_
    refine T_lshl (pc := 1568) dL_law__1568 ?_
    refine T_aload_n (pc := 1569) (i := 0) dL_law__1569 rfl rfl ?_
    refine T_iload (pc := 1570) (i := 4) dL_law__1570 rfl ?_
    refine T_iconst (pc := 1572) (v := nI 2) dL_law__1572 (by decide) ?_
    refine R_iadd (pc := 1573) dL_law__1573 ?_
    refine T_sld (pc := 1574) (i := (i + 2)) (by omega) (by omega) dL_law__1574 ?_
    refine T_i2l (pc := 1575) dL_law__1575 ?_
    refine T_ldc2 (pc := 1576) dL_law__1576 cn_L_178 ?_
    refine T_topl (v := lN 4294967295) (fa_litL _) ?_
    refine T_land (pc := 1579) dL_law__1579 ?_
    refine T_lor (pc := 1580) dL_law__1580 ?_
    refine T_aload_n (pc := 1581) (i := 0) dL_law__1581 rfl rfl ?_
    refine T_iload (pc := 1582) (i := 4) dL_law__1582 rfl ?_
    refine T_iconst (pc := 1584) (v := nI 3) dL_law__1584 (by decide) ?_
    refine R_iadd (pc := 1585) dL_law__1585 ?_
    refine T_sld (pc := 1586) (i := (i + 3)) (by omega) (by omega) dL_law__1586 ?_
    refine T_aload_n (pc := 1587) (i := 0) dL_law__1587 rfl rfl ?_
    refine T_iload (pc := 1588) (i := 4) dL_law__1588 rfl ?_
    refine T_iconst (pc := 1590) (v := nI 4) dL_law__1590 (by decide) ?_
    refine R_iadd (pc := 1591) dL_law__1591 ?_
    refine T_sld (pc := 1592) (i := (i + 4)) (by omega) (by omega) dL_law__1592 ?_
    refine T_if_eq (pc := 1593) (tgt := 1600) dL_law__1593 (by decide) (fun hb2 => ?_) (fun hb2 => ?_)
    · skip
      refine T_iconst (pc := 1600) (v := nI 0) dL_law__1600 (by decide) ?_
      refine T_topi (v := bI false) rfl ?_
      refine R_callVm1 (pc := 1601) (As := [.long ((((lshl ((((gsx γ (i + 1))).toInt64)) (nI 32))) ||| ((((((gsx γ (i + 2))).toInt64)) &&& (lN 4294967295))))), .int ((gsx γ (i + 3))), .int (bI false)]) (rest := []) (Or.inl lk_L_219) mk_X12_settles (q_settles hm1) kc_572 ⟨by decide, rfl⟩ lc_572 dL_law__1601 rfl rfl (Nat.le_of_ble_eq_true rfl) (by omega) rfl (by omega) (by omega) (fun m2 h5 => ?_)
      have hc2 := h5.call h1
      refine T_lstore (pc := 1604) (i := 6) (ls' := [some (.ref XB), some (.ref 0), some (.ref 572), some (.ref 594), some (.int (nI i)), some (.int (nI (mT1 (codeB (((lshl ((((gsx γ (i + 1))).toInt64)) (nI 32))) ||| ((((((gsx γ (i + 2))).toInt64)) &&& (lN 4294967295)))) && chkN (gsx γ (i + 3)) 0 500)))), some (.long ((if (codeB (((lshl ((((gsx γ (i + 1))).toInt64)) (nI 32))) ||| ((((((gsx γ (i + 2))).toInt64)) &&& (lN 4294967295)))) && chkN (gsx γ (i + 3)) 0 500) = true then setV (stl (nxR s.1.R (wOf s.1 s.2.1.2)) (gsx γ (i + 3)).toNatClampNeg (ml (((lshl ((((gsx γ (i + 1))).toInt64)) (nI 32))) ||| ((((((gsx γ (i + 2))).toInt64)) &&& (lN 4294967295)))))) false else lN 0))), none]) dL_law__1604 (by decide) rfl ?_
      refine T_aload_n (pc := 1606) (i := 2) dL_law__1606 rfl rfl ?_
      refine R_callV1 (pc := 1607) (As := []) (rest := []) (Or.inl lk_L_157) mk_X12_thrown (m_thrown h5.2.1) kc_572 ⟨by decide, rfl⟩ lc_572 dL_law__1607 rfl rfl (Nat.le_of_ble_eq_true rfl) (by omega) rfl (by omega) (by omega) ?_
      refine T_iload (pc := 1610) (i := 5) dL_law__1610 rfl ?_
      refine R_icmp_eq (pc := 1612) (tgt := 1617) (by omega) (by omega) dL_law__1612 (by decide) (fun g1 => ?_) (fun g1 => ?_)
      · skip
        refine T_iload (pc := 1617) (i := 5) dL_law__1617 rfl ?_
        refine R_if_ne (pc := 1619) (tgt := 1633) (by omega) dL_law__1619 (by decide) (fun g2 => ?_) (fun g2 => ?_)
        · skip
          refine T_goto (pc := 1633) (tgt := 3335) dL_law__1633 (by decide) ?_
          refine T_ls (ls' := [some (.ref XB), some (.ref 0), some (.ref 572), some (.ref 594), some (.int (nI i)), none, none, none]) (And.intro rfl (And.intro rfl (And.intro rfl (And.intro rfl (And.intro rfl True.intro))))) ?_
          exact nx _ _ m2 _ hc2 h5.1 (by omega) (by omega)
        · skip
          have ho : m2.2 594 0 = (if (codeB (((lshl ((((gsx γ (i + 1))).toInt64)) (nI 32))) ||| ((((((gsx γ (i + 2))).toInt64)) &&& (lN 4294967295)))) && chkN (gsx γ (i + 3)) 0 500) = true then setV (stl (nxR s.1.R (wOf s.1 s.2.1.2)) (gsx γ (i + 3)).toNatClampNeg (ml (((lshl ((((gsx γ (i + 1))).toInt64)) (nI 32))) ||| ((((((gsx γ (i + 2))).toInt64)) &&& (lN 4294967295)))))) false else lN 0) := (congrFun (h5.2.2 594 (by unfold Smo; omega)).2 0).trans (h2 g2)
          refine T_aload_n (pc := 1622) (i := 3) dL_law__1622 rfl rfl ?_
          refine T_iconst (pc := 1623) (v := nI 0) dL_law__1623 (by decide) ?_
          refine R_lald (pc := 1624) (x := (if (codeB (((lshl ((((gsx γ (i + 1))).toInt64)) (nI 32))) ||| ((((((gsx γ (i + 2))).toInt64)) &&& (lN 4294967295)))) && chkN (gsx γ (i + 3)) 0 500) = true then setV (stl (nxR s.1.R (wOf s.1 s.2.1.2)) (gsx γ (i + 3)).toNatClampNeg (ml (((lshl ((((gsx γ (i + 1))).toInt64)) (nI 32))) ||| ((((((gsx γ (i + 2))).toInt64)) &&& (lN 4294967295)))))) false else lN 0)) kc_594 lc_594 (by omega) (by first | decide | assumption) ho dL_law__1624 ?_
          refine T_lload (pc := 1625) (i := 6) dL_law__1625 rfl ?_
          refine T_lcmp (pc := 1627) dL_law__1627 ?_
          refine R_lx_eq (pc := 1628) (tgt := 1633) dL_law__1628 (by decide) (fun g4 => ?_) (fun g4 => ?_)
          · skip
            refine T_goto (pc := 1633) (tgt := 3335) dL_law__1633 (by decide) ?_
            refine T_ls (ls' := [some (.ref XB), some (.ref 0), some (.ref 572), some (.ref 594), some (.int (nI i)), none, none, none]) (And.intro rfl (And.intro rfl (And.intro rfl (And.intro rfl (And.intro rfl True.intro))))) ?_
            exact nx _ _ m2 _ hc2 h5.1 (by omega) (by omega)
          · exact absurd rfl g4
      · exact absurd rfl g1
    · skip
      exact absurd hb1 hb2
  · skip
    refine T_iconst (pc := 1547) (v := nI 1) dL_law__1547 (by decide) ?_
    refine T_goto (pc := 1548) (tgt := 1552) dL_law__1548 (by decide) ?_
    refine T_topi (v := bI true) rfl ?_
    refine T_aload_n (pc := 1552) (i := 3) dL_law__1552 rfl rfl ?_
    refine T_callSH (pc := 1553) (av := [.ref 0, .long ((((lshl ((((gsx γ (i + 1))).toInt64)) (nI 32))) ||| ((((((gsx γ (i + 2))).toInt64)) &&& (lN 4294967295))))), .int ((gsx γ (i + 3))), .int (bI true), .ref 594]) (rest := []) lk_L_216 mk_L_settles (w_settles hc) dL_law__1553 rfl rfl (Nat.le_of_ble_eq_true rfl) (by omega) rfl (by omega) (by omega) (fun E m' h => by obtain ⟨_, z, _⟩ := h; cases z) (fun v m' h => ?_)
    obtain ⟨m1, h0, rfl, h1, h2, h4⟩ := h
    cases h0
    have hm1 : MAll m1 s := hm.ofc (fun k a b => h4 k (by unfold Swr; omega))
    have tle : (mT1 (codeB (((lshl ((((gsx γ (i + 1))).toInt64)) (nI 32))) ||| ((((((gsx γ (i + 2))).toInt64)) &&& (lN 4294967295)))) && chkN (gsx γ (i + 3)) 0 500)) ≤ 2 := Nat.le_trans (mT1_le _) (by decide)
    show T _ _ _ _ _ _ _ _ 1556 [some (.ref XB), some (.ref 0), some (.ref 572), some (.ref 594), some (.int (nI i)), none, none, none] [.int (nI (mT1 (codeB (((lshl ((((gsx γ (i + 1))).toInt64)) (nI 32))) ||| ((((((gsx γ (i + 2))).toInt64)) &&& (lN 4294967295)))) && chkN (gsx γ (i + 3)) 0 500)))] (rm m1)
    refine T_istore (pc := 1556) (i := 5) (ls' := [some (.ref XB), some (.ref 0), some (.ref 572), some (.ref 594), some (.int (nI i)), some (.int (nI (mT1 (codeB (((lshl ((((gsx γ (i + 1))).toInt64)) (nI 32))) ||| ((((((gsx γ (i + 2))).toInt64)) &&& (lN 4294967295)))) && chkN (gsx γ (i + 3)) 0 500)))), none, none]) dL_law__1556 (by decide) rfl ?_
    refine T_aload_n (pc := 1558) (i := 2) dL_law__1558 rfl rfl ?_
    refine T_aload_n (pc := 1559) (i := 0) dL_law__1559 rfl rfl ?_
    refine T_iload (pc := 1560) (i := 4) dL_law__1560 rfl ?_
    refine T_iconst (pc := 1562) (v := nI 1) dL_law__1562 (by decide) ?_
    refine R_iadd (pc := 1563) dL_law__1563 ?_
    refine T_sld (pc := 1564) (i := (i + 1)) (by omega) (by omega) dL_law__1564 ?_
    refine T_i2l (pc := 1565) dL_law__1565 ?_
    refine T_bipush (pc := 1566) (v := nI 32) dL_law__1566 (by decide) ?_
    refine T_lshl (pc := 1568) dL_law__1568 ?_
    refine T_aload_n (pc := 1569) (i := 0) dL_law__1569 rfl rfl ?_
    refine T_iload (pc := 1570) (i := 4) dL_law__1570 rfl ?_
    refine T_iconst (pc := 1572) (v := nI 2) dL_law__1572 (by decide) ?_
    refine R_iadd (pc := 1573) dL_law__1573 ?_
    refine T_sld (pc := 1574) (i := (i + 2)) (by omega) (by omega) dL_law__1574 ?_
    refine T_i2l (pc := 1575) dL_law__1575 ?_
    refine T_ldc2 (pc := 1576) dL_law__1576 cn_L_178 ?_
    refine T_topl (v := lN 4294967295) (fa_litL _) ?_
    refine T_land (pc := 1579) dL_law__1579 ?_
    refine T_lor (pc := 1580) dL_law__1580 ?_
    refine T_aload_n (pc := 1581) (i := 0) dL_law__1581 rfl rfl ?_
    refine T_iload (pc := 1582) (i := 4) dL_law__1582 rfl ?_
    refine T_iconst (pc := 1584) (v := nI 3) dL_law__1584 (by decide) ?_
    refine R_iadd (pc := 1585) dL_law__1585 ?_
    refine T_sld (pc := 1586) (i := (i + 3)) (by omega) (by omega) dL_law__1586 ?_
    refine T_aload_n (pc := 1587) (i := 0) dL_law__1587 rfl rfl ?_
    refine T_iload (pc := 1588) (i := 4) dL_law__1588 rfl ?_
    refine T_iconst (pc := 1590) (v := nI 4) dL_law__1590 (by decide) ?_
    refine R_iadd (pc := 1591) dL_law__1591 ?_
    refine T_sld (pc := 1592) (i := (i + 4)) (by omega) (by omega) dL_law__1592 ?_
    refine T_if_eq (pc := 1593) (tgt := 1600) dL_law__1593 (by decide) (fun hb3 => ?_) (fun hb3 => ?_)
    · skip
      exact absurd hb3 hb1
    · skip
      refine T_iconst (pc := 1596) (v := nI 1) dL_law__1596 (by decide) ?_
      refine T_goto (pc := 1597) (tgt := 1601) dL_law__1597 (by decide) ?_
      refine T_topi (v := bI true) rfl ?_
      refine R_callVm1 (pc := 1601) (As := [.long ((((lshl ((((gsx γ (i + 1))).toInt64)) (nI 32))) ||| ((((((gsx γ (i + 2))).toInt64)) &&& (lN 4294967295))))), .int ((gsx γ (i + 3))), .int (bI true)]) (rest := []) (Or.inl lk_L_219) mk_X12_settles (q_settles hm1) kc_572 ⟨by decide, rfl⟩ lc_572 dL_law__1601 rfl rfl (Nat.le_of_ble_eq_true rfl) (by omega) rfl (by omega) (by omega) (fun m2 h5 => ?_)
      have hc2 := h5.call h1
      refine T_lstore (pc := 1604) (i := 6) (ls' := [some (.ref XB), some (.ref 0), some (.ref 572), some (.ref 594), some (.int (nI i)), some (.int (nI (mT1 (codeB (((lshl ((((gsx γ (i + 1))).toInt64)) (nI 32))) ||| ((((((gsx γ (i + 2))).toInt64)) &&& (lN 4294967295)))) && chkN (gsx γ (i + 3)) 0 500)))), some (.long ((if (codeB (((lshl ((((gsx γ (i + 1))).toInt64)) (nI 32))) ||| ((((((gsx γ (i + 2))).toInt64)) &&& (lN 4294967295)))) && chkN (gsx γ (i + 3)) 0 500) = true then setV (stl (nxR s.1.R (wOf s.1 s.2.1.2)) (gsx γ (i + 3)).toNatClampNeg (ml (((lshl ((((gsx γ (i + 1))).toInt64)) (nI 32))) ||| ((((((gsx γ (i + 2))).toInt64)) &&& (lN 4294967295)))))) true else lN 0))), none]) dL_law__1604 (by decide) rfl ?_
      refine T_aload_n (pc := 1606) (i := 2) dL_law__1606 rfl rfl ?_
      refine R_callV1 (pc := 1607) (As := []) (rest := []) (Or.inl lk_L_157) mk_X12_thrown (m_thrown h5.2.1) kc_572 ⟨by decide, rfl⟩ lc_572 dL_law__1607 rfl rfl (Nat.le_of_ble_eq_true rfl) (by omega) rfl (by omega) (by omega) ?_
      refine T_iload (pc := 1610) (i := 5) dL_law__1610 rfl ?_
      refine R_icmp_eq (pc := 1612) (tgt := 1617) (by omega) (by omega) dL_law__1612 (by decide) (fun g1 => ?_) (fun g1 => ?_)
      · skip
        refine T_iload (pc := 1617) (i := 5) dL_law__1617 rfl ?_
        refine R_if_ne (pc := 1619) (tgt := 1633) (by omega) dL_law__1619 (by decide) (fun g2 => ?_) (fun g2 => ?_)
        · skip
          refine T_goto (pc := 1633) (tgt := 3335) dL_law__1633 (by decide) ?_
          refine T_ls (ls' := [some (.ref XB), some (.ref 0), some (.ref 572), some (.ref 594), some (.int (nI i)), none, none, none]) (And.intro rfl (And.intro rfl (And.intro rfl (And.intro rfl (And.intro rfl True.intro))))) ?_
          exact nx _ _ m2 _ hc2 h5.1 (by omega) (by omega)
        · skip
          have ho : m2.2 594 0 = (if (codeB (((lshl ((((gsx γ (i + 1))).toInt64)) (nI 32))) ||| ((((((gsx γ (i + 2))).toInt64)) &&& (lN 4294967295)))) && chkN (gsx γ (i + 3)) 0 500) = true then setV (stl (nxR s.1.R (wOf s.1 s.2.1.2)) (gsx γ (i + 3)).toNatClampNeg (ml (((lshl ((((gsx γ (i + 1))).toInt64)) (nI 32))) ||| ((((((gsx γ (i + 2))).toInt64)) &&& (lN 4294967295)))))) true else lN 0) := (congrFun (h5.2.2 594 (by unfold Smo; omega)).2 0).trans (h2 g2)
          refine T_aload_n (pc := 1622) (i := 3) dL_law__1622 rfl rfl ?_
          refine T_iconst (pc := 1623) (v := nI 0) dL_law__1623 (by decide) ?_
          refine R_lald (pc := 1624) (x := (if (codeB (((lshl ((((gsx γ (i + 1))).toInt64)) (nI 32))) ||| ((((((gsx γ (i + 2))).toInt64)) &&& (lN 4294967295)))) && chkN (gsx γ (i + 3)) 0 500) = true then setV (stl (nxR s.1.R (wOf s.1 s.2.1.2)) (gsx γ (i + 3)).toNatClampNeg (ml (((lshl ((((gsx γ (i + 1))).toInt64)) (nI 32))) ||| ((((((gsx γ (i + 2))).toInt64)) &&& (lN 4294967295)))))) true else lN 0)) kc_594 lc_594 (by omega) (by first | decide | assumption) ho dL_law__1624 ?_
          refine T_lload (pc := 1625) (i := 6) dL_law__1625 rfl ?_
          refine T_lcmp (pc := 1627) dL_law__1627 ?_
          refine R_lx_eq (pc := 1628) (tgt := 1633) dL_law__1628 (by decide) (fun g4 => ?_) (fun g4 => ?_)
          · skip
            refine T_goto (pc := 1633) (tgt := 3335) dL_law__1633 (by decide) ?_
            refine T_ls (ls' := [some (.ref XB), some (.ref 0), some (.ref 572), some (.ref 594), some (.int (nI i)), none, none, none]) (And.intro rfl (And.intro rfl (And.intro rfl (And.intro rfl (And.intro rfl True.intro))))) ?_
            exact nx _ _ m2 _ hc2 h5.1 (by omega) (by omega)
          · exact absurd rfl g4
      · exact absurd rfl g1
theorem z_again (hD : 40 ≤ D) (hi : i + 7 ≤ gsl γ) (h3 : gsl γ ≤ 3584) (hk : kc + 5 ≤ mc) (hks : ks + 30 ≤ ms) (hc : CAll m s) (hm : MAll m s) (nx : LawNext γ D mc ms Q i kc ks) : T γ D mc ms M_L_law_ Q kc ks 1636 [some (.ref XB), some (.ref 0), some (.ref 572), some (.ref 594), some (.int (nI i)), none, none, none] [] (rm m) := by
  refine T_aload_n (pc := 1636) (i := 1) dL_law__1636 rfl rfl ?_
  refine T_aload_n (pc := 1637) (i := 0) dL_law__1637 rfl rfl ?_
  refine T_iload (pc := 1638) (i := 4) dL_law__1638 rfl ?_
  refine T_iconst (pc := 1640) (v := nI 1) dL_law__1640 (by decide) ?_
  refine R_iadd (pc := 1641) dL_law__1641 ?_
  refine T_sld (pc := 1642) (i := (i + 1)) (by omega) (by omega) dL_law__1642 ?_
  refine T_i2l (pc := 1643) dL_law__1643 ?_
  refine T_bipush (pc := 1644) (v := nI 32) dL_law__1644 (by decide) ?_
  refine T_lshl (pc := 1646) dL_law__1646 ?_
  refine T_aload_n (pc := 1647) (i := 0) dL_law__1647 rfl rfl ?_
  refine T_iload (pc := 1648) (i := 4) dL_law__1648 rfl ?_
  refine T_iconst (pc := 1650) (v := nI 2) dL_law__1650 (by decide) ?_
  refine R_iadd (pc := 1651) dL_law__1651 ?_
  refine T_sld (pc := 1652) (i := (i + 2)) (by omega) (by omega) dL_law__1652 ?_
  refine T_i2l (pc := 1653) dL_law__1653 ?_
  refine T_ldc2 (pc := 1654) dL_law__1654 cn_L_178 ?_
  refine T_topl (v := lN 4294967295) (fa_litL _) ?_
  refine T_land (pc := 1657) dL_law__1657 ?_
  refine T_lor (pc := 1658) dL_law__1658 ?_
  refine T_aload_n (pc := 1659) (i := 0) dL_law__1659 rfl rfl ?_
  refine T_iload (pc := 1660) (i := 4) dL_law__1660 rfl ?_
  refine T_iconst (pc := 1662) (v := nI 3) dL_law__1662 (by decide) ?_
  refine R_iadd (pc := 1663) dL_law__1663 ?_
  refine T_sld (pc := 1664) (i := (i + 3)) (by omega) (by omega) dL_law__1664 ?_
  refine T_if_eq (pc := 1665) (tgt := 1672) dL_law__1665 (by decide) (fun hb1 => ?_) (fun hb1 => ?_)
  · skip
    refine T_iconst (pc := 1672) (v := nI 0) dL_law__1672 (by decide) ?_
    refine T_topi (v := bI false) rfl ?_
    refine T_aload_n (pc := 1673) (i := 3) dL_law__1673 rfl rfl ?_
    refine T_callSH (pc := 1674) (av := [.ref 0, .long ((((lshl ((((gsx γ (i + 1))).toInt64)) (nI 32))) ||| ((((((gsx γ (i + 2))).toInt64)) &&& (lN 4294967295))))), .int (bI false), .ref 594]) (rest := []) lk_L_220 mk_L_again (w_again hc) dL_law__1674 rfl rfl (Nat.le_of_ble_eq_true rfl) (by omega) rfl (by omega) (by omega) (fun E m' h => by obtain ⟨_, z, _⟩ := h; cases z) (fun v m' h => ?_)
    obtain ⟨m1, h0, rfl, h1, h2, h4⟩ := h
    cases h0
    have hm1 : MAll m1 s := hm.ofc (fun k a b => h4 k (by unfold Swr; omega))
    have tle : (mT1 (codeB (((lshl ((((gsx γ (i + 1))).toInt64)) (nI 32))) ||| ((((((gsx γ (i + 2))).toInt64)) &&& (lN 4294967295)))))) ≤ 2 := Nat.le_trans (mT1_le _) (by decide)
    show T _ _ _ _ _ _ _ _ 1677 [some (.ref XB), some (.ref 0), some (.ref 572), some (.ref 594), some (.int (nI i)), none, none, none] [.int (nI (mT1 (codeB (((lshl ((((gsx γ (i + 1))).toInt64)) (nI 32))) ||| ((((((gsx γ (i + 2))).toInt64)) &&& (lN 4294967295)))))))] (rm m1)
    refine T_istore (pc := 1677) (i := 5) (ls' := [some (.ref XB), some (.ref 0), some (.ref 572), some (.ref 594), some (.int (nI i)), some (.int (nI (mT1 (codeB (((lshl ((((gsx γ (i + 1))).toInt64)) (nI 32))) ||| ((((((gsx γ (i + 2))).toInt64)) &&& (lN 4294967295)))))))), none, none]) dL_law__1677 (by decide) rfl ?_
    refine T_aload_n (pc := 1679) (i := 2) dL_law__1679 rfl rfl ?_
    refine T_aload_n (pc := 1680) (i := 0) dL_law__1680 rfl rfl ?_
    refine T_iload (pc := 1681) (i := 4) dL_law__1681 rfl ?_
    refine T_iconst (pc := 1683) (v := nI 1) dL_law__1683 (by decide) ?_
    refine R_iadd (pc := 1684) dL_law__1684 ?_
    refine T_sld (pc := 1685) (i := (i + 1)) (by omega) (by omega) dL_law__1685 ?_
    refine T_i2l (pc := 1686) dL_law__1686 ?_
    refine T_bipush (pc := 1687) (v := nI 32) dL_law__1687 (by decide) ?_
    refine T_lshl (pc := 1689) dL_law__1689 ?_
    refine T_aload_n (pc := 1690) (i := 0) dL_law__1690 rfl rfl ?_
    refine T_iload (pc := 1691) (i := 4) dL_law__1691 rfl ?_
    refine T_iconst (pc := 1693) (v := nI 2) dL_law__1693 (by decide) ?_
    refine R_iadd (pc := 1694) dL_law__1694 ?_
    refine T_sld (pc := 1695) (i := (i + 2)) (by omega) (by omega) dL_law__1695 ?_
    refine T_i2l (pc := 1696) dL_law__1696 ?_
    refine T_ldc2 (pc := 1697) dL_law__1697 cn_L_178 ?_
    refine T_topl (v := lN 4294967295) (fa_litL _) ?_
    refine T_land (pc := 1700) dL_law__1700 ?_
    refine T_lor (pc := 1701) dL_law__1701 ?_
    refine T_aload_n (pc := 1702) (i := 0) dL_law__1702 rfl rfl ?_
    refine T_iload (pc := 1703) (i := 4) dL_law__1703 rfl ?_
    refine T_iconst (pc := 1705) (v := nI 3) dL_law__1705 (by decide) ?_
    refine R_iadd (pc := 1706) dL_law__1706 ?_
    refine T_sld (pc := 1707) (i := (i + 3)) (by omega) (by omega) dL_law__1707 ?_
    refine T_if_eq (pc := 1708) (tgt := 1715) dL_law__1708 (by decide) (fun hb2 => ?_) (fun hb2 => ?_)
    · skip
      refine T_iconst (pc := 1715) (v := nI 0) dL_law__1715 (by decide) ?_
      refine T_topi (v := bI false) rfl ?_
      refine R_callVm1 (pc := 1716) (As := [.long ((((lshl ((((gsx γ (i + 1))).toInt64)) (nI 32))) ||| ((((((gsx γ (i + 2))).toInt64)) &&& (lN 4294967295))))), .int (bI false)]) (rest := []) (Or.inl lk_L_223) mk_X12_again (q_again hm1) kc_572 ⟨by decide, rfl⟩ lc_572 dL_law__1716 rfl rfl (Nat.le_of_ble_eq_true rfl) (by omega) rfl (by omega) (by omega) (fun m2 h5 => ?_)
      have hc2 := h5.call h1
      refine T_istore (pc := 1719) (i := 6) (ls' := [some (.ref XB), some (.ref 0), some (.ref 572), some (.ref 594), some (.int (nI i)), some (.int (nI (mT1 (codeB (((lshl ((((gsx γ (i + 1))).toInt64)) (nI 32))) ||| ((((((gsx γ (i + 2))).toInt64)) &&& (lN 4294967295)))))))), some (.int ((if codeB (((lshl ((((gsx γ (i + 1))).toInt64)) (nI 32))) ||| ((((((gsx γ (i + 2))).toInt64)) &&& (lN 4294967295)))) = true then agV (agN (nxR s.1.R (wOf s.1 s.2.1.2)) 500 [ml (((lshl ((((gsx γ (i + 1))).toInt64)) (nI 32))) ||| ((((((gsx γ (i + 2))).toInt64)) &&& (lN 4294967295))))] (ml (((lshl ((((gsx γ (i + 1))).toInt64)) (nI 32))) ||| ((((((gsx γ (i + 2))).toInt64)) &&& (lN 4294967295)))))) false else nI 0))), none]) dL_law__1719 (by decide) rfl ?_
      refine T_aload_n (pc := 1721) (i := 2) dL_law__1721 rfl rfl ?_
      refine R_callV1 (pc := 1722) (As := []) (rest := []) (Or.inl lk_L_157) mk_X12_thrown (m_thrown h5.2.1) kc_572 ⟨by decide, rfl⟩ lc_572 dL_law__1722 rfl rfl (Nat.le_of_ble_eq_true rfl) (by omega) rfl (by omega) (by omega) ?_
      refine T_iload (pc := 1725) (i := 5) dL_law__1725 rfl ?_
      refine R_icmp_eq (pc := 1727) (tgt := 1732) (by omega) (by omega) dL_law__1727 (by decide) (fun g1 => ?_) (fun g1 => ?_)
      · skip
        refine T_iload (pc := 1732) (i := 5) dL_law__1732 rfl ?_
        refine R_if_ne (pc := 1734) (tgt := 1749) (by omega) dL_law__1734 (by decide) (fun g2 => ?_) (fun g2 => ?_)
        · skip
          refine T_goto (pc := 1749) (tgt := 3335) dL_law__1749 (by decide) ?_
          refine T_ls (ls' := [some (.ref XB), some (.ref 0), some (.ref 572), some (.ref 594), some (.int (nI i)), none, none, none]) (And.intro rfl (And.intro rfl (And.intro rfl (And.intro rfl (And.intro rfl True.intro))))) ?_
          exact nx _ _ m2 _ hc2 h5.1 (by omega) (by omega)
        · skip
          have ho : m2.2 594 0 = ((if codeB (((lshl ((((gsx γ (i + 1))).toInt64)) (nI 32))) ||| ((((((gsx γ (i + 2))).toInt64)) &&& (lN 4294967295)))) = true then agV (agN (nxR s.1.R (wOf s.1 s.2.1.2)) 500 [ml (((lshl ((((gsx γ (i + 1))).toInt64)) (nI 32))) ||| ((((((gsx γ (i + 2))).toInt64)) &&& (lN 4294967295))))] (ml (((lshl ((((gsx γ (i + 1))).toInt64)) (nI 32))) ||| ((((((gsx γ (i + 2))).toInt64)) &&& (lN 4294967295)))))) false else nI 0)).toInt64 := (congrFun (h5.2.2 594 (by unfold Smo; omega)).2 0).trans (h2 g2)
          refine T_aload_n (pc := 1737) (i := 3) dL_law__1737 rfl rfl ?_
          refine T_iconst (pc := 1738) (v := nI 0) dL_law__1738 (by decide) ?_
          refine R_lald (pc := 1739) (x := (((if codeB (((lshl ((((gsx γ (i + 1))).toInt64)) (nI 32))) ||| ((((((gsx γ (i + 2))).toInt64)) &&& (lN 4294967295)))) = true then agV (agN (nxR s.1.R (wOf s.1 s.2.1.2)) 500 [ml (((lshl ((((gsx γ (i + 1))).toInt64)) (nI 32))) ||| ((((((gsx γ (i + 2))).toInt64)) &&& (lN 4294967295))))] (ml (((lshl ((((gsx γ (i + 1))).toInt64)) (nI 32))) ||| ((((((gsx γ (i + 2))).toInt64)) &&& (lN 4294967295)))))) false else nI 0)).toInt64)) kc_594 lc_594 (by omega) (by first | decide | assumption) ho dL_law__1739 ?_
          refine T_iload (pc := 1740) (i := 6) dL_law__1740 rfl ?_
          refine T_i2l (pc := 1742) dL_law__1742 ?_
          refine T_lcmp (pc := 1743) dL_law__1743 ?_
          refine R_lx_eq (pc := 1744) (tgt := 1749) dL_law__1744 (by decide) (fun g4 => ?_) (fun g4 => ?_)
          · skip
            refine T_goto (pc := 1749) (tgt := 3335) dL_law__1749 (by decide) ?_
            refine T_ls (ls' := [some (.ref XB), some (.ref 0), some (.ref 572), some (.ref 594), some (.int (nI i)), none, none, none]) (And.intro rfl (And.intro rfl (And.intro rfl (And.intro rfl (And.intro rfl True.intro))))) ?_
            exact nx _ _ m2 _ hc2 h5.1 (by omega) (by omega)
          · exact absurd rfl g4
      · exact absurd rfl g1
    · skip
      exact absurd hb1 hb2
  · skip
    refine T_iconst (pc := 1668) (v := nI 1) dL_law__1668 (by decide) ?_
    refine T_goto (pc := 1669) (tgt := 1673) dL_law__1669 (by decide) ?_
    refine T_topi (v := bI true) rfl ?_
    refine T_aload_n (pc := 1673) (i := 3) dL_law__1673 rfl rfl ?_
    refine T_callSH (pc := 1674) (av := [.ref 0, .long ((((lshl ((((gsx γ (i + 1))).toInt64)) (nI 32))) ||| ((((((gsx γ (i + 2))).toInt64)) &&& (lN 4294967295))))), .int (bI true), .ref 594]) (rest := []) lk_L_220 mk_L_again (w_again hc) dL_law__1674 rfl rfl (Nat.le_of_ble_eq_true rfl) (by omega) rfl (by omega) (by omega) (fun E m' h => by obtain ⟨_, z, _⟩ := h; cases z) (fun v m' h => ?_)
    obtain ⟨m1, h0, rfl, h1, h2, h4⟩ := h
    cases h0
    have hm1 : MAll m1 s := hm.ofc (fun k a b => h4 k (by unfold Swr; omega))
    have tle : (mT1 (codeB (((lshl ((((gsx γ (i + 1))).toInt64)) (nI 32))) ||| ((((((gsx γ (i + 2))).toInt64)) &&& (lN 4294967295)))))) ≤ 2 := Nat.le_trans (mT1_le _) (by decide)
    show T _ _ _ _ _ _ _ _ 1677 [some (.ref XB), some (.ref 0), some (.ref 572), some (.ref 594), some (.int (nI i)), none, none, none] [.int (nI (mT1 (codeB (((lshl ((((gsx γ (i + 1))).toInt64)) (nI 32))) ||| ((((((gsx γ (i + 2))).toInt64)) &&& (lN 4294967295)))))))] (rm m1)
    refine T_istore (pc := 1677) (i := 5) (ls' := [some (.ref XB), some (.ref 0), some (.ref 572), some (.ref 594), some (.int (nI i)), some (.int (nI (mT1 (codeB (((lshl ((((gsx γ (i + 1))).toInt64)) (nI 32))) ||| ((((((gsx γ (i + 2))).toInt64)) &&& (lN 4294967295)))))))), none, none]) dL_law__1677 (by decide) rfl ?_
    refine T_aload_n (pc := 1679) (i := 2) dL_law__1679 rfl rfl ?_
    refine T_aload_n (pc := 1680) (i := 0) dL_law__1680 rfl rfl ?_
    refine T_iload (pc := 1681) (i := 4) dL_law__1681 rfl ?_
    refine T_iconst (pc := 1683) (v := nI 1) dL_law__1683 (by decide) ?_
    refine R_iadd (pc := 1684) dL_law__1684 ?_
    refine T_sld (pc := 1685) (i := (i + 1)) (by omega) (by omega) dL_law__1685 ?_
    refine T_i2l (pc := 1686) dL_law__1686 ?_
    refine T_bipush (pc := 1687) (v := nI 32) dL_law__1687 (by decide) ?_
    refine T_lshl (pc := 1689) dL_law__1689 ?_
    refine T_aload_n (pc := 1690) (i := 0) dL_law__1690 rfl rfl ?_
    refine T_iload (pc := 1691) (i := 4) dL_law__1691 rfl ?_
    refine T_iconst (pc := 1693) (v := nI 2) dL_law__1693 (by decide) ?_
    refine R_iadd (pc := 1694) dL_law__1694 ?_
    refine T_sld (pc := 1695) (i := (i + 2)) (by omega) (by omega) dL_law__1695 ?_
    refine T_i2l (pc := 1696) dL_law__1696 ?_
    refine T_ldc2 (pc := 1697) dL_law__1697 cn_L_178 ?_
    refine T_topl (v := lN 4294967295) (fa_litL _) ?_
    refine T_land (pc := 1700) dL_law__1700 ?_
    refine T_lor (pc := 1701) dL_law__1701 ?_
    refine T_aload_n (pc := 1702) (i := 0) dL_law__1702 rfl rfl ?_
    refine T_iload (pc := 1703) (i := 4) dL_law__1703 rfl ?_
    refine T_iconst (pc := 1705) (v := nI 3) dL_law__1705 (by decide) ?_
    refine R_iadd (pc := 1706) dL_law__1706 ?_
    refine T_sld (pc := 1707) (i := (i + 3)) (by omega) (by omega) dL_law__1707 ?_
    refine T_if_eq (pc := 1708) (tgt := 1715) dL_law__1708 (by decide) (fun hb3 => ?_) (fun hb3 => ?_)
    · skip
      exact absurd hb3 hb1
    · skip
      refine T_iconst (pc := 1711) (v := nI 1) dL_law__1711 (by decide) ?_
      refine T_goto (pc := 1712) (tgt := 1716) dL_law__1712 (by decide) ?_
      refine T_topi (v := bI true) rfl ?_
      refine R_callVm1 (pc := 1716) (As := [.long ((((lshl ((((gsx γ (i + 1))).toInt64)) (nI 32))) ||| ((((((gsx γ (i + 2))).toInt64)) &&& (lN 4294967295))))), .int (bI true)]) (rest := []) (Or.inl lk_L_223) mk_X12_again (q_again hm1) kc_572 ⟨by decide, rfl⟩ lc_572 dL_law__1716 rfl rfl (Nat.le_of_ble_eq_true rfl) (by omega) rfl (by omega) (by omega) (fun m2 h5 => ?_)
      have hc2 := h5.call h1
      refine T_istore (pc := 1719) (i := 6) (ls' := [some (.ref XB), some (.ref 0), some (.ref 572), some (.ref 594), some (.int (nI i)), some (.int (nI (mT1 (codeB (((lshl ((((gsx γ (i + 1))).toInt64)) (nI 32))) ||| ((((((gsx γ (i + 2))).toInt64)) &&& (lN 4294967295)))))))), some (.int ((if codeB (((lshl ((((gsx γ (i + 1))).toInt64)) (nI 32))) ||| ((((((gsx γ (i + 2))).toInt64)) &&& (lN 4294967295)))) = true then agV (agN (nxR s.1.R (wOf s.1 s.2.1.2)) 500 [ml (((lshl ((((gsx γ (i + 1))).toInt64)) (nI 32))) ||| ((((((gsx γ (i + 2))).toInt64)) &&& (lN 4294967295))))] (ml (((lshl ((((gsx γ (i + 1))).toInt64)) (nI 32))) ||| ((((((gsx γ (i + 2))).toInt64)) &&& (lN 4294967295)))))) true else nI 0))), none]) dL_law__1719 (by decide) rfl ?_
      refine T_aload_n (pc := 1721) (i := 2) dL_law__1721 rfl rfl ?_
      refine R_callV1 (pc := 1722) (As := []) (rest := []) (Or.inl lk_L_157) mk_X12_thrown (m_thrown h5.2.1) kc_572 ⟨by decide, rfl⟩ lc_572 dL_law__1722 rfl rfl (Nat.le_of_ble_eq_true rfl) (by omega) rfl (by omega) (by omega) ?_
      refine T_iload (pc := 1725) (i := 5) dL_law__1725 rfl ?_
      refine R_icmp_eq (pc := 1727) (tgt := 1732) (by omega) (by omega) dL_law__1727 (by decide) (fun g1 => ?_) (fun g1 => ?_)
      · skip
        refine T_iload (pc := 1732) (i := 5) dL_law__1732 rfl ?_
        refine R_if_ne (pc := 1734) (tgt := 1749) (by omega) dL_law__1734 (by decide) (fun g2 => ?_) (fun g2 => ?_)
        · skip
          refine T_goto (pc := 1749) (tgt := 3335) dL_law__1749 (by decide) ?_
          refine T_ls (ls' := [some (.ref XB), some (.ref 0), some (.ref 572), some (.ref 594), some (.int (nI i)), none, none, none]) (And.intro rfl (And.intro rfl (And.intro rfl (And.intro rfl (And.intro rfl True.intro))))) ?_
          exact nx _ _ m2 _ hc2 h5.1 (by omega) (by omega)
        · skip
          have ho : m2.2 594 0 = ((if codeB (((lshl ((((gsx γ (i + 1))).toInt64)) (nI 32))) ||| ((((((gsx γ (i + 2))).toInt64)) &&& (lN 4294967295)))) = true then agV (agN (nxR s.1.R (wOf s.1 s.2.1.2)) 500 [ml (((lshl ((((gsx γ (i + 1))).toInt64)) (nI 32))) ||| ((((((gsx γ (i + 2))).toInt64)) &&& (lN 4294967295))))] (ml (((lshl ((((gsx γ (i + 1))).toInt64)) (nI 32))) ||| ((((((gsx γ (i + 2))).toInt64)) &&& (lN 4294967295)))))) true else nI 0)).toInt64 := (congrFun (h5.2.2 594 (by unfold Smo; omega)).2 0).trans (h2 g2)
          refine T_aload_n (pc := 1737) (i := 3) dL_law__1737 rfl rfl ?_
          refine T_iconst (pc := 1738) (v := nI 0) dL_law__1738 (by decide) ?_
          refine R_lald (pc := 1739) (x := (((if codeB (((lshl ((((gsx γ (i + 1))).toInt64)) (nI 32))) ||| ((((((gsx γ (i + 2))).toInt64)) &&& (lN 4294967295)))) = true then agV (agN (nxR s.1.R (wOf s.1 s.2.1.2)) 500 [ml (((lshl ((((gsx γ (i + 1))).toInt64)) (nI 32))) ||| ((((((gsx γ (i + 2))).toInt64)) &&& (lN 4294967295))))] (ml (((lshl ((((gsx γ (i + 1))).toInt64)) (nI 32))) ||| ((((((gsx γ (i + 2))).toInt64)) &&& (lN 4294967295)))))) true else nI 0)).toInt64)) kc_594 lc_594 (by omega) (by first | decide | assumption) ho dL_law__1739 ?_
          refine T_iload (pc := 1740) (i := 6) dL_law__1740 rfl ?_
          refine T_i2l (pc := 1742) dL_law__1742 ?_
          refine T_lcmp (pc := 1743) dL_law__1743 ?_
          refine R_lx_eq (pc := 1744) (tgt := 1749) dL_law__1744 (by decide) (fun g4 => ?_) (fun g4 => ?_)
          · skip
            refine T_goto (pc := 1749) (tgt := 3335) dL_law__1749 (by decide) ?_
            refine T_ls (ls' := [some (.ref XB), some (.ref 0), some (.ref 572), some (.ref 594), some (.int (nI i)), none, none, none]) (And.intro rfl (And.intro rfl (And.intro rfl (And.intro rfl (And.intro rfl True.intro))))) ?_
            exact nx _ _ m2 _ hc2 h5.1 (by omega) (by omega)
          · exact absurd rfl g4
      · exact absurd rfl g1
theorem z_alike (hD : 40 ≤ D) (hi : i + 7 ≤ gsl γ) (h3 : gsl γ ≤ 3584) (hk : kc + 5 ≤ mc) (hks : ks + 30 ≤ ms) (hc : CAll m s) (hm : MAll m s) (nx : LawNext γ D mc ms Q i kc ks) : T γ D mc ms M_L_law_ Q kc ks 1752 [some (.ref XB), some (.ref 0), some (.ref 572), some (.ref 594), some (.int (nI i)), none, none, none] [] (rm m) := by
  refine T_aload_n (pc := 1752) (i := 1) dL_law__1752 rfl rfl ?_
  refine T_aload_n (pc := 1753) (i := 0) dL_law__1753 rfl rfl ?_
  refine T_iload (pc := 1754) (i := 4) dL_law__1754 rfl ?_
  refine T_iconst (pc := 1756) (v := nI 1) dL_law__1756 (by decide) ?_
  refine R_iadd (pc := 1757) dL_law__1757 ?_
  refine T_sld (pc := 1758) (i := (i + 1)) (by omega) (by omega) dL_law__1758 ?_
  refine T_i2l (pc := 1759) dL_law__1759 ?_
  refine T_bipush (pc := 1760) (v := nI 32) dL_law__1760 (by decide) ?_
  refine T_lshl (pc := 1762) dL_law__1762 ?_
  refine T_aload_n (pc := 1763) (i := 0) dL_law__1763 rfl rfl ?_
  refine T_iload (pc := 1764) (i := 4) dL_law__1764 rfl ?_
  refine T_iconst (pc := 1766) (v := nI 2) dL_law__1766 (by decide) ?_
  refine R_iadd (pc := 1767) dL_law__1767 ?_
  refine T_sld (pc := 1768) (i := (i + 2)) (by omega) (by omega) dL_law__1768 ?_
  refine T_i2l (pc := 1769) dL_law__1769 ?_
  refine T_ldc2 (pc := 1770) dL_law__1770 cn_L_178 ?_
  refine T_topl (v := lN 4294967295) (fa_litL _) ?_
  refine T_land (pc := 1773) dL_law__1773 ?_
  refine T_lor (pc := 1774) dL_law__1774 ?_
  refine T_aload_n (pc := 1775) (i := 0) dL_law__1775 rfl rfl ?_
  refine T_iload (pc := 1776) (i := 4) dL_law__1776 rfl ?_
  refine T_iconst (pc := 1778) (v := nI 3) dL_law__1778 (by decide) ?_
  refine R_iadd (pc := 1779) dL_law__1779 ?_
  refine T_sld (pc := 1780) (i := (i + 3)) (by omega) (by omega) dL_law__1780 ?_
  refine T_i2l (pc := 1781) dL_law__1781 ?_
  refine T_bipush (pc := 1782) (v := nI 32) dL_law__1782 (by decide) ?_
  refine T_lshl (pc := 1784) dL_law__1784 ?_
  refine T_aload_n (pc := 1785) (i := 0) dL_law__1785 rfl rfl ?_
  refine T_iload (pc := 1786) (i := 4) dL_law__1786 rfl ?_
  refine T_iconst (pc := 1788) (v := nI 4) dL_law__1788 (by decide) ?_
  refine R_iadd (pc := 1789) dL_law__1789 ?_
  refine T_sld (pc := 1790) (i := (i + 4)) (by omega) (by omega) dL_law__1790 ?_
  refine T_i2l (pc := 1791) dL_law__1791 ?_
  refine T_ldc2 (pc := 1792) dL_law__1792 cn_L_178 ?_
  refine T_topl (v := lN 4294967295) (fa_litL _) ?_
  refine T_land (pc := 1795) dL_law__1795 ?_
  refine T_lor (pc := 1796) dL_law__1796 ?_
  refine T_aload_n (pc := 1797) (i := 3) dL_law__1797 rfl rfl ?_
  refine T_callSH (pc := 1798) (av := [.ref 0, .long ((((lshl ((((gsx γ (i + 1))).toInt64)) (nI 32))) ||| ((((((gsx γ (i + 2))).toInt64)) &&& (lN 4294967295))))), .long ((((lshl ((((gsx γ (i + 3))).toInt64)) (nI 32))) ||| ((((((gsx γ (i + 4))).toInt64)) &&& (lN 4294967295))))), .ref 594]) (rest := []) lk_L_224 mk_L_alike (w_alike hc) dL_law__1798 rfl rfl (Nat.le_of_ble_eq_true rfl) (by omega) rfl (by omega) (by omega) (fun E m' h => by obtain ⟨_, z, _⟩ := h; cases z) (fun v m' h => ?_)
  obtain ⟨m1, h0, rfl, h1, h2, h4⟩ := h
  cases h0
  have hm1 : MAll m1 s := hm.ofc (fun k a b => h4 k (by unfold Swr; omega))
  have tle : (mT1 (codeB (((lshl ((((gsx γ (i + 1))).toInt64)) (nI 32))) ||| ((((((gsx γ (i + 2))).toInt64)) &&& (lN 4294967295)))) && codeB (((lshl ((((gsx γ (i + 3))).toInt64)) (nI 32))) ||| ((((((gsx γ (i + 4))).toInt64)) &&& (lN 4294967295)))))) ≤ 2 := Nat.le_trans (mT1_le _) (by decide)
  show T _ _ _ _ _ _ _ _ 1801 [some (.ref XB), some (.ref 0), some (.ref 572), some (.ref 594), some (.int (nI i)), none, none, none] [.int (nI (mT1 (codeB (((lshl ((((gsx γ (i + 1))).toInt64)) (nI 32))) ||| ((((((gsx γ (i + 2))).toInt64)) &&& (lN 4294967295)))) && codeB (((lshl ((((gsx γ (i + 3))).toInt64)) (nI 32))) ||| ((((((gsx γ (i + 4))).toInt64)) &&& (lN 4294967295)))))))] (rm m1)
  refine T_istore (pc := 1801) (i := 5) (ls' := [some (.ref XB), some (.ref 0), some (.ref 572), some (.ref 594), some (.int (nI i)), some (.int (nI (mT1 (codeB (((lshl ((((gsx γ (i + 1))).toInt64)) (nI 32))) ||| ((((((gsx γ (i + 2))).toInt64)) &&& (lN 4294967295)))) && codeB (((lshl ((((gsx γ (i + 3))).toInt64)) (nI 32))) ||| ((((((gsx γ (i + 4))).toInt64)) &&& (lN 4294967295)))))))), none, none]) dL_law__1801 (by decide) rfl ?_
  refine T_aload_n (pc := 1803) (i := 2) dL_law__1803 rfl rfl ?_
  refine T_aload_n (pc := 1804) (i := 0) dL_law__1804 rfl rfl ?_
  refine T_iload (pc := 1805) (i := 4) dL_law__1805 rfl ?_
  refine T_iconst (pc := 1807) (v := nI 1) dL_law__1807 (by decide) ?_
  refine R_iadd (pc := 1808) dL_law__1808 ?_
  refine T_sld (pc := 1809) (i := (i + 1)) (by omega) (by omega) dL_law__1809 ?_
  refine T_i2l (pc := 1810) dL_law__1810 ?_
  refine T_bipush (pc := 1811) (v := nI 32) dL_law__1811 (by decide) ?_
  refine T_lshl (pc := 1813) dL_law__1813 ?_
  refine T_aload_n (pc := 1814) (i := 0) dL_law__1814 rfl rfl ?_
  refine T_iload (pc := 1815) (i := 4) dL_law__1815 rfl ?_
  refine T_iconst (pc := 1817) (v := nI 2) dL_law__1817 (by decide) ?_
  refine R_iadd (pc := 1818) dL_law__1818 ?_
  refine T_sld (pc := 1819) (i := (i + 2)) (by omega) (by omega) dL_law__1819 ?_
  refine T_i2l (pc := 1820) dL_law__1820 ?_
  refine T_ldc2 (pc := 1821) dL_law__1821 cn_L_178 ?_
  refine T_topl (v := lN 4294967295) (fa_litL _) ?_
  refine T_land (pc := 1824) dL_law__1824 ?_
  refine T_lor (pc := 1825) dL_law__1825 ?_
  refine T_aload_n (pc := 1826) (i := 0) dL_law__1826 rfl rfl ?_
  refine T_iload (pc := 1827) (i := 4) dL_law__1827 rfl ?_
  refine T_iconst (pc := 1829) (v := nI 3) dL_law__1829 (by decide) ?_
  refine R_iadd (pc := 1830) dL_law__1830 ?_
  refine T_sld (pc := 1831) (i := (i + 3)) (by omega) (by omega) dL_law__1831 ?_
  refine T_i2l (pc := 1832) dL_law__1832 ?_
  refine T_bipush (pc := 1833) (v := nI 32) dL_law__1833 (by decide) ?_
  refine T_lshl (pc := 1835) dL_law__1835 ?_
  refine T_aload_n (pc := 1836) (i := 0) dL_law__1836 rfl rfl ?_
  refine T_iload (pc := 1837) (i := 4) dL_law__1837 rfl ?_
  refine T_iconst (pc := 1839) (v := nI 4) dL_law__1839 (by decide) ?_
  refine R_iadd (pc := 1840) dL_law__1840 ?_
  refine T_sld (pc := 1841) (i := (i + 4)) (by omega) (by omega) dL_law__1841 ?_
  refine T_i2l (pc := 1842) dL_law__1842 ?_
  refine T_ldc2 (pc := 1843) dL_law__1843 cn_L_178 ?_
  refine T_topl (v := lN 4294967295) (fa_litL _) ?_
  refine T_land (pc := 1846) dL_law__1846 ?_
  refine T_lor (pc := 1847) dL_law__1847 ?_
  refine R_callVm1 (pc := 1848) (As := [.long ((((lshl ((((gsx γ (i + 1))).toInt64)) (nI 32))) ||| ((((((gsx γ (i + 2))).toInt64)) &&& (lN 4294967295))))), .long ((((lshl ((((gsx γ (i + 3))).toInt64)) (nI 32))) ||| ((((((gsx γ (i + 4))).toInt64)) &&& (lN 4294967295)))))]) (rest := []) (Or.inl lk_L_226) mk_X12_alike (q_alike hm1) kc_572 ⟨by decide, rfl⟩ lc_572 dL_law__1848 rfl rfl (Nat.le_of_ble_eq_true rfl) (by omega) rfl (by omega) (by omega) (fun m2 h5 => ?_)
  have hc2 := h5.call h1
  refine T_istore (pc := 1851) (i := 6) (ls' := [some (.ref XB), some (.ref 0), some (.ref 572), some (.ref 594), some (.int (nI i)), some (.int (nI (mT1 (codeB (((lshl ((((gsx γ (i + 1))).toInt64)) (nI 32))) ||| ((((((gsx γ (i + 2))).toInt64)) &&& (lN 4294967295)))) && codeB (((lshl ((((gsx γ (i + 3))).toInt64)) (nI 32))) ||| ((((((gsx γ (i + 4))).toInt64)) &&& (lN 4294967295)))))))), some (.int (bI ((codeB (((lshl ((((gsx γ (i + 1))).toInt64)) (nI 32))) ||| ((((((gsx γ (i + 2))).toInt64)) &&& (lN 4294967295)))) && codeB (((lshl ((((gsx γ (i + 3))).toInt64)) (nI 32))) ||| ((((((gsx γ (i + 4))).toInt64)) &&& (lN 4294967295))))) && alkB s.1.R (wOf s.1 s.2.1.2) (ml (((lshl ((((gsx γ (i + 1))).toInt64)) (nI 32))) ||| ((((((gsx γ (i + 2))).toInt64)) &&& (lN 4294967295))))) (ml (((lshl ((((gsx γ (i + 3))).toInt64)) (nI 32))) ||| ((((((gsx γ (i + 4))).toInt64)) &&& (lN 4294967295)))))))), none]) dL_law__1851 (by decide) rfl ?_
  refine T_aload_n (pc := 1853) (i := 2) dL_law__1853 rfl rfl ?_
  refine R_callV1 (pc := 1854) (As := []) (rest := []) (Or.inl lk_L_157) mk_X12_thrown (m_thrown h5.2.1) kc_572 ⟨by decide, rfl⟩ lc_572 dL_law__1854 rfl rfl (Nat.le_of_ble_eq_true rfl) (by omega) rfl (by omega) (by omega) ?_
  refine T_iload (pc := 1857) (i := 5) dL_law__1857 rfl ?_
  refine R_icmp_eq (pc := 1859) (tgt := 1864) (by omega) (by omega) dL_law__1859 (by decide) (fun g1 => ?_) (fun g1 => ?_)
  · skip
    refine T_iload (pc := 1864) (i := 5) dL_law__1864 rfl ?_
    refine R_if_ne (pc := 1866) (tgt := 1888) (by omega) dL_law__1866 (by decide) (fun g2 => ?_) (fun g2 => ?_)
    · skip
      refine T_goto (pc := 1888) (tgt := 3335) dL_law__1888 (by decide) ?_
      refine T_ls (ls' := [some (.ref XB), some (.ref 0), some (.ref 572), some (.ref 594), some (.int (nI i)), none, none, none]) (And.intro rfl (And.intro rfl (And.intro rfl (And.intro rfl (And.intro rfl True.intro))))) ?_
      exact nx _ _ m2 _ hc2 h5.1 (by omega) (by omega)
    · skip
      have ho : m2.2 594 0 = (if ((codeB (((lshl ((((gsx γ (i + 1))).toInt64)) (nI 32))) ||| ((((((gsx γ (i + 2))).toInt64)) &&& (lN 4294967295)))) && codeB (((lshl ((((gsx γ (i + 3))).toInt64)) (nI 32))) ||| ((((((gsx γ (i + 4))).toInt64)) &&& (lN 4294967295))))) && alkB s.1.R (wOf s.1 s.2.1.2) (ml (((lshl ((((gsx γ (i + 1))).toInt64)) (nI 32))) ||| ((((((gsx γ (i + 2))).toInt64)) &&& (lN 4294967295))))) (ml (((lshl ((((gsx γ (i + 3))).toInt64)) (nI 32))) ||| ((((((gsx γ (i + 4))).toInt64)) &&& (lN 4294967295)))))) = true then lN 1 else lN 0) := (congrFun (h5.2.2 594 (by unfold Smo; omega)).2 0).trans (h2 g2)
      refine T_aload_n (pc := 1869) (i := 3) dL_law__1869 rfl rfl ?_
      refine T_iconst (pc := 1870) (v := nI 0) dL_law__1870 (by decide) ?_
      refine R_lald (pc := 1871) (x := (if ((codeB (((lshl ((((gsx γ (i + 1))).toInt64)) (nI 32))) ||| ((((((gsx γ (i + 2))).toInt64)) &&& (lN 4294967295)))) && codeB (((lshl ((((gsx γ (i + 3))).toInt64)) (nI 32))) ||| ((((((gsx γ (i + 4))).toInt64)) &&& (lN 4294967295))))) && alkB s.1.R (wOf s.1 s.2.1.2) (ml (((lshl ((((gsx γ (i + 1))).toInt64)) (nI 32))) ||| ((((((gsx γ (i + 2))).toInt64)) &&& (lN 4294967295))))) (ml (((lshl ((((gsx γ (i + 3))).toInt64)) (nI 32))) ||| ((((((gsx γ (i + 4))).toInt64)) &&& (lN 4294967295)))))) = true then lN 1 else lN 0)) kc_594 lc_594 (by omega) (by first | decide | assumption) ho dL_law__1871 ?_
      refine T_iload (pc := 1872) (i := 6) dL_law__1872 rfl ?_
      refine R_ifb_eq (pc := 1874) (tgt := 1881) dL_law__1874 (by decide) (fun g3 => ?_) (fun g3 => ?_)
      · skip
        refine T_lconst (pc := 1881) (v := lN 0) dL_law__1881 rfl ?_
        refine T_lcmp (pc := 1882) dL_law__1882 ?_
        refine R_lx_eq (pc := 1883) (tgt := 1888) dL_law__1883 (by decide) (fun g4 => ?_) (fun g4 => ?_)
        · skip
          refine T_goto (pc := 1888) (tgt := 3335) dL_law__1888 (by decide) ?_
          refine T_ls (ls' := [some (.ref XB), some (.ref 0), some (.ref 572), some (.ref 594), some (.int (nI i)), none, none, none]) (And.intro rfl (And.intro rfl (And.intro rfl (And.intro rfl (And.intro rfl True.intro))))) ?_
          exact nx _ _ m2 _ hc2 h5.1 (by omega) (by omega)
        · exact absurd (by rw [g3]; rfl) g4
      · skip
        refine T_lconst (pc := 1877) (v := lN 1) dL_law__1877 rfl ?_
        refine T_goto (pc := 1878) (tgt := 1882) dL_law__1878 (by decide) ?_
        refine T_lcmp (pc := 1882) dL_law__1882 ?_
        refine R_lx_eq (pc := 1883) (tgt := 1888) dL_law__1883 (by decide) (fun g4 => ?_) (fun g4 => ?_)
        · skip
          refine T_goto (pc := 1888) (tgt := 3335) dL_law__1888 (by decide) ?_
          refine T_ls (ls' := [some (.ref XB), some (.ref 0), some (.ref 572), some (.ref 594), some (.int (nI i)), none, none, none]) (And.intro rfl (And.intro rfl (And.intro rfl (And.intro rfl (And.intro rfl True.intro))))) ?_
          exact nx _ _ m2 _ hc2 h5.1 (by omega) (by omega)
        · exact absurd (by rw [g3]; rfl) g4
  · exact absurd rfl g1
theorem z_becomes (hD : 40 ≤ D) (hi : i + 7 ≤ gsl γ) (h3 : gsl γ ≤ 3584) (hk : kc + 5 ≤ mc) (hks : ks + 30 ≤ ms) (hc : CAll m s) (hm : MAll m s) (nx : LawNext γ D mc ms Q i kc ks) : T γ D mc ms M_L_law_ Q kc ks 1891 [some (.ref XB), some (.ref 0), some (.ref 572), some (.ref 594), some (.int (nI i)), none, none, none] [] (rm m) := by
  refine T_aload_n (pc := 1891) (i := 1) dL_law__1891 rfl rfl ?_
  refine T_aload_n (pc := 1892) (i := 0) dL_law__1892 rfl rfl ?_
  refine T_iload (pc := 1893) (i := 4) dL_law__1893 rfl ?_
  refine T_iconst (pc := 1895) (v := nI 1) dL_law__1895 (by decide) ?_
  refine R_iadd (pc := 1896) dL_law__1896 ?_
  refine T_sld (pc := 1897) (i := (i + 1)) (by omega) (by omega) dL_law__1897 ?_
  refine T_i2l (pc := 1898) dL_law__1898 ?_
  refine T_bipush (pc := 1899) (v := nI 32) dL_law__1899 (by decide) ?_
  refine T_lshl (pc := 1901) dL_law__1901 ?_
  refine T_aload_n (pc := 1902) (i := 0) dL_law__1902 rfl rfl ?_
  refine T_iload (pc := 1903) (i := 4) dL_law__1903 rfl ?_
  refine T_iconst (pc := 1905) (v := nI 2) dL_law__1905 (by decide) ?_
  refine R_iadd (pc := 1906) dL_law__1906 ?_
  refine T_sld (pc := 1907) (i := (i + 2)) (by omega) (by omega) dL_law__1907 ?_
  refine T_i2l (pc := 1908) dL_law__1908 ?_
  refine T_ldc2 (pc := 1909) dL_law__1909 cn_L_178 ?_
  refine T_topl (v := lN 4294967295) (fa_litL _) ?_
  refine T_land (pc := 1912) dL_law__1912 ?_
  refine T_lor (pc := 1913) dL_law__1913 ?_
  refine T_aload_n (pc := 1914) (i := 0) dL_law__1914 rfl rfl ?_
  refine T_iload (pc := 1915) (i := 4) dL_law__1915 rfl ?_
  refine T_iconst (pc := 1917) (v := nI 3) dL_law__1917 (by decide) ?_
  refine R_iadd (pc := 1918) dL_law__1918 ?_
  refine T_sld (pc := 1919) (i := (i + 3)) (by omega) (by omega) dL_law__1919 ?_
  refine T_aload_n (pc := 1920) (i := 0) dL_law__1920 rfl rfl ?_
  refine T_iload (pc := 1921) (i := 4) dL_law__1921 rfl ?_
  refine T_iconst (pc := 1923) (v := nI 4) dL_law__1923 (by decide) ?_
  refine R_iadd (pc := 1924) dL_law__1924 ?_
  refine T_sld (pc := 1925) (i := (i + 4)) (by omega) (by omega) dL_law__1925 ?_
  refine T_aload_n (pc := 1926) (i := 3) dL_law__1926 rfl rfl ?_
  refine T_callSH (pc := 1927) (av := [.ref 0, .long ((((lshl ((((gsx γ (i + 1))).toInt64)) (nI 32))) ||| ((((((gsx γ (i + 2))).toInt64)) &&& (lN 4294967295))))), .int ((gsx γ (i + 3))), .int ((gsx γ (i + 4))), .ref 594]) (rest := []) lk_L_227 mk_L_becomes (w_becomes hc) dL_law__1927 rfl rfl (Nat.le_of_ble_eq_true rfl) (by omega) rfl (by omega) (by omega) (fun E m' h => by obtain ⟨_, z, _⟩ := h; cases z) (fun v m' h => ?_)
  obtain ⟨m1, h0, rfl, h1, h2, h4⟩ := h
  cases h0
  have hm1 : MAll m1 s := hm.ofc (fun k a b => h4 k (by unfold Swr; omega))
  have tle : (mT2 (codeB (((lshl ((((gsx γ (i + 1))).toInt64)) (nI 32))) ||| ((((((gsx γ (i + 2))).toInt64)) &&& (lN 4294967295)))) && chkN (gsx γ (i + 3)) 0 40) (inB (gsx γ (i + 4)) 4)) ≤ 2 := Nat.le_trans (mT2_le _ _) (by decide)
  show T _ _ _ _ _ _ _ _ 1930 [some (.ref XB), some (.ref 0), some (.ref 572), some (.ref 594), some (.int (nI i)), none, none, none] [.int (nI (mT2 (codeB (((lshl ((((gsx γ (i + 1))).toInt64)) (nI 32))) ||| ((((((gsx γ (i + 2))).toInt64)) &&& (lN 4294967295)))) && chkN (gsx γ (i + 3)) 0 40) (inB (gsx γ (i + 4)) 4)))] (rm m1)
  refine T_istore (pc := 1930) (i := 5) (ls' := [some (.ref XB), some (.ref 0), some (.ref 572), some (.ref 594), some (.int (nI i)), some (.int (nI (mT2 (codeB (((lshl ((((gsx γ (i + 1))).toInt64)) (nI 32))) ||| ((((((gsx γ (i + 2))).toInt64)) &&& (lN 4294967295)))) && chkN (gsx γ (i + 3)) 0 40) (inB (gsx γ (i + 4)) 4)))), none, none]) dL_law__1930 (by decide) rfl ?_
  refine T_aload_n (pc := 1932) (i := 2) dL_law__1932 rfl rfl ?_
  refine T_aload_n (pc := 1933) (i := 0) dL_law__1933 rfl rfl ?_
  refine T_iload (pc := 1934) (i := 4) dL_law__1934 rfl ?_
  refine T_iconst (pc := 1936) (v := nI 1) dL_law__1936 (by decide) ?_
  refine R_iadd (pc := 1937) dL_law__1937 ?_
  refine T_sld (pc := 1938) (i := (i + 1)) (by omega) (by omega) dL_law__1938 ?_
  refine T_i2l (pc := 1939) dL_law__1939 ?_
  refine T_bipush (pc := 1940) (v := nI 32) dL_law__1940 (by decide) ?_
  refine T_lshl (pc := 1942) dL_law__1942 ?_
  refine T_aload_n (pc := 1943) (i := 0) dL_law__1943 rfl rfl ?_
  refine T_iload (pc := 1944) (i := 4) dL_law__1944 rfl ?_
  refine T_iconst (pc := 1946) (v := nI 2) dL_law__1946 (by decide) ?_
  refine R_iadd (pc := 1947) dL_law__1947 ?_
  refine T_sld (pc := 1948) (i := (i + 2)) (by omega) (by omega) dL_law__1948 ?_
  refine T_i2l (pc := 1949) dL_law__1949 ?_
  refine T_ldc2 (pc := 1950) dL_law__1950 cn_L_178 ?_
  refine T_topl (v := lN 4294967295) (fa_litL _) ?_
  refine T_land (pc := 1953) dL_law__1953 ?_
  refine T_lor (pc := 1954) dL_law__1954 ?_
  refine T_aload_n (pc := 1955) (i := 0) dL_law__1955 rfl rfl ?_
  refine T_iload (pc := 1956) (i := 4) dL_law__1956 rfl ?_
  refine T_iconst (pc := 1958) (v := nI 3) dL_law__1958 (by decide) ?_
  refine R_iadd (pc := 1959) dL_law__1959 ?_
  refine T_sld (pc := 1960) (i := (i + 3)) (by omega) (by omega) dL_law__1960 ?_
  refine T_aload_n (pc := 1961) (i := 0) dL_law__1961 rfl rfl ?_
  refine T_iload (pc := 1962) (i := 4) dL_law__1962 rfl ?_
  refine T_iconst (pc := 1964) (v := nI 4) dL_law__1964 (by decide) ?_
  refine R_iadd (pc := 1965) dL_law__1965 ?_
  refine T_sld (pc := 1966) (i := (i + 4)) (by omega) (by omega) dL_law__1966 ?_
  refine R_callVm1 (pc := 1967) (As := [.long ((((lshl ((((gsx γ (i + 1))).toInt64)) (nI 32))) ||| ((((((gsx γ (i + 2))).toInt64)) &&& (lN 4294967295))))), .int ((gsx γ (i + 3))), .int ((gsx γ (i + 4)))]) (rest := []) (Or.inl lk_L_229) mk_X12_becomes (q_becomes hm1) kc_572 ⟨by decide, rfl⟩ lc_572 dL_law__1967 rfl rfl (Nat.le_of_ble_eq_true rfl) (by omega) rfl (by omega) (by omega) (fun m2 h5 => ?_)
  have hc2 := h5.call h1
  refine T_lstore (pc := 1970) (i := 6) (ls' := [some (.ref XB), some (.ref 0), some (.ref 572), some (.ref 594), some (.int (nI i)), some (.int (nI (mT2 (codeB (((lshl ((((gsx γ (i + 1))).toInt64)) (nI 32))) ||| ((((((gsx γ (i + 2))).toInt64)) &&& (lN 4294967295)))) && chkN (gsx γ (i + 3)) 0 40) (inB (gsx γ (i + 4)) 4)))), some (.long ((if ((codeB (((lshl ((((gsx γ (i + 1))).toInt64)) (nI 32))) ||| ((((((gsx γ (i + 2))).toInt64)) &&& (lN 4294967295)))) && chkN (gsx γ (i + 3)) 0 40) && inB (gsx γ (i + 4)) 4) = true then becV s.1.R (wOf s.1 s.2.1.2) (ml (((lshl ((((gsx γ (i + 1))).toInt64)) (nI 32))) ||| ((((((gsx γ (i + 2))).toInt64)) &&& (lN 4294967295))))) (gsx γ (i + 3)).toNatClampNeg (gsx γ (i + 4)).toNatClampNeg else lN 0))), none]) dL_law__1970 (by decide) rfl ?_
  refine T_aload_n (pc := 1972) (i := 2) dL_law__1972 rfl rfl ?_
  refine R_callV1 (pc := 1973) (As := []) (rest := []) (Or.inl lk_L_157) mk_X12_thrown (m_thrown h5.2.1) kc_572 ⟨by decide, rfl⟩ lc_572 dL_law__1973 rfl rfl (Nat.le_of_ble_eq_true rfl) (by omega) rfl (by omega) (by omega) ?_
  refine T_iload (pc := 1976) (i := 5) dL_law__1976 rfl ?_
  refine R_icmp_eq (pc := 1978) (tgt := 1983) (by omega) (by omega) dL_law__1978 (by decide) (fun g1 => ?_) (fun g1 => ?_)
  · skip
    refine T_iload (pc := 1983) (i := 5) dL_law__1983 rfl ?_
    refine R_if_ne (pc := 1985) (tgt := 1999) (by omega) dL_law__1985 (by decide) (fun g2 => ?_) (fun g2 => ?_)
    · skip
      refine T_goto (pc := 1999) (tgt := 3335) dL_law__1999 (by decide) ?_
      refine T_ls (ls' := [some (.ref XB), some (.ref 0), some (.ref 572), some (.ref 594), some (.int (nI i)), none, none, none]) (And.intro rfl (And.intro rfl (And.intro rfl (And.intro rfl (And.intro rfl True.intro))))) ?_
      exact nx _ _ m2 _ hc2 h5.1 (by omega) (by omega)
    · skip
      have ho : m2.2 594 0 = (if ((codeB (((lshl ((((gsx γ (i + 1))).toInt64)) (nI 32))) ||| ((((((gsx γ (i + 2))).toInt64)) &&& (lN 4294967295)))) && chkN (gsx γ (i + 3)) 0 40) && inB (gsx γ (i + 4)) 4) = true then becV s.1.R (wOf s.1 s.2.1.2) (ml (((lshl ((((gsx γ (i + 1))).toInt64)) (nI 32))) ||| ((((((gsx γ (i + 2))).toInt64)) &&& (lN 4294967295))))) (gsx γ (i + 3)).toNatClampNeg (gsx γ (i + 4)).toNatClampNeg else lN 0) := (congrFun (h5.2.2 594 (by unfold Smo; omega)).2 0).trans (h2 g2)
      refine T_aload_n (pc := 1988) (i := 3) dL_law__1988 rfl rfl ?_
      refine T_iconst (pc := 1989) (v := nI 0) dL_law__1989 (by decide) ?_
      refine R_lald (pc := 1990) (x := (if ((codeB (((lshl ((((gsx γ (i + 1))).toInt64)) (nI 32))) ||| ((((((gsx γ (i + 2))).toInt64)) &&& (lN 4294967295)))) && chkN (gsx γ (i + 3)) 0 40) && inB (gsx γ (i + 4)) 4) = true then becV s.1.R (wOf s.1 s.2.1.2) (ml (((lshl ((((gsx γ (i + 1))).toInt64)) (nI 32))) ||| ((((((gsx γ (i + 2))).toInt64)) &&& (lN 4294967295))))) (gsx γ (i + 3)).toNatClampNeg (gsx γ (i + 4)).toNatClampNeg else lN 0)) kc_594 lc_594 (by omega) (by first | decide | assumption) ho dL_law__1990 ?_
      refine T_lload (pc := 1991) (i := 6) dL_law__1991 rfl ?_
      refine T_lcmp (pc := 1993) dL_law__1993 ?_
      refine R_lx_eq (pc := 1994) (tgt := 1999) dL_law__1994 (by decide) (fun g4 => ?_) (fun g4 => ?_)
      · skip
        refine T_goto (pc := 1999) (tgt := 3335) dL_law__1999 (by decide) ?_
        refine T_ls (ls' := [some (.ref XB), some (.ref 0), some (.ref 572), some (.ref 594), some (.int (nI i)), none, none, none]) (And.intro rfl (And.intro rfl (And.intro rfl (And.intro rfl (And.intro rfl True.intro))))) ?_
        exact nx _ _ m2 _ hc2 h5.1 (by omega) (by omega)
      · exact absurd rfl g4
  · exact absurd rfl g1
theorem z_fewest (hD : 40 ≤ D) (hi : i + 7 ≤ gsl γ) (h3 : gsl γ ≤ 3584) (hk : kc + 5 ≤ mc) (hks : ks + 30 ≤ ms) (hc : CAll m s) (hm : MAll m s) (nx : LawNext γ D mc ms Q i kc ks) : T γ D mc ms M_L_law_ Q kc ks 2002 [some (.ref XB), some (.ref 0), some (.ref 572), some (.ref 594), some (.int (nI i)), none, none, none] [] (rm m) := by
  refine T_aload_n (pc := 2002) (i := 1) dL_law__2002 rfl rfl ?_
  refine T_aload_n (pc := 2003) (i := 0) dL_law__2003 rfl rfl ?_
  refine T_iload (pc := 2004) (i := 4) dL_law__2004 rfl ?_
  refine T_iconst (pc := 2006) (v := nI 1) dL_law__2006 (by decide) ?_
  refine R_iadd (pc := 2007) dL_law__2007 ?_
  refine T_sld (pc := 2008) (i := (i + 1)) (by omega) (by omega) dL_law__2008 ?_
  refine T_i2l (pc := 2009) dL_law__2009 ?_
  refine T_bipush (pc := 2010) (v := nI 32) dL_law__2010 (by decide) ?_
  refine T_lshl (pc := 2012) dL_law__2012 ?_
  refine T_aload_n (pc := 2013) (i := 0) dL_law__2013 rfl rfl ?_
  refine T_iload (pc := 2014) (i := 4) dL_law__2014 rfl ?_
  refine T_iconst (pc := 2016) (v := nI 2) dL_law__2016 (by decide) ?_
  refine R_iadd (pc := 2017) dL_law__2017 ?_
  refine T_sld (pc := 2018) (i := (i + 2)) (by omega) (by omega) dL_law__2018 ?_
  refine T_i2l (pc := 2019) dL_law__2019 ?_
  refine T_ldc2 (pc := 2020) dL_law__2020 cn_L_178 ?_
  refine T_topl (v := lN 4294967295) (fa_litL _) ?_
  refine T_land (pc := 2023) dL_law__2023 ?_
  refine T_lor (pc := 2024) dL_law__2024 ?_
  refine T_aload_n (pc := 2025) (i := 0) dL_law__2025 rfl rfl ?_
  refine T_iload (pc := 2026) (i := 4) dL_law__2026 rfl ?_
  refine T_iconst (pc := 2028) (v := nI 3) dL_law__2028 (by decide) ?_
  refine R_iadd (pc := 2029) dL_law__2029 ?_
  refine T_sld (pc := 2030) (i := (i + 3)) (by omega) (by omega) dL_law__2030 ?_
  refine T_i2l (pc := 2031) dL_law__2031 ?_
  refine T_bipush (pc := 2032) (v := nI 32) dL_law__2032 (by decide) ?_
  refine T_lshl (pc := 2034) dL_law__2034 ?_
  refine T_aload_n (pc := 2035) (i := 0) dL_law__2035 rfl rfl ?_
  refine T_iload (pc := 2036) (i := 4) dL_law__2036 rfl ?_
  refine T_iconst (pc := 2038) (v := nI 4) dL_law__2038 (by decide) ?_
  refine R_iadd (pc := 2039) dL_law__2039 ?_
  refine T_sld (pc := 2040) (i := (i + 4)) (by omega) (by omega) dL_law__2040 ?_
  refine T_i2l (pc := 2041) dL_law__2041 ?_
  refine T_ldc2 (pc := 2042) dL_law__2042 cn_L_178 ?_
  refine T_topl (v := lN 4294967295) (fa_litL _) ?_
  refine T_land (pc := 2045) dL_law__2045 ?_
  refine T_lor (pc := 2046) dL_law__2046 ?_
  refine T_aload_n (pc := 2047) (i := 3) dL_law__2047 rfl rfl ?_
  refine T_callSH (pc := 2048) (av := [.ref 0, .long ((((lshl ((((gsx γ (i + 1))).toInt64)) (nI 32))) ||| ((((((gsx γ (i + 2))).toInt64)) &&& (lN 4294967295))))), .long ((((lshl ((((gsx γ (i + 3))).toInt64)) (nI 32))) ||| ((((((gsx γ (i + 4))).toInt64)) &&& (lN 4294967295))))), .ref 594]) (rest := []) lk_L_230 mk_L_fewest (w_fewest hc) dL_law__2048 rfl rfl (Nat.le_of_ble_eq_true rfl) (by omega) rfl (by omega) (by omega) (fun E m' h => by obtain ⟨_, z, _⟩ := h; cases z) (fun v m' h => ?_)
  obtain ⟨m1, h0, rfl, h1, h2, h4⟩ := h
  cases h0
  have hm1 : MAll m1 s := hm.ofc (fun k a b => h4 k (by unfold Swr; omega))
  have tle : (mT1 (codeB (((lshl ((((gsx γ (i + 1))).toInt64)) (nI 32))) ||| ((((((gsx γ (i + 2))).toInt64)) &&& (lN 4294967295)))) && codeB (((lshl ((((gsx γ (i + 3))).toInt64)) (nI 32))) ||| ((((((gsx γ (i + 4))).toInt64)) &&& (lN 4294967295)))))) ≤ 2 := Nat.le_trans (mT1_le _) (by decide)
  show T _ _ _ _ _ _ _ _ 2051 [some (.ref XB), some (.ref 0), some (.ref 572), some (.ref 594), some (.int (nI i)), none, none, none] [.int (nI (mT1 (codeB (((lshl ((((gsx γ (i + 1))).toInt64)) (nI 32))) ||| ((((((gsx γ (i + 2))).toInt64)) &&& (lN 4294967295)))) && codeB (((lshl ((((gsx γ (i + 3))).toInt64)) (nI 32))) ||| ((((((gsx γ (i + 4))).toInt64)) &&& (lN 4294967295)))))))] (rm m1)
  refine T_istore (pc := 2051) (i := 5) (ls' := [some (.ref XB), some (.ref 0), some (.ref 572), some (.ref 594), some (.int (nI i)), some (.int (nI (mT1 (codeB (((lshl ((((gsx γ (i + 1))).toInt64)) (nI 32))) ||| ((((((gsx γ (i + 2))).toInt64)) &&& (lN 4294967295)))) && codeB (((lshl ((((gsx γ (i + 3))).toInt64)) (nI 32))) ||| ((((((gsx γ (i + 4))).toInt64)) &&& (lN 4294967295)))))))), none, none]) dL_law__2051 (by decide) rfl ?_
  refine T_aload_n (pc := 2053) (i := 2) dL_law__2053 rfl rfl ?_
  refine T_aload_n (pc := 2054) (i := 0) dL_law__2054 rfl rfl ?_
  refine T_iload (pc := 2055) (i := 4) dL_law__2055 rfl ?_
  refine T_iconst (pc := 2057) (v := nI 1) dL_law__2057 (by decide) ?_
  refine R_iadd (pc := 2058) dL_law__2058 ?_
  refine T_sld (pc := 2059) (i := (i + 1)) (by omega) (by omega) dL_law__2059 ?_
  refine T_i2l (pc := 2060) dL_law__2060 ?_
  refine T_bipush (pc := 2061) (v := nI 32) dL_law__2061 (by decide) ?_
  refine T_lshl (pc := 2063) dL_law__2063 ?_
  refine T_aload_n (pc := 2064) (i := 0) dL_law__2064 rfl rfl ?_
  refine T_iload (pc := 2065) (i := 4) dL_law__2065 rfl ?_
  refine T_iconst (pc := 2067) (v := nI 2) dL_law__2067 (by decide) ?_
  refine R_iadd (pc := 2068) dL_law__2068 ?_
  refine T_sld (pc := 2069) (i := (i + 2)) (by omega) (by omega) dL_law__2069 ?_
  refine T_i2l (pc := 2070) dL_law__2070 ?_
  refine T_ldc2 (pc := 2071) dL_law__2071 cn_L_178 ?_
  refine T_topl (v := lN 4294967295) (fa_litL _) ?_
  refine T_land (pc := 2074) dL_law__2074 ?_
  refine T_lor (pc := 2075) dL_law__2075 ?_
  refine T_aload_n (pc := 2076) (i := 0) dL_law__2076 rfl rfl ?_
  refine T_iload (pc := 2077) (i := 4) dL_law__2077 rfl ?_
  refine T_iconst (pc := 2079) (v := nI 3) dL_law__2079 (by decide) ?_
  refine R_iadd (pc := 2080) dL_law__2080 ?_
  refine T_sld (pc := 2081) (i := (i + 3)) (by omega) (by omega) dL_law__2081 ?_
  refine T_i2l (pc := 2082) dL_law__2082 ?_
  refine T_bipush (pc := 2083) (v := nI 32) dL_law__2083 (by decide) ?_
  refine T_lshl (pc := 2085) dL_law__2085 ?_
  refine T_aload_n (pc := 2086) (i := 0) dL_law__2086 rfl rfl ?_
  refine T_iload (pc := 2087) (i := 4) dL_law__2087 rfl ?_
  refine T_iconst (pc := 2089) (v := nI 4) dL_law__2089 (by decide) ?_
  refine R_iadd (pc := 2090) dL_law__2090 ?_
  refine T_sld (pc := 2091) (i := (i + 4)) (by omega) (by omega) dL_law__2091 ?_
  refine T_i2l (pc := 2092) dL_law__2092 ?_
  refine T_ldc2 (pc := 2093) dL_law__2093 cn_L_178 ?_
  refine T_topl (v := lN 4294967295) (fa_litL _) ?_
  refine T_land (pc := 2096) dL_law__2096 ?_
  refine T_lor (pc := 2097) dL_law__2097 ?_
  refine R_callVm1 (pc := 2098) (As := [.long ((((lshl ((((gsx γ (i + 1))).toInt64)) (nI 32))) ||| ((((((gsx γ (i + 2))).toInt64)) &&& (lN 4294967295))))), .long ((((lshl ((((gsx γ (i + 3))).toInt64)) (nI 32))) ||| ((((((gsx γ (i + 4))).toInt64)) &&& (lN 4294967295)))))]) (rest := []) (Or.inl lk_L_232) mk_X12_fewest (q_fewest hm1) kc_572 ⟨by decide, rfl⟩ lc_572 dL_law__2098 rfl rfl (Nat.le_of_ble_eq_true rfl) (by omega) rfl (by omega) (by omega) (fun m2 h5 => ?_)
  have hc2 := h5.call h1
  refine T_istore (pc := 2101) (i := 6) (ls' := [some (.ref XB), some (.ref 0), some (.ref 572), some (.ref 594), some (.int (nI i)), some (.int (nI (mT1 (codeB (((lshl ((((gsx γ (i + 1))).toInt64)) (nI 32))) ||| ((((((gsx γ (i + 2))).toInt64)) &&& (lN 4294967295)))) && codeB (((lshl ((((gsx γ (i + 3))).toInt64)) (nI 32))) ||| ((((((gsx γ (i + 4))).toInt64)) &&& (lN 4294967295)))))))), some (.int ((if (codeB (((lshl ((((gsx γ (i + 1))).toInt64)) (nI 32))) ||| ((((((gsx γ (i + 2))).toInt64)) &&& (lN 4294967295)))) && codeB (((lshl ((((gsx γ (i + 3))).toInt64)) (nI 32))) ||| ((((((gsx γ (i + 4))).toInt64)) &&& (lN 4294967295))))) = true then fwN s.1.R (wOf s.1 s.2.1.2) (ml (((lshl ((((gsx γ (i + 3))).toInt64)) (nI 32))) ||| ((((((gsx γ (i + 4))).toInt64)) &&& (lN 4294967295))))) 1501 [(ml (((lshl ((((gsx γ (i + 1))).toInt64)) (nI 32))) ||| ((((((gsx γ (i + 2))).toInt64)) &&& (lN 4294967295)))), 0)] 0 0 else nI 0))), none]) dL_law__2101 (by decide) rfl ?_
  refine T_aload_n (pc := 2103) (i := 2) dL_law__2103 rfl rfl ?_
  refine R_callV1 (pc := 2104) (As := []) (rest := []) (Or.inl lk_L_157) mk_X12_thrown (m_thrown h5.2.1) kc_572 ⟨by decide, rfl⟩ lc_572 dL_law__2104 rfl rfl (Nat.le_of_ble_eq_true rfl) (by omega) rfl (by omega) (by omega) ?_
  refine T_iload (pc := 2107) (i := 5) dL_law__2107 rfl ?_
  refine R_icmp_eq (pc := 2109) (tgt := 2114) (by omega) (by omega) dL_law__2109 (by decide) (fun g1 => ?_) (fun g1 => ?_)
  · skip
    refine T_iload (pc := 2114) (i := 5) dL_law__2114 rfl ?_
    refine R_if_ne (pc := 2116) (tgt := 2131) (by omega) dL_law__2116 (by decide) (fun g2 => ?_) (fun g2 => ?_)
    · skip
      refine T_goto (pc := 2131) (tgt := 3335) dL_law__2131 (by decide) ?_
      refine T_ls (ls' := [some (.ref XB), some (.ref 0), some (.ref 572), some (.ref 594), some (.int (nI i)), none, none, none]) (And.intro rfl (And.intro rfl (And.intro rfl (And.intro rfl (And.intro rfl True.intro))))) ?_
      exact nx _ _ m2 _ hc2 h5.1 (by omega) (by omega)
    · skip
      have ho : m2.2 594 0 = ((if (codeB (((lshl ((((gsx γ (i + 1))).toInt64)) (nI 32))) ||| ((((((gsx γ (i + 2))).toInt64)) &&& (lN 4294967295)))) && codeB (((lshl ((((gsx γ (i + 3))).toInt64)) (nI 32))) ||| ((((((gsx γ (i + 4))).toInt64)) &&& (lN 4294967295))))) = true then fwN s.1.R (wOf s.1 s.2.1.2) (ml (((lshl ((((gsx γ (i + 3))).toInt64)) (nI 32))) ||| ((((((gsx γ (i + 4))).toInt64)) &&& (lN 4294967295))))) 1501 [(ml (((lshl ((((gsx γ (i + 1))).toInt64)) (nI 32))) ||| ((((((gsx γ (i + 2))).toInt64)) &&& (lN 4294967295)))), 0)] 0 0 else nI 0)).toInt64 := (congrFun (h5.2.2 594 (by unfold Smo; omega)).2 0).trans (h2 g2)
      refine T_aload_n (pc := 2119) (i := 3) dL_law__2119 rfl rfl ?_
      refine T_iconst (pc := 2120) (v := nI 0) dL_law__2120 (by decide) ?_
      refine R_lald (pc := 2121) (x := (((if (codeB (((lshl ((((gsx γ (i + 1))).toInt64)) (nI 32))) ||| ((((((gsx γ (i + 2))).toInt64)) &&& (lN 4294967295)))) && codeB (((lshl ((((gsx γ (i + 3))).toInt64)) (nI 32))) ||| ((((((gsx γ (i + 4))).toInt64)) &&& (lN 4294967295))))) = true then fwN s.1.R (wOf s.1 s.2.1.2) (ml (((lshl ((((gsx γ (i + 3))).toInt64)) (nI 32))) ||| ((((((gsx γ (i + 4))).toInt64)) &&& (lN 4294967295))))) 1501 [(ml (((lshl ((((gsx γ (i + 1))).toInt64)) (nI 32))) ||| ((((((gsx γ (i + 2))).toInt64)) &&& (lN 4294967295)))), 0)] 0 0 else nI 0)).toInt64)) kc_594 lc_594 (by omega) (by first | decide | assumption) ho dL_law__2121 ?_
      refine T_iload (pc := 2122) (i := 6) dL_law__2122 rfl ?_
      refine T_i2l (pc := 2124) dL_law__2124 ?_
      refine T_lcmp (pc := 2125) dL_law__2125 ?_
      refine R_lx_eq (pc := 2126) (tgt := 2131) dL_law__2126 (by decide) (fun g4 => ?_) (fun g4 => ?_)
      · skip
        refine T_goto (pc := 2131) (tgt := 3335) dL_law__2131 (by decide) ?_
        refine T_ls (ls' := [some (.ref XB), some (.ref 0), some (.ref 572), some (.ref 594), some (.int (nI i)), none, none, none]) (And.intro rfl (And.intro rfl (And.intro rfl (And.intro rfl (And.intro rfl True.intro))))) ?_
        exact nx _ _ m2 _ hc2 h5.1 (by omega) (by omega)
      · exact absurd rfl g4
  · exact absurd rfl g1
theorem z_meets (hD : 40 ≤ D) (hi : i + 7 ≤ gsl γ) (h3 : gsl γ ≤ 3584) (hk : kc + 5 ≤ mc) (hks : ks + 30 ≤ ms) (hc : CAll m s) (hm : MAll m s) (nx : LawNext γ D mc ms Q i kc ks) : T γ D mc ms M_L_law_ Q kc ks 2134 [some (.ref XB), some (.ref 0), some (.ref 572), some (.ref 594), some (.int (nI i)), none, none, none] [] (rm m) := by
  refine T_aload_n (pc := 2134) (i := 1) dL_law__2134 rfl rfl ?_
  refine T_aload_n (pc := 2135) (i := 0) dL_law__2135 rfl rfl ?_
  refine T_iload (pc := 2136) (i := 4) dL_law__2136 rfl ?_
  refine T_iconst (pc := 2138) (v := nI 1) dL_law__2138 (by decide) ?_
  refine R_iadd (pc := 2139) dL_law__2139 ?_
  refine T_sld (pc := 2140) (i := (i + 1)) (by omega) (by omega) dL_law__2140 ?_
  refine T_i2l (pc := 2141) dL_law__2141 ?_
  refine T_bipush (pc := 2142) (v := nI 32) dL_law__2142 (by decide) ?_
  refine T_lshl (pc := 2144) dL_law__2144 ?_
  refine T_aload_n (pc := 2145) (i := 0) dL_law__2145 rfl rfl ?_
  refine T_iload (pc := 2146) (i := 4) dL_law__2146 rfl ?_
  refine T_iconst (pc := 2148) (v := nI 2) dL_law__2148 (by decide) ?_
  refine R_iadd (pc := 2149) dL_law__2149 ?_
  refine T_sld (pc := 2150) (i := (i + 2)) (by omega) (by omega) dL_law__2150 ?_
  refine T_i2l (pc := 2151) dL_law__2151 ?_
  refine T_ldc2 (pc := 2152) dL_law__2152 cn_L_178 ?_
  refine T_topl (v := lN 4294967295) (fa_litL _) ?_
  refine T_land (pc := 2155) dL_law__2155 ?_
  refine T_lor (pc := 2156) dL_law__2156 ?_
  refine T_aload_n (pc := 2157) (i := 0) dL_law__2157 rfl rfl ?_
  refine T_iload (pc := 2158) (i := 4) dL_law__2158 rfl ?_
  refine T_iconst (pc := 2160) (v := nI 3) dL_law__2160 (by decide) ?_
  refine R_iadd (pc := 2161) dL_law__2161 ?_
  refine T_sld (pc := 2162) (i := (i + 3)) (by omega) (by omega) dL_law__2162 ?_
  refine T_i2l (pc := 2163) dL_law__2163 ?_
  refine T_bipush (pc := 2164) (v := nI 32) dL_law__2164 (by decide) ?_
  refine T_lshl (pc := 2166) dL_law__2166 ?_
  refine T_aload_n (pc := 2167) (i := 0) dL_law__2167 rfl rfl ?_
  refine T_iload (pc := 2168) (i := 4) dL_law__2168 rfl ?_
  refine T_iconst (pc := 2170) (v := nI 4) dL_law__2170 (by decide) ?_
  refine R_iadd (pc := 2171) dL_law__2171 ?_
  refine T_sld (pc := 2172) (i := (i + 4)) (by omega) (by omega) dL_law__2172 ?_
  refine T_i2l (pc := 2173) dL_law__2173 ?_
  refine T_ldc2 (pc := 2174) dL_law__2174 cn_L_178 ?_
  refine T_topl (v := lN 4294967295) (fa_litL _) ?_
  refine T_land (pc := 2177) dL_law__2177 ?_
  refine T_lor (pc := 2178) dL_law__2178 ?_
  refine T_aload_n (pc := 2179) (i := 0) dL_law__2179 rfl rfl ?_
  refine T_iload (pc := 2180) (i := 4) dL_law__2180 rfl ?_
  refine T_iconst (pc := 2182) (v := nI 5) dL_law__2182 (by decide) ?_
  refine R_iadd (pc := 2183) dL_law__2183 ?_
  refine T_sld (pc := 2184) (i := (i + 5)) (by omega) (by omega) dL_law__2184 ?_
  refine T_aload_n (pc := 2185) (i := 0) dL_law__2185 rfl rfl ?_
  refine T_iload (pc := 2186) (i := 4) dL_law__2186 rfl ?_
  refine T_bipush (pc := 2188) (v := nI 6) dL_law__2188 (by decide) ?_
  refine R_iadd (pc := 2190) dL_law__2190 ?_
  refine T_sld (pc := 2191) (i := (i + 6)) (by omega) (by omega) dL_law__2191 ?_
  refine T_if_eq (pc := 2192) (tgt := 2199) dL_law__2192 (by decide) (fun hb1 => ?_) (fun hb1 => ?_)
  · skip
    refine T_iconst (pc := 2199) (v := nI 0) dL_law__2199 (by decide) ?_
    refine T_topi (v := bI false) rfl ?_
    refine T_aload_n (pc := 2200) (i := 3) dL_law__2200 rfl rfl ?_
    refine T_callSH (pc := 2201) (av := [.ref 0, .long ((((lshl ((((gsx γ (i + 1))).toInt64)) (nI 32))) ||| ((((((gsx γ (i + 2))).toInt64)) &&& (lN 4294967295))))), .long ((((lshl ((((gsx γ (i + 3))).toInt64)) (nI 32))) ||| ((((((gsx γ (i + 4))).toInt64)) &&& (lN 4294967295))))), .int ((gsx γ (i + 5))), .int (bI false), .ref 594]) (rest := []) lk_L_233 mk_L_meets (w_meets hc) dL_law__2201 rfl rfl (Nat.le_of_ble_eq_true rfl) (by omega) rfl (by omega) (by omega) (fun E m' h => by obtain ⟨_, z, _⟩ := h; cases z) (fun v m' h => ?_)
    obtain ⟨m1, h0, rfl, h1, h2, h4⟩ := h
    cases h0
    have hm1 : MAll m1 s := hm.ofc (fun k a b => h4 k (by unfold Swr; omega))
    have tle : (mT1 ((codeB (((lshl ((((gsx γ (i + 1))).toInt64)) (nI 32))) ||| ((((((gsx γ (i + 2))).toInt64)) &&& (lN 4294967295)))) && codeB (((lshl ((((gsx γ (i + 3))).toInt64)) (nI 32))) ||| ((((((gsx γ (i + 4))).toInt64)) &&& (lN 4294967295))))) && chkN (gsx γ (i + 5)) 0 12)) ≤ 2 := Nat.le_trans (mT1_le _) (by decide)
    show T _ _ _ _ _ _ _ _ 2204 [some (.ref XB), some (.ref 0), some (.ref 572), some (.ref 594), some (.int (nI i)), none, none, none] [.int (nI (mT1 ((codeB (((lshl ((((gsx γ (i + 1))).toInt64)) (nI 32))) ||| ((((((gsx γ (i + 2))).toInt64)) &&& (lN 4294967295)))) && codeB (((lshl ((((gsx γ (i + 3))).toInt64)) (nI 32))) ||| ((((((gsx γ (i + 4))).toInt64)) &&& (lN 4294967295))))) && chkN (gsx γ (i + 5)) 0 12)))] (rm m1)
    refine T_istore (pc := 2204) (i := 5) (ls' := [some (.ref XB), some (.ref 0), some (.ref 572), some (.ref 594), some (.int (nI i)), some (.int (nI (mT1 ((codeB (((lshl ((((gsx γ (i + 1))).toInt64)) (nI 32))) ||| ((((((gsx γ (i + 2))).toInt64)) &&& (lN 4294967295)))) && codeB (((lshl ((((gsx γ (i + 3))).toInt64)) (nI 32))) ||| ((((((gsx γ (i + 4))).toInt64)) &&& (lN 4294967295))))) && chkN (gsx γ (i + 5)) 0 12)))), none, none]) dL_law__2204 (by decide) rfl ?_
    refine T_aload_n (pc := 2206) (i := 2) dL_law__2206 rfl rfl ?_
    refine T_aload_n (pc := 2207) (i := 0) dL_law__2207 rfl rfl ?_
    refine T_iload (pc := 2208) (i := 4) dL_law__2208 rfl ?_
    refine T_iconst (pc := 2210) (v := nI 1) dL_law__2210 (by decide) ?_
    refine R_iadd (pc := 2211) dL_law__2211 ?_
    refine T_sld (pc := 2212) (i := (i + 1)) (by omega) (by omega) dL_law__2212 ?_
    refine T_i2l (pc := 2213) dL_law__2213 ?_
    refine T_bipush (pc := 2214) (v := nI 32) dL_law__2214 (by decide) ?_
    refine T_lshl (pc := 2216) dL_law__2216 ?_
    refine T_aload_n (pc := 2217) (i := 0) dL_law__2217 rfl rfl ?_
    refine T_iload (pc := 2218) (i := 4) dL_law__2218 rfl ?_
    refine T_iconst (pc := 2220) (v := nI 2) dL_law__2220 (by decide) ?_
    refine R_iadd (pc := 2221) dL_law__2221 ?_
    refine T_sld (pc := 2222) (i := (i + 2)) (by omega) (by omega) dL_law__2222 ?_
    refine T_i2l (pc := 2223) dL_law__2223 ?_
    refine T_ldc2 (pc := 2224) dL_law__2224 cn_L_178 ?_
    refine T_topl (v := lN 4294967295) (fa_litL _) ?_
    refine T_land (pc := 2227) dL_law__2227 ?_
    refine T_lor (pc := 2228) dL_law__2228 ?_
    refine T_aload_n (pc := 2229) (i := 0) dL_law__2229 rfl rfl ?_
    refine T_iload (pc := 2230) (i := 4) dL_law__2230 rfl ?_
    refine T_iconst (pc := 2232) (v := nI 3) dL_law__2232 (by decide) ?_
    refine R_iadd (pc := 2233) dL_law__2233 ?_
    refine T_sld (pc := 2234) (i := (i + 3)) (by omega) (by omega) dL_law__2234 ?_
    refine T_i2l (pc := 2235) dL_law__2235 ?_
    refine T_bipush (pc := 2236) (v := nI 32) dL_law__2236 (by decide) ?_
    refine T_lshl (pc := 2238) dL_law__2238 ?_
    refine T_aload_n (pc := 2239) (i := 0) dL_law__2239 rfl rfl ?_
    refine T_iload (pc := 2240) (i := 4) dL_law__2240 rfl ?_
    refine T_iconst (pc := 2242) (v := nI 4) dL_law__2242 (by decide) ?_
    refine R_iadd (pc := 2243) dL_law__2243 ?_
    refine T_sld (pc := 2244) (i := (i + 4)) (by omega) (by omega) dL_law__2244 ?_
    refine T_i2l (pc := 2245) dL_law__2245 ?_
    refine T_ldc2 (pc := 2246) dL_law__2246 cn_L_178 ?_
    refine T_topl (v := lN 4294967295) (fa_litL _) ?_
    refine T_land (pc := 2249) dL_law__2249 ?_
    refine T_lor (pc := 2250) dL_law__2250 ?_
    refine T_aload_n (pc := 2251) (i := 0) dL_law__2251 rfl rfl ?_
    refine T_iload (pc := 2252) (i := 4) dL_law__2252 rfl ?_
    refine T_iconst (pc := 2254) (v := nI 5) dL_law__2254 (by decide) ?_
    refine R_iadd (pc := 2255) dL_law__2255 ?_
    refine T_sld (pc := 2256) (i := (i + 5)) (by omega) (by omega) dL_law__2256 ?_
    refine T_aload_n (pc := 2257) (i := 0) dL_law__2257 rfl rfl ?_
    refine T_iload (pc := 2258) (i := 4) dL_law__2258 rfl ?_
    refine T_bipush (pc := 2260) (v := nI 6) dL_law__2260 (by decide) ?_
    refine R_iadd (pc := 2262) dL_law__2262 ?_
    refine T_sld (pc := 2263) (i := (i + 6)) (by omega) (by omega) dL_law__2263 ?_
    refine T_if_eq (pc := 2264) (tgt := 2271) dL_law__2264 (by decide) (fun hb2 => ?_) (fun hb2 => ?_)
    · skip
      refine T_iconst (pc := 2271) (v := nI 0) dL_law__2271 (by decide) ?_
      refine T_topi (v := bI false) rfl ?_
      refine R_callVm1 (pc := 2272) (As := [.long ((((lshl ((((gsx γ (i + 1))).toInt64)) (nI 32))) ||| ((((((gsx γ (i + 2))).toInt64)) &&& (lN 4294967295))))), .long ((((lshl ((((gsx γ (i + 3))).toInt64)) (nI 32))) ||| ((((((gsx γ (i + 4))).toInt64)) &&& (lN 4294967295))))), .int ((gsx γ (i + 5))), .int (bI false)]) (rest := []) (Or.inl lk_L_236) mk_X12_meets (q_meets hm1) kc_572 ⟨by decide, rfl⟩ lc_572 dL_law__2272 rfl rfl (Nat.le_of_ble_eq_true rfl) (by omega) rfl (by omega) (by omega) (fun m2 h5 => ?_)
      have hc2 := h5.call h1
      refine T_lstore (pc := 2275) (i := 6) (ls' := [some (.ref XB), some (.ref 0), some (.ref 572), some (.ref 594), some (.int (nI i)), some (.int (nI (mT1 ((codeB (((lshl ((((gsx γ (i + 1))).toInt64)) (nI 32))) ||| ((((((gsx γ (i + 2))).toInt64)) &&& (lN 4294967295)))) && codeB (((lshl ((((gsx γ (i + 3))).toInt64)) (nI 32))) ||| ((((((gsx γ (i + 4))).toInt64)) &&& (lN 4294967295))))) && chkN (gsx γ (i + 5)) 0 12)))), some (.long ((if ((codeB (((lshl ((((gsx γ (i + 1))).toInt64)) (nI 32))) ||| ((((((gsx γ (i + 2))).toInt64)) &&& (lN 4294967295)))) && codeB (((lshl ((((gsx γ (i + 3))).toInt64)) (nI 32))) ||| ((((((gsx γ (i + 4))).toInt64)) &&& (lN 4294967295))))) && chkN (gsx γ (i + 5)) 0 12) = true then meV s.1.R (wOf s.1 s.2.1.2) (ml (((lshl ((((gsx γ (i + 1))).toInt64)) (nI 32))) ||| ((((((gsx γ (i + 2))).toInt64)) &&& (lN 4294967295))))) (ml (((lshl ((((gsx γ (i + 3))).toInt64)) (nI 32))) ||| ((((((gsx γ (i + 4))).toInt64)) &&& (lN 4294967295))))) (gsx γ (i + 5)).toNatClampNeg false else lN 0))), none]) dL_law__2275 (by decide) rfl ?_
      refine T_aload_n (pc := 2277) (i := 2) dL_law__2277 rfl rfl ?_
      refine R_callV1 (pc := 2278) (As := []) (rest := []) (Or.inl lk_L_157) mk_X12_thrown (m_thrown h5.2.1) kc_572 ⟨by decide, rfl⟩ lc_572 dL_law__2278 rfl rfl (Nat.le_of_ble_eq_true rfl) (by omega) rfl (by omega) (by omega) ?_
      refine T_iload (pc := 2281) (i := 5) dL_law__2281 rfl ?_
      refine R_icmp_eq (pc := 2283) (tgt := 2288) (by omega) (by omega) dL_law__2283 (by decide) (fun g1 => ?_) (fun g1 => ?_)
      · skip
        refine T_iload (pc := 2288) (i := 5) dL_law__2288 rfl ?_
        refine R_if_ne (pc := 2290) (tgt := 2304) (by omega) dL_law__2290 (by decide) (fun g2 => ?_) (fun g2 => ?_)
        · skip
          refine T_goto (pc := 2304) (tgt := 3335) dL_law__2304 (by decide) ?_
          refine T_ls (ls' := [some (.ref XB), some (.ref 0), some (.ref 572), some (.ref 594), some (.int (nI i)), none, none, none]) (And.intro rfl (And.intro rfl (And.intro rfl (And.intro rfl (And.intro rfl True.intro))))) ?_
          exact nx _ _ m2 _ hc2 h5.1 (by omega) (by omega)
        · skip
          have ho : m2.2 594 0 = (if ((codeB (((lshl ((((gsx γ (i + 1))).toInt64)) (nI 32))) ||| ((((((gsx γ (i + 2))).toInt64)) &&& (lN 4294967295)))) && codeB (((lshl ((((gsx γ (i + 3))).toInt64)) (nI 32))) ||| ((((((gsx γ (i + 4))).toInt64)) &&& (lN 4294967295))))) && chkN (gsx γ (i + 5)) 0 12) = true then meV s.1.R (wOf s.1 s.2.1.2) (ml (((lshl ((((gsx γ (i + 1))).toInt64)) (nI 32))) ||| ((((((gsx γ (i + 2))).toInt64)) &&& (lN 4294967295))))) (ml (((lshl ((((gsx γ (i + 3))).toInt64)) (nI 32))) ||| ((((((gsx γ (i + 4))).toInt64)) &&& (lN 4294967295))))) (gsx γ (i + 5)).toNatClampNeg false else lN 0) := (congrFun (h5.2.2 594 (by unfold Smo; omega)).2 0).trans (h2 g2)
          refine T_aload_n (pc := 2293) (i := 3) dL_law__2293 rfl rfl ?_
          refine T_iconst (pc := 2294) (v := nI 0) dL_law__2294 (by decide) ?_
          refine R_lald (pc := 2295) (x := (if ((codeB (((lshl ((((gsx γ (i + 1))).toInt64)) (nI 32))) ||| ((((((gsx γ (i + 2))).toInt64)) &&& (lN 4294967295)))) && codeB (((lshl ((((gsx γ (i + 3))).toInt64)) (nI 32))) ||| ((((((gsx γ (i + 4))).toInt64)) &&& (lN 4294967295))))) && chkN (gsx γ (i + 5)) 0 12) = true then meV s.1.R (wOf s.1 s.2.1.2) (ml (((lshl ((((gsx γ (i + 1))).toInt64)) (nI 32))) ||| ((((((gsx γ (i + 2))).toInt64)) &&& (lN 4294967295))))) (ml (((lshl ((((gsx γ (i + 3))).toInt64)) (nI 32))) ||| ((((((gsx γ (i + 4))).toInt64)) &&& (lN 4294967295))))) (gsx γ (i + 5)).toNatClampNeg false else lN 0)) kc_594 lc_594 (by omega) (by first | decide | assumption) ho dL_law__2295 ?_
          refine T_lload (pc := 2296) (i := 6) dL_law__2296 rfl ?_
          refine T_lcmp (pc := 2298) dL_law__2298 ?_
          refine R_lx_eq (pc := 2299) (tgt := 2304) dL_law__2299 (by decide) (fun g4 => ?_) (fun g4 => ?_)
          · skip
            refine T_goto (pc := 2304) (tgt := 3335) dL_law__2304 (by decide) ?_
            refine T_ls (ls' := [some (.ref XB), some (.ref 0), some (.ref 572), some (.ref 594), some (.int (nI i)), none, none, none]) (And.intro rfl (And.intro rfl (And.intro rfl (And.intro rfl (And.intro rfl True.intro))))) ?_
            exact nx _ _ m2 _ hc2 h5.1 (by omega) (by omega)
          · exact absurd rfl g4
      · exact absurd rfl g1
    · skip
      exact absurd hb1 hb2
  · skip
    refine T_iconst (pc := 2195) (v := nI 1) dL_law__2195 (by decide) ?_
    refine T_goto (pc := 2196) (tgt := 2200) dL_law__2196 (by decide) ?_
    refine T_topi (v := bI true) rfl ?_
    refine T_aload_n (pc := 2200) (i := 3) dL_law__2200 rfl rfl ?_
    refine T_callSH (pc := 2201) (av := [.ref 0, .long ((((lshl ((((gsx γ (i + 1))).toInt64)) (nI 32))) ||| ((((((gsx γ (i + 2))).toInt64)) &&& (lN 4294967295))))), .long ((((lshl ((((gsx γ (i + 3))).toInt64)) (nI 32))) ||| ((((((gsx γ (i + 4))).toInt64)) &&& (lN 4294967295))))), .int ((gsx γ (i + 5))), .int (bI true), .ref 594]) (rest := []) lk_L_233 mk_L_meets (w_meets hc) dL_law__2201 rfl rfl (Nat.le_of_ble_eq_true rfl) (by omega) rfl (by omega) (by omega) (fun E m' h => by obtain ⟨_, z, _⟩ := h; cases z) (fun v m' h => ?_)
    obtain ⟨m1, h0, rfl, h1, h2, h4⟩ := h
    cases h0
    have hm1 : MAll m1 s := hm.ofc (fun k a b => h4 k (by unfold Swr; omega))
    have tle : (mT1 ((codeB (((lshl ((((gsx γ (i + 1))).toInt64)) (nI 32))) ||| ((((((gsx γ (i + 2))).toInt64)) &&& (lN 4294967295)))) && codeB (((lshl ((((gsx γ (i + 3))).toInt64)) (nI 32))) ||| ((((((gsx γ (i + 4))).toInt64)) &&& (lN 4294967295))))) && chkN (gsx γ (i + 5)) 0 12)) ≤ 2 := Nat.le_trans (mT1_le _) (by decide)
    show T _ _ _ _ _ _ _ _ 2204 [some (.ref XB), some (.ref 0), some (.ref 572), some (.ref 594), some (.int (nI i)), none, none, none] [.int (nI (mT1 ((codeB (((lshl ((((gsx γ (i + 1))).toInt64)) (nI 32))) ||| ((((((gsx γ (i + 2))).toInt64)) &&& (lN 4294967295)))) && codeB (((lshl ((((gsx γ (i + 3))).toInt64)) (nI 32))) ||| ((((((gsx γ (i + 4))).toInt64)) &&& (lN 4294967295))))) && chkN (gsx γ (i + 5)) 0 12)))] (rm m1)
    refine T_istore (pc := 2204) (i := 5) (ls' := [some (.ref XB), some (.ref 0), some (.ref 572), some (.ref 594), some (.int (nI i)), some (.int (nI (mT1 ((codeB (((lshl ((((gsx γ (i + 1))).toInt64)) (nI 32))) ||| ((((((gsx γ (i + 2))).toInt64)) &&& (lN 4294967295)))) && codeB (((lshl ((((gsx γ (i + 3))).toInt64)) (nI 32))) ||| ((((((gsx γ (i + 4))).toInt64)) &&& (lN 4294967295))))) && chkN (gsx γ (i + 5)) 0 12)))), none, none]) dL_law__2204 (by decide) rfl ?_
    refine T_aload_n (pc := 2206) (i := 2) dL_law__2206 rfl rfl ?_
    refine T_aload_n (pc := 2207) (i := 0) dL_law__2207 rfl rfl ?_
    refine T_iload (pc := 2208) (i := 4) dL_law__2208 rfl ?_
    refine T_iconst (pc := 2210) (v := nI 1) dL_law__2210 (by decide) ?_
    refine R_iadd (pc := 2211) dL_law__2211 ?_
    refine T_sld (pc := 2212) (i := (i + 1)) (by omega) (by omega) dL_law__2212 ?_
    refine T_i2l (pc := 2213) dL_law__2213 ?_
    refine T_bipush (pc := 2214) (v := nI 32) dL_law__2214 (by decide) ?_
    refine T_lshl (pc := 2216) dL_law__2216 ?_
    refine T_aload_n (pc := 2217) (i := 0) dL_law__2217 rfl rfl ?_
    refine T_iload (pc := 2218) (i := 4) dL_law__2218 rfl ?_
    refine T_iconst (pc := 2220) (v := nI 2) dL_law__2220 (by decide) ?_
    refine R_iadd (pc := 2221) dL_law__2221 ?_
    refine T_sld (pc := 2222) (i := (i + 2)) (by omega) (by omega) dL_law__2222 ?_
    refine T_i2l (pc := 2223) dL_law__2223 ?_
    refine T_ldc2 (pc := 2224) dL_law__2224 cn_L_178 ?_
    refine T_topl (v := lN 4294967295) (fa_litL _) ?_
    refine T_land (pc := 2227) dL_law__2227 ?_
    refine T_lor (pc := 2228) dL_law__2228 ?_
    refine T_aload_n (pc := 2229) (i := 0) dL_law__2229 rfl rfl ?_
    refine T_iload (pc := 2230) (i := 4) dL_law__2230 rfl ?_
    refine T_iconst (pc := 2232) (v := nI 3) dL_law__2232 (by decide) ?_
    refine R_iadd (pc := 2233) dL_law__2233 ?_
    refine T_sld (pc := 2234) (i := (i + 3)) (by omega) (by omega) dL_law__2234 ?_
    refine T_i2l (pc := 2235) dL_law__2235 ?_
    refine T_bipush (pc := 2236) (v := nI 32) dL_law__2236 (by decide) ?_
    refine T_lshl (pc := 2238) dL_law__2238 ?_
    refine T_aload_n (pc := 2239) (i := 0) dL_law__2239 rfl rfl ?_
    refine T_iload (pc := 2240) (i := 4) dL_law__2240 rfl ?_
    refine T_iconst (pc := 2242) (v := nI 4) dL_law__2242 (by decide) ?_
    refine R_iadd (pc := 2243) dL_law__2243 ?_
    refine T_sld (pc := 2244) (i := (i + 4)) (by omega) (by omega) dL_law__2244 ?_
    refine T_i2l (pc := 2245) dL_law__2245 ?_
    refine T_ldc2 (pc := 2246) dL_law__2246 cn_L_178 ?_
    refine T_topl (v := lN 4294967295) (fa_litL _) ?_
    refine T_land (pc := 2249) dL_law__2249 ?_
    refine T_lor (pc := 2250) dL_law__2250 ?_
    refine T_aload_n (pc := 2251) (i := 0) dL_law__2251 rfl rfl ?_
    refine T_iload (pc := 2252) (i := 4) dL_law__2252 rfl ?_
    refine T_iconst (pc := 2254) (v := nI 5) dL_law__2254 (by decide) ?_
    refine R_iadd (pc := 2255) dL_law__2255 ?_
    refine T_sld (pc := 2256) (i := (i + 5)) (by omega) (by omega) dL_law__2256 ?_
    refine T_aload_n (pc := 2257) (i := 0) dL_law__2257 rfl rfl ?_
    refine T_iload (pc := 2258) (i := 4) dL_law__2258 rfl ?_
    refine T_bipush (pc := 2260) (v := nI 6) dL_law__2260 (by decide) ?_
    refine R_iadd (pc := 2262) dL_law__2262 ?_
    refine T_sld (pc := 2263) (i := (i + 6)) (by omega) (by omega) dL_law__2263 ?_
    refine T_if_eq (pc := 2264) (tgt := 2271) dL_law__2264 (by decide) (fun hb3 => ?_) (fun hb3 => ?_)
    · skip
      exact absurd hb3 hb1
    · skip
      refine T_iconst (pc := 2267) (v := nI 1) dL_law__2267 (by decide) ?_
      refine T_goto (pc := 2268) (tgt := 2272) dL_law__2268 (by decide) ?_
      refine T_topi (v := bI true) rfl ?_
      refine R_callVm1 (pc := 2272) (As := [.long ((((lshl ((((gsx γ (i + 1))).toInt64)) (nI 32))) ||| ((((((gsx γ (i + 2))).toInt64)) &&& (lN 4294967295))))), .long ((((lshl ((((gsx γ (i + 3))).toInt64)) (nI 32))) ||| ((((((gsx γ (i + 4))).toInt64)) &&& (lN 4294967295))))), .int ((gsx γ (i + 5))), .int (bI true)]) (rest := []) (Or.inl lk_L_236) mk_X12_meets (q_meets hm1) kc_572 ⟨by decide, rfl⟩ lc_572 dL_law__2272 rfl rfl (Nat.le_of_ble_eq_true rfl) (by omega) rfl (by omega) (by omega) (fun m2 h5 => ?_)
      have hc2 := h5.call h1
      refine T_lstore (pc := 2275) (i := 6) (ls' := [some (.ref XB), some (.ref 0), some (.ref 572), some (.ref 594), some (.int (nI i)), some (.int (nI (mT1 ((codeB (((lshl ((((gsx γ (i + 1))).toInt64)) (nI 32))) ||| ((((((gsx γ (i + 2))).toInt64)) &&& (lN 4294967295)))) && codeB (((lshl ((((gsx γ (i + 3))).toInt64)) (nI 32))) ||| ((((((gsx γ (i + 4))).toInt64)) &&& (lN 4294967295))))) && chkN (gsx γ (i + 5)) 0 12)))), some (.long ((if ((codeB (((lshl ((((gsx γ (i + 1))).toInt64)) (nI 32))) ||| ((((((gsx γ (i + 2))).toInt64)) &&& (lN 4294967295)))) && codeB (((lshl ((((gsx γ (i + 3))).toInt64)) (nI 32))) ||| ((((((gsx γ (i + 4))).toInt64)) &&& (lN 4294967295))))) && chkN (gsx γ (i + 5)) 0 12) = true then meV s.1.R (wOf s.1 s.2.1.2) (ml (((lshl ((((gsx γ (i + 1))).toInt64)) (nI 32))) ||| ((((((gsx γ (i + 2))).toInt64)) &&& (lN 4294967295))))) (ml (((lshl ((((gsx γ (i + 3))).toInt64)) (nI 32))) ||| ((((((gsx γ (i + 4))).toInt64)) &&& (lN 4294967295))))) (gsx γ (i + 5)).toNatClampNeg true else lN 0))), none]) dL_law__2275 (by decide) rfl ?_
      refine T_aload_n (pc := 2277) (i := 2) dL_law__2277 rfl rfl ?_
      refine R_callV1 (pc := 2278) (As := []) (rest := []) (Or.inl lk_L_157) mk_X12_thrown (m_thrown h5.2.1) kc_572 ⟨by decide, rfl⟩ lc_572 dL_law__2278 rfl rfl (Nat.le_of_ble_eq_true rfl) (by omega) rfl (by omega) (by omega) ?_
      refine T_iload (pc := 2281) (i := 5) dL_law__2281 rfl ?_
      refine R_icmp_eq (pc := 2283) (tgt := 2288) (by omega) (by omega) dL_law__2283 (by decide) (fun g1 => ?_) (fun g1 => ?_)
      · skip
        refine T_iload (pc := 2288) (i := 5) dL_law__2288 rfl ?_
        refine R_if_ne (pc := 2290) (tgt := 2304) (by omega) dL_law__2290 (by decide) (fun g2 => ?_) (fun g2 => ?_)
        · skip
          refine T_goto (pc := 2304) (tgt := 3335) dL_law__2304 (by decide) ?_
          refine T_ls (ls' := [some (.ref XB), some (.ref 0), some (.ref 572), some (.ref 594), some (.int (nI i)), none, none, none]) (And.intro rfl (And.intro rfl (And.intro rfl (And.intro rfl (And.intro rfl True.intro))))) ?_
          exact nx _ _ m2 _ hc2 h5.1 (by omega) (by omega)
        · skip
          have ho : m2.2 594 0 = (if ((codeB (((lshl ((((gsx γ (i + 1))).toInt64)) (nI 32))) ||| ((((((gsx γ (i + 2))).toInt64)) &&& (lN 4294967295)))) && codeB (((lshl ((((gsx γ (i + 3))).toInt64)) (nI 32))) ||| ((((((gsx γ (i + 4))).toInt64)) &&& (lN 4294967295))))) && chkN (gsx γ (i + 5)) 0 12) = true then meV s.1.R (wOf s.1 s.2.1.2) (ml (((lshl ((((gsx γ (i + 1))).toInt64)) (nI 32))) ||| ((((((gsx γ (i + 2))).toInt64)) &&& (lN 4294967295))))) (ml (((lshl ((((gsx γ (i + 3))).toInt64)) (nI 32))) ||| ((((((gsx γ (i + 4))).toInt64)) &&& (lN 4294967295))))) (gsx γ (i + 5)).toNatClampNeg true else lN 0) := (congrFun (h5.2.2 594 (by unfold Smo; omega)).2 0).trans (h2 g2)
          refine T_aload_n (pc := 2293) (i := 3) dL_law__2293 rfl rfl ?_
          refine T_iconst (pc := 2294) (v := nI 0) dL_law__2294 (by decide) ?_
          refine R_lald (pc := 2295) (x := (if ((codeB (((lshl ((((gsx γ (i + 1))).toInt64)) (nI 32))) ||| ((((((gsx γ (i + 2))).toInt64)) &&& (lN 4294967295)))) && codeB (((lshl ((((gsx γ (i + 3))).toInt64)) (nI 32))) ||| ((((((gsx γ (i + 4))).toInt64)) &&& (lN 4294967295))))) && chkN (gsx γ (i + 5)) 0 12) = true then meV s.1.R (wOf s.1 s.2.1.2) (ml (((lshl ((((gsx γ (i + 1))).toInt64)) (nI 32))) ||| ((((((gsx γ (i + 2))).toInt64)) &&& (lN 4294967295))))) (ml (((lshl ((((gsx γ (i + 3))).toInt64)) (nI 32))) ||| ((((((gsx γ (i + 4))).toInt64)) &&& (lN 4294967295))))) (gsx γ (i + 5)).toNatClampNeg true else lN 0)) kc_594 lc_594 (by omega) (by first | decide | assumption) ho dL_law__2295 ?_
          refine T_lload (pc := 2296) (i := 6) dL_law__2296 rfl ?_
          refine T_lcmp (pc := 2298) dL_law__2298 ?_
          refine R_lx_eq (pc := 2299) (tgt := 2304) dL_law__2299 (by decide) (fun g4 => ?_) (fun g4 => ?_)
          · skip
            refine T_goto (pc := 2304) (tgt := 3335) dL_law__2304 (by decide) ?_
            refine T_ls (ls' := [some (.ref XB), some (.ref 0), some (.ref 572), some (.ref 594), some (.int (nI i)), none, none, none]) (And.intro rfl (And.intro rfl (And.intro rfl (And.intro rfl (And.intro rfl True.intro))))) ?_
            exact nx _ _ m2 _ hc2 h5.1 (by omega) (by omega)
          · exact absurd rfl g4
      · exact absurd rfl g1
theorem z_overlaps (hD : 40 ≤ D) (hi : i + 7 ≤ gsl γ) (h3 : gsl γ ≤ 3584) (hk : kc + 5 ≤ mc) (hks : ks + 30 ≤ ms) (hc : CAll m s) (hm : MAll m s) (nx : LawNext γ D mc ms Q i kc ks) : T γ D mc ms M_L_law_ Q kc ks 2307 [some (.ref XB), some (.ref 0), some (.ref 572), some (.ref 594), some (.int (nI i)), none, none, none] [] (rm m) := by
  refine T_aload_n (pc := 2307) (i := 1) dL_law__2307 rfl rfl ?_
  refine T_aload_n (pc := 2308) (i := 0) dL_law__2308 rfl rfl ?_
  refine T_iload (pc := 2309) (i := 4) dL_law__2309 rfl ?_
  refine T_iconst (pc := 2311) (v := nI 1) dL_law__2311 (by decide) ?_
  refine R_iadd (pc := 2312) dL_law__2312 ?_
  refine T_sld (pc := 2313) (i := (i + 1)) (by omega) (by omega) dL_law__2313 ?_
  refine T_aload_n (pc := 2314) (i := 3) dL_law__2314 rfl rfl ?_
  refine T_callSH (pc := 2315) (av := [.ref 0, .int ((gsx γ (i + 1))), .ref 594]) (rest := []) lk_L_237 mk_L_overlaps (w_overlaps hc) dL_law__2315 rfl rfl (Nat.le_of_ble_eq_true rfl) (by omega) rfl (by omega) (by omega) (fun E m' h => by obtain ⟨_, z, _⟩ := h; cases z) (fun v m' h => ?_)
  obtain ⟨m1, h0, rfl, h1, h2, h4⟩ := h
  cases h0
  have hm1 : MAll m1 s := hm.ofc (fun k a b => h4 k (by unfold Swr; omega))
  have tle : (mT1 (inB (gsx γ (i + 1)) 3)) ≤ 2 := Nat.le_trans (mT1_le _) (by decide)
  show T _ _ _ _ _ _ _ _ 2318 [some (.ref XB), some (.ref 0), some (.ref 572), some (.ref 594), some (.int (nI i)), none, none, none] [.int (nI (mT1 (inB (gsx γ (i + 1)) 3)))] (rm m1)
  refine T_istore (pc := 2318) (i := 5) (ls' := [some (.ref XB), some (.ref 0), some (.ref 572), some (.ref 594), some (.int (nI i)), some (.int (nI (mT1 (inB (gsx γ (i + 1)) 3)))), none, none]) dL_law__2318 (by decide) rfl ?_
  refine T_aload_n (pc := 2320) (i := 2) dL_law__2320 rfl rfl ?_
  refine T_aload_n (pc := 2321) (i := 0) dL_law__2321 rfl rfl ?_
  refine T_iload (pc := 2322) (i := 4) dL_law__2322 rfl ?_
  refine T_iconst (pc := 2324) (v := nI 1) dL_law__2324 (by decide) ?_
  refine R_iadd (pc := 2325) dL_law__2325 ?_
  refine T_sld (pc := 2326) (i := (i + 1)) (by omega) (by omega) dL_law__2326 ?_
  refine R_callVm1 (pc := 2327) (As := [.int ((gsx γ (i + 1)))]) (rest := []) (Or.inl lk_L_239) mk_X12_overlaps (q_overlaps hm1) kc_572 ⟨by decide, rfl⟩ lc_572 dL_law__2327 rfl rfl (Nat.le_of_ble_eq_true rfl) (by omega) rfl (by omega) (by omega) (fun m2 h5 => ?_)
  have hc2 := h5.call h1
  refine T_lstore (pc := 2330) (i := 6) (ls' := [some (.ref XB), some (.ref 0), some (.ref 572), some (.ref 594), some (.int (nI i)), some (.int (nI (mT1 (inB (gsx γ (i + 1)) 3)))), some (.long ((if inB (gsx γ (i + 1)) 3 = true then ovV s.1.R (gsx γ (i + 1)).toNatClampNeg else lN 0))), none]) dL_law__2330 (by decide) rfl ?_
  refine T_aload_n (pc := 2332) (i := 2) dL_law__2332 rfl rfl ?_
  refine R_callV1 (pc := 2333) (As := []) (rest := []) (Or.inl lk_L_157) mk_X12_thrown (m_thrown h5.2.1) kc_572 ⟨by decide, rfl⟩ lc_572 dL_law__2333 rfl rfl (Nat.le_of_ble_eq_true rfl) (by omega) rfl (by omega) (by omega) ?_
  refine T_iload (pc := 2336) (i := 5) dL_law__2336 rfl ?_
  refine R_icmp_eq (pc := 2338) (tgt := 2343) (by omega) (by omega) dL_law__2338 (by decide) (fun g1 => ?_) (fun g1 => ?_)
  · skip
    refine T_iload (pc := 2343) (i := 5) dL_law__2343 rfl ?_
    refine R_if_ne (pc := 2345) (tgt := 2359) (by omega) dL_law__2345 (by decide) (fun g2 => ?_) (fun g2 => ?_)
    · skip
      refine T_goto (pc := 2359) (tgt := 3335) dL_law__2359 (by decide) ?_
      refine T_ls (ls' := [some (.ref XB), some (.ref 0), some (.ref 572), some (.ref 594), some (.int (nI i)), none, none, none]) (And.intro rfl (And.intro rfl (And.intro rfl (And.intro rfl (And.intro rfl True.intro))))) ?_
      exact nx _ _ m2 _ hc2 h5.1 (by omega) (by omega)
    · skip
      have ho : m2.2 594 0 = (if inB (gsx γ (i + 1)) 3 = true then ovV s.1.R (gsx γ (i + 1)).toNatClampNeg else lN 0) := (congrFun (h5.2.2 594 (by unfold Smo; omega)).2 0).trans (h2 g2)
      refine T_aload_n (pc := 2348) (i := 3) dL_law__2348 rfl rfl ?_
      refine T_iconst (pc := 2349) (v := nI 0) dL_law__2349 (by decide) ?_
      refine R_lald (pc := 2350) (x := (if inB (gsx γ (i + 1)) 3 = true then ovV s.1.R (gsx γ (i + 1)).toNatClampNeg else lN 0)) kc_594 lc_594 (by omega) (by first | decide | assumption) ho dL_law__2350 ?_
      refine T_lload (pc := 2351) (i := 6) dL_law__2351 rfl ?_
      refine T_lcmp (pc := 2353) dL_law__2353 ?_
      refine R_lx_eq (pc := 2354) (tgt := 2359) dL_law__2354 (by decide) (fun g4 => ?_) (fun g4 => ?_)
      · skip
        refine T_goto (pc := 2359) (tgt := 3335) dL_law__2359 (by decide) ?_
        refine T_ls (ls' := [some (.ref XB), some (.ref 0), some (.ref 572), some (.ref 594), some (.int (nI i)), none, none, none]) (And.intro rfl (And.intro rfl (And.intro rfl (And.intro rfl (And.intro rfl True.intro))))) ?_
        exact nx _ _ m2 _ hc2 h5.1 (by omega) (by omega)
      · exact absurd rfl g4
  · exact absurd rfl g1
theorem z_complete (hD : 40 ≤ D) (hi : i + 7 ≤ gsl γ) (h3 : gsl γ ≤ 3584) (hk : kc + 5 ≤ mc) (hks : ks + 30 ≤ ms) (hc : CAll m s) (hm : MAll m s) (nx : LawNext γ D mc ms Q i kc ks) : T γ D mc ms M_L_law_ Q kc ks 2362 [some (.ref XB), some (.ref 0), some (.ref 572), some (.ref 594), some (.int (nI i)), none, none, none] [] (rm m) := by
  refine T_aload_n (pc := 2362) (i := 1) dL_law__2362 rfl rfl ?_
  refine T_aload_n (pc := 2363) (i := 3) dL_law__2363 rfl rfl ?_
  refine T_callSH (pc := 2364) (av := [.ref 0, .ref 594]) (rest := []) lk_L_240 mk_L_complete (w_complete hc) dL_law__2364 rfl rfl (Nat.le_of_ble_eq_true rfl) (by omega) rfl (by omega) (by omega) (fun E m' h => by obtain ⟨_, z, _⟩ := h; cases z) (fun v m' h => ?_)
  obtain ⟨m1, h0, rfl, h1, h2, h4⟩ := h
  cases h0
  have hm1 : MAll m1 s := hm.ofc (fun k a b => h4 k (by unfold Swr; omega))
  have tle : (cmT s.1) ≤ 2 := Nat.le_trans (cmT_le _) (by decide)
  show T _ _ _ _ _ _ _ _ 2367 [some (.ref XB), some (.ref 0), some (.ref 572), some (.ref 594), some (.int (nI i)), none, none, none] [.int (nI (cmT s.1))] (rm m1)
  refine T_istore (pc := 2367) (i := 5) (ls' := [some (.ref XB), some (.ref 0), some (.ref 572), some (.ref 594), some (.int (nI i)), some (.int (nI (cmT s.1))), none, none]) dL_law__2367 (by decide) rfl ?_
  refine T_aload_n (pc := 2369) (i := 2) dL_law__2369 rfl rfl ?_
  refine R_callVm1 (pc := 2370) (As := []) (rest := []) (Or.inl lk_L_242) mk_X12_complete (q_complete hm1) kc_572 ⟨by decide, rfl⟩ lc_572 dL_law__2370 rfl rfl (Nat.le_of_ble_eq_true rfl) (by omega) rfl (by omega) (by omega) (fun m2 h5 => ?_)
  have hc2 := h5.call h1
  refine T_istore (pc := 2373) (i := 6) (ls' := [some (.ref XB), some (.ref 0), some (.ref 572), some (.ref 594), some (.int (nI i)), some (.int (nI (cmT s.1))), some (.int ((cmI s.1.R))), none]) dL_law__2373 (by decide) rfl ?_
  refine T_aload_n (pc := 2375) (i := 2) dL_law__2375 rfl rfl ?_
  refine R_callV1 (pc := 2376) (As := []) (rest := []) (Or.inl lk_L_157) mk_X12_thrown (m_thrown h5.2.1) kc_572 ⟨by decide, rfl⟩ lc_572 dL_law__2376 rfl rfl (Nat.le_of_ble_eq_true rfl) (by omega) rfl (by omega) (by omega) ?_
  refine T_iload (pc := 2379) (i := 5) dL_law__2379 rfl ?_
  refine R_icmp_eq (pc := 2381) (tgt := 2386) (by omega) (by omega) dL_law__2381 (by decide) (fun g1 => ?_) (fun g1 => ?_)
  · skip
    refine T_iload (pc := 2386) (i := 5) dL_law__2386 rfl ?_
    refine R_if_ne (pc := 2388) (tgt := 2403) (by omega) dL_law__2388 (by decide) (fun g2 => ?_) (fun g2 => ?_)
    · skip
      refine T_goto (pc := 2403) (tgt := 3335) dL_law__2403 (by decide) ?_
      refine T_ls (ls' := [some (.ref XB), some (.ref 0), some (.ref 572), some (.ref 594), some (.int (nI i)), none, none, none]) (And.intro rfl (And.intro rfl (And.intro rfl (And.intro rfl (And.intro rfl True.intro))))) ?_
      exact nx _ _ m2 _ hc2 h5.1 (by omega) (by omega)
    · skip
      have ho : m2.2 594 0 = ((cmI s.1.R)).toInt64 := (congrFun (h5.2.2 594 (by unfold Smo; omega)).2 0).trans (h2 g2)
      refine T_aload_n (pc := 2391) (i := 3) dL_law__2391 rfl rfl ?_
      refine T_iconst (pc := 2392) (v := nI 0) dL_law__2392 (by decide) ?_
      refine R_lald (pc := 2393) (x := (((cmI s.1.R)).toInt64)) kc_594 lc_594 (by omega) (by first | decide | assumption) ho dL_law__2393 ?_
      refine T_iload (pc := 2394) (i := 6) dL_law__2394 rfl ?_
      refine T_i2l (pc := 2396) dL_law__2396 ?_
      refine T_lcmp (pc := 2397) dL_law__2397 ?_
      refine R_lx_eq (pc := 2398) (tgt := 2403) dL_law__2398 (by decide) (fun g4 => ?_) (fun g4 => ?_)
      · skip
        refine T_goto (pc := 2403) (tgt := 3335) dL_law__2403 (by decide) ?_
        refine T_ls (ls' := [some (.ref XB), some (.ref 0), some (.ref 572), some (.ref 594), some (.int (nI i)), none, none, none]) (And.intro rfl (And.intro rfl (And.intro rfl (And.intro rfl (And.intro rfl True.intro))))) ?_
        exact nx _ _ m2 _ hc2 h5.1 (by omega) (by omega)
      · exact absurd rfl g4
  · exact absurd rfl g1
theorem z_never (hD : 40 ≤ D) (hi : i + 7 ≤ gsl γ) (h3 : gsl γ ≤ 3584) (hk : kc + 5 ≤ mc) (hks : ks + 30 ≤ ms) (hc : CAll m s) (hm : MAll m s) (nx : LawNext γ D mc ms Q i kc ks) : T γ D mc ms M_L_law_ Q kc ks 2406 [some (.ref XB), some (.ref 0), some (.ref 572), some (.ref 594), some (.int (nI i)), none, none, none] [] (rm m) := by
  refine T_aload_n (pc := 2406) (i := 1) dL_law__2406 rfl rfl ?_
  refine T_aload_n (pc := 2407) (i := 0) dL_law__2407 rfl rfl ?_
  refine T_iload (pc := 2408) (i := 4) dL_law__2408 rfl ?_
  refine T_iconst (pc := 2410) (v := nI 1) dL_law__2410 (by decide) ?_
  refine R_iadd (pc := 2411) dL_law__2411 ?_
  refine T_sld (pc := 2412) (i := (i + 1)) (by omega) (by omega) dL_law__2412 ?_
  refine T_i2l (pc := 2413) dL_law__2413 ?_
  refine T_bipush (pc := 2414) (v := nI 32) dL_law__2414 (by decide) ?_
  refine T_lshl (pc := 2416) dL_law__2416 ?_
  refine T_aload_n (pc := 2417) (i := 0) dL_law__2417 rfl rfl ?_
  refine T_iload (pc := 2418) (i := 4) dL_law__2418 rfl ?_
  refine T_iconst (pc := 2420) (v := nI 2) dL_law__2420 (by decide) ?_
  refine R_iadd (pc := 2421) dL_law__2421 ?_
  refine T_sld (pc := 2422) (i := (i + 2)) (by omega) (by omega) dL_law__2422 ?_
  refine T_i2l (pc := 2423) dL_law__2423 ?_
  refine T_ldc2 (pc := 2424) dL_law__2424 cn_L_178 ?_
  refine T_topl (v := lN 4294967295) (fa_litL _) ?_
  refine T_land (pc := 2427) dL_law__2427 ?_
  refine T_lor (pc := 2428) dL_law__2428 ?_
  refine T_aload_n (pc := 2429) (i := 0) dL_law__2429 rfl rfl ?_
  refine T_iload (pc := 2430) (i := 4) dL_law__2430 rfl ?_
  refine T_iconst (pc := 2432) (v := nI 3) dL_law__2432 (by decide) ?_
  refine R_iadd (pc := 2433) dL_law__2433 ?_
  refine T_sld (pc := 2434) (i := (i + 3)) (by omega) (by omega) dL_law__2434 ?_
  refine T_i2l (pc := 2435) dL_law__2435 ?_
  refine T_bipush (pc := 2436) (v := nI 32) dL_law__2436 (by decide) ?_
  refine T_lshl (pc := 2438) dL_law__2438 ?_
  refine T_aload_n (pc := 2439) (i := 0) dL_law__2439 rfl rfl ?_
  refine T_iload (pc := 2440) (i := 4) dL_law__2440 rfl ?_
  refine T_iconst (pc := 2442) (v := nI 4) dL_law__2442 (by decide) ?_
  refine R_iadd (pc := 2443) dL_law__2443 ?_
  refine T_sld (pc := 2444) (i := (i + 4)) (by omega) (by omega) dL_law__2444 ?_
  refine T_i2l (pc := 2445) dL_law__2445 ?_
  refine T_ldc2 (pc := 2446) dL_law__2446 cn_L_178 ?_
  refine T_topl (v := lN 4294967295) (fa_litL _) ?_
  refine T_land (pc := 2449) dL_law__2449 ?_
  refine T_lor (pc := 2450) dL_law__2450 ?_
  refine T_aload_n (pc := 2451) (i := 0) dL_law__2451 rfl rfl ?_
  refine T_iload (pc := 2452) (i := 4) dL_law__2452 rfl ?_
  refine T_iconst (pc := 2454) (v := nI 5) dL_law__2454 (by decide) ?_
  refine R_iadd (pc := 2455) dL_law__2455 ?_
  refine T_sld (pc := 2456) (i := (i + 5)) (by omega) (by omega) dL_law__2456 ?_
  refine T_aload_n (pc := 2457) (i := 3) dL_law__2457 rfl rfl ?_
  refine T_callSH (pc := 2458) (av := [.ref 0, .long ((((lshl ((((gsx γ (i + 1))).toInt64)) (nI 32))) ||| ((((((gsx γ (i + 2))).toInt64)) &&& (lN 4294967295))))), .long ((((lshl ((((gsx γ (i + 3))).toInt64)) (nI 32))) ||| ((((((gsx γ (i + 4))).toInt64)) &&& (lN 4294967295))))), .int ((gsx γ (i + 5))), .ref 594]) (rest := []) lk_L_243 mk_L_never (w_never hc) dL_law__2458 rfl rfl (Nat.le_of_ble_eq_true rfl) (by omega) rfl (by omega) (by omega) (fun E m' h => by obtain ⟨_, z, _⟩ := h; cases z) (fun v m' h => ?_)
  obtain ⟨m1, h0, rfl, h1, h2, h4⟩ := h
  cases h0
  have hm1 : MAll m1 s := hm.ofc (fun k a b => h4 k (by unfold Swr; omega))
  have tle : (mT2 (codeB (((lshl ((((gsx γ (i + 1))).toInt64)) (nI 32))) ||| ((((((gsx γ (i + 2))).toInt64)) &&& (lN 4294967295)))) && codeB (((lshl ((((gsx γ (i + 3))).toInt64)) (nI 32))) ||| ((((((gsx γ (i + 4))).toInt64)) &&& (lN 4294967295))))) (chkB (gsx γ (i + 5)))) ≤ 2 := Nat.le_trans (mT2_le _ _) (by decide)
  show T _ _ _ _ _ _ _ _ 2461 [some (.ref XB), some (.ref 0), some (.ref 572), some (.ref 594), some (.int (nI i)), none, none, none] [.int (nI (mT2 (codeB (((lshl ((((gsx γ (i + 1))).toInt64)) (nI 32))) ||| ((((((gsx γ (i + 2))).toInt64)) &&& (lN 4294967295)))) && codeB (((lshl ((((gsx γ (i + 3))).toInt64)) (nI 32))) ||| ((((((gsx γ (i + 4))).toInt64)) &&& (lN 4294967295))))) (chkB (gsx γ (i + 5)))))] (rm m1)
  refine T_istore (pc := 2461) (i := 5) (ls' := [some (.ref XB), some (.ref 0), some (.ref 572), some (.ref 594), some (.int (nI i)), some (.int (nI (mT2 (codeB (((lshl ((((gsx γ (i + 1))).toInt64)) (nI 32))) ||| ((((((gsx γ (i + 2))).toInt64)) &&& (lN 4294967295)))) && codeB (((lshl ((((gsx γ (i + 3))).toInt64)) (nI 32))) ||| ((((((gsx γ (i + 4))).toInt64)) &&& (lN 4294967295))))) (chkB (gsx γ (i + 5)))))), none, none]) dL_law__2461 (by decide) rfl ?_
  refine T_aload_n (pc := 2463) (i := 2) dL_law__2463 rfl rfl ?_
  refine T_aload_n (pc := 2464) (i := 0) dL_law__2464 rfl rfl ?_
  refine T_iload (pc := 2465) (i := 4) dL_law__2465 rfl ?_
  refine T_iconst (pc := 2467) (v := nI 1) dL_law__2467 (by decide) ?_
  refine R_iadd (pc := 2468) dL_law__2468 ?_
  refine T_sld (pc := 2469) (i := (i + 1)) (by omega) (by omega) dL_law__2469 ?_
  refine T_i2l (pc := 2470) dL_law__2470 ?_
  refine T_bipush (pc := 2471) (v := nI 32) dL_law__2471 (by decide) ?_
  refine T_lshl (pc := 2473) dL_law__2473 ?_
  refine T_aload_n (pc := 2474) (i := 0) dL_law__2474 rfl rfl ?_
  refine T_iload (pc := 2475) (i := 4) dL_law__2475 rfl ?_
  refine T_iconst (pc := 2477) (v := nI 2) dL_law__2477 (by decide) ?_
  refine R_iadd (pc := 2478) dL_law__2478 ?_
  refine T_sld (pc := 2479) (i := (i + 2)) (by omega) (by omega) dL_law__2479 ?_
  refine T_i2l (pc := 2480) dL_law__2480 ?_
  refine T_ldc2 (pc := 2481) dL_law__2481 cn_L_178 ?_
  refine T_topl (v := lN 4294967295) (fa_litL _) ?_
  refine T_land (pc := 2484) dL_law__2484 ?_
  refine T_lor (pc := 2485) dL_law__2485 ?_
  refine T_aload_n (pc := 2486) (i := 0) dL_law__2486 rfl rfl ?_
  refine T_iload (pc := 2487) (i := 4) dL_law__2487 rfl ?_
  refine T_iconst (pc := 2489) (v := nI 3) dL_law__2489 (by decide) ?_
  refine R_iadd (pc := 2490) dL_law__2490 ?_
  refine T_sld (pc := 2491) (i := (i + 3)) (by omega) (by omega) dL_law__2491 ?_
  refine T_i2l (pc := 2492) dL_law__2492 ?_
  refine T_bipush (pc := 2493) (v := nI 32) dL_law__2493 (by decide) ?_
  refine T_lshl (pc := 2495) dL_law__2495 ?_
  refine T_aload_n (pc := 2496) (i := 0) dL_law__2496 rfl rfl ?_
  refine T_iload (pc := 2497) (i := 4) dL_law__2497 rfl ?_
  refine T_iconst (pc := 2499) (v := nI 4) dL_law__2499 (by decide) ?_
  refine R_iadd (pc := 2500) dL_law__2500 ?_
  refine T_sld (pc := 2501) (i := (i + 4)) (by omega) (by omega) dL_law__2501 ?_
  refine T_i2l (pc := 2502) dL_law__2502 ?_
  refine T_ldc2 (pc := 2503) dL_law__2503 cn_L_178 ?_
  refine T_topl (v := lN 4294967295) (fa_litL _) ?_
  refine T_land (pc := 2506) dL_law__2506 ?_
  refine T_lor (pc := 2507) dL_law__2507 ?_
  refine T_aload_n (pc := 2508) (i := 0) dL_law__2508 rfl rfl ?_
  refine T_iload (pc := 2509) (i := 4) dL_law__2509 rfl ?_
  refine T_iconst (pc := 2511) (v := nI 5) dL_law__2511 (by decide) ?_
  refine R_iadd (pc := 2512) dL_law__2512 ?_
  refine T_sld (pc := 2513) (i := (i + 5)) (by omega) (by omega) dL_law__2513 ?_
  refine R_callVm1 (pc := 2514) (As := [.long ((((lshl ((((gsx γ (i + 1))).toInt64)) (nI 32))) ||| ((((((gsx γ (i + 2))).toInt64)) &&& (lN 4294967295))))), .long ((((lshl ((((gsx γ (i + 3))).toInt64)) (nI 32))) ||| ((((((gsx γ (i + 4))).toInt64)) &&& (lN 4294967295))))), .int ((gsx γ (i + 5)))]) (rest := []) (Or.inl lk_L_246) mk_X12_never (q_never hm1) kc_572 ⟨by decide, rfl⟩ lc_572 dL_law__2514 rfl rfl (Nat.le_of_ble_eq_true rfl) (by omega) rfl (by omega) (by omega) (fun m2 h5 => ?_)
  have hc2 := h5.call h1
  refine T_istore (pc := 2517) (i := 6) (ls' := [some (.ref XB), some (.ref 0), some (.ref 572), some (.ref 594), some (.int (nI i)), some (.int (nI (mT2 (codeB (((lshl ((((gsx γ (i + 1))).toInt64)) (nI 32))) ||| ((((((gsx γ (i + 2))).toInt64)) &&& (lN 4294967295)))) && codeB (((lshl ((((gsx γ (i + 3))).toInt64)) (nI 32))) ||| ((((((gsx γ (i + 4))).toInt64)) &&& (lN 4294967295))))) (chkB (gsx γ (i + 5)))))), some (.int ((if ((codeB (((lshl ((((gsx γ (i + 1))).toInt64)) (nI 32))) ||| ((((((gsx γ (i + 2))).toInt64)) &&& (lN 4294967295)))) && codeB (((lshl ((((gsx γ (i + 3))).toInt64)) (nI 32))) ||| ((((((gsx γ (i + 4))).toInt64)) &&& (lN 4294967295))))) && chkB (gsx γ (i + 5))) = true then nvV s.1.R (ml (((lshl ((((gsx γ (i + 1))).toInt64)) (nI 32))) ||| ((((((gsx γ (i + 2))).toInt64)) &&& (lN 4294967295)))), ml (((lshl ((((gsx γ (i + 3))).toInt64)) (nI 32))) ||| ((((((gsx γ (i + 4))).toInt64)) &&& (lN 4294967295))))) (gsx γ (i + 5)) else nI 0))), none]) dL_law__2517 (by decide) rfl ?_
  refine T_aload_n (pc := 2519) (i := 2) dL_law__2519 rfl rfl ?_
  refine R_callV1 (pc := 2520) (As := []) (rest := []) (Or.inl lk_L_157) mk_X12_thrown (m_thrown h5.2.1) kc_572 ⟨by decide, rfl⟩ lc_572 dL_law__2520 rfl rfl (Nat.le_of_ble_eq_true rfl) (by omega) rfl (by omega) (by omega) ?_
  refine T_iload (pc := 2523) (i := 5) dL_law__2523 rfl ?_
  refine R_icmp_eq (pc := 2525) (tgt := 2530) (by omega) (by omega) dL_law__2525 (by decide) (fun g1 => ?_) (fun g1 => ?_)
  · skip
    refine T_iload (pc := 2530) (i := 5) dL_law__2530 rfl ?_
    refine R_if_ne (pc := 2532) (tgt := 2547) (by omega) dL_law__2532 (by decide) (fun g2 => ?_) (fun g2 => ?_)
    · skip
      refine T_goto (pc := 2547) (tgt := 3335) dL_law__2547 (by decide) ?_
      refine T_ls (ls' := [some (.ref XB), some (.ref 0), some (.ref 572), some (.ref 594), some (.int (nI i)), none, none, none]) (And.intro rfl (And.intro rfl (And.intro rfl (And.intro rfl (And.intro rfl True.intro))))) ?_
      exact nx _ _ m2 _ hc2 h5.1 (by omega) (by omega)
    · skip
      have ho : m2.2 594 0 = ((if ((codeB (((lshl ((((gsx γ (i + 1))).toInt64)) (nI 32))) ||| ((((((gsx γ (i + 2))).toInt64)) &&& (lN 4294967295)))) && codeB (((lshl ((((gsx γ (i + 3))).toInt64)) (nI 32))) ||| ((((((gsx γ (i + 4))).toInt64)) &&& (lN 4294967295))))) && chkB (gsx γ (i + 5))) = true then nvV s.1.R (ml (((lshl ((((gsx γ (i + 1))).toInt64)) (nI 32))) ||| ((((((gsx γ (i + 2))).toInt64)) &&& (lN 4294967295)))), ml (((lshl ((((gsx γ (i + 3))).toInt64)) (nI 32))) ||| ((((((gsx γ (i + 4))).toInt64)) &&& (lN 4294967295))))) (gsx γ (i + 5)) else nI 0)).toInt64 := (congrFun (h5.2.2 594 (by unfold Smo; omega)).2 0).trans (h2 g2)
      refine T_aload_n (pc := 2535) (i := 3) dL_law__2535 rfl rfl ?_
      refine T_iconst (pc := 2536) (v := nI 0) dL_law__2536 (by decide) ?_
      refine R_lald (pc := 2537) (x := (((if ((codeB (((lshl ((((gsx γ (i + 1))).toInt64)) (nI 32))) ||| ((((((gsx γ (i + 2))).toInt64)) &&& (lN 4294967295)))) && codeB (((lshl ((((gsx γ (i + 3))).toInt64)) (nI 32))) ||| ((((((gsx γ (i + 4))).toInt64)) &&& (lN 4294967295))))) && chkB (gsx γ (i + 5))) = true then nvV s.1.R (ml (((lshl ((((gsx γ (i + 1))).toInt64)) (nI 32))) ||| ((((((gsx γ (i + 2))).toInt64)) &&& (lN 4294967295)))), ml (((lshl ((((gsx γ (i + 3))).toInt64)) (nI 32))) ||| ((((((gsx γ (i + 4))).toInt64)) &&& (lN 4294967295))))) (gsx γ (i + 5)) else nI 0)).toInt64)) kc_594 lc_594 (by omega) (by first | decide | assumption) ho dL_law__2537 ?_
      refine T_iload (pc := 2538) (i := 6) dL_law__2538 rfl ?_
      refine T_i2l (pc := 2540) dL_law__2540 ?_
      refine T_lcmp (pc := 2541) dL_law__2541 ?_
      refine R_lx_eq (pc := 2542) (tgt := 2547) dL_law__2542 (by decide) (fun g4 => ?_) (fun g4 => ?_)
      · skip
        refine T_goto (pc := 2547) (tgt := 3335) dL_law__2547 (by decide) ?_
        refine T_ls (ls' := [some (.ref XB), some (.ref 0), some (.ref 572), some (.ref 594), some (.int (nI i)), none, none, none]) (And.intro rfl (And.intro rfl (And.intro rfl (And.intro rfl (And.intro rfl True.intro))))) ?_
        exact nx _ _ m2 _ hc2 h5.1 (by omega) (by omega)
      · exact absurd rfl g4
  · exact absurd rfl g1
theorem z_falls (hD : 40 ≤ D) (hi : i + 7 ≤ gsl γ) (h3 : gsl γ ≤ 3584) (hk : kc + 5 ≤ mc) (hks : ks + 30 ≤ ms) (hc : CAll m s) (hm : MAll m s) (nx : LawNext γ D mc ms Q i kc ks) : T γ D mc ms M_L_law_ Q kc ks 2550 [some (.ref XB), some (.ref 0), some (.ref 572), some (.ref 594), some (.int (nI i)), none, none, none] [] (rm m) := by
  refine T_aload_n (pc := 2550) (i := 1) dL_law__2550 rfl rfl ?_
  refine T_aload_n (pc := 2551) (i := 0) dL_law__2551 rfl rfl ?_
  refine T_iload (pc := 2552) (i := 4) dL_law__2552 rfl ?_
  refine T_iconst (pc := 2554) (v := nI 1) dL_law__2554 (by decide) ?_
  refine R_iadd (pc := 2555) dL_law__2555 ?_
  refine T_sld (pc := 2556) (i := (i + 1)) (by omega) (by omega) dL_law__2556 ?_
  refine T_aload_n (pc := 2557) (i := 0) dL_law__2557 rfl rfl ?_
  refine T_iload (pc := 2558) (i := 4) dL_law__2558 rfl ?_
  refine T_iconst (pc := 2560) (v := nI 2) dL_law__2560 (by decide) ?_
  refine R_iadd (pc := 2561) dL_law__2561 ?_
  refine T_sld (pc := 2562) (i := (i + 2)) (by omega) (by omega) dL_law__2562 ?_
  refine T_aload_n (pc := 2563) (i := 3) dL_law__2563 rfl rfl ?_
  refine T_callSH (pc := 2564) (av := [.ref 0, .int ((gsx γ (i + 1))), .int ((gsx γ (i + 2))), .ref 594]) (rest := []) lk_L_247 mk_L_falls (w_falls hc) dL_law__2564 rfl rfl (Nat.le_of_ble_eq_true rfl) (by omega) rfl (by omega) (by omega) (fun E m' h => by obtain ⟨_, z, _⟩ := h; cases z) (fun v m' h => ?_)
  obtain ⟨m1, h0, rfl, h1, h2, h4⟩ := h
  cases h0
  have hm1 : MAll m1 s := hm.ofc (fun k a b => h4 k (by unfold Swr; omega))
  have tle : (mT2 (chkN (gsx γ (i + 1)) 1 5) (chkB (gsx γ (i + 2)))) ≤ 2 := Nat.le_trans (mT2_le _ _) (by decide)
  show T _ _ _ _ _ _ _ _ 2567 [some (.ref XB), some (.ref 0), some (.ref 572), some (.ref 594), some (.int (nI i)), none, none, none] [.int (nI (mT2 (chkN (gsx γ (i + 1)) 1 5) (chkB (gsx γ (i + 2)))))] (rm m1)
  refine T_istore (pc := 2567) (i := 5) (ls' := [some (.ref XB), some (.ref 0), some (.ref 572), some (.ref 594), some (.int (nI i)), some (.int (nI (mT2 (chkN (gsx γ (i + 1)) 1 5) (chkB (gsx γ (i + 2)))))), none, none]) dL_law__2567 (by decide) rfl ?_
  refine T_aload_n (pc := 2569) (i := 2) dL_law__2569 rfl rfl ?_
  refine T_aload_n (pc := 2570) (i := 0) dL_law__2570 rfl rfl ?_
  refine T_iload (pc := 2571) (i := 4) dL_law__2571 rfl ?_
  refine T_iconst (pc := 2573) (v := nI 1) dL_law__2573 (by decide) ?_
  refine R_iadd (pc := 2574) dL_law__2574 ?_
  refine T_sld (pc := 2575) (i := (i + 1)) (by omega) (by omega) dL_law__2575 ?_
  refine T_aload_n (pc := 2576) (i := 0) dL_law__2576 rfl rfl ?_
  refine T_iload (pc := 2577) (i := 4) dL_law__2577 rfl ?_
  refine T_iconst (pc := 2579) (v := nI 2) dL_law__2579 (by decide) ?_
  refine R_iadd (pc := 2580) dL_law__2580 ?_
  refine T_sld (pc := 2581) (i := (i + 2)) (by omega) (by omega) dL_law__2581 ?_
  refine R_callVm1 (pc := 2582) (As := [.int ((gsx γ (i + 1))), .int ((gsx γ (i + 2)))]) (rest := []) (Or.inl lk_L_249) mk_X12_falls (q_falls hm1) kc_572 ⟨by decide, rfl⟩ lc_572 dL_law__2582 rfl rfl (Nat.le_of_ble_eq_true rfl) (by omega) rfl (by omega) (by omega) (fun m2 h5 => ?_)
  have hc2 := h5.call h1
  refine T_istore (pc := 2585) (i := 6) (ls' := [some (.ref XB), some (.ref 0), some (.ref 572), some (.ref 594), some (.int (nI i)), some (.int (nI (mT2 (chkN (gsx γ (i + 1)) 1 5) (chkB (gsx γ (i + 2)))))), some (.int ((if (chkN (gsx γ (i + 1)) 1 5 && chkB (gsx γ (i + 2))) = true then flV s.1.R (gsx γ (i + 1)).toNatClampNeg (gsx γ (i + 2)) else nI 0))), none]) dL_law__2585 (by decide) rfl ?_
  refine T_aload_n (pc := 2587) (i := 2) dL_law__2587 rfl rfl ?_
  refine R_callV1 (pc := 2588) (As := []) (rest := []) (Or.inl lk_L_157) mk_X12_thrown (m_thrown h5.2.1) kc_572 ⟨by decide, rfl⟩ lc_572 dL_law__2588 rfl rfl (Nat.le_of_ble_eq_true rfl) (by omega) rfl (by omega) (by omega) ?_
  refine T_iload (pc := 2591) (i := 5) dL_law__2591 rfl ?_
  refine R_icmp_eq (pc := 2593) (tgt := 2598) (by omega) (by omega) dL_law__2593 (by decide) (fun g1 => ?_) (fun g1 => ?_)
  · skip
    refine T_iload (pc := 2598) (i := 5) dL_law__2598 rfl ?_
    refine R_if_ne (pc := 2600) (tgt := 2615) (by omega) dL_law__2600 (by decide) (fun g2 => ?_) (fun g2 => ?_)
    · skip
      refine T_goto (pc := 2615) (tgt := 3335) dL_law__2615 (by decide) ?_
      refine T_ls (ls' := [some (.ref XB), some (.ref 0), some (.ref 572), some (.ref 594), some (.int (nI i)), none, none, none]) (And.intro rfl (And.intro rfl (And.intro rfl (And.intro rfl (And.intro rfl True.intro))))) ?_
      exact nx _ _ m2 _ hc2 h5.1 (by omega) (by omega)
    · skip
      have ho : m2.2 594 0 = ((if (chkN (gsx γ (i + 1)) 1 5 && chkB (gsx γ (i + 2))) = true then flV s.1.R (gsx γ (i + 1)).toNatClampNeg (gsx γ (i + 2)) else nI 0)).toInt64 := (congrFun (h5.2.2 594 (by unfold Smo; omega)).2 0).trans (h2 g2)
      refine T_aload_n (pc := 2603) (i := 3) dL_law__2603 rfl rfl ?_
      refine T_iconst (pc := 2604) (v := nI 0) dL_law__2604 (by decide) ?_
      refine R_lald (pc := 2605) (x := (((if (chkN (gsx γ (i + 1)) 1 5 && chkB (gsx γ (i + 2))) = true then flV s.1.R (gsx γ (i + 1)).toNatClampNeg (gsx γ (i + 2)) else nI 0)).toInt64)) kc_594 lc_594 (by omega) (by first | decide | assumption) ho dL_law__2605 ?_
      refine T_iload (pc := 2606) (i := 6) dL_law__2606 rfl ?_
      refine T_i2l (pc := 2608) dL_law__2608 ?_
      refine T_lcmp (pc := 2609) dL_law__2609 ?_
      refine R_lx_eq (pc := 2610) (tgt := 2615) dL_law__2610 (by decide) (fun g4 => ?_) (fun g4 => ?_)
      · skip
        refine T_goto (pc := 2615) (tgt := 3335) dL_law__2615 (by decide) ?_
        refine T_ls (ls' := [some (.ref XB), some (.ref 0), some (.ref 572), some (.ref 594), some (.int (nI i)), none, none, none]) (And.intro rfl (And.intro rfl (And.intro rfl (And.intro rfl (And.intro rfl True.intro))))) ?_
        exact nx _ _ m2 _ hc2 h5.1 (by omega) (by omega)
      · exact absurd rfl g4
  · exact absurd rfl g1
theorem z_light (hD : 40 ≤ D) (hi : i + 7 ≤ gsl γ) (h3 : gsl γ ≤ 3584) (hk : kc + 5 ≤ mc) (hks : ks + 30 ≤ ms) (hc : CAll m s) (hm : MAll m s) (nx : LawNext γ D mc ms Q i kc ks) : T γ D mc ms M_L_law_ Q kc ks 2618 [some (.ref XB), some (.ref 0), some (.ref 572), some (.ref 594), some (.int (nI i)), none, none, none] [] (rm m) := by
  refine T_aload_n (pc := 2618) (i := 1) dL_law__2618 rfl rfl ?_
  refine T_aload_n (pc := 2619) (i := 0) dL_law__2619 rfl rfl ?_
  refine T_iload (pc := 2620) (i := 4) dL_law__2620 rfl ?_
  refine T_iconst (pc := 2622) (v := nI 1) dL_law__2622 (by decide) ?_
  refine R_iadd (pc := 2623) dL_law__2623 ?_
  refine T_sld (pc := 2624) (i := (i + 1)) (by omega) (by omega) dL_law__2624 ?_
  refine T_i2l (pc := 2625) dL_law__2625 ?_
  refine T_bipush (pc := 2626) (v := nI 32) dL_law__2626 (by decide) ?_
  refine T_lshl (pc := 2628) dL_law__2628 ?_
  refine T_aload_n (pc := 2629) (i := 0) dL_law__2629 rfl rfl ?_
  refine T_iload (pc := 2630) (i := 4) dL_law__2630 rfl ?_
  refine T_iconst (pc := 2632) (v := nI 2) dL_law__2632 (by decide) ?_
  refine R_iadd (pc := 2633) dL_law__2633 ?_
  refine T_sld (pc := 2634) (i := (i + 2)) (by omega) (by omega) dL_law__2634 ?_
  refine T_i2l (pc := 2635) dL_law__2635 ?_
  refine T_ldc2 (pc := 2636) dL_law__2636 cn_L_178 ?_
  refine T_topl (v := lN 4294967295) (fa_litL _) ?_
  refine T_land (pc := 2639) dL_law__2639 ?_
  refine T_lor (pc := 2640) dL_law__2640 ?_
  refine T_aload_n (pc := 2641) (i := 3) dL_law__2641 rfl rfl ?_
  refine T_callSH (pc := 2642) (av := [.ref 0, .long ((((lshl ((((gsx γ (i + 1))).toInt64)) (nI 32))) ||| ((((((gsx γ (i + 2))).toInt64)) &&& (lN 4294967295))))), .ref 594]) (rest := []) lk_L_250 mk_L_light (w_light hc) dL_law__2642 rfl rfl (Nat.le_of_ble_eq_true rfl) (by omega) rfl (by omega) (by omega) (fun E m' h => by obtain ⟨_, z, _⟩ := h; cases z) (fun v m' h => ?_)
  obtain ⟨m1, h0, rfl, h1, h2, h4⟩ := h
  cases h0
  have hm1 : MAll m1 s := hm.ofc (fun k a b => h4 k (by unfold Swr; omega))
  have tle : (if codeB (((lshl ((((gsx γ (i + 1))).toInt64)) (nI 32))) ||| ((((((gsx γ (i + 2))).toInt64)) &&& (lN 4294967295)))) = true then 0 else 1) ≤ 2 := Nat.le_trans (mI_le _) (by decide)
  show T _ _ _ _ _ _ _ _ 2645 [some (.ref XB), some (.ref 0), some (.ref 572), some (.ref 594), some (.int (nI i)), none, none, none] [.int (nI (if codeB (((lshl ((((gsx γ (i + 1))).toInt64)) (nI 32))) ||| ((((((gsx γ (i + 2))).toInt64)) &&& (lN 4294967295)))) = true then 0 else 1))] (rm m1)
  refine T_istore (pc := 2645) (i := 5) (ls' := [some (.ref XB), some (.ref 0), some (.ref 572), some (.ref 594), some (.int (nI i)), some (.int (nI (if codeB (((lshl ((((gsx γ (i + 1))).toInt64)) (nI 32))) ||| ((((((gsx γ (i + 2))).toInt64)) &&& (lN 4294967295)))) = true then 0 else 1))), none, none]) dL_law__2645 (by decide) rfl ?_
  refine T_aload_n (pc := 2647) (i := 2) dL_law__2647 rfl rfl ?_
  refine T_aload_n (pc := 2648) (i := 0) dL_law__2648 rfl rfl ?_
  refine T_iload (pc := 2649) (i := 4) dL_law__2649 rfl ?_
  refine T_iconst (pc := 2651) (v := nI 1) dL_law__2651 (by decide) ?_
  refine R_iadd (pc := 2652) dL_law__2652 ?_
  refine T_sld (pc := 2653) (i := (i + 1)) (by omega) (by omega) dL_law__2653 ?_
  refine T_i2l (pc := 2654) dL_law__2654 ?_
  refine T_bipush (pc := 2655) (v := nI 32) dL_law__2655 (by decide) ?_
  refine T_lshl (pc := 2657) dL_law__2657 ?_
  refine T_aload_n (pc := 2658) (i := 0) dL_law__2658 rfl rfl ?_
  refine T_iload (pc := 2659) (i := 4) dL_law__2659 rfl ?_
  refine T_iconst (pc := 2661) (v := nI 2) dL_law__2661 (by decide) ?_
  refine R_iadd (pc := 2662) dL_law__2662 ?_
  refine T_sld (pc := 2663) (i := (i + 2)) (by omega) (by omega) dL_law__2663 ?_
  refine T_i2l (pc := 2664) dL_law__2664 ?_
  refine T_ldc2 (pc := 2665) dL_law__2665 cn_L_178 ?_
  refine T_topl (v := lN 4294967295) (fa_litL _) ?_
  refine T_land (pc := 2668) dL_law__2668 ?_
  refine T_lor (pc := 2669) dL_law__2669 ?_
  refine R_callVm1 (pc := 2670) (As := [.long ((((lshl ((((gsx γ (i + 1))).toInt64)) (nI 32))) ||| ((((((gsx γ (i + 2))).toInt64)) &&& (lN 4294967295)))))]) (rest := []) (Or.inl lk_L_253) mk_X12_light (q_light hm1) kc_572 ⟨by decide, rfl⟩ lc_572 dL_law__2670 rfl rfl (Nat.le_of_ble_eq_true rfl) (by omega) rfl (by omega) (by omega) (fun m2 h5 => ?_)
  have hc2 := h5.call h1
  refine T_istore (pc := 2673) (i := 6) (ls' := [some (.ref XB), some (.ref 0), some (.ref 572), some (.ref 594), some (.int (nI i)), some (.int (nI (if codeB (((lshl ((((gsx γ (i + 1))).toInt64)) (nI 32))) ||| ((((((gsx γ (i + 2))).toInt64)) &&& (lN 4294967295)))) = true then 0 else 1))), some (.int ((if codeB (((lshl ((((gsx γ (i + 1))).toInt64)) (nI 32))) ||| ((((((gsx γ (i + 2))).toInt64)) &&& (lN 4294967295)))) = true then nI (wgN s.1.W (ml (((lshl ((((gsx γ (i + 1))).toInt64)) (nI 32))) ||| ((((((gsx γ (i + 2))).toInt64)) &&& (lN 4294967295))))) (ml (((lshl ((((gsx γ (i + 1))).toInt64)) (nI 32))) ||| ((((((gsx γ (i + 2))).toInt64)) &&& (lN 4294967295))))).length) else nI 0))), none]) dL_law__2673 (by decide) rfl ?_
  refine T_aload_n (pc := 2675) (i := 2) dL_law__2675 rfl rfl ?_
  refine R_callV1 (pc := 2676) (As := []) (rest := []) (Or.inl lk_L_157) mk_X12_thrown (m_thrown h5.2.1) kc_572 ⟨by decide, rfl⟩ lc_572 dL_law__2676 rfl rfl (Nat.le_of_ble_eq_true rfl) (by omega) rfl (by omega) (by omega) ?_
  refine T_iload (pc := 2679) (i := 5) dL_law__2679 rfl ?_
  refine R_icmp_eq (pc := 2681) (tgt := 2686) (by omega) (by omega) dL_law__2681 (by decide) (fun g1 => ?_) (fun g1 => ?_)
  · skip
    refine T_iload (pc := 2686) (i := 5) dL_law__2686 rfl ?_
    refine R_if_ne (pc := 2688) (tgt := 2703) (by omega) dL_law__2688 (by decide) (fun g2 => ?_) (fun g2 => ?_)
    · skip
      refine T_goto (pc := 2703) (tgt := 3335) dL_law__2703 (by decide) ?_
      refine T_ls (ls' := [some (.ref XB), some (.ref 0), some (.ref 572), some (.ref 594), some (.int (nI i)), none, none, none]) (And.intro rfl (And.intro rfl (And.intro rfl (And.intro rfl (And.intro rfl True.intro))))) ?_
      exact nx _ _ m2 _ hc2 h5.1 (by omega) (by omega)
    · skip
      have ho : m2.2 594 0 = ((if codeB (((lshl ((((gsx γ (i + 1))).toInt64)) (nI 32))) ||| ((((((gsx γ (i + 2))).toInt64)) &&& (lN 4294967295)))) = true then nI (wgN s.1.W (ml (((lshl ((((gsx γ (i + 1))).toInt64)) (nI 32))) ||| ((((((gsx γ (i + 2))).toInt64)) &&& (lN 4294967295))))) (ml (((lshl ((((gsx γ (i + 1))).toInt64)) (nI 32))) ||| ((((((gsx γ (i + 2))).toInt64)) &&& (lN 4294967295))))).length) else nI 0)).toInt64 := (congrFun (h5.2.2 594 (by unfold Smo; omega)).2 0).trans (h2 g2)
      refine T_aload_n (pc := 2691) (i := 3) dL_law__2691 rfl rfl ?_
      refine T_iconst (pc := 2692) (v := nI 0) dL_law__2692 (by decide) ?_
      refine R_lald (pc := 2693) (x := (((if codeB (((lshl ((((gsx γ (i + 1))).toInt64)) (nI 32))) ||| ((((((gsx γ (i + 2))).toInt64)) &&& (lN 4294967295)))) = true then nI (wgN s.1.W (ml (((lshl ((((gsx γ (i + 1))).toInt64)) (nI 32))) ||| ((((((gsx γ (i + 2))).toInt64)) &&& (lN 4294967295))))) (ml (((lshl ((((gsx γ (i + 1))).toInt64)) (nI 32))) ||| ((((((gsx γ (i + 2))).toInt64)) &&& (lN 4294967295))))).length) else nI 0)).toInt64)) kc_594 lc_594 (by omega) (by first | decide | assumption) ho dL_law__2693 ?_
      refine T_iload (pc := 2694) (i := 6) dL_law__2694 rfl ?_
      refine T_i2l (pc := 2696) dL_law__2696 ?_
      refine T_lcmp (pc := 2697) dL_law__2697 ?_
      refine R_lx_eq (pc := 2698) (tgt := 2703) dL_law__2698 (by decide) (fun g4 => ?_) (fun g4 => ?_)
      · skip
        refine T_goto (pc := 2703) (tgt := 3335) dL_law__2703 (by decide) ?_
        refine T_ls (ls' := [some (.ref XB), some (.ref 0), some (.ref 572), some (.ref 594), some (.int (nI i)), none, none, none]) (And.intro rfl (And.intro rfl (And.intro rfl (And.intro rfl (And.intro rfl True.intro))))) ?_
        exact nx _ _ m2 _ hc2 h5.1 (by omega) (by omega)
      · exact absurd rfl g4
  · exact absurd rfl g1
theorem z_loss (hD : 40 ≤ D) (hi : i + 7 ≤ gsl γ) (h3 : gsl γ ≤ 3584) (hk : kc + 5 ≤ mc) (hks : ks + 30 ≤ ms) (hc : CAll m s) (hm : MAll m s) (nx : LawNext γ D mc ms Q i kc ks) : T γ D mc ms M_L_law_ Q kc ks 2706 [some (.ref XB), some (.ref 0), some (.ref 572), some (.ref 594), some (.int (nI i)), none, none, none] [] (rm m) := by
  refine T_aload_n (pc := 2706) (i := 1) dL_law__2706 rfl rfl ?_
  refine T_aload_n (pc := 2707) (i := 0) dL_law__2707 rfl rfl ?_
  refine T_iload (pc := 2708) (i := 4) dL_law__2708 rfl ?_
  refine T_iconst (pc := 2710) (v := nI 1) dL_law__2710 (by decide) ?_
  refine R_iadd (pc := 2711) dL_law__2711 ?_
  refine T_sld (pc := 2712) (i := (i + 1)) (by omega) (by omega) dL_law__2712 ?_
  refine T_aload_n (pc := 2713) (i := 3) dL_law__2713 rfl rfl ?_
  refine T_callSH (pc := 2714) (av := [.ref 0, .int ((gsx γ (i + 1))), .ref 594]) (rest := []) lk_L_254 mk_L_loss (w_loss hc) dL_law__2714 rfl rfl (Nat.le_of_ble_eq_true rfl) (by omega) rfl (by omega) (by omega) (fun E m' h => by obtain ⟨_, z, _⟩ := h; cases z) (fun v m' h => ?_)
  obtain ⟨m1, h0, rfl, h1, h2, h4⟩ := h
  cases h0
  have hm1 : MAll m1 s := hm.ofc (fun k a b => h4 k (by unfold Swr; omega))
  have tle : (if inB (gsx γ (i + 1)) s.1.R.length = true then 0 else 1) ≤ 2 := Nat.le_trans (mI_le _) (by decide)
  show T _ _ _ _ _ _ _ _ 2717 [some (.ref XB), some (.ref 0), some (.ref 572), some (.ref 594), some (.int (nI i)), none, none, none] [.int (nI (if inB (gsx γ (i + 1)) s.1.R.length = true then 0 else 1))] (rm m1)
  refine T_istore (pc := 2717) (i := 5) (ls' := [some (.ref XB), some (.ref 0), some (.ref 572), some (.ref 594), some (.int (nI i)), some (.int (nI (if inB (gsx γ (i + 1)) s.1.R.length = true then 0 else 1))), none, none]) dL_law__2717 (by decide) rfl ?_
  refine T_aload_n (pc := 2719) (i := 2) dL_law__2719 rfl rfl ?_
  refine T_aload_n (pc := 2720) (i := 0) dL_law__2720 rfl rfl ?_
  refine T_iload (pc := 2721) (i := 4) dL_law__2721 rfl ?_
  refine T_iconst (pc := 2723) (v := nI 1) dL_law__2723 (by decide) ?_
  refine R_iadd (pc := 2724) dL_law__2724 ?_
  refine T_sld (pc := 2725) (i := (i + 1)) (by omega) (by omega) dL_law__2725 ?_
  refine R_callVm1 (pc := 2726) (As := [.int ((gsx γ (i + 1)))]) (rest := []) (Or.inl lk_L_256) mk_X12_loss (q_loss hm1) kc_572 ⟨by decide, rfl⟩ lc_572 dL_law__2726 rfl rfl (Nat.le_of_ble_eq_true rfl) (by omega) rfl (by omega) (by omega) (fun m2 h5 => ?_)
  have hc2 := h5.call h1
  refine T_istore (pc := 2729) (i := 6) (ls' := [some (.ref XB), some (.ref 0), some (.ref 572), some (.ref 594), some (.int (nI i)), some (.int (nI (if inB (gsx γ (i + 1)) s.1.R.length = true then 0 else 1))), some (.int ((if inB (gsx γ (i + 1)) s.1.R.length = true then nI (wgN s.1.W (rAt s.1.R (gsx γ (i + 1)).toNatClampNeg).1 (rAt s.1.R (gsx γ (i + 1)).toNatClampNeg).1.length) - nI (wgN s.1.W (rAt s.1.R (gsx γ (i + 1)).toNatClampNeg).2 (rAt s.1.R (gsx γ (i + 1)).toNatClampNeg).2.length) else nI 0))), none]) dL_law__2729 (by decide) rfl ?_
  refine T_aload_n (pc := 2731) (i := 2) dL_law__2731 rfl rfl ?_
  refine R_callV1 (pc := 2732) (As := []) (rest := []) (Or.inl lk_L_157) mk_X12_thrown (m_thrown h5.2.1) kc_572 ⟨by decide, rfl⟩ lc_572 dL_law__2732 rfl rfl (Nat.le_of_ble_eq_true rfl) (by omega) rfl (by omega) (by omega) ?_
  refine T_iload (pc := 2735) (i := 5) dL_law__2735 rfl ?_
  refine R_icmp_eq (pc := 2737) (tgt := 2742) (by omega) (by omega) dL_law__2737 (by decide) (fun g1 => ?_) (fun g1 => ?_)
  · skip
    refine T_iload (pc := 2742) (i := 5) dL_law__2742 rfl ?_
    refine R_if_ne (pc := 2744) (tgt := 2759) (by omega) dL_law__2744 (by decide) (fun g2 => ?_) (fun g2 => ?_)
    · skip
      refine T_goto (pc := 2759) (tgt := 3335) dL_law__2759 (by decide) ?_
      refine T_ls (ls' := [some (.ref XB), some (.ref 0), some (.ref 572), some (.ref 594), some (.int (nI i)), none, none, none]) (And.intro rfl (And.intro rfl (And.intro rfl (And.intro rfl (And.intro rfl True.intro))))) ?_
      exact nx _ _ m2 _ hc2 h5.1 (by omega) (by omega)
    · skip
      have ho : m2.2 594 0 = ((if inB (gsx γ (i + 1)) s.1.R.length = true then nI (wgN s.1.W (rAt s.1.R (gsx γ (i + 1)).toNatClampNeg).1 (rAt s.1.R (gsx γ (i + 1)).toNatClampNeg).1.length) - nI (wgN s.1.W (rAt s.1.R (gsx γ (i + 1)).toNatClampNeg).2 (rAt s.1.R (gsx γ (i + 1)).toNatClampNeg).2.length) else nI 0)).toInt64 := (congrFun (h5.2.2 594 (by unfold Smo; omega)).2 0).trans (h2 g2)
      refine T_aload_n (pc := 2747) (i := 3) dL_law__2747 rfl rfl ?_
      refine T_iconst (pc := 2748) (v := nI 0) dL_law__2748 (by decide) ?_
      refine R_lald (pc := 2749) (x := (((if inB (gsx γ (i + 1)) s.1.R.length = true then nI (wgN s.1.W (rAt s.1.R (gsx γ (i + 1)).toNatClampNeg).1 (rAt s.1.R (gsx γ (i + 1)).toNatClampNeg).1.length) - nI (wgN s.1.W (rAt s.1.R (gsx γ (i + 1)).toNatClampNeg).2 (rAt s.1.R (gsx γ (i + 1)).toNatClampNeg).2.length) else nI 0)).toInt64)) kc_594 lc_594 (by omega) (by first | decide | assumption) ho dL_law__2749 ?_
      refine T_iload (pc := 2750) (i := 6) dL_law__2750 rfl ?_
      refine T_i2l (pc := 2752) dL_law__2752 ?_
      refine T_lcmp (pc := 2753) dL_law__2753 ?_
      refine R_lx_eq (pc := 2754) (tgt := 2759) dL_law__2754 (by decide) (fun g4 => ?_) (fun g4 => ?_)
      · skip
        refine T_goto (pc := 2759) (tgt := 3335) dL_law__2759 (by decide) ?_
        refine T_ls (ls' := [some (.ref XB), some (.ref 0), some (.ref 572), some (.ref 594), some (.int (nI i)), none, none, none]) (And.intro rfl (And.intro rfl (And.intro rfl (And.intro rfl (And.intro rfl True.intro))))) ?_
        exact nx _ _ m2 _ hc2 h5.1 (by omega) (by omega)
      · exact absurd rfl g4
  · exact absurd rfl g1
theorem z_endless (hD : 40 ≤ D) (hi : i + 7 ≤ gsl γ) (h3 : gsl γ ≤ 3584) (hk : kc + 5 ≤ mc) (hks : ks + 30 ≤ ms) (hc : CAll m s) (hm : MAll m s) (nx : LawNext γ D mc ms Q i kc ks) : T γ D mc ms M_L_law_ Q kc ks 2762 [some (.ref XB), some (.ref 0), some (.ref 572), some (.ref 594), some (.int (nI i)), none, none, none] [] (rm m) := by
  refine T_aload_n (pc := 2762) (i := 1) dL_law__2762 rfl rfl ?_
  refine R_callVm1 (pc := 2763) (As := []) (rest := []) (Or.inl lk_L_257) mk_X11_endless (k_endless hc) kc_0 ⟨by decide, rfl⟩ lc_0 dL_law__2763 rfl rfl (Nat.le_of_ble_eq_true rfl) (by omega) rfl (by omega) (by omega) (fun m1 h1 => ?_)
  have hm1 := h1.mall hm
  refine T_aload_n (pc := 2766) (i := 2) dL_law__2766 rfl rfl ?_
  refine R_callVm1 (pc := 2767) (As := []) (rest := [.long ((vO (enS s.1.R (wOf s.1 s.2.1.2))))]) (Or.inl lk_L_261) mk_X12_endless (q_endless hm1) kc_572 ⟨by decide, rfl⟩ lc_572 dL_law__2767 rfl rfl (Nat.le_of_ble_eq_true rfl) (by omega) rfl (by omega) (by omega) (fun m2 h2 => ?_)
  have hc2 := h2.call h1.1
  refine T_lcmp (pc := 2770) dL_law__2770 ?_
  refine R_lx_eq (pc := 2771) (tgt := 3335) dL_law__2771 (by decide) (fun g1 => ?_) (fun g1 => ?_)
  · exact nx _ _ m2 _ hc2 h2.1 (by omega) (by omega)
  · exact absurd rfl g1
theorem z_reckons (hD : 40 ≤ D) (hi : i + 7 ≤ gsl γ) (h3 : gsl γ ≤ 3584) (hk : kc + 5 ≤ mc) (hks : ks + 30 ≤ ms) (hc : CAll m s) (hm : MAll m s) (nx : LawNext γ D mc ms Q i kc ks) : T γ D mc ms M_L_law_ Q kc ks 2776 [some (.ref XB), some (.ref 0), some (.ref 572), some (.ref 594), some (.int (nI i)), none, none, none] [] (rm m) := by
  refine T_aload_n (pc := 2776) (i := 1) dL_law__2776 rfl rfl ?_
  refine T_aload_n (pc := 2777) (i := 0) dL_law__2777 rfl rfl ?_
  refine T_iload (pc := 2778) (i := 4) dL_law__2778 rfl ?_
  refine T_iconst (pc := 2780) (v := nI 1) dL_law__2780 (by decide) ?_
  refine R_iadd (pc := 2781) dL_law__2781 ?_
  refine T_sld (pc := 2782) (i := (i + 1)) (by omega) (by omega) dL_law__2782 ?_
  refine T_aload_n (pc := 2783) (i := 0) dL_law__2783 rfl rfl ?_
  refine T_iload (pc := 2784) (i := 4) dL_law__2784 rfl ?_
  refine T_iconst (pc := 2786) (v := nI 2) dL_law__2786 (by decide) ?_
  refine R_iadd (pc := 2787) dL_law__2787 ?_
  refine T_sld (pc := 2788) (i := (i + 2)) (by omega) (by omega) dL_law__2788 ?_
  refine T_aload_n (pc := 2789) (i := 3) dL_law__2789 rfl rfl ?_
  refine T_callSH (pc := 2790) (av := [.ref 0, .int ((gsx γ (i + 1))), .int ((gsx γ (i + 2))), .ref 594]) (rest := []) lk_L_262 mk_L_reckons (w_reckons hc) dL_law__2790 rfl rfl (Nat.le_of_ble_eq_true rfl) (by omega) rfl (by omega) (by omega) (fun E m' h => by obtain ⟨_, z, _⟩ := h; cases z) (fun v m' h => ?_)
  obtain ⟨m1, h0, rfl, h1, h2, h4⟩ := h
  cases h0
  have hm1 : MAll m1 s := hm.ofc (fun k a b => h4 k (by unfold Swr; omega))
  have tle : (mT1 (chkN (gsx γ (i + 1)) 0 3 && chkN (gsx γ (i + 2)) 0 4)) ≤ 2 := Nat.le_trans (mT1_le _) (by decide)
  show T _ _ _ _ _ _ _ _ 2793 [some (.ref XB), some (.ref 0), some (.ref 572), some (.ref 594), some (.int (nI i)), none, none, none] [.int (nI (mT1 (chkN (gsx γ (i + 1)) 0 3 && chkN (gsx γ (i + 2)) 0 4)))] (rm m1)
  refine T_istore (pc := 2793) (i := 5) (ls' := [some (.ref XB), some (.ref 0), some (.ref 572), some (.ref 594), some (.int (nI i)), some (.int (nI (mT1 (chkN (gsx γ (i + 1)) 0 3 && chkN (gsx γ (i + 2)) 0 4)))), none, none]) dL_law__2793 (by decide) rfl ?_
  refine T_aload_n (pc := 2795) (i := 2) dL_law__2795 rfl rfl ?_
  refine T_aload_n (pc := 2796) (i := 0) dL_law__2796 rfl rfl ?_
  refine T_iload (pc := 2797) (i := 4) dL_law__2797 rfl ?_
  refine T_iconst (pc := 2799) (v := nI 1) dL_law__2799 (by decide) ?_
  refine R_iadd (pc := 2800) dL_law__2800 ?_
  refine T_sld (pc := 2801) (i := (i + 1)) (by omega) (by omega) dL_law__2801 ?_
  refine T_aload_n (pc := 2802) (i := 0) dL_law__2802 rfl rfl ?_
  refine T_iload (pc := 2803) (i := 4) dL_law__2803 rfl ?_
  refine T_iconst (pc := 2805) (v := nI 2) dL_law__2805 (by decide) ?_
  refine R_iadd (pc := 2806) dL_law__2806 ?_
  refine T_sld (pc := 2807) (i := (i + 2)) (by omega) (by omega) dL_law__2807 ?_
  refine R_callVm1 (pc := 2808) (As := [.int ((gsx γ (i + 1))), .int ((gsx γ (i + 2)))]) (rest := []) (Or.inl lk_L_264) mk_X12_reckons (q_reckons hm1) kc_572 ⟨by decide, rfl⟩ lc_572 dL_law__2808 rfl rfl (Nat.le_of_ble_eq_true rfl) (by omega) rfl (by omega) (by omega) (fun m2 h5 => ?_)
  have hc2 := h5.call h1
  refine T_lstore (pc := 2811) (i := 6) (ls' := [some (.ref XB), some (.ref 0), some (.ref 572), some (.ref 594), some (.int (nI i)), some (.int (nI (mT1 (chkN (gsx γ (i + 1)) 0 3 && chkN (gsx γ (i + 2)) 0 4)))), some (.long ((if (chkN (gsx γ (i + 1)) 0 3 && chkN (gsx γ (i + 2)) 0 4) = true then vO (rkV (nxR s.1.R (wOf s.1 s.2.1.2)) (gsx γ (i + 1)).toNatClampNeg (gsx γ (i + 2)).toNatClampNeg) else lN 0))), none]) dL_law__2811 (by decide) rfl ?_
  refine T_aload_n (pc := 2813) (i := 2) dL_law__2813 rfl rfl ?_
  refine R_callV1 (pc := 2814) (As := []) (rest := []) (Or.inl lk_L_157) mk_X12_thrown (m_thrown h5.2.1) kc_572 ⟨by decide, rfl⟩ lc_572 dL_law__2814 rfl rfl (Nat.le_of_ble_eq_true rfl) (by omega) rfl (by omega) (by omega) ?_
  refine T_iload (pc := 2817) (i := 5) dL_law__2817 rfl ?_
  refine R_icmp_eq (pc := 2819) (tgt := 2824) (by omega) (by omega) dL_law__2819 (by decide) (fun g1 => ?_) (fun g1 => ?_)
  · skip
    refine T_iload (pc := 2824) (i := 5) dL_law__2824 rfl ?_
    refine R_if_ne (pc := 2826) (tgt := 2840) (by omega) dL_law__2826 (by decide) (fun g2 => ?_) (fun g2 => ?_)
    · skip
      refine T_goto (pc := 2840) (tgt := 3335) dL_law__2840 (by decide) ?_
      refine T_ls (ls' := [some (.ref XB), some (.ref 0), some (.ref 572), some (.ref 594), some (.int (nI i)), none, none, none]) (And.intro rfl (And.intro rfl (And.intro rfl (And.intro rfl (And.intro rfl True.intro))))) ?_
      exact nx _ _ m2 _ hc2 h5.1 (by omega) (by omega)
    · skip
      have ho : m2.2 594 0 = (if (chkN (gsx γ (i + 1)) 0 3 && chkN (gsx γ (i + 2)) 0 4) = true then vO (rkV (nxR s.1.R (wOf s.1 s.2.1.2)) (gsx γ (i + 1)).toNatClampNeg (gsx γ (i + 2)).toNatClampNeg) else lN 0) := (congrFun (h5.2.2 594 (by unfold Smo; omega)).2 0).trans (h2 g2)
      refine T_aload_n (pc := 2829) (i := 3) dL_law__2829 rfl rfl ?_
      refine T_iconst (pc := 2830) (v := nI 0) dL_law__2830 (by decide) ?_
      refine R_lald (pc := 2831) (x := (if (chkN (gsx γ (i + 1)) 0 3 && chkN (gsx γ (i + 2)) 0 4) = true then vO (rkV (nxR s.1.R (wOf s.1 s.2.1.2)) (gsx γ (i + 1)).toNatClampNeg (gsx γ (i + 2)).toNatClampNeg) else lN 0)) kc_594 lc_594 (by omega) (by first | decide | assumption) ho dL_law__2831 ?_
      refine T_lload (pc := 2832) (i := 6) dL_law__2832 rfl ?_
      refine T_lcmp (pc := 2834) dL_law__2834 ?_
      refine R_lx_eq (pc := 2835) (tgt := 2840) dL_law__2835 (by decide) (fun g4 => ?_) (fun g4 => ?_)
      · skip
        refine T_goto (pc := 2840) (tgt := 3335) dL_law__2840 (by decide) ?_
        refine T_ls (ls' := [some (.ref XB), some (.ref 0), some (.ref 572), some (.ref 594), some (.int (nI i)), none, none, none]) (And.intro rfl (And.intro rfl (And.intro rfl (And.intro rfl (And.intro rfl True.intro))))) ?_
        exact nx _ _ m2 _ hc2 h5.1 (by omega) (by omega)
      · exact absurd rfl g4
  · exact absurd rfl g1
theorem z_dropped (hD : 40 ≤ D) (hi : i + 7 ≤ gsl γ) (h3 : gsl γ ≤ 3584) (hk : kc + 5 ≤ mc) (hks : ks + 30 ≤ ms) (hc : CAll m s) (hm : MAll m s) (nx : LawNext γ D mc ms Q i kc ks) : T γ D mc ms M_L_law_ Q kc ks 2843 [some (.ref XB), some (.ref 0), some (.ref 572), some (.ref 594), some (.int (nI i)), none, none, none] [] (rm m) := by
  refine T_aload_n (pc := 2843) (i := 1) dL_law__2843 rfl rfl ?_
  refine T_aload_n (pc := 2844) (i := 0) dL_law__2844 rfl rfl ?_
  refine T_iload (pc := 2845) (i := 4) dL_law__2845 rfl ?_
  refine T_iconst (pc := 2847) (v := nI 1) dL_law__2847 (by decide) ?_
  refine R_iadd (pc := 2848) dL_law__2848 ?_
  refine T_sld (pc := 2849) (i := (i + 1)) (by omega) (by omega) dL_law__2849 ?_
  refine R_callVm1 (pc := 2850) (As := [.int ((gsx γ (i + 1)))]) (rest := []) (Or.inl lk_L_265) mk_X11_dropped (k_dropped hc) kc_0 ⟨by decide, rfl⟩ lc_0 dL_law__2850 rfl rfl (Nat.le_of_ble_eq_true rfl) (by omega) rfl (by omega) (by omega) (fun m1 h1 => ?_)
  have hm1 := h1.mall hm
  refine T_aload_n (pc := 2853) (i := 2) dL_law__2853 rfl rfl ?_
  refine T_aload_n (pc := 2854) (i := 0) dL_law__2854 rfl rfl ?_
  refine T_iload (pc := 2855) (i := 4) dL_law__2855 rfl ?_
  refine T_iconst (pc := 2857) (v := nI 1) dL_law__2857 (by decide) ?_
  refine R_iadd (pc := 2858) dL_law__2858 ?_
  refine T_sld (pc := 2859) (i := (i + 1)) (by omega) (by omega) dL_law__2859 ?_
  refine R_callVm1 (pc := 2860) (As := [.int ((gsx γ (i + 1)))]) (rest := [.int ((oN (drS s.1.R (wOf s.1 s.2.1.2) s.1.F (gsx γ (i + 1)))))]) (Or.inl lk_L_268) mk_X12_dropped (q_dropped hm1) kc_572 ⟨by decide, rfl⟩ lc_572 dL_law__2860 rfl rfl (Nat.le_of_ble_eq_true rfl) (by omega) rfl (by omega) (by omega) (fun m2 h2 => ?_)
  have hc2 := h2.call h1.1
  show T _ _ _ _ _ _ _ _ 2863 [some (.ref XB), some (.ref 0), some (.ref 572), some (.ref 594), some (.int (nI i)), none, none, none] [.int ((oN (drS s.1.R (wOf s.1 s.2.1.2) s.1.F (gsx γ (i + 1))))), .int ((oN (drS s.1.R (wOf s.1 s.2.1.2) s.1.F (gsx γ (i + 1)))))] (rm m2)
  refine T_icmp_eq (pc := 2863) (tgt := 3335) dL_law__2863 (by decide) (fun g1 => ?_) (fun g1 => ?_)
  · exact nx _ _ m2 _ hc2 h2.1 (by omega) (by omega)
  · exact absurd rfl g1
theorem z_explained (hD : 40 ≤ D) (hi : i + 7 ≤ gsl γ) (h3 : gsl γ ≤ 3584) (hk : kc + 5 ≤ mc) (hks : ks + 30 ≤ ms) (hc : CAll m s) (hm : MAll m s) (nx : LawNext γ D mc ms Q i kc ks) : T γ D mc ms M_L_law_ Q kc ks 2868 [some (.ref XB), some (.ref 0), some (.ref 572), some (.ref 594), some (.int (nI i)), none, none, none] [] (rm m) := by
  refine T_aload_n (pc := 2868) (i := 1) dL_law__2868 rfl rfl ?_
  refine T_aload_n (pc := 2869) (i := 0) dL_law__2869 rfl rfl ?_
  refine T_iload (pc := 2870) (i := 4) dL_law__2870 rfl ?_
  refine T_iconst (pc := 2872) (v := nI 1) dL_law__2872 (by decide) ?_
  refine R_iadd (pc := 2873) dL_law__2873 ?_
  refine T_sld (pc := 2874) (i := (i + 1)) (by omega) (by omega) dL_law__2874 ?_
  refine T_aload_n (pc := 2875) (i := 3) dL_law__2875 rfl rfl ?_
  refine T_callSH (pc := 2876) (av := [.ref 0, .int ((gsx γ (i + 1))), .ref 594]) (rest := []) lk_L_269 mk_L_explained (w_explained hc) dL_law__2876 rfl rfl (Nat.le_of_ble_eq_true rfl) (by omega) rfl (by omega) (by omega) (fun E m' h => by obtain ⟨_, z, _⟩ := h; cases z) (fun v m' h => ?_)
  obtain ⟨m1, h0, rfl, h1, h2, h4⟩ := h
  cases h0
  have hm1 : MAll m1 s := hm.ofc (fun k a b => h4 k (by unfold Swr; omega))
  have tle : (mT1 (inB (gsx γ (i + 1)) s.1.S.length)) ≤ 2 := Nat.le_trans (mT1_le _) (by decide)
  show T _ _ _ _ _ _ _ _ 2879 [some (.ref XB), some (.ref 0), some (.ref 572), some (.ref 594), some (.int (nI i)), none, none, none] [.int (nI (mT1 (inB (gsx γ (i + 1)) s.1.S.length)))] (rm m1)
  refine T_istore (pc := 2879) (i := 5) (ls' := [some (.ref XB), some (.ref 0), some (.ref 572), some (.ref 594), some (.int (nI i)), some (.int (nI (mT1 (inB (gsx γ (i + 1)) s.1.S.length)))), none, none]) dL_law__2879 (by decide) rfl ?_
  refine T_aload_n (pc := 2881) (i := 2) dL_law__2881 rfl rfl ?_
  refine T_aload_n (pc := 2882) (i := 0) dL_law__2882 rfl rfl ?_
  refine T_iload (pc := 2883) (i := 4) dL_law__2883 rfl ?_
  refine T_iconst (pc := 2885) (v := nI 1) dL_law__2885 (by decide) ?_
  refine R_iadd (pc := 2886) dL_law__2886 ?_
  refine T_sld (pc := 2887) (i := (i + 1)) (by omega) (by omega) dL_law__2887 ?_
  refine R_callVm1 (pc := 2888) (As := [.int ((gsx γ (i + 1)))]) (rest := []) (Or.inl lk_L_271) mk_X12_explained (q_explained hm1) kc_572 ⟨by decide, rfl⟩ lc_572 dL_law__2888 rfl rfl (Nat.le_of_ble_eq_true rfl) (by omega) rfl (by omega) (by omega) (fun m2 h5 => ?_)
  have hc2 := h5.call h1
  refine T_istore (pc := 2891) (i := 6) (ls' := [some (.ref XB), some (.ref 0), some (.ref 572), some (.ref 594), some (.int (nI i)), some (.int (nI (mT1 (inB (gsx γ (i + 1)) s.1.S.length)))), some (.int ((if inB (gsx γ (i + 1)) s.1.S.length = true then nI (exN s.1.R (sAt s.1.S (gsx γ (i + 1)).toNatClampNeg).1 (sAt s.1.S (gsx γ (i + 1)).toNatClampNeg).2 s.1.R.length) else nI 0))), none]) dL_law__2891 (by decide) rfl ?_
  refine T_aload_n (pc := 2893) (i := 2) dL_law__2893 rfl rfl ?_
  refine R_callV1 (pc := 2894) (As := []) (rest := []) (Or.inl lk_L_157) mk_X12_thrown (m_thrown h5.2.1) kc_572 ⟨by decide, rfl⟩ lc_572 dL_law__2894 rfl rfl (Nat.le_of_ble_eq_true rfl) (by omega) rfl (by omega) (by omega) ?_
  refine T_iload (pc := 2897) (i := 5) dL_law__2897 rfl ?_
  refine R_icmp_eq (pc := 2899) (tgt := 2904) (by omega) (by omega) dL_law__2899 (by decide) (fun g1 => ?_) (fun g1 => ?_)
  · skip
    refine T_iload (pc := 2904) (i := 5) dL_law__2904 rfl ?_
    refine R_if_ne (pc := 2906) (tgt := 2921) (by omega) dL_law__2906 (by decide) (fun g2 => ?_) (fun g2 => ?_)
    · skip
      refine T_goto (pc := 2921) (tgt := 3335) dL_law__2921 (by decide) ?_
      refine T_ls (ls' := [some (.ref XB), some (.ref 0), some (.ref 572), some (.ref 594), some (.int (nI i)), none, none, none]) (And.intro rfl (And.intro rfl (And.intro rfl (And.intro rfl (And.intro rfl True.intro))))) ?_
      exact nx _ _ m2 _ hc2 h5.1 (by omega) (by omega)
    · skip
      have ho : m2.2 594 0 = ((if inB (gsx γ (i + 1)) s.1.S.length = true then nI (exN s.1.R (sAt s.1.S (gsx γ (i + 1)).toNatClampNeg).1 (sAt s.1.S (gsx γ (i + 1)).toNatClampNeg).2 s.1.R.length) else nI 0)).toInt64 := (congrFun (h5.2.2 594 (by unfold Smo; omega)).2 0).trans (h2 g2)
      refine T_aload_n (pc := 2909) (i := 3) dL_law__2909 rfl rfl ?_
      refine T_iconst (pc := 2910) (v := nI 0) dL_law__2910 (by decide) ?_
      refine R_lald (pc := 2911) (x := (((if inB (gsx γ (i + 1)) s.1.S.length = true then nI (exN s.1.R (sAt s.1.S (gsx γ (i + 1)).toNatClampNeg).1 (sAt s.1.S (gsx γ (i + 1)).toNatClampNeg).2 s.1.R.length) else nI 0)).toInt64)) kc_594 lc_594 (by omega) (by first | decide | assumption) ho dL_law__2911 ?_
      refine T_iload (pc := 2912) (i := 6) dL_law__2912 rfl ?_
      refine T_i2l (pc := 2914) dL_law__2914 ?_
      refine T_lcmp (pc := 2915) dL_law__2915 ?_
      refine R_lx_eq (pc := 2916) (tgt := 2921) dL_law__2916 (by decide) (fun g4 => ?_) (fun g4 => ?_)
      · skip
        refine T_goto (pc := 2921) (tgt := 3335) dL_law__2921 (by decide) ?_
        refine T_ls (ls' := [some (.ref XB), some (.ref 0), some (.ref 572), some (.ref 594), some (.int (nI i)), none, none, none]) (And.intro rfl (And.intro rfl (And.intro rfl (And.intro rfl (And.intro rfl True.intro))))) ?_
        exact nx _ _ m2 _ hc2 h5.1 (by omega) (by omega)
      · exact absurd rfl g4
  · exact absurd rfl g1
theorem z_telling (hD : 40 ≤ D) (hi : i + 7 ≤ gsl γ) (h3 : gsl γ ≤ 3584) (hk : kc + 5 ≤ mc) (hks : ks + 30 ≤ ms) (hc : CAll m s) (hm : MAll m s) (nx : LawNext γ D mc ms Q i kc ks) : T γ D mc ms M_L_law_ Q kc ks 2924 [some (.ref XB), some (.ref 0), some (.ref 572), some (.ref 594), some (.int (nI i)), none, none, none] [] (rm m) := by
  refine T_aload_n (pc := 2924) (i := 1) dL_law__2924 rfl rfl ?_
  refine R_callVm1 (pc := 2925) (As := []) (rest := []) (Or.inl lk_L_272) mk_X11_telling (k_telling hc) kc_0 ⟨by decide, rfl⟩ lc_0 dL_law__2925 rfl rfl (Nat.le_of_ble_eq_true rfl) (by omega) rfl (by omega) (by omega) (fun m1 h1 => ?_)
  have hm1 := h1.mall hm
  refine T_aload_n (pc := 2928) (i := 2) dL_law__2928 rfl rfl ?_
  refine R_callVm1 (pc := 2929) (As := []) (rest := [.int ((oN (tlN (exE s.1) s.1.S.length (2 ^ s.1.R.length))))]) (Or.inl lk_L_275) mk_X12_telling (q_telling hm1) kc_572 ⟨by decide, rfl⟩ lc_572 dL_law__2929 rfl rfl (Nat.le_of_ble_eq_true rfl) (by omega) rfl (by omega) (by omega) (fun m2 h2 => ?_)
  have hc2 := h2.call h1.1
  show T _ _ _ _ _ _ _ _ 2932 [some (.ref XB), some (.ref 0), some (.ref 572), some (.ref 594), some (.int (nI i)), none, none, none] [.int ((oN (tlN (exE s.1) s.1.S.length (2 ^ s.1.R.length)))), .int ((oN (tlN (exE s.1) s.1.S.length (2 ^ s.1.R.length))))] (rm m2)
  refine T_icmp_eq (pc := 2932) (tgt := 3335) dL_law__2932 (by decide) (fun g1 => ?_) (fun g1 => ?_)
  · exact nx _ _ m2 _ hc2 h2.1 (by omega) (by omega)
  · exact absurd rfl g1
theorem z_guessed (hD : 40 ≤ D) (hi : i + 7 ≤ gsl γ) (h3 : gsl γ ≤ 3584) (hk : kc + 5 ≤ mc) (hks : ks + 30 ≤ ms) (hc : CAll m s) (hm : MAll m s) (nx : LawNext γ D mc ms Q i kc ks) : T γ D mc ms M_L_law_ Q kc ks 2937 [some (.ref XB), some (.ref 0), some (.ref 572), some (.ref 594), some (.int (nI i)), none, none, none] [] (rm m) := by
  refine T_aload_n (pc := 2937) (i := 1) dL_law__2937 rfl rfl ?_
  refine T_aload_n (pc := 2938) (i := 0) dL_law__2938 rfl rfl ?_
  refine T_iload (pc := 2939) (i := 4) dL_law__2939 rfl ?_
  refine T_iconst (pc := 2941) (v := nI 1) dL_law__2941 (by decide) ?_
  refine R_iadd (pc := 2942) dL_law__2942 ?_
  refine T_sld (pc := 2943) (i := (i + 1)) (by omega) (by omega) dL_law__2943 ?_
  refine T_aload_n (pc := 2944) (i := 3) dL_law__2944 rfl rfl ?_
  refine T_callSH (pc := 2945) (av := [.ref 0, .int ((gsx γ (i + 1))), .ref 594]) (rest := []) lk_L_276 mk_L_guessed (w_guessed hc) dL_law__2945 rfl rfl (Nat.le_of_ble_eq_true rfl) (by omega) rfl (by omega) (by omega) (fun E m' h => by obtain ⟨_, z, _⟩ := h; cases z) (fun v m' h => ?_)
  obtain ⟨m1, h0, rfl, h1, h2, h4⟩ := h
  cases h0
  have hm1 : MAll m1 s := hm.ofc (fun k a b => h4 k (by unfold Swr; omega))
  have tle : (mT1 (inB (gsx γ (i + 1)) 3)) ≤ 2 := Nat.le_trans (mT1_le _) (by decide)
  show T _ _ _ _ _ _ _ _ 2948 [some (.ref XB), some (.ref 0), some (.ref 572), some (.ref 594), some (.int (nI i)), none, none, none] [.int (nI (mT1 (inB (gsx γ (i + 1)) 3)))] (rm m1)
  refine T_istore (pc := 2948) (i := 5) (ls' := [some (.ref XB), some (.ref 0), some (.ref 572), some (.ref 594), some (.int (nI i)), some (.int (nI (mT1 (inB (gsx γ (i + 1)) 3)))), none, none]) dL_law__2948 (by decide) rfl ?_
  refine T_aload_n (pc := 2950) (i := 2) dL_law__2950 rfl rfl ?_
  refine T_aload_n (pc := 2951) (i := 0) dL_law__2951 rfl rfl ?_
  refine T_iload (pc := 2952) (i := 4) dL_law__2952 rfl ?_
  refine T_iconst (pc := 2954) (v := nI 1) dL_law__2954 (by decide) ?_
  refine R_iadd (pc := 2955) dL_law__2955 ?_
  refine T_sld (pc := 2956) (i := (i + 1)) (by omega) (by omega) dL_law__2956 ?_
  refine R_callVm1 (pc := 2957) (As := [.int ((gsx γ (i + 1)))]) (rest := []) (Or.inl lk_L_278) mk_X12_guessed (q_guessed hm1) kc_572 ⟨by decide, rfl⟩ lc_572 dL_law__2957 rfl rfl (Nat.le_of_ble_eq_true rfl) (by omega) rfl (by omega) (by omega) (fun m2 h5 => ?_)
  have hc2 := h5.call h1
  refine T_lstore (pc := 2960) (i := 6) (ls' := [some (.ref XB), some (.ref 0), some (.ref 572), some (.ref 594), some (.int (nI i)), some (.int (nI (mT1 (inB (gsx γ (i + 1)) 3)))), some (.long ((if inB (gsx γ (i + 1)) 3 = true then guO (guV s.1.S) (gsx γ (i + 1)).toNatClampNeg else lN 0))), none]) dL_law__2960 (by decide) rfl ?_
  refine T_aload_n (pc := 2962) (i := 2) dL_law__2962 rfl rfl ?_
  refine R_callV1 (pc := 2963) (As := []) (rest := []) (Or.inl lk_L_157) mk_X12_thrown (m_thrown h5.2.1) kc_572 ⟨by decide, rfl⟩ lc_572 dL_law__2963 rfl rfl (Nat.le_of_ble_eq_true rfl) (by omega) rfl (by omega) (by omega) ?_
  refine T_iload (pc := 2966) (i := 5) dL_law__2966 rfl ?_
  refine R_icmp_eq (pc := 2968) (tgt := 2973) (by omega) (by omega) dL_law__2968 (by decide) (fun g1 => ?_) (fun g1 => ?_)
  · skip
    refine T_iload (pc := 2973) (i := 5) dL_law__2973 rfl ?_
    refine R_if_ne (pc := 2975) (tgt := 2989) (by omega) dL_law__2975 (by decide) (fun g2 => ?_) (fun g2 => ?_)
    · skip
      refine T_goto (pc := 2989) (tgt := 3335) dL_law__2989 (by decide) ?_
      refine T_ls (ls' := [some (.ref XB), some (.ref 0), some (.ref 572), some (.ref 594), some (.int (nI i)), none, none, none]) (And.intro rfl (And.intro rfl (And.intro rfl (And.intro rfl (And.intro rfl True.intro))))) ?_
      exact nx _ _ m2 _ hc2 h5.1 (by omega) (by omega)
    · skip
      have ho : m2.2 594 0 = (if inB (gsx γ (i + 1)) 3 = true then guO (guV s.1.S) (gsx γ (i + 1)).toNatClampNeg else lN 0) := (congrFun (h5.2.2 594 (by unfold Smo; omega)).2 0).trans (h2 g2)
      refine T_aload_n (pc := 2978) (i := 3) dL_law__2978 rfl rfl ?_
      refine T_iconst (pc := 2979) (v := nI 0) dL_law__2979 (by decide) ?_
      refine R_lald (pc := 2980) (x := (if inB (gsx γ (i + 1)) 3 = true then guO (guV s.1.S) (gsx γ (i + 1)).toNatClampNeg else lN 0)) kc_594 lc_594 (by omega) (by first | decide | assumption) ho dL_law__2980 ?_
      refine T_lload (pc := 2981) (i := 6) dL_law__2981 rfl ?_
      refine T_lcmp (pc := 2983) dL_law__2983 ?_
      refine R_lx_eq (pc := 2984) (tgt := 2989) dL_law__2984 (by decide) (fun g4 => ?_) (fun g4 => ?_)
      · skip
        refine T_goto (pc := 2989) (tgt := 3335) dL_law__2989 (by decide) ?_
        refine T_ls (ls' := [some (.ref XB), some (.ref 0), some (.ref 572), some (.ref 594), some (.int (nI i)), none, none, none]) (And.intro rfl (And.intro rfl (And.intro rfl (And.intro rfl (And.intro rfl True.intro))))) ?_
        exact nx _ _ m2 _ hc2 h5.1 (by omega) (by omega)
      · exact absurd rfl g4
  · exact absurd rfl g1
theorem z_drovers (hD : 40 ≤ D) (hi : i + 7 ≤ gsl γ) (h3 : gsl γ ≤ 3584) (hk : kc + 5 ≤ mc) (hks : ks + 30 ≤ ms) (hc : CAll m s) (hm : MAll m s) (nx : LawNext γ D mc ms Q i kc ks) : T γ D mc ms M_L_law_ Q kc ks 2992 [some (.ref XB), some (.ref 0), some (.ref 572), some (.ref 594), some (.int (nI i)), none, none, none] [] (rm m) := by
  refine T_aload_n (pc := 2992) (i := 1) dL_law__2992 rfl rfl ?_
  refine T_aload_n (pc := 2993) (i := 0) dL_law__2993 rfl rfl ?_
  refine T_iload (pc := 2994) (i := 4) dL_law__2994 rfl ?_
  refine T_iconst (pc := 2996) (v := nI 1) dL_law__2996 (by decide) ?_
  refine R_iadd (pc := 2997) dL_law__2997 ?_
  refine T_sld (pc := 2998) (i := (i + 1)) (by omega) (by omega) dL_law__2998 ?_
  refine T_i2l (pc := 2999) dL_law__2999 ?_
  refine T_bipush (pc := 3000) (v := nI 32) dL_law__3000 (by decide) ?_
  refine T_lshl (pc := 3002) dL_law__3002 ?_
  refine T_aload_n (pc := 3003) (i := 0) dL_law__3003 rfl rfl ?_
  refine T_iload (pc := 3004) (i := 4) dL_law__3004 rfl ?_
  refine T_iconst (pc := 3006) (v := nI 2) dL_law__3006 (by decide) ?_
  refine R_iadd (pc := 3007) dL_law__3007 ?_
  refine T_sld (pc := 3008) (i := (i + 2)) (by omega) (by omega) dL_law__3008 ?_
  refine T_i2l (pc := 3009) dL_law__3009 ?_
  refine T_ldc2 (pc := 3010) dL_law__3010 cn_L_178 ?_
  refine T_topl (v := lN 4294967295) (fa_litL _) ?_
  refine T_land (pc := 3013) dL_law__3013 ?_
  refine T_lor (pc := 3014) dL_law__3014 ?_
  refine T_aload_n (pc := 3015) (i := 0) dL_law__3015 rfl rfl ?_
  refine T_iload (pc := 3016) (i := 4) dL_law__3016 rfl ?_
  refine T_iconst (pc := 3018) (v := nI 3) dL_law__3018 (by decide) ?_
  refine R_iadd (pc := 3019) dL_law__3019 ?_
  refine T_sld (pc := 3020) (i := (i + 3)) (by omega) (by omega) dL_law__3020 ?_
  refine T_aload_n (pc := 3021) (i := 3) dL_law__3021 rfl rfl ?_
  refine T_callSH (pc := 3022) (av := [.ref 0, .long ((((lshl ((((gsx γ (i + 1))).toInt64)) (nI 32))) ||| ((((((gsx γ (i + 2))).toInt64)) &&& (lN 4294967295))))), .int ((gsx γ (i + 3))), .ref 594]) (rest := []) lk_L_279 mk_L_drovers (w_drovers hc) dL_law__3022 rfl rfl (Nat.le_of_ble_eq_true rfl) (by omega) rfl (by omega) (by omega) (fun E m' h => by obtain ⟨_, z, _⟩ := h; cases z) (fun v m' h => ?_)
  obtain ⟨m1, h0, rfl, h1, h2, h4⟩ := h
  cases h0
  have hm1 : MAll m1 s := hm.ofc (fun k a b => h4 k (by unfold Swr; omega))
  have tle : (mT1 (codeB (((lshl ((((gsx γ (i + 1))).toInt64)) (nI 32))) ||| ((((((gsx γ (i + 2))).toInt64)) &&& (lN 4294967295)))) && chkN (gsx γ (i + 3)) 1 8)) ≤ 2 := Nat.le_trans (mT1_le _) (by decide)
  show T _ _ _ _ _ _ _ _ 3025 [some (.ref XB), some (.ref 0), some (.ref 572), some (.ref 594), some (.int (nI i)), none, none, none] [.int (nI (mT1 (codeB (((lshl ((((gsx γ (i + 1))).toInt64)) (nI 32))) ||| ((((((gsx γ (i + 2))).toInt64)) &&& (lN 4294967295)))) && chkN (gsx γ (i + 3)) 1 8)))] (rm m1)
  refine T_istore (pc := 3025) (i := 5) (ls' := [some (.ref XB), some (.ref 0), some (.ref 572), some (.ref 594), some (.int (nI i)), some (.int (nI (mT1 (codeB (((lshl ((((gsx γ (i + 1))).toInt64)) (nI 32))) ||| ((((((gsx γ (i + 2))).toInt64)) &&& (lN 4294967295)))) && chkN (gsx γ (i + 3)) 1 8)))), none, none]) dL_law__3025 (by decide) rfl ?_
  refine T_aload_n (pc := 3027) (i := 2) dL_law__3027 rfl rfl ?_
  refine T_aload_n (pc := 3028) (i := 0) dL_law__3028 rfl rfl ?_
  refine T_iload (pc := 3029) (i := 4) dL_law__3029 rfl ?_
  refine T_iconst (pc := 3031) (v := nI 1) dL_law__3031 (by decide) ?_
  refine R_iadd (pc := 3032) dL_law__3032 ?_
  refine T_sld (pc := 3033) (i := (i + 1)) (by omega) (by omega) dL_law__3033 ?_
  refine T_i2l (pc := 3034) dL_law__3034 ?_
  refine T_bipush (pc := 3035) (v := nI 32) dL_law__3035 (by decide) ?_
  refine T_lshl (pc := 3037) dL_law__3037 ?_
  refine T_aload_n (pc := 3038) (i := 0) dL_law__3038 rfl rfl ?_
  refine T_iload (pc := 3039) (i := 4) dL_law__3039 rfl ?_
  refine T_iconst (pc := 3041) (v := nI 2) dL_law__3041 (by decide) ?_
  refine R_iadd (pc := 3042) dL_law__3042 ?_
  refine T_sld (pc := 3043) (i := (i + 2)) (by omega) (by omega) dL_law__3043 ?_
  refine T_i2l (pc := 3044) dL_law__3044 ?_
  refine T_ldc2 (pc := 3045) dL_law__3045 cn_L_178 ?_
  refine T_topl (v := lN 4294967295) (fa_litL _) ?_
  refine T_land (pc := 3048) dL_law__3048 ?_
  refine T_lor (pc := 3049) dL_law__3049 ?_
  refine T_aload_n (pc := 3050) (i := 0) dL_law__3050 rfl rfl ?_
  refine T_iload (pc := 3051) (i := 4) dL_law__3051 rfl ?_
  refine T_iconst (pc := 3053) (v := nI 3) dL_law__3053 (by decide) ?_
  refine R_iadd (pc := 3054) dL_law__3054 ?_
  refine T_sld (pc := 3055) (i := (i + 3)) (by omega) (by omega) dL_law__3055 ?_
  refine R_callVm1 (pc := 3056) (As := [.long ((((lshl ((((gsx γ (i + 1))).toInt64)) (nI 32))) ||| ((((((gsx γ (i + 2))).toInt64)) &&& (lN 4294967295))))), .int ((gsx γ (i + 3)))]) (rest := []) (Or.inl lk_L_281) mk_X12_drovers (q_drovers hm1) kc_572 ⟨by decide, rfl⟩ lc_572 dL_law__3056 rfl rfl (Nat.le_of_ble_eq_true rfl) (by omega) rfl (by omega) (by omega) (fun m2 h5 => ?_)
  have hc2 := h5.call h1
  refine T_istore (pc := 3059) (i := 6) (ls' := [some (.ref XB), some (.ref 0), some (.ref 572), some (.ref 594), some (.int (nI i)), some (.int (nI (mT1 (codeB (((lshl ((((gsx γ (i + 1))).toInt64)) (nI 32))) ||| ((((((gsx γ (i + 2))).toInt64)) &&& (lN 4294967295)))) && chkN (gsx γ (i + 3)) 1 8)))), some (.int ((if (codeB (((lshl ((((gsx γ (i + 1))).toInt64)) (nI 32))) ||| ((((((gsx γ (i + 2))).toInt64)) &&& (lN 4294967295)))) && chkN (gsx γ (i + 3)) 1 8) = true then gmD (gmV s.1.R (wOf s.1 s.2.1.2) (ml (((lshl ((((gsx γ (i + 1))).toInt64)) (nI 32))) ||| ((((((gsx γ (i + 2))).toInt64)) &&& (lN 4294967295))))) (gsx γ (i + 3)).toNatClampNeg) else nI 0))), none]) dL_law__3059 (by decide) rfl ?_
  refine T_aload_n (pc := 3061) (i := 2) dL_law__3061 rfl rfl ?_
  refine R_callV1 (pc := 3062) (As := []) (rest := []) (Or.inl lk_L_157) mk_X12_thrown (m_thrown h5.2.1) kc_572 ⟨by decide, rfl⟩ lc_572 dL_law__3062 rfl rfl (Nat.le_of_ble_eq_true rfl) (by omega) rfl (by omega) (by omega) ?_
  refine T_iload (pc := 3065) (i := 5) dL_law__3065 rfl ?_
  refine R_icmp_eq (pc := 3067) (tgt := 3072) (by omega) (by omega) dL_law__3067 (by decide) (fun g1 => ?_) (fun g1 => ?_)
  · skip
    refine T_iload (pc := 3072) (i := 5) dL_law__3072 rfl ?_
    refine R_if_ne (pc := 3074) (tgt := 3089) (by omega) dL_law__3074 (by decide) (fun g2 => ?_) (fun g2 => ?_)
    · skip
      refine T_goto (pc := 3089) (tgt := 3335) dL_law__3089 (by decide) ?_
      refine T_ls (ls' := [some (.ref XB), some (.ref 0), some (.ref 572), some (.ref 594), some (.int (nI i)), none, none, none]) (And.intro rfl (And.intro rfl (And.intro rfl (And.intro rfl (And.intro rfl True.intro))))) ?_
      exact nx _ _ m2 _ hc2 h5.1 (by omega) (by omega)
    · skip
      have ho : m2.2 594 0 = ((if (codeB (((lshl ((((gsx γ (i + 1))).toInt64)) (nI 32))) ||| ((((((gsx γ (i + 2))).toInt64)) &&& (lN 4294967295)))) && chkN (gsx γ (i + 3)) 1 8) = true then gmD (gmV s.1.R (wOf s.1 s.2.1.2) (ml (((lshl ((((gsx γ (i + 1))).toInt64)) (nI 32))) ||| ((((((gsx γ (i + 2))).toInt64)) &&& (lN 4294967295))))) (gsx γ (i + 3)).toNatClampNeg) else nI 0)).toInt64 := (congrFun (h5.2.2 594 (by unfold Smo; omega)).2 0).trans (h2 g2)
      refine T_aload_n (pc := 3077) (i := 3) dL_law__3077 rfl rfl ?_
      refine T_iconst (pc := 3078) (v := nI 0) dL_law__3078 (by decide) ?_
      refine R_lald (pc := 3079) (x := (((if (codeB (((lshl ((((gsx γ (i + 1))).toInt64)) (nI 32))) ||| ((((((gsx γ (i + 2))).toInt64)) &&& (lN 4294967295)))) && chkN (gsx γ (i + 3)) 1 8) = true then gmD (gmV s.1.R (wOf s.1 s.2.1.2) (ml (((lshl ((((gsx γ (i + 1))).toInt64)) (nI 32))) ||| ((((((gsx γ (i + 2))).toInt64)) &&& (lN 4294967295))))) (gsx γ (i + 3)).toNatClampNeg) else nI 0)).toInt64)) kc_594 lc_594 (by omega) (by first | decide | assumption) ho dL_law__3079 ?_
      refine T_iload (pc := 3080) (i := 6) dL_law__3080 rfl ?_
      refine T_i2l (pc := 3082) dL_law__3082 ?_
      refine T_lcmp (pc := 3083) dL_law__3083 ?_
      refine R_lx_eq (pc := 3084) (tgt := 3089) dL_law__3084 (by decide) (fun g4 => ?_) (fun g4 => ?_)
      · skip
        refine T_goto (pc := 3089) (tgt := 3335) dL_law__3089 (by decide) ?_
        refine T_ls (ls' := [some (.ref XB), some (.ref 0), some (.ref 572), some (.ref 594), some (.int (nI i)), none, none, none]) (And.intro rfl (And.intro rfl (And.intro rfl (And.intro rfl (And.intro rfl True.intro))))) ?_
        exact nx _ _ m2 _ hc2 h5.1 (by omega) (by omega)
      · exact absurd rfl g4
  · exact absurd rfl g1
theorem z_best (hD : 40 ≤ D) (hi : i + 7 ≤ gsl γ) (h3 : gsl γ ≤ 3584) (hk : kc + 5 ≤ mc) (hks : ks + 30 ≤ ms) (hc : CAll m s) (hm : MAll m s) (nx : LawNext γ D mc ms Q i kc ks) : T γ D mc ms M_L_law_ Q kc ks 3092 [some (.ref XB), some (.ref 0), some (.ref 572), some (.ref 594), some (.int (nI i)), none, none, none] [] (rm m) := by
  refine T_aload_n (pc := 3092) (i := 1) dL_law__3092 rfl rfl ?_
  refine T_aload_n (pc := 3093) (i := 0) dL_law__3093 rfl rfl ?_
  refine T_iload (pc := 3094) (i := 4) dL_law__3094 rfl ?_
  refine T_iconst (pc := 3096) (v := nI 1) dL_law__3096 (by decide) ?_
  refine R_iadd (pc := 3097) dL_law__3097 ?_
  refine T_sld (pc := 3098) (i := (i + 1)) (by omega) (by omega) dL_law__3098 ?_
  refine T_i2l (pc := 3099) dL_law__3099 ?_
  refine T_bipush (pc := 3100) (v := nI 32) dL_law__3100 (by decide) ?_
  refine T_lshl (pc := 3102) dL_law__3102 ?_
  refine T_aload_n (pc := 3103) (i := 0) dL_law__3103 rfl rfl ?_
  refine T_iload (pc := 3104) (i := 4) dL_law__3104 rfl ?_
  refine T_iconst (pc := 3106) (v := nI 2) dL_law__3106 (by decide) ?_
  refine R_iadd (pc := 3107) dL_law__3107 ?_
  refine T_sld (pc := 3108) (i := (i + 2)) (by omega) (by omega) dL_law__3108 ?_
  refine T_i2l (pc := 3109) dL_law__3109 ?_
  refine T_ldc2 (pc := 3110) dL_law__3110 cn_L_178 ?_
  refine T_topl (v := lN 4294967295) (fa_litL _) ?_
  refine T_land (pc := 3113) dL_law__3113 ?_
  refine T_lor (pc := 3114) dL_law__3114 ?_
  refine T_aload_n (pc := 3115) (i := 0) dL_law__3115 rfl rfl ?_
  refine T_iload (pc := 3116) (i := 4) dL_law__3116 rfl ?_
  refine T_iconst (pc := 3118) (v := nI 3) dL_law__3118 (by decide) ?_
  refine R_iadd (pc := 3119) dL_law__3119 ?_
  refine T_sld (pc := 3120) (i := (i + 3)) (by omega) (by omega) dL_law__3120 ?_
  refine T_aload_n (pc := 3121) (i := 3) dL_law__3121 rfl rfl ?_
  refine T_callSH (pc := 3122) (av := [.ref 0, .long ((((lshl ((((gsx γ (i + 1))).toInt64)) (nI 32))) ||| ((((((gsx γ (i + 2))).toInt64)) &&& (lN 4294967295))))), .int ((gsx γ (i + 3))), .ref 594]) (rest := []) lk_L_282 mk_L_best (w_best hc) dL_law__3122 rfl rfl (Nat.le_of_ble_eq_true rfl) (by omega) rfl (by omega) (by omega) (fun E m' h => by obtain ⟨_, z, _⟩ := h; cases z) (fun v m' h => ?_)
  obtain ⟨m1, h0, rfl, h1, h2, h4⟩ := h
  cases h0
  have hm1 : MAll m1 s := hm.ofc (fun k a b => h4 k (by unfold Swr; omega))
  have tle : (mT1 (codeB (((lshl ((((gsx γ (i + 1))).toInt64)) (nI 32))) ||| ((((((gsx γ (i + 2))).toInt64)) &&& (lN 4294967295)))) && chkN (gsx γ (i + 3)) 1 8)) ≤ 2 := Nat.le_trans (mT1_le _) (by decide)
  show T _ _ _ _ _ _ _ _ 3125 [some (.ref XB), some (.ref 0), some (.ref 572), some (.ref 594), some (.int (nI i)), none, none, none] [.int (nI (mT1 (codeB (((lshl ((((gsx γ (i + 1))).toInt64)) (nI 32))) ||| ((((((gsx γ (i + 2))).toInt64)) &&& (lN 4294967295)))) && chkN (gsx γ (i + 3)) 1 8)))] (rm m1)
  refine T_istore (pc := 3125) (i := 5) (ls' := [some (.ref XB), some (.ref 0), some (.ref 572), some (.ref 594), some (.int (nI i)), some (.int (nI (mT1 (codeB (((lshl ((((gsx γ (i + 1))).toInt64)) (nI 32))) ||| ((((((gsx γ (i + 2))).toInt64)) &&& (lN 4294967295)))) && chkN (gsx γ (i + 3)) 1 8)))), none, none]) dL_law__3125 (by decide) rfl ?_
  refine T_aload_n (pc := 3127) (i := 2) dL_law__3127 rfl rfl ?_
  refine T_aload_n (pc := 3128) (i := 0) dL_law__3128 rfl rfl ?_
  refine T_iload (pc := 3129) (i := 4) dL_law__3129 rfl ?_
  refine T_iconst (pc := 3131) (v := nI 1) dL_law__3131 (by decide) ?_
  refine R_iadd (pc := 3132) dL_law__3132 ?_
  refine T_sld (pc := 3133) (i := (i + 1)) (by omega) (by omega) dL_law__3133 ?_
  refine T_i2l (pc := 3134) dL_law__3134 ?_
  refine T_bipush (pc := 3135) (v := nI 32) dL_law__3135 (by decide) ?_
  refine T_lshl (pc := 3137) dL_law__3137 ?_
  refine T_aload_n (pc := 3138) (i := 0) dL_law__3138 rfl rfl ?_
  refine T_iload (pc := 3139) (i := 4) dL_law__3139 rfl ?_
  refine T_iconst (pc := 3141) (v := nI 2) dL_law__3141 (by decide) ?_
  refine R_iadd (pc := 3142) dL_law__3142 ?_
  refine T_sld (pc := 3143) (i := (i + 2)) (by omega) (by omega) dL_law__3143 ?_
  refine T_i2l (pc := 3144) dL_law__3144 ?_
  refine T_ldc2 (pc := 3145) dL_law__3145 cn_L_178 ?_
  refine T_topl (v := lN 4294967295) (fa_litL _) ?_
  refine T_land (pc := 3148) dL_law__3148 ?_
  refine T_lor (pc := 3149) dL_law__3149 ?_
  refine T_aload_n (pc := 3150) (i := 0) dL_law__3150 rfl rfl ?_
  refine T_iload (pc := 3151) (i := 4) dL_law__3151 rfl ?_
  refine T_iconst (pc := 3153) (v := nI 3) dL_law__3153 (by decide) ?_
  refine R_iadd (pc := 3154) dL_law__3154 ?_
  refine T_sld (pc := 3155) (i := (i + 3)) (by omega) (by omega) dL_law__3155 ?_
  refine R_callVm1 (pc := 3156) (As := [.long ((((lshl ((((gsx γ (i + 1))).toInt64)) (nI 32))) ||| ((((((gsx γ (i + 2))).toInt64)) &&& (lN 4294967295))))), .int ((gsx γ (i + 3)))]) (rest := []) (Or.inl lk_L_284) mk_X12_best (q_best hm1) kc_572 ⟨by decide, rfl⟩ lc_572 dL_law__3156 rfl rfl (Nat.le_of_ble_eq_true rfl) (by omega) rfl (by omega) (by omega) (fun m2 h5 => ?_)
  have hc2 := h5.call h1
  refine T_istore (pc := 3159) (i := 6) (ls' := [some (.ref XB), some (.ref 0), some (.ref 572), some (.ref 594), some (.int (nI i)), some (.int (nI (mT1 (codeB (((lshl ((((gsx γ (i + 1))).toInt64)) (nI 32))) ||| ((((((gsx γ (i + 2))).toInt64)) &&& (lN 4294967295)))) && chkN (gsx γ (i + 3)) 1 8)))), some (.int ((if (codeB (((lshl ((((gsx γ (i + 1))).toInt64)) (nI 32))) ||| ((((((gsx γ (i + 2))).toInt64)) &&& (lN 4294967295)))) && chkN (gsx γ (i + 3)) 1 8) = true then gmB (gmV s.1.R (wOf s.1 s.2.1.2) (ml (((lshl ((((gsx γ (i + 1))).toInt64)) (nI 32))) ||| ((((((gsx γ (i + 2))).toInt64)) &&& (lN 4294967295))))) (gsx γ (i + 3)).toNatClampNeg) else nI 0))), none]) dL_law__3159 (by decide) rfl ?_
  refine T_aload_n (pc := 3161) (i := 2) dL_law__3161 rfl rfl ?_
  refine R_callV1 (pc := 3162) (As := []) (rest := []) (Or.inl lk_L_157) mk_X12_thrown (m_thrown h5.2.1) kc_572 ⟨by decide, rfl⟩ lc_572 dL_law__3162 rfl rfl (Nat.le_of_ble_eq_true rfl) (by omega) rfl (by omega) (by omega) ?_
  refine T_iload (pc := 3165) (i := 5) dL_law__3165 rfl ?_
  refine R_icmp_eq (pc := 3167) (tgt := 3172) (by omega) (by omega) dL_law__3167 (by decide) (fun g1 => ?_) (fun g1 => ?_)
  · skip
    refine T_iload (pc := 3172) (i := 5) dL_law__3172 rfl ?_
    refine R_if_ne (pc := 3174) (tgt := 3189) (by omega) dL_law__3174 (by decide) (fun g2 => ?_) (fun g2 => ?_)
    · skip
      refine T_goto (pc := 3189) (tgt := 3335) dL_law__3189 (by decide) ?_
      refine T_ls (ls' := [some (.ref XB), some (.ref 0), some (.ref 572), some (.ref 594), some (.int (nI i)), none, none, none]) (And.intro rfl (And.intro rfl (And.intro rfl (And.intro rfl (And.intro rfl True.intro))))) ?_
      exact nx _ _ m2 _ hc2 h5.1 (by omega) (by omega)
    · skip
      have ho : m2.2 594 0 = ((if (codeB (((lshl ((((gsx γ (i + 1))).toInt64)) (nI 32))) ||| ((((((gsx γ (i + 2))).toInt64)) &&& (lN 4294967295)))) && chkN (gsx γ (i + 3)) 1 8) = true then gmB (gmV s.1.R (wOf s.1 s.2.1.2) (ml (((lshl ((((gsx γ (i + 1))).toInt64)) (nI 32))) ||| ((((((gsx γ (i + 2))).toInt64)) &&& (lN 4294967295))))) (gsx γ (i + 3)).toNatClampNeg) else nI 0)).toInt64 := (congrFun (h5.2.2 594 (by unfold Smo; omega)).2 0).trans (h2 g2)
      refine T_aload_n (pc := 3177) (i := 3) dL_law__3177 rfl rfl ?_
      refine T_iconst (pc := 3178) (v := nI 0) dL_law__3178 (by decide) ?_
      refine R_lald (pc := 3179) (x := (((if (codeB (((lshl ((((gsx γ (i + 1))).toInt64)) (nI 32))) ||| ((((((gsx γ (i + 2))).toInt64)) &&& (lN 4294967295)))) && chkN (gsx γ (i + 3)) 1 8) = true then gmB (gmV s.1.R (wOf s.1 s.2.1.2) (ml (((lshl ((((gsx γ (i + 1))).toInt64)) (nI 32))) ||| ((((((gsx γ (i + 2))).toInt64)) &&& (lN 4294967295))))) (gsx γ (i + 3)).toNatClampNeg) else nI 0)).toInt64)) kc_594 lc_594 (by omega) (by first | decide | assumption) ho dL_law__3179 ?_
      refine T_iload (pc := 3180) (i := 6) dL_law__3180 rfl ?_
      refine T_i2l (pc := 3182) dL_law__3182 ?_
      refine T_lcmp (pc := 3183) dL_law__3183 ?_
      refine R_lx_eq (pc := 3184) (tgt := 3189) dL_law__3184 (by decide) (fun g4 => ?_) (fun g4 => ?_)
      · skip
        refine T_goto (pc := 3189) (tgt := 3335) dL_law__3189 (by decide) ?_
        refine T_ls (ls' := [some (.ref XB), some (.ref 0), some (.ref 572), some (.ref 594), some (.int (nI i)), none, none, none]) (And.intro rfl (And.intro rfl (And.intro rfl (And.intro rfl (And.intro rfl True.intro))))) ?_
        exact nx _ _ m2 _ hc2 h5.1 (by omega) (by omega)
      · exact absurd rfl g4
  · exact absurd rfl g1
theorem z_sorts (hD : 40 ≤ D) (hi : i + 7 ≤ gsl γ) (h3 : gsl γ ≤ 3584) (hk : kc + 5 ≤ mc) (hks : ks + 30 ≤ ms) (hc : CAll m s) (hm : MAll m s) (nx : LawNext γ D mc ms Q i kc ks) : T γ D mc ms M_L_law_ Q kc ks 3192 [some (.ref XB), some (.ref 0), some (.ref 572), some (.ref 594), some (.int (nI i)), none, none, none] [] (rm m) := by
  refine T_aload_n (pc := 3192) (i := 1) dL_law__3192 rfl rfl ?_
  refine T_aload_n (pc := 3193) (i := 0) dL_law__3193 rfl rfl ?_
  refine T_iload (pc := 3194) (i := 4) dL_law__3194 rfl ?_
  refine T_iconst (pc := 3196) (v := nI 1) dL_law__3196 (by decide) ?_
  refine R_iadd (pc := 3197) dL_law__3197 ?_
  refine T_sld (pc := 3198) (i := (i + 1)) (by omega) (by omega) dL_law__3198 ?_
  refine T_aload_n (pc := 3199) (i := 3) dL_law__3199 rfl rfl ?_
  refine T_callSH (pc := 3200) (av := [.ref 0, .int ((gsx γ (i + 1))), .ref 594]) (rest := []) lk_L_285 mk_L_sorts (w_sorts hc) dL_law__3200 rfl rfl (Nat.le_of_ble_eq_true rfl) (by omega) rfl (by omega) (by omega) (fun E m' h => by obtain ⟨_, z, _⟩ := h; cases z) (fun v m' h => ?_)
  obtain ⟨m1, h0, rfl, h1, h2, h4⟩ := h
  cases h0
  have hm1 : MAll m1 s := hm.ofc (fun k a b => h4 k (by unfold Swr; omega))
  have tle : (mT1 (inB (gsx γ (i + 1)) 4)) ≤ 2 := Nat.le_trans (mT1_le _) (by decide)
  show T _ _ _ _ _ _ _ _ 3203 [some (.ref XB), some (.ref 0), some (.ref 572), some (.ref 594), some (.int (nI i)), none, none, none] [.int (nI (mT1 (inB (gsx γ (i + 1)) 4)))] (rm m1)
  refine T_istore (pc := 3203) (i := 5) (ls' := [some (.ref XB), some (.ref 0), some (.ref 572), some (.ref 594), some (.int (nI i)), some (.int (nI (mT1 (inB (gsx γ (i + 1)) 4)))), none, none]) dL_law__3203 (by decide) rfl ?_
  refine T_aload_n (pc := 3205) (i := 2) dL_law__3205 rfl rfl ?_
  refine T_aload_n (pc := 3206) (i := 0) dL_law__3206 rfl rfl ?_
  refine T_iload (pc := 3207) (i := 4) dL_law__3207 rfl ?_
  refine T_iconst (pc := 3209) (v := nI 1) dL_law__3209 (by decide) ?_
  refine R_iadd (pc := 3210) dL_law__3210 ?_
  refine T_sld (pc := 3211) (i := (i + 1)) (by omega) (by omega) dL_law__3211 ?_
  refine R_callVm1 (pc := 3212) (As := [.int ((gsx γ (i + 1)))]) (rest := []) (Or.inl lk_L_287) mk_X12_sorts (q_sorts hm1) kc_572 ⟨by decide, rfl⟩ lc_572 dL_law__3212 rfl rfl (Nat.le_of_ble_eq_true rfl) (by omega) rfl (by omega) (by omega) (fun m2 h5 => ?_)
  have hc2 := h5.call h1
  refine T_istore (pc := 3215) (i := 6) (ls' := [some (.ref XB), some (.ref 0), some (.ref 572), some (.ref 594), some (.int (nI i)), some (.int (nI (mT1 (inB (gsx γ (i + 1)) 4)))), some (.int ((if inB (gsx γ (i + 1)) 4 = true then srV s.1 (gsx γ (i + 1)).toNatClampNeg else nI 0))), none]) dL_law__3215 (by decide) rfl ?_
  refine T_aload_n (pc := 3217) (i := 2) dL_law__3217 rfl rfl ?_
  refine R_callV1 (pc := 3218) (As := []) (rest := []) (Or.inl lk_L_157) mk_X12_thrown (m_thrown h5.2.1) kc_572 ⟨by decide, rfl⟩ lc_572 dL_law__3218 rfl rfl (Nat.le_of_ble_eq_true rfl) (by omega) rfl (by omega) (by omega) ?_
  refine T_iload (pc := 3221) (i := 5) dL_law__3221 rfl ?_
  refine R_icmp_eq (pc := 3223) (tgt := 3228) (by omega) (by omega) dL_law__3223 (by decide) (fun g1 => ?_) (fun g1 => ?_)
  · skip
    refine T_iload (pc := 3228) (i := 5) dL_law__3228 rfl ?_
    refine R_if_ne (pc := 3230) (tgt := 3245) (by omega) dL_law__3230 (by decide) (fun g2 => ?_) (fun g2 => ?_)
    · skip
      refine T_goto (pc := 3245) (tgt := 3335) dL_law__3245 (by decide) ?_
      refine T_ls (ls' := [some (.ref XB), some (.ref 0), some (.ref 572), some (.ref 594), some (.int (nI i)), none, none, none]) (And.intro rfl (And.intro rfl (And.intro rfl (And.intro rfl (And.intro rfl True.intro))))) ?_
      exact nx _ _ m2 _ hc2 h5.1 (by omega) (by omega)
    · skip
      have ho : m2.2 594 0 = ((if inB (gsx γ (i + 1)) 4 = true then srV s.1 (gsx γ (i + 1)).toNatClampNeg else nI 0)).toInt64 := (congrFun (h5.2.2 594 (by unfold Smo; omega)).2 0).trans (h2 g2)
      refine T_aload_n (pc := 3233) (i := 3) dL_law__3233 rfl rfl ?_
      refine T_iconst (pc := 3234) (v := nI 0) dL_law__3234 (by decide) ?_
      refine R_lald (pc := 3235) (x := (((if inB (gsx γ (i + 1)) 4 = true then srV s.1 (gsx γ (i + 1)).toNatClampNeg else nI 0)).toInt64)) kc_594 lc_594 (by omega) (by first | decide | assumption) ho dL_law__3235 ?_
      refine T_iload (pc := 3236) (i := 6) dL_law__3236 rfl ?_
      refine T_i2l (pc := 3238) dL_law__3238 ?_
      refine T_lcmp (pc := 3239) dL_law__3239 ?_
      refine R_lx_eq (pc := 3240) (tgt := 3245) dL_law__3240 (by decide) (fun g4 => ?_) (fun g4 => ?_)
      · skip
        refine T_goto (pc := 3245) (tgt := 3335) dL_law__3245 (by decide) ?_
        refine T_ls (ls' := [some (.ref XB), some (.ref 0), some (.ref 572), some (.ref 594), some (.int (nI i)), none, none, none]) (And.intro rfl (And.intro rfl (And.intro rfl (And.intro rfl (And.intro rfl True.intro))))) ?_
        exact nx _ _ m2 _ hc2 h5.1 (by omega) (by omega)
      · exact absurd rfl g4
  · exact absurd rfl g1
theorem z_seed (hD : 40 ≤ D) (hi : i + 7 ≤ gsl γ) (h3 : gsl γ ≤ 3584) (hk : kc + 5 ≤ mc) (hks : ks + 30 ≤ ms) (hc : CAll m s) (hm : MAll m s) (nx : LawNext γ D mc ms Q i kc ks) : T γ D mc ms M_L_law_ Q kc ks 3248 [some (.ref XB), some (.ref 0), some (.ref 572), some (.ref 594), some (.int (nI i)), none, none, none] [] (rm m) := by
  refine T_aload_n (pc := 3248) (i := 1) dL_law__3248 rfl rfl ?_
  refine T_aload_n (pc := 3249) (i := 0) dL_law__3249 rfl rfl ?_
  refine T_iload (pc := 3250) (i := 4) dL_law__3250 rfl ?_
  refine T_iconst (pc := 3252) (v := nI 1) dL_law__3252 (by decide) ?_
  refine R_iadd (pc := 3253) dL_law__3253 ?_
  refine T_sld (pc := 3254) (i := (i + 1)) (by omega) (by omega) dL_law__3254 ?_
  refine R_callVm1 (pc := 3255) (As := [.int ((gsx γ (i + 1)))]) (rest := []) (Or.inl lk_L_288) mk_X11_seed (k_seed hc) kc_0 ⟨by decide, rfl⟩ lc_0 dL_law__3255 rfl rfl (Nat.le_of_ble_eq_true rfl) (by omega) rfl (by omega) (by omega) (fun m1 h1 => ?_)
  have hm1 := h1.mall hm
  refine T_aload_n (pc := 3258) (i := 2) dL_law__3258 rfl rfl ?_
  refine T_aload_n (pc := 3259) (i := 0) dL_law__3259 rfl rfl ?_
  refine T_iload (pc := 3260) (i := 4) dL_law__3260 rfl ?_
  refine T_iconst (pc := 3262) (v := nI 1) dL_law__3262 (by decide) ?_
  refine R_iadd (pc := 3263) dL_law__3263 ?_
  refine T_sld (pc := 3264) (i := (i + 1)) (by omega) (by omega) dL_law__3264 ?_
  refine R_callVm1 (pc := 3265) (As := [.int ((gsx γ (i + 1)))]) (rest := [.int (s.1.seed)]) (Or.inl lk_L_291) mk_X12_seed (m_seedA hm1) kc_572 ⟨by decide, rfl⟩ lc_572 dL_law__3265 rfl rfl (Nat.le_of_ble_eq_true rfl) (by omega) rfl (by omega) (by omega) (fun m2 h2 => ?_)
  have hc2 := h2.call h1.1
  show T _ _ _ _ _ _ _ _ 3268 [some (.ref XB), some (.ref 0), some (.ref 572), some (.ref 594), some (.int (nI i)), none, none, none] [.int (s.1.seed), .int (s.1.seed)] (rm m2)
  refine T_icmp_eq (pc := 3268) (tgt := 3335) dL_law__3268 (by decide) (fun g1 => ?_) (fun g1 => ?_)
  · exact nx _ _ m2 _ hc2 h2.1 (by omega) (by omega)
  · exact absurd rfl g1
theorem z_undo (hD : 40 ≤ D) (hi : i + 7 ≤ gsl γ) (h3 : gsl γ ≤ 3584) (hk : kc + 5 ≤ mc) (hks : ks + 30 ≤ ms) (hc : CAll m s) (hm : MAll m s) (nx : LawNext γ D mc ms Q i kc ks) : T γ D mc ms M_L_law_ Q kc ks 3273 [some (.ref XB), some (.ref 0), some (.ref 572), some (.ref 594), some (.int (nI i)), none, none, none] [] (rm m) := by
  refine T_aload_n (pc := 3273) (i := 1) dL_law__3273 rfl rfl ?_
  refine R_callVm1 (pc := 3274) (As := []) (rest := []) (Or.inl lk_L_292) mk_X11_undo (k_undo hc) kc_0 ⟨by decide, rfl⟩ lc_0 dL_law__3274 rfl rfl (Nat.le_of_ble_eq_true rfl) (by omega) rfl (by omega) (by omega) (fun m1 h1 => ?_)
  have hm1 := h1.mall hm
  refine T_aload_n (pc := 3277) (i := 2) dL_law__3277 rfl rfl ?_
  refine R_callVm1 (pc := 3278) (As := []) (rest := [.int (bI (decide (s.2.2.1.length ≠ 0)))]) (Or.inl lk_L_296) mk_X12_undo (m_undoA hm1) kc_572 ⟨by decide, rfl⟩ lc_572 dL_law__3278 rfl rfl (Nat.le_of_ble_eq_true rfl) (by omega) rfl (by omega) (by omega) (fun m2 h2 => ?_)
  have hc2 := h2.call h1.1
  show T _ _ _ _ _ _ _ _ 3281 [some (.ref XB), some (.ref 0), some (.ref 572), some (.ref 594), some (.int (nI i)), none, none, none] [.int (bI (decide (s.2.2.1.length ≠ 0))), .int (bI (decide (s.2.2.1.length ≠ 0)))] (rm m2)
  refine T_icmp_eq (pc := 3281) (tgt := 3335) dL_law__3281 (by decide) (fun g1 => ?_) (fun g1 => ?_)
  · exact nx _ _ m2 _ hc2 h2.1 (by omega) (by omega)
  · exact absurd rfl g1
theorem z_image (hD : 40 ≤ D) (hi : i + 7 ≤ gsl γ) (h3 : gsl γ ≤ 3584) (hk : kc + 5 ≤ mc) (hks : ks + 30 ≤ ms) (hc : CAll m s) (hm : MAll m s) (nx : LawNext γ D mc ms Q i kc ks) : T γ D mc ms M_L_law_ Q kc ks 3286 [some (.ref XB), some (.ref 0), some (.ref 572), some (.ref 594), some (.int (nI i)), none, none, none] [] (rm m) := by
  refine T_aload_n (pc := 3286) (i := 1) dL_law__3286 rfl rfl ?_
  refine R_callVm0 (pc := 3287) (As := []) (rest := []) (Or.inl lk_L_297) mk_X11_image (k_image hc) kc_0 ⟨by decide, rfl⟩ lc_0 dL_law__3287 rfl rfl (Nat.le_of_ble_eq_true rfl) (by omega) rfl (by omega) (by omega) (fun m1 h1 => ?_)
  have hm1 := h1.mall hm
  refine T_aload_n (pc := 3290) (i := 2) dL_law__3290 rfl rfl ?_
  refine R_callVm0 (pc := 3291) (As := []) (rest := []) (Or.inl lk_L_300) mk_X12_image (m_imageA hm1) kc_572 ⟨by decide, rfl⟩ lc_572 dL_law__3291 rfl rfl (Nat.le_of_ble_eq_true rfl) (by omega) rfl (by omega) (by omega) (fun m2 h2 => ?_)
  have hc2 := h2.call h1.1
  refine T_goto (pc := 3294) (tgt := 3335) dL_law__3294 (by decide) ?_
  exact nx _ _ m2 _ hc2 h2.1 (by omega) (by omega)
theorem z_back (hD : 40 ≤ D) (hi : i + 7 ≤ gsl γ) (h3 : gsl γ ≤ 3584) (hk : kc + 5 ≤ mc) (hks : ks + 30 ≤ ms) (hc : CAll m s) (hm : MAll m s) (nx : LawNext γ D mc ms Q i kc ks) : T γ D mc ms M_L_law_ Q kc ks 3297 [some (.ref XB), some (.ref 0), some (.ref 572), some (.ref 594), some (.int (nI i)), none, none, none] [] (rm m) := by
  refine T_aload_n (pc := 3297) (i := 1) dL_law__3297 rfl rfl ?_
  refine R_callVm1 (pc := 3298) (As := []) (rest := []) (Or.inl lk_L_301) mk_X11_back (k_back hc) kc_0 ⟨by decide, rfl⟩ lc_0 dL_law__3298 rfl rfl (Nat.le_of_ble_eq_true rfl) (by omega) rfl (by omega) (by omega) (fun m1 h1 => ?_)
  have hm1 := h1.mall hm
  refine T_aload_n (pc := 3301) (i := 2) dL_law__3301 rfl rfl ?_
  refine R_callVm1 (pc := 3302) (As := []) (rest := [.int (bI s.2.2.2.1.isSome)]) (Or.inl lk_L_304) mk_X12_back (m_backA hm1) kc_572 ⟨by decide, rfl⟩ lc_572 dL_law__3302 rfl rfl (Nat.le_of_ble_eq_true rfl) (by omega) rfl (by omega) (by omega) (fun m2 h2 => ?_)
  have hc2 := h2.call h1.1
  show T _ _ _ _ _ _ _ _ 3305 [some (.ref XB), some (.ref 0), some (.ref 572), some (.ref 594), some (.int (nI i)), none, none, none] [.int (bI s.2.2.2.1.isSome), .int (bI s.2.2.2.1.isSome)] (rm m2)
  refine T_icmp_eq (pc := 3305) (tgt := 3335) dL_law__3305 (by decide) (fun g1 => ?_) (fun g1 => ?_)
  · exact nx _ _ m2 _ hc2 h2.1 (by omega) (by omega)
  · exact absurd rfl g1
theorem z_count (hD : 40 ≤ D) (hi : i + 7 ≤ gsl γ) (h3 : gsl γ ≤ 3584) (hk : kc + 5 ≤ mc) (hks : ks + 30 ≤ ms) (hc : CAll m s) (hm : MAll m s) (nx : LawNext γ D mc ms Q i kc ks) : T γ D mc ms M_L_law_ Q kc ks 3310 [some (.ref XB), some (.ref 0), some (.ref 572), some (.ref 594), some (.int (nI i)), none, none, none] [] (rm m) := by
  refine T_aload_n (pc := 3310) (i := 1) dL_law__3310 rfl rfl ?_
  refine T_aload_n (pc := 3311) (i := 0) dL_law__3311 rfl rfl ?_
  refine T_iload (pc := 3312) (i := 4) dL_law__3312 rfl ?_
  refine T_iconst (pc := 3314) (v := nI 1) dL_law__3314 (by decide) ?_
  refine R_iadd (pc := 3315) dL_law__3315 ?_
  refine T_sld (pc := 3316) (i := (i + 1)) (by omega) (by omega) dL_law__3316 ?_
  refine R_callVm1 (pc := 3317) (As := [.int ((gsx γ (i + 1)))]) (rest := []) (Or.inl lk_L_305) mk_X11_count (k_count hc) kc_0 ⟨by decide, rfl⟩ lc_0 dL_law__3317 rfl rfl (Nat.le_of_ble_eq_true rfl) (by omega) rfl (by omega) (by omega) (fun m1 h1 => ?_)
  have hm1 := h1.mall hm
  refine T_aload_n (pc := 3320) (i := 2) dL_law__3320 rfl rfl ?_
  refine T_aload_n (pc := 3321) (i := 0) dL_law__3321 rfl rfl ?_
  refine T_iload (pc := 3322) (i := 4) dL_law__3322 rfl ?_
  refine T_iconst (pc := 3324) (v := nI 1) dL_law__3324 (by decide) ?_
  refine R_iadd (pc := 3325) dL_law__3325 ?_
  refine T_sld (pc := 3326) (i := (i + 1)) (by omega) (by omega) dL_law__3326 ?_
  refine R_callVm1 (pc := 3327) (As := [.int ((gsx γ (i + 1)))]) (rest := [.int ((cntV s.1 (s.2.1.1, s.2.1.2.flatMap clS) s.2.2.1 (gsx γ (i + 1))))]) (Or.inl lk_L_308) mk_X12_count (q_count hm1) kc_572 ⟨by decide, rfl⟩ lc_572 dL_law__3327 rfl rfl (Nat.le_of_ble_eq_true rfl) (by omega) rfl (by omega) (by omega) (fun m2 h2 => ?_)
  have hc2 := h2.call h1.1
  show T _ _ _ _ _ _ _ _ 3330 [some (.ref XB), some (.ref 0), some (.ref 572), some (.ref 594), some (.int (nI i)), none, none, none] [.int ((cntV s.1 (s.2.1.1, s.2.1.2.flatMap clS) s.2.2.1 (gsx γ (i + 1)))), .int ((cntV s.1 (s.2.1.1, s.2.1.2.flatMap clS) s.2.2.1 (gsx γ (i + 1))))] (rm m2)
  refine T_icmp_eq (pc := 3330) (tgt := 3335) dL_law__3330 (by decide) (fun g1 => ?_) (fun g1 => ?_)
  · exact nx _ _ m2 _ hc2 h2.1 (by omega) (by omega)
  · exact absurd rfl g1
end LC

