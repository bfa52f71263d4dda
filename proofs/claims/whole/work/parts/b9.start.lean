/-! the law: how it begins, its rounds -/
set_option maxRecDepth 10000 in
theorem nw_L_8 : (Cond.classLink RL 8 (cl3 11).1 ∈ tbw ∧ Cond.instantiable (cl3 11).1 (cl3 11).2.2 ∈ tbw) ∧ Cond.initialized (cl3 11).1 ∈ tbw := ⟨⟨in_tb (in_t1 (List.mem_of_getElem? (i := 32) rfl)) rfl, in_tb (in_t1 (List.mem_of_getElem? (i := 33) rfl)) rfl⟩, in_tb (in_t1 (List.mem_of_getElem? (i := 1) rfl)) rfl⟩
set_option maxRecDepth 10000 in
theorem nw_L_138 : (Cond.classLink RL 138 (cl3 12).1 ∈ tbw ∧ Cond.instantiable (cl3 12).1 (cl3 12).2.2 ∈ tbw) ∧ Cond.initialized (cl3 12).1 ∈ tbw := ⟨⟨in_tb (in_t7 (List.mem_of_getElem? (i := 73) rfl)) rfl, in_tb (in_t7 (List.mem_of_getElem? (i := 74) rfl)) rfl⟩, in_tb (in_t1 (List.mem_of_getElem? (i := 14) rfl)) rfl⟩
def X00 : Td := ([], [], [], List.replicate 8 1, (0, 0, 0), (0, 1))
def s00 : Sta := (X00, (-1, []), [], none, [], -1)
theorem wE8 : ∀ i, i < 8 → (List.replicate 8 1).getD i 0 = 1 := by decide
theorem c_all0 {m : SM2} (h0 : m.1 0 = zi) (h1 : m.1 1 = upr (upr zi 2 (-1)) 6 (-1)) (h3 : m.1 3 = upr (upr zi 8 (nI 0)) 11 (nI 1)) (h4 : m.1 4 = zi) (h5 : m.1 59 = upr zi 0 (-1)) (h9 : ∀ j, j < 8 → m.1 12 j = nI 1) : CAll m s00 := by
  have e : ∀ {a : Nat} {f : Nat → Int32}, m.1 a = f → ∀ j, m.1 a j = f j := fun h j => congrFun h j
  have nn : ∀ {P : Prop} {i : Nat}, i < 0 → P := fun h => absurd h (Nat.not_lt_zero _)
  refine ⟨⟨⟨(e h4 0).trans (by decide), Nat.zero_le _, fun i hi => nn hi, fun i hi => nn hi⟩, ⟨(e h3 2).trans (by decide), Nat.zero_le _, fun i hi => nn hi⟩, ⟨(e h3 5).trans (by decide), Nat.zero_le _, fun i hi => nn hi⟩, ⟨rfl, fun i hi => ⟨?_, ?_⟩⟩, ⟨Nat.zero_le _, Nat.zero_lt_succ _, Nat.zero_le _⟩, (e h3 7).trans (by decide), (e h3 8).trans (by decide), (e h3 9).trans (by decide), (e h3 10).trans (by decide), (e h3 11).trans (by decide)⟩, ⟨⟨(e h5 0).trans (by decide), (e h5 1).trans (by decide), Nat.zero_le _, fun i hi => nn hi⟩, fun ln h => nomatch h⟩, ⟨0, Nat.zero_lt_succ _, (e h0 10).trans (by decide), (e h0 9).trans (by decide), Nat.zero_le _, fun j hj => nn hj⟩, ⟨(e h0 7).trans (by decide), fun q h => nomatch h⟩, ⟨⟨(e h1 1).trans (by decide), Nat.zero_le _⟩, fun i hi => nn hi⟩, (e h1 6).trans (by decide)⟩
  · show (List.replicate 8 1).getD i 0 ≤ 99
    rw [wE8 i hi]
    decide
  · show m.1 12 i = nI ((List.replicate 8 1).getD i 0)
    rw [wE8 i hi]
    exact h9 i hi
abbrev on9 : Nat → Int32 := upr (upr (upr (upr (upr (upr (upr (upr (upr (zi) 8 (nI 1)) 9 (nI 1)) 10 (nI 1)) 11 (nI 1)) 12 (nI 1)) 13 (nI 1)) 14 (nI 1)) 15 (nI 1)) 16 (nI 1)
theorem on9_w : ∀ i, i < 8 → on9 (9 + i) = nI 1 := by decide
theorem m_all0 {m : SM2} (h0 : m.1 572 = upr zi 13 (-1)) (h1 : m.1 573 = on9) : MAll m s00 := by
  have e : ∀ {a : Nat} {f : Nat → Int32}, m.1 a = f → ∀ j, m.1 a j = f j := fun h j => congrFun h j
  have nn : ∀ {P : Prop} {i : Nat}, i < 0 → P := fun h => absurd h (Nat.not_lt_zero _)
  refine ⟨⟨⟨⟨(e h1 0).trans (by decide), Nat.zero_le _⟩, fun i hi => nn hi, fun i hi => nn hi⟩, ⟨⟨(e h1 1).trans (by decide), Nat.zero_le _⟩, fun i hi => nn hi⟩, ⟨⟨(e h1 2).trans (by decide), Nat.zero_le _⟩, fun i hi => nn hi⟩, ⟨rfl, fun i hi => ⟨?_, ?_⟩⟩, ⟨Nat.zero_le _, Nat.zero_lt_succ _, Nat.zero_le _⟩, (e h1 3).trans (by decide), (e h1 5).trans (by decide), (e h1 6).trans (by decide), (e h1 7).trans (by decide), (e h1 8).trans (by decide)⟩, ⟨⟨Or.inl ⟨rfl, (e h1 4).trans (by decide), rfl⟩, ⟨Nat.zero_le _, Nat.zero_le _⟩, fun n hn => nn hn, fun i hi => nn hi⟩, fun ln h => nomatch h⟩, ⟨⟨(e h0 6).trans (by decide), Nat.zero_le _⟩, fun j hj => nn hj⟩, ⟨(e h0 5).trans (by decide), fun q h => nomatch h⟩, ⟨⟨(e h0 8).trans (by decide), Nat.zero_le _⟩, fun i hi => nn hi⟩, (e h0 13).trans (by decide)⟩
  · show (List.replicate 8 1).getD i 0 ≤ 99
    rw [wE8 i hi]
    decide
  · show m.1 573 (9 + i) = nI ((List.replicate 8 1).getD i 0)
    rw [wE8 i hi]
    exact (e h1 (9 + i)).trans (on9_w i hi)
theorem and63 (a : Int32) : ∃ n, n < 64 ∧ a &&& 63 = nI n := by
  refine ⟨(a &&& 63).toBitVec.toNat, ?_, ?_⟩
  · show (a.toBitVec &&& (63 : Int32).toBitVec).toNat < 64
    rw [BitVec.toNat_and]
    exact Nat.lt_of_le_of_lt Nat.and_le_right (by decide)
  · show a &&& 63 = Int32.ofNat (a &&& 63).toBitVec.toNat
    apply Int32.toBitVec_inj.mp
    show (a &&& 63).toBitVec = BitVec.ofNat 32 (a &&& 63).toBitVec.toNat
    rw [BitVec.ofNat_toNat, BitVec.setWidth_eq]
theorem far_lt {g i : Nat} (hg : g ≤ 3584) (hi : i ≤ g) (h : nI g - nI 7 < nI i) : ¬ i + 7 ≤ g := fun h9 => by
  have e : nI g - nI 7 = nI (g - 7) := by
    rw [show g = (g - 7) + 7 by omega, ← nI_add]
    simp
  rw [e, nI_ltI (by omega) (by omega)] at h
  omega
theorem far_ge {g i : Nat} (hg : g ≤ 3584) (hi : i ≤ g) (h : ¬ nI g - nI 7 < nI i) : i + 7 ≤ g := by
  by_cases h9 : 7 ≤ g
  · have e : nI g - nI 7 = nI (g - 7) := by
      rw [show g = (g - 7) + 7 by omega, ← nI_add]
      simp
    rw [e, nI_ltI (by omega) (by omega)] at h
    omega
  · exact absurd ((by decide : ∀ g, g < 7 → ∀ i, i < 7 → nI g - nI 7 < nI i) g (by omega) i (by omega)) h
section LW9
variable {γ : Ga} {D mc ms : Nat}
def Q19 : Out → SMem → Prop := fun o _ => o = .inl (some (.int 1))
theorem l_case (hD : 40 ≤ D) (h3 : gsl γ ≤ 3584) {i kc ks : Nat} {m : SM2} {s : Sta} (hi : i + 7 ≤ gsl γ) (hk : kc + 5 ≤ mc) (hks : ks + 30 ≤ ms) (hc : CAll m s) (hm : MAll m s) (nx : LawNext γ D mc ms Q19 i kc ks) {n : Nat} (hn : n < 64) : T γ D mc ms M_L_law_ Q19 kc ks 40 [some (.ref XB), some (.ref 0), some (.ref 572), some (.ref 594), some (.int (nI i)), none, none, none] [.int (nI n)] (rm m) := by
  by_cases h44 : n < 44
  · match n, h44 with
    | 0, _ => exact T_tableIn (pc := 40) (off := 192) (tgt := 232) dL_law__40 (by decide) (by decide) rfl (by decide) (z_feed hD hi h3 hk hks hc hm nx)
    | 1, _ => exact T_tableIn (pc := 40) (off := 265) (tgt := 305) dL_law__40 (by decide) (by decide) rfl (by decide) (z_end hD hi h3 hk hks hc hm nx)
    | 2, _ => exact T_tableIn (pc := 40) (off := 290) (tgt := 330) dL_law__40 (by decide) (by decide) rfl (by decide) (z_valley hD hi h3 hk hks hc hm nx)
    | 3, _ => exact T_tableIn (pc := 40) (off := 334) (tgt := 374) dL_law__40 (by decide) (by decide) rfl (by decide) (z_law hD hi h3 hk hks hc hm nx)
    | 4, _ => exact T_tableIn (pc := 40) (off := 378) (tgt := 418) dL_law__40 (by decide) (by decide) rfl (by decide) (z_fault hD hi h3 hk hks hc hm nx)
    | 5, _ => exact T_tableIn (pc := 40) (off := 391) (tgt := 431) dL_law__40 (by decide) (by decide) rfl (by decide) (z_rule hD hi h3 hk hks hc hm nx)
    | 6, _ => exact T_tableIn (pc := 40) (off := 474) (tgt := 514) dL_law__40 (by decide) (by decide) rfl (by decide) (z_field hD hi h3 hk hks hc hm nx)
    | 7, _ => exact T_tableIn (pc := 40) (off := 529) (tgt := 569) dL_law__40 (by decide) (by decide) rfl (by decide) (z_seen hD hi h3 hk hks hc hm nx)
    | 8, _ => exact T_tableIn (pc := 40) (off := 612) (tgt := 652) dL_law__40 (by decide) (by decide) rfl (by decide) (z_beast hD hi h3 hk hks hc hm nx)
    | 9, _ => exact T_tableIn (pc := 40) (off := 712) (tgt := 752) dL_law__40 (by decide) (by decide) rfl (by decide) (z_steps hD hi h3 hk hks hc hm nx)
    | 10, _ => exact T_tableIn (pc := 40) (off := 768) (tgt := 808) dL_law__40 (by decide) (by decide) rfl (by decide) (z_maker hD hi h3 hk hks hc hm nx)
    | 11, _ => exact T_tableIn (pc := 40) (off := 848) (tgt := 888) dL_law__40 (by decide) (by decide) rfl (by decide) (z_fits hD hi h3 hk hks hc hm nx)
    | 12, _ => exact T_tableIn (pc := 40) (off := 967) (tgt := 1007) dL_law__40 (by decide) (by decide) rfl (by decide) (z_use hD hi h3 hk hks hc hm nx)
    | 13, _ => exact T_tableIn (pc := 40) (off := 1046) (tgt := 1086) dL_law__40 (by decide) (by decide) rfl (by decide) (z_run hD hi h3 hk hks hc hm nx)
    | 14, _ => exact T_tableIn (pc := 40) (off := 1114) (tgt := 1154) dL_law__40 (by decide) (by decide) rfl (by decide) (z_put hD hi h3 hk hks hc hm nx)
    | 15, _ => exact T_tableIn (pc := 40) (off := 1213) (tgt := 1253) dL_law__40 (by decide) (by decide) rfl (by decide) (z_add hD hi h3 hk hks hc hm nx)
    | 16, _ => exact T_tableIn (pc := 40) (off := 1345) (tgt := 1385) dL_law__40 (by decide) (by decide) rfl (by decide) (z_drop hD hi h3 hk hks hc hm nx)
    | 17, _ => exact T_tableIn (pc := 40) (off := 1401) (tgt := 1441) dL_law__40 (by decide) (by decide) rfl (by decide) (z_years hD hi h3 hk hks hc hm nx)
    | 18, _ => exact T_tableIn (pc := 40) (off := 1469) (tgt := 1509) dL_law__40 (by decide) (by decide) rfl (by decide) (z_settles hD hi h3 hk hks hc hm nx)
    | 19, _ => exact T_tableIn (pc := 40) (off := 1596) (tgt := 1636) dL_law__40 (by decide) (by decide) rfl (by decide) (z_again hD hi h3 hk hks hc hm nx)
    | 20, _ => exact T_tableIn (pc := 40) (off := 1712) (tgt := 1752) dL_law__40 (by decide) (by decide) rfl (by decide) (z_alike hD hi h3 hk hks hc hm nx)
    | 21, _ => exact T_tableIn (pc := 40) (off := 1851) (tgt := 1891) dL_law__40 (by decide) (by decide) rfl (by decide) (z_becomes hD hi h3 hk hks hc hm nx)
    | 22, _ => exact T_tableIn (pc := 40) (off := 1962) (tgt := 2002) dL_law__40 (by decide) (by decide) rfl (by decide) (z_fewest hD hi h3 hk hks hc hm nx)
    | 23, _ => exact T_tableIn (pc := 40) (off := 2094) (tgt := 2134) dL_law__40 (by decide) (by decide) rfl (by decide) (z_meets hD hi h3 hk hks hc hm nx)
    | 24, _ => exact T_tableIn (pc := 40) (off := 2267) (tgt := 2307) dL_law__40 (by decide) (by decide) rfl (by decide) (z_overlaps hD hi h3 hk hks hc hm nx)
    | 25, _ => exact T_tableIn (pc := 40) (off := 2322) (tgt := 2362) dL_law__40 (by decide) (by decide) rfl (by decide) (z_complete hD hi h3 hk hks hc hm nx)
    | 26, _ => exact T_tableIn (pc := 40) (off := 2366) (tgt := 2406) dL_law__40 (by decide) (by decide) rfl (by decide) (z_never hD hi h3 hk hks hc hm nx)
    | 27, _ => exact T_tableIn (pc := 40) (off := 2510) (tgt := 2550) dL_law__40 (by decide) (by decide) rfl (by decide) (z_falls hD hi h3 hk hks hc hm nx)
    | 28, _ => exact T_tableIn (pc := 40) (off := 2578) (tgt := 2618) dL_law__40 (by decide) (by decide) rfl (by decide) (z_light hD hi h3 hk hks hc hm nx)
    | 29, _ => exact T_tableIn (pc := 40) (off := 2666) (tgt := 2706) dL_law__40 (by decide) (by decide) rfl (by decide) (z_loss hD hi h3 hk hks hc hm nx)
    | 30, _ => exact T_tableIn (pc := 40) (off := 2722) (tgt := 2762) dL_law__40 (by decide) (by decide) rfl (by decide) (z_endless hD hi h3 hk hks hc hm nx)
    | 31, _ => exact T_tableIn (pc := 40) (off := 2736) (tgt := 2776) dL_law__40 (by decide) (by decide) rfl (by decide) (z_reckons hD hi h3 hk hks hc hm nx)
    | 32, _ => exact T_tableIn (pc := 40) (off := 2803) (tgt := 2843) dL_law__40 (by decide) (by decide) rfl (by decide) (z_dropped hD hi h3 hk hks hc hm nx)
    | 33, _ => exact T_tableIn (pc := 40) (off := 2828) (tgt := 2868) dL_law__40 (by decide) (by decide) rfl (by decide) (z_explained hD hi h3 hk hks hc hm nx)
    | 34, _ => exact T_tableIn (pc := 40) (off := 2884) (tgt := 2924) dL_law__40 (by decide) (by decide) rfl (by decide) (z_telling hD hi h3 hk hks hc hm nx)
    | 35, _ => exact T_tableIn (pc := 40) (off := 2897) (tgt := 2937) dL_law__40 (by decide) (by decide) rfl (by decide) (z_guessed hD hi h3 hk hks hc hm nx)
    | 36, _ => exact T_tableIn (pc := 40) (off := 2952) (tgt := 2992) dL_law__40 (by decide) (by decide) rfl (by decide) (z_drovers hD hi h3 hk hks hc hm nx)
    | 37, _ => exact T_tableIn (pc := 40) (off := 3052) (tgt := 3092) dL_law__40 (by decide) (by decide) rfl (by decide) (z_best hD hi h3 hk hks hc hm nx)
    | 38, _ => exact T_tableIn (pc := 40) (off := 3152) (tgt := 3192) dL_law__40 (by decide) (by decide) rfl (by decide) (z_sorts hD hi h3 hk hks hc hm nx)
    | 39, _ => exact T_tableIn (pc := 40) (off := 3208) (tgt := 3248) dL_law__40 (by decide) (by decide) rfl (by decide) (z_seed hD hi h3 hk hks hc hm nx)
    | 40, _ => exact T_tableIn (pc := 40) (off := 3233) (tgt := 3273) dL_law__40 (by decide) (by decide) rfl (by decide) (z_undo hD hi h3 hk hks hc hm nx)
    | 41, _ => exact T_tableIn (pc := 40) (off := 3246) (tgt := 3286) dL_law__40 (by decide) (by decide) rfl (by decide) (z_image hD hi h3 hk hks hc hm nx)
    | 42, _ => exact T_tableIn (pc := 40) (off := 3257) (tgt := 3297) dL_law__40 (by decide) (by decide) rfl (by decide) (z_back hD hi h3 hk hks hc hm nx)
    | 43, _ => exact T_tableIn (pc := 40) (off := 3270) (tgt := 3310) dL_law__40 (by decide) (by decide) rfl (by decide) (z_count hD hi h3 hk hks hc hm nx)
    | q + 44, h => exact absurd h (by omega)
  · refine T_tableOut (pc := 40) (tgt := 3335) dL_law__40 (Or.inr ?_) (by decide) (nx kc ks m s hc hm (by omega) (by omega))
    rw [nI_toInt (by omega)]
    omega
theorem l_loop (hD : 40 ≤ D) (h3 : gsl γ ≤ 3584) : ∀ (f i kc ks : Nat) (m : SM2) (s : Sta), gsl γ ≤ i + 7 * f + 6 → i ≤ gsl γ → kc + 5 * f ≤ mc → ks + 30 * f ≤ ms → CAll m s → MAll m s → T γ D mc ms M_L_law_ Q19 kc ks 23 [some (.ref XB), some (.ref 0), some (.ref 572), some (.ref 594), some (.int (nI i)), none, none, none] [] (rm m) := by
  intro f
  induction f with
  | zero =>
    intro i kc ks m s hf hi hk hks hc hm
    refine T_iload (pc := 23) (i := 4) dL_law__23 rfl ?_
    refine T_aload_n (pc := 25) (i := 0) dL_law__25 rfl rfl ?_
    refine T_slen (pc := 26) dL_law__26 ?_
    refine T_bipush (pc := 27) (v := nI 7) dL_law__27 (by decide) ?_
    refine T_isub (pc := 29) dL_law__29 ?_
    refine T_icmp_gt (pc := 30) (tgt := 3341) dL_law__30 (by decide) (fun _ => ?_) (fun h => absurd (far_ge h3 hi h) (by omega))
    refine T_iconst (pc := 3341) (v := nI 1) dL_law__3341 (by decide) ?_
    exact T_iret (pc := 3342) (ty := .boolean) dL_law__3342 rfl (by decide) (by omega) (by omega) rfl
  | succ f ih =>
    intro i kc ks m s hf hi hk hks hc hm
    refine T_iload (pc := 23) (i := 4) dL_law__23 rfl ?_
    refine T_aload_n (pc := 25) (i := 0) dL_law__25 rfl rfl ?_
    refine T_slen (pc := 26) dL_law__26 ?_
    refine T_bipush (pc := 27) (v := nI 7) dL_law__27 (by decide) ?_
    refine T_isub (pc := 29) dL_law__29 ?_
    refine T_icmp_gt (pc := 30) (tgt := 3341) dL_law__30 (by decide) (fun _ => ?_) (fun h => ?_)
    · refine T_iconst (pc := 3341) (v := nI 1) dL_law__3341 (by decide) ?_
      exact T_iret (pc := 3342) (ty := .boolean) dL_law__3342 rfl (by decide) (by omega) (by omega) rfl
    · have hi7 := far_ge h3 hi h
      refine T_aload_n (pc := 33) (i := 0) dL_law__33 rfl rfl ?_
      refine T_iload (pc := 34) (i := 4) dL_law__34 rfl ?_
      refine T_sld (pc := 36) (by omega) (by omega) dL_law__36 ?_
      refine T_bipush (pc := 37) (v := 63) dL_law__37 (by decide) ?_
      refine T_iand (pc := 39) dL_law__39 ?_
      obtain ⟨n, hn, e⟩ := and63 (gsx γ i)
      rw [e]
      refine l_case hD h3 hi7 (by omega) (by omega) hc hm (fun kc' ks' m' s' hc' hm' g1 g2 => ?_) hn
      refine T_iinc (pc := 3335) (i := 4) (v := nI (i + 7)) (ls' := [some (.ref XB), some (.ref 0), some (.ref 572), some (.ref 594), some (.int (nI (i + 7))), none, none, none]) dL_law__3335 rfl (by rw [← nI_add]; rfl) rfl ?_
      refine T_goto (pc := 3338) (tgt := 23) dL_law__3338 (by decide) ?_
      exact ih (i + 7) kc' ks' m' s' (by omega) hi7 (by omega) (by omega) hc' hm'
theorem l_boot (h3 : gsl γ ≤ 3584) : T γ 1300 601024 7293034 M_L_law_ Q19 0 0 0 [some (.ref XB), none, none, none, none, none, none, none] [] (0, R0, (fun _ _ => 0), (fun _ _ => 0)) := by
  refine T_new (pc := 0) (c := 11) nw_L_8 (by decide) (by decide) (show 0 < 595 by decide) (Nat.le_of_ble_eq_true rfl) (Nat.le_of_ble_eq_true rfl) dL_law__0 ?_
  refine T_dup (pc := 3) dL_law__3 rfl ?_
  refine T_callI (pc := 4) (b := 0) (As := []) (rest := [.ref 0]) (Or.inl lk_L_137) mk_X11_init rfl (i_X11 rfl (new_rz rfl) (new_iz rfl)) dL_law__4 rfl rfl (Nat.le_of_ble_eq_true rfl) (by decide) rfl (Nat.le_of_ble_eq_true rfl) (Nat.le_of_ble_eq_true rfl) (fun E m' h => by obtain ⟨z, _⟩ := h; cases z) (fun v μ1 h => ?_)
  obtain ⟨h0, n1, -, r1, r2, p0, p1, p3, p4, p5, p9⟩ := h
  cases h0
  have hr1 : ∀ k, μ1.2.1 k = R0 k := fun k => by
    by_cases e : k < 572
    · exact r1 k (Nat.zero_le _) e
    · exact (r2 k (by omega)).trans (new_r (μ := (0, R0, (fun _ _ => 0), (fun _ _ => 0))) (show k ≠ 0 by omega))
  refine T_astore_n (pc := 7) (i := 1) (ls' := [some (.ref XB), some (.ref 0), none, none, none, none, none, none]) dL_law__7 rfl (by decide) rfl ?_
  refine T_new (pc := 8) (c := 12) nw_L_138 (by decide) (by rw [n1]; decide) (by rw [n1]; show 572 < 595; decide) (Nat.le_of_ble_eq_true rfl) (Nat.le_of_ble_eq_true rfl) dL_law__8 ?_
  rw [n1]
  refine T_dup (pc := 11) dL_law__11 rfl ?_
  refine T_callI (pc := 12) (b := 572) (As := []) (rest := [.ref 572]) (Or.inl lk_L_140) mk_X12_init rfl (i_X12 (by show μ1.1 + 1 = _; rw [n1]) (new_rz n1) (new_iz n1)) dL_law__12 rfl rfl (Nat.le_of_ble_eq_true rfl) (by decide) rfl (Nat.le_of_ble_eq_true rfl) (Nat.le_of_ble_eq_true rfl) (fun E m' h => by obtain ⟨z, _⟩ := h; cases z) (fun v μ2 h => ?_)
  obtain ⟨h0, n2, l2, r3, r4, q0, q1⟩ := h
  cases h0
  have lo : ∀ k, k < 572 → μ2.2.2.1 k = μ1.2.2.1 k := fun k hk => (l2 k hk).2.trans (new_i (by omega))
  have hr2 : ∀ k, μ2.2.1 k = R0 k := fun k => by
    by_cases e : k < 572
    · exact ((l2 k e).1.trans (new_r (by omega))).trans (hr1 k)
    · by_cases e2 : k < 594
      · exact r3 k (by omega) e2
      · exact ((r4 k (by omega)).trans (new_r (by omega))).trans (hr1 k)
  refine T_astore_n (pc := 15) (i := 2) (ls' := [some (.ref XB), some (.ref 0), some (.ref 572), none, none, none, none, none]) dL_law__15 rfl (by decide) rfl ?_
  refine T_iconst (pc := 16) (v := nI 1) dL_law__16 (by decide) ?_
  refine T_newa (pc := 17) (at9 := .long) (t := 2) (N := 1) ac_long (Or.inr (Or.inl ⟨rfl, rfl⟩)) (nI_pos (by omega)) (nI_clamp (by omega)) (by decide) (by rw [n2]; decide) (by rw [n2]; show 594 < 595; decide) (Nat.le_of_ble_eq_true rfl) (Nat.le_of_ble_eq_true rfl) dL_law__17 ?_
  rw [n2]
  have lo3 : ∀ k, k < 594 → (mNew μ2).2.2.1 k = μ2.2.2.1 k := fun k hk => new_i (by omega)
  have e9 : mNew μ2 = rm ((mNew μ2).2.2.1, (mNew μ2).2.2.2) := by
    have e1 : (mNew μ2).1 = N0 := by
      show μ2.1 + 1 = 595
      rw [n2]
    have e2 : (mNew μ2).2.1 = R0 := by
      funext k
      by_cases e : k = μ2.1
      · rw [e]
        refine (zr_eq : zr 0 μ2.2.1 μ2.1 μ2.1 = _).trans ?_
        rw [n2]
        exact (R0_arr (t := 2) (N := 1) (by decide) (by decide)).symm
      · exact (new_r e).trans (hr2 k)
    exact Prod.ext e1 (Prod.ext e2 rfl)
  rw [e9]
  have hc : CAll ((mNew μ2).2.2.1, (mNew μ2).2.2.2) s00 := c_all0 ((lo3 0 (by omega)).trans ((lo 0 (by omega)).trans p0)) ((lo3 1 (by omega)).trans ((lo 1 (by omega)).trans p1)) ((lo3 3 (by omega)).trans ((lo 3 (by omega)).trans p3)) ((lo3 4 (by omega)).trans ((lo 4 (by omega)).trans p4)) ((lo3 59 (by omega)).trans ((lo 59 (by omega)).trans p5)) (fun j hj => (congrFun ((lo3 12 (by omega)).trans (lo 12 (by omega))) j).trans (p9 j hj))
  have hm : MAll ((mNew μ2).2.2.1, (mNew μ2).2.2.2) s00 := m_all0 ((lo3 572 (by omega)).trans q0) ((lo3 573 (by omega)).trans q1)
  generalize ((mNew μ2).2.2.1, (mNew μ2).2.2.2) = m9 at hc hm ⊢
  refine T_astore_n (pc := 19) (i := 3) (ls' := [some (.ref XB), some (.ref 0), some (.ref 572), some (.ref 594), none, none, none, none]) dL_law__19 rfl (by decide) rfl ?_
  refine T_iconst (pc := 20) (v := nI 0) dL_law__20 (by decide) ?_
  refine T_istore (pc := 21) (i := 4) (ls' := [some (.ref XB), some (.ref 0), some (.ref 572), some (.ref 594), some (.int (nI 0)), none, none, none]) dL_law__21 (by decide) rfl ?_
  exact T_widen (k' := 1000) (n' := 60000) (Nat.le_of_ble_eq_true rfl) (Nat.le_of_ble_eq_true rfl) (l_loop (by decide) h3 512 0 1000 60000 m9 s00 (by omega) (Nat.zero_le _) (by decide) (by decide) hc hm)
end LW9

