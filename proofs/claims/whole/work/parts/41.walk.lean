/-! parts of memory that stay, told by a set; the walk: what fits -/
def OfS (S : Nat → Prop) (μ m : SM2) : Prop := ∀ k, ¬ S k → m.1 k = μ.1 k ∧ m.2 k = μ.2 k
theorem OfS.refl (S : Nat → Prop) (μ : SM2) : OfS S μ μ := fun _ _ => ⟨rfl, rfl⟩
theorem OfS.trans {S : Nat → Prop} {μ m m' : SM2} (h : OfS S μ m) (g : OfS S m m') : OfS S μ m' := fun k hk => ⟨(g k hk).1.trans (h k hk).1, (g k hk).2.trans (h k hk).2⟩
theorem OfS.mono {S S' : Nat → Prop} {μ m : SM2} (h : OfS S μ m) (g : ∀ k, S k → S' k) : OfS S' μ m := fun k hk => h k (fun z => hk (g k z))
theorem Off.ofs {S : Nat → Prop} {a n : Nat} {μ m : SM2} (h : Off a n μ m) (g : ∀ k, a ≤ k → k < a + n → S k) : OfS S μ m := fun k hk => h k (Classical.byContradiction fun z => hk (g k (by omega) (by omega)))
theorem OfS.i {S : Nat → Prop} {μ m : SM2} (h : OfS S μ m) {k : Nat} (g : ¬ S k) (j : Nat) : m.1 k j = μ.1 k j := congrFun (h k g).1 j
theorem OfS.l {S : Nat → Prop} {μ m : SM2} (h : OfS S μ m) {k : Nat} (g : ¬ S k) (j : Nat) : m.2 k j = μ.2 k j := congrFun (h k g).2 j
theorem OfS.sI {S : Nat → Prop} {k j : Nat} {x : Int32} {μ m : SM2} (h : OfS S μ m) (g : S k) : OfS S μ (wI m k j x) := fun b hb => ⟨(up2_ne (by rintro rfl; exact hb g)).trans (h b hb).1, (h b hb).2⟩
theorem OfS.sL {S : Nat → Prop} {k j : Nat} {x : Int64} {μ m : SM2} (h : OfS S μ m) (g : S k) : OfS S μ (wL m k j x) := fun b hb => ⟨(h b hb).1, (up2_ne (by rintro rfl; exact hb g)).trans (h b hb).2⟩
theorem OfS.sF {S : Nat → Prop} {k c : Nat} {x : Int32} {μ m : SM2} (h : OfS S μ m) (g : S k) : OfS S μ (wF m k c x) := fun b hb => ⟨(show (fun j => if b = k ∧ j < c then x else m.1 b j) = _ from by funext j; rw [if_neg (by rintro ⟨rfl, _⟩; exact hb g), (h b hb).1]), (h b hb).2⟩
theorem OfS.sCI {S : Nat → Prop} {k k' sp dp c : Nat} {μ m : SM2} (h : OfS S μ m) (g : S k) : OfS S μ (wCI m k' k sp dp c) := fun b hb => ⟨(show (fun x => if b = k then _ else _) = _ from by funext x; rw [if_neg (by rintro rfl; exact hb g), (h b hb).1]), (h b hb).2⟩
theorem RulesAt.ofs {S : Nat → Prop} {r : Nat} {R : List Ru} {μ m : SM2} (h : RulesAt μ r R) (g : OfS S μ m) (hr : ∀ k, r ≤ k → k < r + 5 → ¬ S k) : RulesAt m r R :=
  h.same (g.i (hr _ (by omega) (by omega)) 0) (g.l (hr _ (by omega) (by omega))) (g.l (hr _ (by omega) (by omega))) (g.i (hr _ (by omega) (by omega))) (g.i (hr _ (by omega) (by omega)))
theorem FieldAt.ofs {S : Nat → Prop} {q : Nat} {f : Fld} {μ m : SM2} (h : FieldAt μ q f) (g : OfS S μ m) (hr : ∀ k, q ≤ k → k < q + 3 → ¬ S k) : FieldAt m q f :=
  h.same (g.l (hr _ (by omega) (by omega)) 0) (g.i (hr _ (by omega) (by omega)) 1) (g.i (hr _ (by omega) (by omega))) (g.i (hr _ (by omega) (by omega)))
theorem FieldsAt.ofs {S : Nat → Prop} {b : Nat} {F : List Fld} {μ m : SM2} (h : FieldsAt μ b F) (g : OfS S μ m) (hr : ∀ k, b ≤ k → k < b + 28 → ¬ S k) : FieldsAt m b F :=
  ⟨(g.i (hr _ (by omega) (by omega)) 2).trans h.1, h.2.1, fun i hi => (h.2.2 i hi).ofs g (fun k h1 h2 => hr k (by omega) (by have := h.2.1; omega))⟩
theorem SeenAt.ofs {S : Nat → Prop} {b : Nat} {F : List (List Nat × List Nat)} {μ m : SM2} (h : SeenAt μ b F) (g : OfS S μ m) (hr : ∀ k, b ≤ k → k < b + 28 → ¬ S k) : SeenAt m b F :=
  ⟨(g.i (hr _ (by omega) (by omega)) 5).trans h.1, h.2.1, fun i hi => ⟨(h.2.2 i hi).1, (g.l (hr _ (by omega) (by omega)) i).trans (h.2.2 i hi).2.1, (g.l (hr _ (by omega) (by omega)) i).trans (h.2.2 i hi).2.2⟩⟩
theorem WeightsAt.ofs {S : Nat → Prop} {b : Nat} {F : List Nat} {μ m : SM2} (h : WeightsAt μ b F) (g : OfS S μ m) (hr : ∀ k, b ≤ k → k < b + 28 → ¬ S k) : WeightsAt m b F :=
  ⟨h.1, fun i hi => ⟨(h.2 i hi).1, (g.i (hr _ (by omega) (by omega)) i).trans (h.2 i hi).2⟩⟩
theorem RestAt.ofs {S : Nat → Prop} {b : Nat} {t : Td} {μ m : SM2} (h : RestAt μ b t) (g : OfS S μ m) (hr : ¬ S b) : RestAt m b t :=
  ⟨h.1, (g.i hr 7).trans h.2.1, (g.i hr 8).trans h.2.2.1, (g.i hr 9).trans h.2.2.2.1, (g.i hr 10).trans h.2.2.2.2.1, (g.i hr 11).trans h.2.2.2.2.2⟩
theorem ToldAt.ofs {S : Nat → Prop} {b : Nat} {t : Td} {μ m : SM2} (h : ToldAt μ b t) (g : OfS S μ m) (hr : ∀ k, b ≤ k → k < b + 28 → ¬ S k) : ToldAt m b t :=
  ⟨h.1.ofs g (fun k h1 h2 => hr k (by omega) (by omega)), h.2.1.ofs g hr, h.2.2.1.ofs g hr, h.2.2.2.1.ofs g hr, h.2.2.2.2.ofs g (hr b (by omega) (by omega))⟩
theorem LawAt.ofs {S : Nat → Prop} {b : Nat} {L : Lw} {μ m : SM2} (h : LawAt μ b L) (g : OfS S μ m) (h0 : ¬ S b) (h1 : ¬ S (b + 1)) : LawAt m b L :=
  ⟨(g.i h0 0).trans h.1, (g.i h0 1).trans h.2.1, h.2.2.1, fun i hi => (g.i h1 i).trans (h.2.2.2 i hi)⟩
theorem ActsAt.ofs {S : Nat → Prop} {U : List Td} {μ m : SM2} (h : ActsAt μ U) (g : OfS S μ m) (hr : ∀ k, k = 0 ∨ (124 ≤ k ∧ k < 572) → ¬ S k) : ActsAt m U := by
  obtain ⟨nx, hn, e10, e9, hl, hu⟩ := h
  exact ⟨nx, hn, (g.i (hr 0 (by omega)) 10).trans e10, (g.i (hr 0 (by omega)) 9).trans e9, hl, fun j hj => (hu j hj).ofs g (fun k h1 h2 => hr k (by omega))⟩
/-! one bit of an int -/
theorem bt_one : ∀ p, p < 32 → ∀ i, i < 32 → bt (nI (1 * 2 ^ p)) i = decide (i = p) := by decide +kernel
theorem bt_z {x : Int32} {p : Nat} (hp : p < 32) : x &&& nI (1 * 2 ^ p) = 0 ↔ bt x p = false := by
  constructor
  · intro h
    have h1 := b_and x (nI (1 * 2 ^ p)) p
    rw [h, b_0, bt_one p hp p hp, decide_eq_true rfl, Bool.and_true] at h1
    exact h1.symm
  · intro h
    refine b_ext (fun i hi => ?_)
    rw [b_and, b_0, bt_one p hp i hi]
    by_cases e : i = p
    · rw [e, h]; rfl
    · rw [decide_eq_false e, Bool.and_false]
theorem bt_set {x : Int32} {p q : Nat} (hp : p < 32) (hq : q < 32) : bt (x ||| nI (1 * 2 ^ p)) q = (bt x q || decide (q = p)) := by rw [b_or, bt_one p hp q hq]
theorem bt_clr {x : Int32} {p q : Nat} (hp : p < 32) (hq : q < 32) : bt (x &&& (nI (1 * 2 ^ p) ^^^ (-1))) q = (bt x q && !decide (q = p)) := by
  rw [b_and, b_xor, bt_one p hp q hq, b_m1 q hq, Bool.xor_true]
theorem tb_one (x r : Nat) : x / 2 ^ r &&& 1 = if x.testBit r = true then 1 else 0 := by
  rw [Nat.and_one_is_mod, Nat.testBit_eq_decide_div_mod_eq]
  by_cases h : x / 2 ^ r % 2 = 1
  · rw [decide_eq_true h, if_pos rfl, h]
  · rw [decide_eq_false h, if_neg Bool.false_ne_true]
    omega
/-! what THE LAW bars; the walk -/
/-- WAY, RULES left out as bits, what is barred (RULE, PLACE, number of BEASTS) -/
abbrev Wk : Type := Nat × Nat × (Nat → Nat → Nat → Bool)
def brQ (R : List Ru) (LL : List (List Int32)) (y : Int32) : Nat → Nat → Nat → Bool := fun r p n => brB (nI r, nI p, nI n, nI (n - p - (rAt R r).1.length), y) LL
def CacheAt (μ : SM2) (R : List Ru) (B : Nat → Nat → Nat → Bool) : Prop := ∀ r p n, r < R.length → p < n → n ≤ 20 → bt (μ.1 101 (r * 21 + n)) p = true → bt (μ.1 102 (r * 21 + n)) p = B r p n
def WalkAt (μ : SM2) (R : List Ru) (LL : List (List Int32)) (w : Wk) : Prop := (μ.1 97 2 = nI w.1 ∧ w.1 < 4) ∧ (μ.1 97 5 = nI w.2.1 ∧ w.2.1 < 2 ^ 12) ∧ ((μ.1 97 4 = 0 ∧ ∀ r p n, w.2.2 r p n = false) ∨ (μ.1 97 4 = 1 ∧ (∃ y, μ.1 97 3 = y ∧ w.2.2 = brQ R LL y) ∧ CacheAt μ R w.2.2))
def LawL (μ : SM2) (LL : List (List Int32)) : Prop := ∃ L0, LawAt μ 59 (L0, LL.flatMap clS) ∧ ∀ ln ∈ LL, wfl ln
def EnvW (μ : SM2) (R : List Ru) (LL : List (List Int32)) (w : Wk) : Prop := RulesAt μ 4 R ∧ LawL μ LL ∧ WalkAt μ R LL w
/-- a RULE fits a MEADOW at a PLACE -/
def fitB (R : List Ru) (w : Wk) (l : List Nat) (r p : Nat) : Bool := stB l p (rAt R r).1 && (!w.2.1.testBit r && (decide (l.length - (rAt R r).1.length + (rAt R r).2.length ≤ 20) && !w.2.2 r p l.length))
def Sm (k : Nat) : Prop := k = 61 ∨ k = 101 ∨ k = 102
def SW (k : Nat) : Prop := k = 61 ∨ (97 ≤ k ∧ k ≤ 104)
theorem Sm_SW {k : Nat} (h : Sm k) : SW k := by unfold Sm at h; unfold SW; omega
theorem stB_get {l L : List Nat} {p : Nat} (h : stB l p L = true) : p < l.length ∧ L.length ≤ l.length - p ∧ (l.drop p).take L.length = L := by
  unfold stB at h
  simp only [Bool.and_eq_true, decide_eq_true_eq] at h
  exact h
theorem fitB_get {R : List Ru} {w : Wk} {l : List Nat} {r p : Nat} (h : fitB R w l r p = true) : p < l.length ∧ p + (rAt R r).1.length ≤ l.length ∧ l.length - (rAt R r).1.length + (rAt R r).2.length ≤ 20 := by
  unfold fitB at h
  simp only [Bool.and_eq_true, decide_eq_true_eq] at h
  have h1 := stB_get h.1
  exact ⟨h1.1, by omega, h.2.2.1⟩
theorem LawL.ofs {S : Nat → Prop} {LL : List (List Int32)} {μ m : SM2} (h : LawL μ LL) (g : OfS S μ m) (h0 : ¬ S 59) (h1 : ¬ S 60) : LawL m LL := by
  obtain ⟨L0, hL, hw⟩ := h
  exact ⟨L0, hL.ofs g h0 h1, hw⟩
/-- one more is known -/
theorem walk_put {μ m : SM2} {R : List Ru} {LL : List (List Int32)} {w : Wk} {r p n : Nat} {v : Int32} (hR : RulesAt μ 4 R) (hL : LawL μ LL) (w1 : μ.1 97 2 = nI w.1 ∧ w.1 < 4) (w3 : μ.1 97 5 = nI w.2.1 ∧ w.2.1 < 2 ^ 12) (e4 : μ.1 97 4 = 1) {y : Int32} (e3 : μ.1 97 3 = y ∧ w.2.2 = brQ R LL y) (hC : CacheAt μ R w.2.2) (hn : n ≤ 20) (hp : p < n) (g : OfS Sm μ m) (hk : ∀ j, m.1 101 j = if j = r * 21 + n then μ.1 101 j ||| nI (1 * 2 ^ p) else μ.1 101 j) (hb : ∀ j, m.1 102 j = if j = r * 21 + n then v else μ.1 102 j) (hv : bt v p = w.2.2 r p n) (hv2 : ∀ q, q < 32 → q ≠ p → bt v q = bt (μ.1 102 (r * 21 + n)) q) : EnvW m R LL w := by
  refine ⟨hR.ofs g (fun k h1 h2 => by unfold Sm; omega), hL.ofs g (by unfold Sm; omega) (by unfold Sm; omega), ⟨(g.i (by unfold Sm; omega) 2).trans w1.1, w1.2⟩, ⟨(g.i (by unfold Sm; omega) 5).trans w3.1, w3.2⟩, Or.inr ⟨(g.i (by unfold Sm; omega) 4).trans e4, ⟨y, (g.i (by unfold Sm; omega) 3).trans e3.1, e3.2⟩, fun r' p' n' hr' hp' hn' h => ?_⟩⟩
  rw [hk] at h
  rw [hb]
  by_cases e : r' * 21 + n' = r * 21 + n
  · rw [if_pos e, bt_set (by omega) (by omega)] at h
    rw [if_pos e]
    have e1 : r' = r := by omega
    have e2 : n' = n := by omega
    subst e1
    subst e2
    by_cases e5 : p' = p
    · subst e5
      exact hv
    · rw [decide_eq_false e5, Bool.or_false] at h
      rw [hv2 p' (by omega) e5]
      exact hC r' p' n' hr' hp' hn' h
  · rw [if_neg e] at h
    rw [if_neg e]
    exact hC r' p' n' hr' hp' hn' h
section WA
variable {γ : Ga} {μ : SM2}
theorem c_mayUse {R : List Ru} {LL : List (List Int32)} {w : Wk} {l : List Nat} {r p : Nat} (hE : EnvW μ R LL w) (hl : Mw l) (hr : r < R.length) (hp : p < 2 ^ 31) : Ex γ 3 0 0 M_X10_mayUse [.ref 97, .int (nI r), .int (nI p), .long (lN (cd l)), .int (nI l.length)] (rm μ) (Rm (some (.int (bI (fitB R w l r p)))) (fun m => EnvW m R LL w ∧ OfS Sm μ m)) := by
  have hE0 := hE
  obtain ⟨hR, hLL, w1, w3, w5⟩ := hE
  obtain ⟨L0, hL, hwf⟩ := hLL
  have h12 := hR.len
  have hn := hl.1
  have okr := hR.ok r hr
  have row := hR.row r hr
  have hwo := w3.2
  have hr5 := okr.2.2.2.2
  refine Ex.of (by decide +kernel) rfl (Nat.le_of_ble_eq_true rfl) ?_
  show T _ _ _ _ _ _ _ _ _ [some (.ref 97), some (.int (nI r)), some (.int (nI p)), some (.long (lN (cd l))), none, some (.int (nI l.length)), none, none, none, none] [] (rm μ)
  refine T_aload_n (pc := 0) (i := 0) dX10_mayUse_0 rfl rfl ?_
  refine R_getR (pc := 1) (i := 4) fl_X10_33 rfl kc_97 lc_97 rc_97_0 dX10_mayUse_1 ?_
  refine R_getR (pc := 4) (i := 7) fl_X10_71 rfl (kt_rules rules4) (lt_rules rules4) (rt_rules_leftSize rules4) dX10_mayUse_4 ?_
  refine T_iload_n (pc := 7) (i := 1) dX10_mayUse_7 rfl rfl ?_
  refine R_iald (pc := 8) (x := nI ((rAt R r).1.length)) (kt_rules_leftSize rules4) (lt_rules_leftSize rules4) (by omega) (by first | decide | assumption) row.leftSize dX10_mayUse_8 ?_
  refine T_istore (pc := 9) (i := 6) (ls' := [some (.ref 97), some (.int (nI r)), some (.int (nI p)), some (.long (lN (cd l))), none, some (.int (nI l.length)), some (.int (nI ((rAt R r).1.length))), none, none, none]) dX10_mayUse_9 (by decide) rfl ?_
  refine T_lload_n (pc := 11) (i := 3) dX10_mayUse_11 rfl rfl ?_
  refine T_iload (pc := 12) (i := 5) dX10_mayUse_12 rfl ?_
  refine T_iload_n (pc := 14) (i := 2) dX10_mayUse_14 rfl rfl ?_
  refine T_aload_n (pc := 15) (i := 0) dX10_mayUse_15 rfl rfl ?_
  refine R_getR (pc := 16) (i := 4) fl_X10_33 rfl kc_97 lc_97 rc_97_0 dX10_mayUse_16 ?_
  refine R_getR (pc := 19) (i := 5) fl_X10_76 rfl (kt_rules rules4) (lt_rules rules4) (rt_rules_left rules4) dX10_mayUse_19 ?_
  refine T_iload_n (pc := 22) (i := 1) dX10_mayUse_22 rfl rfl ?_
  refine R_lald (pc := 23) (x := lN (cd (rAt R r).1)) (kt_rules_left rules4) (lt_rules_left rules4) (by omega) (by first | decide | assumption) row.left dX10_mayUse_23 ?_
  refine T_iload (pc := 24) (i := 6) dX10_mayUse_24 rfl ?_
  refine R_callS1 (pc := 26) (av := [.long (lN (cd l)), .int (nI l.length), .int (nI p), .long (lN (cd (rAt R r).1)), .int (nI ((rAt R r).1.length))]) (rest := []) (Or.inr lk_X10_80) mk_X11_standsIn (c_standsIn hl okr.1 (by have := okr.2.2.1; omega) hp) dX10_mayUse_26 rfl rfl (Nat.le_of_ble_eq_true rfl) (by decide) rfl (Nat.le_refl _) (Nat.le_refl _) ?_
  refine R_ifb_eq (pc := 29) (tgt := 63) dX10_mayUse_29 (by decide) (fun h1 => ?_) (fun h1 => ?_)
  · skip
    refine T_iconst (pc := 63) (v := nI 0) dX10_mayUse_63 (by decide) ?_
    have hb : fitB R w l r p = false := by unfold fitB; rw [h1]; rfl
    rw [hb]
    exact T_iret (pc := 64) (ty := .boolean) dX10_mayUse_64 rfl (by decide) (Nat.le_refl _) (Nat.le_refl _) ⟨_, rfl, rfl, hE0, OfS.refl _ _⟩
  · skip
    obtain ⟨s1, s2, s3⟩ := stB_get h1
    refine T_aload_n (pc := 32) (i := 0) dX10_mayUse_32 rfl rfl ?_
    refine R_getI (pc := 33) (x := nI w.2.1) fl_X10_52 rfl kc_97 lc_97 w3.1 dX10_mayUse_33 ?_
    refine T_iload_n (pc := 36) (i := 1) dX10_mayUse_36 rfl rfl ?_
    refine R_ishr (pc := 37) ⟨by omega, by omega⟩ dX10_mayUse_37 ?_
    refine T_iconst (pc := 38) (v := nI 1) dX10_mayUse_38 (by decide) ?_
    refine R_iand (pc := 39) dX10_mayUse_39 ?_
    rw [tb_one]
    refine R_if_ne (pc := 40) (tgt := 63) (by split <;> decide) dX10_mayUse_40 (by decide) (fun h2 => ?_) (fun h2 => ?_)
    · skip
      have h2' : w.2.1.testBit r = true := Classical.byContradiction fun z => h2 (if_neg z)
      refine T_iconst (pc := 63) (v := nI 0) dX10_mayUse_63 (by decide) ?_
      have hb : fitB R w l r p = false := by unfold fitB; rw [h1, h2']; rfl
      rw [hb]
      exact T_iret (pc := 64) (ty := .boolean) dX10_mayUse_64 rfl (by decide) (Nat.le_refl _) (Nat.le_refl _) ⟨_, rfl, rfl, hE0, OfS.refl _ _⟩
    · skip
      have h2' : w.2.1.testBit r = false := by
        cases e : w.2.1.testBit r with
        | false => rfl
        | true =>
          rw [e, if_pos rfl] at h2
          cases h2
      refine T_iload (pc := 43) (i := 5) dX10_mayUse_43 rfl ?_
      refine T_iload (pc := 45) (i := 6) dX10_mayUse_45 rfl ?_
      refine R_isub (pc := 47) (by omega) dX10_mayUse_47 ?_
      refine T_aload_n (pc := 48) (i := 0) dX10_mayUse_48 rfl rfl ?_
      refine R_getR (pc := 49) (i := 4) fl_X10_33 rfl kc_97 lc_97 rc_97_0 dX10_mayUse_49 ?_
      refine R_getR (pc := 52) (i := 8) fl_X10_84 rfl (kt_rules rules4) (lt_rules rules4) (rt_rules_rightSize rules4) dX10_mayUse_52 ?_
      refine T_iload_n (pc := 55) (i := 1) dX10_mayUse_55 rfl rfl ?_
      refine R_iald (pc := 56) (x := nI ((rAt R r).2.length)) (kt_rules_rightSize rules4) (lt_rules_rightSize rules4) (by omega) (by first | decide | assumption) row.rightSize dX10_mayUse_56 ?_
      refine R_iadd (pc := 57) dX10_mayUse_57 ?_
      refine T_bipush (pc := 58) (v := nI 20) dX10_mayUse_58 (by decide) ?_
      refine R_icmp_le (pc := 60) (tgt := 65) (by omega) (by omega) dX10_mayUse_60 (by decide) (fun h3 => ?_) (fun h3 => ?_)
      · skip
        rcases w5 with ⟨e4, hB0⟩ | ⟨e4, ⟨y, e3, eB⟩, hC⟩
        · skip
          refine T_aload_n (pc := 65) (i := 0) dX10_mayUse_65 rfl rfl ?_
          refine R_getI (pc := 66) (x := 0) fl_X10_61 rfl kc_97 lc_97 e4 dX10_mayUse_66 ?_
          refine T_if_ne (pc := 69) (tgt := 74) dX10_mayUse_69 (by decide) (fun h4 => ?_) (fun h4 => ?_)
          · exact absurd rfl h4
          · skip
            refine T_iconst (pc := 72) (v := nI 1) dX10_mayUse_72 (by decide) ?_
            have hb : fitB R w l r p = true := by unfold fitB; rw [h1, h2', decide_eq_true h3, hB0]; rfl
            rw [hb]
            exact T_iret (pc := 73) (ty := .boolean) dX10_mayUse_73 rfl (by decide) (Nat.le_refl _) (Nat.le_refl _) ⟨_, rfl, rfl, hE0, OfS.refl _ _⟩
        · have hfb : fitB R w l r p = !w.2.2 r p l.length := by unfold fitB; rw [h1, h2', decide_eq_true h3]; rfl
          rw [hfb]
          refine T_aload_n (pc := 65) (i := 0) dX10_mayUse_65 rfl rfl ?_
          refine R_getI (pc := 66) (x := 1) fl_X10_61 rfl kc_97 lc_97 e4 dX10_mayUse_66 ?_
          refine T_if_ne (pc := 69) (tgt := 74) dX10_mayUse_69 (by decide) (fun h4 => ?_) (fun h4 => ?_)
          · skip
            refine T_iload_n (pc := 74) (i := 1) dX10_mayUse_74 rfl rfl ?_
            refine T_bipush (pc := 75) (v := nI 21) dX10_mayUse_75 (by decide) ?_
            refine R_imul (pc := 77) dX10_mayUse_77 ?_
            refine T_iload (pc := 78) (i := 5) dX10_mayUse_78 rfl ?_
            refine R_iadd (pc := 80) dX10_mayUse_80 ?_
            refine T_istore (pc := 81) (i := 7) (ls' := [some (.ref 97), some (.int (nI r)), some (.int (nI p)), some (.long (lN (cd l))), none, some (.int (nI l.length)), some (.int (nI ((rAt R r).1.length))), some (.int (nI ((r * 21) + l.length))), none, none]) dX10_mayUse_81 (by decide) rfl ?_
            refine T_iconst (pc := 83) (v := nI 1) dX10_mayUse_83 (by decide) ?_
            refine T_iload_n (pc := 84) (i := 2) dX10_mayUse_84 rfl rfl ?_
            refine R_ishl (pc := 85) (by omega) dX10_mayUse_85 ?_
            refine T_istore (pc := 86) (i := 8) (ls' := [some (.ref 97), some (.int (nI r)), some (.int (nI p)), some (.long (lN (cd l))), none, some (.int (nI l.length)), some (.int (nI ((rAt R r).1.length))), some (.int (nI ((r * 21) + l.length))), some (.int (nI (1 * 2 ^ p))), none]) dX10_mayUse_86 (by decide) rfl ?_
            refine T_aload_n (pc := 88) (i := 0) dX10_mayUse_88 rfl rfl ?_
            refine R_getR (pc := 89) (i := 101) fl_X10_21 rfl kc_97 lc_97 rc_97_10 dX10_mayUse_89 ?_
            refine T_iload (pc := 92) (i := 7) dX10_mayUse_92 rfl ?_
            refine R_iald (pc := 94) (x := (μ.1 101 ((r * 21) + l.length))) kc_101 lc_101 (by omega) (by first | decide | assumption) rfl dX10_mayUse_94 ?_
            refine T_iload (pc := 95) (i := 8) dX10_mayUse_95 rfl ?_
            refine T_iand (pc := 97) dX10_mayUse_97 ?_
            refine T_if_ne (pc := 98) (tgt := 174) dX10_mayUse_98 (by decide) (fun h5 => ?_) (fun h5 => ?_)
            · skip
              have hk : bt (μ.1 101 (r * 21 + l.length)) p = true := by
                cases e : bt (μ.1 101 (r * 21 + l.length)) p with
                | true => rfl
                | false => exact absurd ((bt_z (by omega)).mpr e) h5
              have hB := hC r p l.length hr s1 hn hk
              refine T_aload_n (pc := 174) (i := 0) dX10_mayUse_174 rfl rfl ?_
              refine R_getR (pc := 175) (i := 102) fl_X10_24 rfl kc_97 lc_97 rc_97_11 dX10_mayUse_175 ?_
              refine T_iload (pc := 178) (i := 7) dX10_mayUse_178 rfl ?_
              refine R_iald (pc := 180) (x := (μ.1 102 ((r * 21) + l.length))) kc_102 lc_102 (by omega) (by first | decide | assumption) rfl dX10_mayUse_180 ?_
              refine T_iload (pc := 181) (i := 8) dX10_mayUse_181 rfl ?_
              refine T_iand (pc := 183) dX10_mayUse_183 ?_
              refine T_if_ne (pc := 184) (tgt := 191) dX10_mayUse_184 (by decide) (fun h6 => ?_) (fun h6 => ?_)
              · skip
                refine T_iconst (pc := 191) (v := nI 0) dX10_mayUse_191 (by decide) ?_
                have e : w.2.2 r p l.length = true := by
                  rw [← hB]
                  cases e : bt (μ.1 102 (r * 21 + l.length)) p with
                  | true => rfl
                  | false => exact absurd ((bt_z (by omega)).mpr e) h6
                rw [e]
                exact T_iret (pc := 192) (ty := .boolean) dX10_mayUse_192 rfl (by decide) (Nat.le_refl _) (Nat.le_refl _) ⟨_, rfl, rfl, hE0, OfS.refl _ _⟩
              · skip
                refine T_iconst (pc := 187) (v := nI 1) dX10_mayUse_187 (by decide) ?_
                refine T_goto (pc := 188) (tgt := 192) dX10_mayUse_188 (by decide) ?_
                have e : w.2.2 r p l.length = false := by
                  rw [← hB]
                  exact (bt_z (by omega)).mp h6
                rw [e]
                exact T_iret (pc := 192) (ty := .boolean) dX10_mayUse_192 rfl (by decide) (Nat.le_refl _) (Nat.le_refl _) ⟨_, rfl, rfl, hE0, OfS.refl _ _⟩
            · skip
              refine T_aload_n (pc := 101) (i := 0) dX10_mayUse_101 rfl rfl ?_
              refine R_getR (pc := 102) (i := 101) fl_X10_21 rfl kc_97 lc_97 rc_97_10 dX10_mayUse_102 ?_
              refine T_iload (pc := 105) (i := 7) dX10_mayUse_105 rfl ?_
              refine T_dup2 (pc := 107) dX10_mayUse_107 rfl rfl ?_
              refine R_iald (pc := 108) (x := (μ.1 101 ((r * 21) + l.length))) kc_101 lc_101 (by omega) (by first | decide | assumption) rfl dX10_mayUse_108 ?_
              refine T_iload (pc := 109) (i := 8) dX10_mayUse_109 rfl ?_
              refine T_ior (pc := 111) dX10_mayUse_111 ?_
              refine R_iast (pc := 112) kc_101 lc_101 (by omega) (by first | decide | assumption) dX10_mayUse_112 ?_
              refine T_aload_n (pc := 113) (i := 0) dX10_mayUse_113 rfl rfl ?_
              refine R_getR (pc := 114) (i := 59) fl_X10_37 rfl kc_97 lc_97 rc_97_1 dX10_mayUse_114 ?_
              refine T_iload_n (pc := 117) (i := 1) dX10_mayUse_117 rfl rfl ?_
              refine T_iload_n (pc := 118) (i := 2) dX10_mayUse_118 rfl rfl ?_
              refine T_iload (pc := 119) (i := 5) dX10_mayUse_119 rfl ?_
              refine T_iload (pc := 121) (i := 5) dX10_mayUse_121 rfl ?_
              refine T_iload_n (pc := 123) (i := 2) dX10_mayUse_123 rfl rfl ?_
              refine R_isub (pc := 124) (by omega) dX10_mayUse_124 ?_
              refine T_iload (pc := 125) (i := 6) dX10_mayUse_125 rfl ?_
              refine R_isub (pc := 127) (by omega) dX10_mayUse_127 ?_
              refine T_aload_n (pc := 128) (i := 0) dX10_mayUse_128 rfl rfl ?_
              refine R_getI (pc := 129) (x := y) fl_X10_51 rfl kc_97 lc_97 ((wI_ne (by first | omega | simp)).trans e3) dX10_mayUse_129 ?_
              have h0 : Off 101 1 μ (wI μ 101 ((r * 21) + l.length) ((((μ.1 101 ((r * 21) + l.length))) ||| (nI (1 * 2 ^ p))))) := (Off.sI (Off.refl _ _ _) (by omega))
              have eb : brB (nI r, nI p, nI l.length, nI (l.length - p - (rAt R r).1.length), y) LL = w.2.2 r p l.length := by rw [eB]; rfl
              refine R_callVm1 (pc := 132) (As := [.int (nI r), .int (nI p), .int (nI l.length), .int (nI ((l.length - p) - ((rAt R r).1.length))), .int (y)]) (rest := []) (Or.inl lk_X10_87) mk_X5_bars (c_Law_bars law59 (hL.off h0 (by omega)) hwf) (kt_law law59) ⟨by decide, rfl⟩ (lt_law law59) dX10_mayUse_132 rfl rfl (Nat.le_of_ble_eq_true rfl) (by decide) rfl (Nat.le_refl _) (Nat.le_refl _) (fun m h => ?_)
              rw [eb]
              have km : ∀ j, m.1 101 j = if j = r * 21 + l.length then μ.1 101 j ||| nI (1 * 2 ^ p) else μ.1 101 j := fun j => by
                rw [h.i (by omega) j, m_wI]
                by_cases e : j = r * 21 + l.length
                · rw [if_pos ⟨rfl, e⟩, if_pos e, e]
                · rw [if_neg (fun z => e z.2), if_neg e]
              have bm : ∀ j, m.1 102 j = μ.1 102 j := fun j => by
                rw [h.i (by omega) j]
                exact n_wI (by omega)
              have om : OfS Sm μ m := OfS.trans (h0.ofs (fun k h1 h2 => by unfold Sm; omega)) (h.ofs (fun k h1 h2 => by unfold Sm; omega))
              have oj : ∀ v : Int32, bt v p = w.2.2 r p l.length → (∀ q, q < 32 → q ≠ p → bt v q = bt (m.1 102 (r * 21 + l.length)) q) → EnvW (wI m 102 (r * 21 + l.length) v) R LL w ∧ OfS Sm μ (wI m 102 (r * 21 + l.length) v) := fun v hv hv2 => by
                have o9 : OfS Sm μ (wI m 102 (r * 21 + l.length) v) := OfS.sI om (by unfold Sm; omega)
                refine ⟨walk_put hR ⟨L0, hL, hwf⟩ w1 w3 e4 ⟨e3, eB⟩ hC hn s1 o9 (fun j => ?_) (fun j => ?_) hv (fun q h1 h2 => (hv2 q h1 h2).trans (by rw [bm])), o9⟩
                · rw [n_wI (by omega)]
                  exact km j
                · rw [m_wI, bm j]
                  by_cases e : j = r * 21 + l.length
                  · rw [if_pos ⟨rfl, e⟩, if_pos e]
                  · rw [if_neg (fun z => e z.2), if_neg e]
              refine T_istore (pc := 135) (i := 9) (ls' := [some (.ref 97), some (.int (nI r)), some (.int (nI p)), some (.long (lN (cd l))), none, some (.int (nI l.length)), some (.int (nI ((rAt R r).1.length))), some (.int (nI (r * 21 + l.length))), some (.int (nI (1 * 2 ^ p))), some (.int (bI (w.2.2 r p l.length)))]) dX10_mayUse_135 (by decide) rfl ?_
              refine T_aload_n (pc := 137) (i := 0) dX10_mayUse_137 rfl rfl ?_
              refine R_getR (pc := 138) (i := 102) fl_X10_24 rfl kc_97 lc_97 rc_97_11 dX10_mayUse_138 ?_
              refine T_iload (pc := 141) (i := 7) dX10_mayUse_141 rfl ?_
              refine T_iload (pc := 143) (i := 9) dX10_mayUse_143 rfl ?_
              refine R_ifb_eq (pc := 145) (tgt := 161) dX10_mayUse_145 (by decide) (fun h6 => ?_) (fun h6 => ?_)
              · skip
                have hv : bt (m.1 102 (r * 21 + l.length) &&& (nI (1 * 2 ^ p) ^^^ (-1))) p = w.2.2 r p l.length := by rw [bt_clr (by omega) (by omega), decide_eq_true rfl, h6]; simp
                have hj := oj _ hv (fun q h1 h2 => by rw [bt_clr (by omega) h1, decide_eq_false h2]; simp)
                rw [h6] at hv
                refine T_aload_n (pc := 161) (i := 0) dX10_mayUse_161 rfl rfl ?_
                refine R_getR (pc := 162) (i := 102) fl_X10_24 rfl kc_97 lc_97 rc_97_11 dX10_mayUse_162 ?_
                refine T_iload (pc := 165) (i := 7) dX10_mayUse_165 rfl ?_
                refine R_iald (pc := 167) (x := (m.1 102 (r * 21 + l.length))) kc_102 lc_102 (by omega) (by first | decide | assumption) rfl dX10_mayUse_167 ?_
                refine T_iload (pc := 168) (i := 8) dX10_mayUse_168 rfl ?_
                refine T_iconst (pc := 170) (v := (-1)) dX10_mayUse_170 (by decide) ?_
                refine T_ixor (pc := 171) dX10_mayUse_171 ?_
                refine T_iand (pc := 172) dX10_mayUse_172 ?_
                refine R_iast (pc := 173) kc_102 lc_102 (by omega) (by first | decide | assumption) dX10_mayUse_173 ?_
                refine T_aload_n (pc := 174) (i := 0) dX10_mayUse_174 rfl rfl ?_
                refine R_getR (pc := 175) (i := 102) fl_X10_24 rfl kc_97 lc_97 rc_97_11 dX10_mayUse_175 ?_
                refine T_iload (pc := 178) (i := 7) dX10_mayUse_178 rfl ?_
                refine R_iald (pc := 180) (x := (((m.1 102 (r * 21 + l.length))) &&& (((nI (1 * 2 ^ p)) ^^^ ((-1)))))) kc_102 lc_102 (by omega) (by first | decide | assumption) wI_eq dX10_mayUse_180 ?_
                refine T_iload (pc := 181) (i := 8) dX10_mayUse_181 rfl ?_
                refine T_iand (pc := 183) dX10_mayUse_183 ?_
                refine T_if_ne (pc := 184) (tgt := 191) dX10_mayUse_184 (by decide) (fun h7 => ?_) (fun h7 => ?_)
                · exact absurd ((bt_z (by omega)).mpr hv) h7
                · skip
                  refine T_iconst (pc := 187) (v := nI 1) dX10_mayUse_187 (by decide) ?_
                  refine T_goto (pc := 188) (tgt := 192) dX10_mayUse_188 (by decide) ?_
                  rw [h6]
                  exact T_iret (pc := 192) (ty := .boolean) dX10_mayUse_192 rfl (by decide) (Nat.le_refl _) (Nat.le_refl _) ⟨_, rfl, rfl, hj⟩
              · skip
                have hv : bt (m.1 102 (r * 21 + l.length) ||| nI (1 * 2 ^ p)) p = w.2.2 r p l.length := by rw [bt_set (by omega) (by omega), decide_eq_true rfl, h6]; simp
                have hj := oj _ hv (fun q h1 h2 => by rw [bt_set (by omega) h1, decide_eq_false h2]; simp)
                rw [h6] at hv
                refine T_aload_n (pc := 148) (i := 0) dX10_mayUse_148 rfl rfl ?_
                refine R_getR (pc := 149) (i := 102) fl_X10_24 rfl kc_97 lc_97 rc_97_11 dX10_mayUse_149 ?_
                refine T_iload (pc := 152) (i := 7) dX10_mayUse_152 rfl ?_
                refine R_iald (pc := 154) (x := (m.1 102 (r * 21 + l.length))) kc_102 lc_102 (by omega) (by first | decide | assumption) rfl dX10_mayUse_154 ?_
                refine T_iload (pc := 155) (i := 8) dX10_mayUse_155 rfl ?_
                refine T_ior (pc := 157) dX10_mayUse_157 ?_
                refine T_goto (pc := 158) (tgt := 173) dX10_mayUse_158 (by decide) ?_
                refine R_iast (pc := 173) kc_102 lc_102 (by omega) (by first | decide | assumption) dX10_mayUse_173 ?_
                refine T_aload_n (pc := 174) (i := 0) dX10_mayUse_174 rfl rfl ?_
                refine R_getR (pc := 175) (i := 102) fl_X10_24 rfl kc_97 lc_97 rc_97_11 dX10_mayUse_175 ?_
                refine T_iload (pc := 178) (i := 7) dX10_mayUse_178 rfl ?_
                refine R_iald (pc := 180) (x := (((m.1 102 (r * 21 + l.length))) ||| (nI (1 * 2 ^ p)))) kc_102 lc_102 (by omega) (by first | decide | assumption) wI_eq dX10_mayUse_180 ?_
                refine T_iload (pc := 181) (i := 8) dX10_mayUse_181 rfl ?_
                refine T_iand (pc := 183) dX10_mayUse_183 ?_
                refine T_if_ne (pc := 184) (tgt := 191) dX10_mayUse_184 (by decide) (fun h7 => ?_) (fun h7 => ?_)
                · skip
                  refine T_iconst (pc := 191) (v := nI 0) dX10_mayUse_191 (by decide) ?_
                  rw [h6]
                  exact T_iret (pc := 192) (ty := .boolean) dX10_mayUse_192 rfl (by decide) (Nat.le_refl _) (Nat.le_refl _) ⟨_, rfl, rfl, hj⟩
                · rw [(bt_z (by omega)).mp h7] at hv
                  cases hv
          · exact absurd h4 (by decide)
      · skip
        refine T_iconst (pc := 63) (v := nI 0) dX10_mayUse_63 (by decide) ?_
        have hb : fitB R w l r p = false := by unfold fitB; rw [h1, h2', decide_eq_false (by omega)]; rfl
        rw [hb]
        exact T_iret (pc := 64) (ty := .boolean) dX10_mayUse_64 rfl (by decide) (Nat.le_refl _) (Nat.le_refl _) ⟨_, rfl, rfl, hE0, OfS.refl _ _⟩
theorem c_mayUse_neg {R : List Ru} {LL : List (List Int32)} {w : Wk} {l : List Nat} {r : Nat} {x : Int32} (hE : EnvW μ R LL w) (hr : r < R.length) (hx : x < 0) : Ex γ 3 0 0 M_X10_mayUse [.ref 97, .int (nI r), .int x, .long (lN (cd l)), .int (nI l.length)] (rm μ) (Fn (some (.int (bI false))) μ) := by
  have hR := hE.1
  have h12 := hR.len
  have row := hR.row r hr
  refine Ex.of (by decide +kernel) rfl (Nat.le_of_ble_eq_true rfl) ?_
  show T _ _ _ _ _ _ _ _ _ [some (.ref 97), some (.int (nI r)), some (.int (x)), some (.long (lN (cd l))), none, some (.int (nI l.length)), none, none, none, none] [] (rm μ)
  refine T_aload_n (pc := 0) (i := 0) dX10_mayUse_0 rfl rfl ?_
  refine R_getR (pc := 1) (i := 4) fl_X10_33 rfl kc_97 lc_97 rc_97_0 dX10_mayUse_1 ?_
  refine R_getR (pc := 4) (i := 7) fl_X10_71 rfl (kt_rules rules4) (lt_rules rules4) (rt_rules_leftSize rules4) dX10_mayUse_4 ?_
  refine T_iload_n (pc := 7) (i := 1) dX10_mayUse_7 rfl rfl ?_
  refine R_iald (pc := 8) (x := nI ((rAt R r).1.length)) (kt_rules_leftSize rules4) (lt_rules_leftSize rules4) (by omega) (by first | decide | assumption) row.leftSize dX10_mayUse_8 ?_
  refine T_istore (pc := 9) (i := 6) (ls' := [some (.ref 97), some (.int (nI r)), some (.int (x)), some (.long (lN (cd l))), none, some (.int (nI l.length)), some (.int (nI ((rAt R r).1.length))), none, none, none]) dX10_mayUse_9 (by decide) rfl ?_
  refine T_lload_n (pc := 11) (i := 3) dX10_mayUse_11 rfl rfl ?_
  refine T_iload (pc := 12) (i := 5) dX10_mayUse_12 rfl ?_
  refine T_iload_n (pc := 14) (i := 2) dX10_mayUse_14 rfl rfl ?_
  refine T_aload_n (pc := 15) (i := 0) dX10_mayUse_15 rfl rfl ?_
  refine R_getR (pc := 16) (i := 4) fl_X10_33 rfl kc_97 lc_97 rc_97_0 dX10_mayUse_16 ?_
  refine R_getR (pc := 19) (i := 5) fl_X10_76 rfl (kt_rules rules4) (lt_rules rules4) (rt_rules_left rules4) dX10_mayUse_19 ?_
  refine T_iload_n (pc := 22) (i := 1) dX10_mayUse_22 rfl rfl ?_
  refine R_lald (pc := 23) (x := lN (cd (rAt R r).1)) (kt_rules_left rules4) (lt_rules_left rules4) (by omega) (by first | decide | assumption) row.left dX10_mayUse_23 ?_
  refine T_iload (pc := 24) (i := 6) dX10_mayUse_24 rfl ?_
  refine R_callS1 (pc := 26) (av := [.long (lN (cd l)), .int (nI l.length), .int (x), .long (lN (cd (rAt R r).1)), .int (nI ((rAt R r).1.length))]) (rest := []) (Or.inr lk_X10_80) mk_X11_standsIn (c_standsIn_neg hx) dX10_mayUse_26 rfl rfl (Nat.le_of_ble_eq_true rfl) (by decide) rfl (Nat.le_refl _) (Nat.le_refl _) ?_
  refine R_ifb_eq (pc := 29) (tgt := 63) dX10_mayUse_29 (by decide) (fun h1 => ?_) (fun h1 => ?_)
  · skip
    refine T_iconst (pc := 63) (v := nI 0) dX10_mayUse_63 (by decide) ?_
    exact T_iret (pc := 64) (ty := .boolean) dX10_mayUse_64 rfl (by decide) (Nat.le_refl _) (Nat.le_refl _) ⟨rfl, rfl⟩
  · cases h1
theorem c_Walk_begin {X : Td} {LL : List (List Int32)} (hX : ToldAt μ 3 X) (hL : LawL μ LL) : Ex γ 2 0 0 M_X10_begin [.ref 97, .ref 3] (rm μ) (Rm none (fun m => EnvW m X.R LL (X.way, 0, brQ X.R LL X.year) ∧ OfS SW μ m)) := by
  obtain ⟨L0, hA, hwf⟩ := hL
  refine Ex.of (by decide +kernel) rfl (Nat.le_of_ble_eq_true rfl) ?_
  show T _ _ _ _ _ _ _ _ _ [some (.ref 97), some (.ref 3)] [] (rm μ)
  refine T_aload_n (pc := 0) (i := 0) dX10_begin_0 rfl rfl ?_
  refine T_aload_n (pc := 1) (i := 1) dX10_begin_1 rfl rfl ?_
  refine R_getI (pc := 2) (x := nI X.way) fl_X10_41 rfl (kt_told told3) (lt_told told3) hX.2.2.2.2.2.2.1 dX10_begin_2 ?_
  refine R_putI (pc := 5) fl_X10_47 ⟨rfl, rfl⟩ (Or.inl rfl) kc_97 lc_97 dX10_begin_5 ?_
  refine T_aload_n (pc := 8) (i := 0) dX10_begin_8 rfl rfl ?_
  refine T_aload_n (pc := 9) (i := 1) dX10_begin_9 rfl rfl ?_
  refine R_getI (pc := 10) (x := X.year) fl_X10_48 rfl (kt_told told3) (lt_told told3) ((wI_ne (by decide)).trans hX.2.2.2.2.2.2.2.2.1) dX10_begin_10 ?_
  refine R_putI (pc := 13) fl_X10_51 ⟨rfl, rfl⟩ (Or.inl rfl) kc_97 lc_97 dX10_begin_13 ?_
  refine T_aload_n (pc := 16) (i := 0) dX10_begin_16 rfl rfl ?_
  refine T_iconst (pc := 17) (v := nI 0) dX10_begin_17 (by decide) ?_
  refine R_putI (pc := 18) fl_X10_52 ⟨rfl, rfl⟩ (Or.inl rfl) kc_97 lc_97 dX10_begin_18 ?_
  refine T_aload_n (pc := 21) (i := 0) dX10_begin_21 rfl rfl ?_
  refine T_aload_n (pc := 22) (i := 0) dX10_begin_22 rfl rfl ?_
  refine R_getR (pc := 23) (i := 59) fl_X10_37 rfl kc_97 lc_97 rc_97_1 dX10_begin_23 ?_
  have h0 : Off 97 1 μ (wI (wI (wI μ 97 2 (nI X.way)) 97 3 (X.year)) 97 5 (nI 0)) := (Off.sI (Off.sI (Off.sI (Off.refl _ _ _) (by omega)) (by omega)) (by omega))
  refine R_callV1 (pc := 26) (As := []) (rest := [.ref 97]) (Or.inl lk_X10_55) mk_X5_isEmpty (c_Law_isEmpty law59 (hA.off h0 (by omega))) (kt_law law59) ⟨by decide, rfl⟩ (lt_law law59) dX10_begin_26 rfl rfl (Nat.le_of_ble_eq_true rfl) (by decide) rfl (Nat.le_refl _) (Nat.le_refl _) ?_
  have hR : ∀ m : SM2, OfS SW μ m → RulesAt m 4 X.R := fun m g => hX.1.ofs g (fun k h1 h2 => by unfold SW; omega)
  have hL2 : ∀ m : SM2, OfS SW μ m → LawL m LL := fun m g => LawL.ofs ⟨L0, hA, hwf⟩ g (by unfold SW; omega) (by unfold SW; omega)
  have hw4 := hX.2.2.2.2.1.2.1
  refine R_ifb_ne (pc := 29) (tgt := 36) dX10_begin_29 (by decide) (fun h1 => ?_) (fun h1 => ?_)
  · skip
    refine T_iconst (pc := 36) (v := nI 0) dX10_begin_36 (by decide) ?_
    refine R_putI (pc := 37) fl_X10_61 ⟨rfl, rfl⟩ (Or.inr (Or.inl rfl)) kc_97 lc_97 dX10_begin_37 ?_
    refine T_aload_n (pc := 40) (i := 0) dX10_begin_40 rfl rfl ?_
    refine R_getI (pc := 41) (x := nI 0) fl_X10_61 rfl kc_97 lc_97 wI_eq dX10_begin_41 ?_
    refine R_if_eq (pc := 44) (tgt := 55) (by omega) dX10_begin_44 (by decide) (fun h2 => ?_) (fun h2 => ?_)
    · skip
      have o9 : OfS SW μ (wI (wI (wI (wI μ 97 2 (nI X.way)) 97 3 X.year) 97 5 (nI 0)) 97 4 (nI 0)) := OfS.sI (OfS.sI (OfS.sI (OfS.sI (OfS.refl _ _) (by unfold SW; omega)) (by unfold SW; omega)) (by unfold SW; omega)) (by unfold SW; omega)
      have hn : LL = [] := by
        cases LL with
        | nil => rfl
        | cons a t =>
          have h3 := of_decide_eq_true h1
          rw [List.flatMap_cons, List.length_append] at h3
          unfold clS at h3
          rw [List.length_append] at h3
          exact absurd h3 (by simp)
      refine T_vret dX10_begin_55 rfl (Nat.le_refl _) (Nat.le_refl _) ⟨_, rfl, rfl, ⟨hR _ o9, hL2 _ o9, ⟨?_, hw4⟩, ⟨?_, show (0 : Nat) < 2 ^ 12 by decide⟩, Or.inl ⟨?_, fun r p n => ?_⟩⟩, o9⟩
      · skip
        simp (disch := omega) only [n_wI, e_wI, n_wL, e_wL, m_wI2, m_wL1, n_wCI, e_wCI, n_wCL, e_wCL, m_wCI2, m_wCL1, n_wF, e_wF, m_wF2]
      · skip
        simp (disch := omega) only [n_wI, e_wI, n_wL, e_wL, m_wI2, m_wL1, n_wCI, e_wCI, n_wCL, e_wCL, m_wCI2, m_wCL1, n_wF, e_wF, m_wF2]
      · skip
        simp (disch := omega) only [n_wI, e_wI, n_wL, e_wL, m_wI2, m_wL1, n_wCI, e_wCI, n_wCL, e_wCL, m_wCI2, m_wCL1, n_wF, e_wF, m_wF2]
        rfl
      · subst hn
        rfl
    · exact absurd rfl h2
  · skip
    refine T_iconst (pc := 32) (v := nI 1) dX10_begin_32 (by decide) ?_
    refine T_goto (pc := 33) (tgt := 37) dX10_begin_33 (by decide) ?_
    refine R_putI (pc := 37) fl_X10_61 ⟨rfl, rfl⟩ (Or.inr (Or.inr rfl)) kc_97 lc_97 dX10_begin_37 ?_
    refine T_aload_n (pc := 40) (i := 0) dX10_begin_40 rfl rfl ?_
    refine R_getI (pc := 41) (x := nI 1) fl_X10_61 rfl kc_97 lc_97 wI_eq dX10_begin_41 ?_
    refine R_if_eq (pc := 44) (tgt := 55) (by omega) dX10_begin_44 (by decide) (fun h2 => ?_) (fun h2 => ?_)
    · exact absurd h2 (by decide)
    · skip
      refine T_aload_n (pc := 47) (i := 0) dX10_begin_47 rfl rfl ?_
      refine R_getR (pc := 48) (i := 101) fl_X10_21 rfl kc_97 lc_97 rc_97_10 dX10_begin_48 ?_
      refine T_iconst (pc := 51) (v := nI 0) dX10_begin_51 (by decide) ?_
      refine R_callS0 (pc := 52) (av := [.ref 101, .int (nI 0)]) (rest := []) (Or.inl lk_X10_65) mk_J7_fill_53178 (c_fill kc_101 lc_101 (by decide)) dX10_begin_52 rfl rfl (Nat.le_of_ble_eq_true rfl) (by decide) rfl (Nat.le_refl _) (Nat.le_refl _) ?_
      have o9 : OfS SW μ (wF (wI (wI (wI (wI μ 97 2 (nI X.way)) 97 3 X.year) 97 5 (nI 0)) 97 4 (nI 1)) 101 252 (nI 0)) := OfS.sF (OfS.sI (OfS.sI (OfS.sI (OfS.sI (OfS.refl _ _) (by unfold SW; omega)) (by unfold SW; omega)) (by unfold SW; omega)) (by unfold SW; omega)) (by unfold SW; omega)
      refine T_vret dX10_begin_55 rfl (Nat.le_refl _) (Nat.le_refl _) ⟨_, rfl, rfl, ⟨hR _ o9, hL2 _ o9, ⟨?_, hw4⟩, ⟨?_, show (0 : Nat) < 2 ^ 12 by decide⟩, Or.inr ⟨?_, ⟨X.year, ?_, rfl⟩, fun r p n hr hp hn h => ?_⟩⟩, o9⟩
      · skip
        simp (disch := omega) only [n_wI, e_wI, n_wL, e_wL, m_wI2, m_wL1, n_wCI, e_wCI, n_wCL, e_wCL, m_wCI2, m_wCL1, n_wF, e_wF, m_wF2]
      · skip
        simp (disch := omega) only [n_wI, e_wI, n_wL, e_wL, m_wI2, m_wL1, n_wCI, e_wCI, n_wCL, e_wCL, m_wCI2, m_wCL1, n_wF, e_wF, m_wF2]
      · skip
        simp (disch := omega) only [n_wI, e_wI, n_wL, e_wL, m_wI2, m_wL1, n_wCI, e_wCI, n_wCL, e_wCL, m_wCI2, m_wCL1, n_wF, e_wF, m_wF2]
        rfl
      · skip
        simp (disch := omega) only [n_wI, e_wI, n_wL, e_wL, m_wI2, m_wL1, n_wCI, e_wCI, n_wCL, e_wCL, m_wCI2, m_wCL1, n_wF, e_wF, m_wF2]
      · rw [e_wF ⟨rfl, by have := hX.1.len; omega⟩, show nI 0 = 0 from rfl, b_0] at h
        cases h
theorem c_Walk_beginLawless {R : List Ru} {LL : List (List Int32)} (hR : RulesAt μ 4 R) (hL : LawL μ LL) : Ex γ 1 0 0 M_X10_beginLawless [.ref 97] (rm μ) (Rm none (fun m => EnvW m R LL (0, 0, fun _ _ _ => false) ∧ OfS SW μ m)) := by
  refine Ex.of (by decide +kernel) rfl (Nat.le_of_ble_eq_true rfl) ?_
  show T _ _ _ _ _ _ _ _ _ [some (.ref 97)] [] (rm μ)
  refine T_aload_n (pc := 0) (i := 0) dX10_beginLawless_0 rfl rfl ?_
  refine T_iconst (pc := 1) (v := nI 0) dX10_beginLawless_1 (by decide) ?_
  refine R_putI (pc := 2) fl_X10_47 ⟨rfl, rfl⟩ (Or.inl rfl) kc_97 lc_97 dX10_beginLawless_2 ?_
  refine T_aload_n (pc := 5) (i := 0) dX10_beginLawless_5 rfl rfl ?_
  refine T_iconst (pc := 6) (v := nI 0) dX10_beginLawless_6 (by decide) ?_
  refine R_putI (pc := 7) fl_X10_52 ⟨rfl, rfl⟩ (Or.inl rfl) kc_97 lc_97 dX10_beginLawless_7 ?_
  refine T_aload_n (pc := 10) (i := 0) dX10_beginLawless_10 rfl rfl ?_
  refine T_iconst (pc := 11) (v := nI 0) dX10_beginLawless_11 (by decide) ?_
  refine R_putI (pc := 12) fl_X10_61 ⟨rfl, rfl⟩ (Or.inr (Or.inl rfl)) kc_97 lc_97 dX10_beginLawless_12 ?_
  have o9 : OfS SW μ (wI (wI (wI μ 97 2 (nI 0)) 97 5 (nI 0)) 97 4 (nI 0)) := OfS.sI (OfS.sI (OfS.sI (OfS.refl _ _) (by unfold SW; omega)) (by unfold SW; omega)) (by unfold SW; omega)
  refine T_vret dX10_beginLawless_15 rfl (Nat.le_refl _) (Nat.le_refl _) ⟨_, rfl, rfl, ⟨hR.ofs o9 (fun k h1 h2 => by unfold SW; omega), hL.ofs o9 (by unfold SW; omega) (by unfold SW; omega), ⟨?_, show (0 : Nat) < 4 by decide⟩, ⟨?_, show (0 : Nat) < 2 ^ 12 by decide⟩, Or.inl ⟨?_, fun r p n => rfl⟩⟩, o9⟩
  · skip
    simp (disch := omega) only [n_wI, e_wI, n_wL, e_wL, m_wI2, m_wL1, n_wCI, e_wCI, n_wCL, e_wCL, m_wCI2, m_wCL1, n_wF, e_wF, m_wF2]
  · skip
    simp (disch := omega) only [n_wI, e_wI, n_wL, e_wL, m_wI2, m_wL1, n_wCI, e_wCI, n_wCL, e_wCL, m_wCI2, m_wCL1, n_wF, e_wF, m_wF2]
  · skip
    simp (disch := omega) only [n_wI, e_wI, n_wL, e_wL, m_wI2, m_wL1, n_wCI, e_wCI, n_wCL, e_wCL, m_wCI2, m_wCL1, n_wF, e_wF, m_wF2]
    rfl
end WA

