/-! OVERLAPS -/
theorem skL {μ : SM2} {k j a b : Nat} {x : Int64} : (wL μ k j x).1 a b = μ.1 a b := rfl
theorem skI {μ : SM2} {k j a b : Nat} {x : Int32} : (wI μ k j x).2 a b = μ.2 a b := rfl
section MML
variable {γ : Ga} {d mc ms : Nat} {M : MI} {Q : Out → SMem → Prop} {kc ks : Nat} {pc : Nat} {ls : List (Option Value)} {st : List Value} {μ : SMem}
theorem T_mmaxL {idx : Nat} {x y : Int64} (hl9 : LkS M.1.cls idx M_J9_max_f86c9) (hst : (st.map fun v => v.category).sum ≤ 8) (h1 : kc ≤ mc) (h2 : ks ≤ ms) (hd : decode (Mb M) pc = .ok (.invokestatic idx, 3)) (kk : T γ d mc ms M Q kc ks (pc + 3) ls (.long (if y < x then x else y) :: st) μ) : T γ d mc ms M Q kc ks pc ls (.long y :: .long x :: st) μ := by
  intro p e s m args below meth c H locs L hF hH hS hl
  have hts := hF.2.2.2.2.1
  have hcd : Cond.code Lib.MathLoose.max_long.x Lib.MathLoose.max_long.code 4 (some .long) ∈ tbw := mk_J9_max_f86c9.1
  exact va_mmax_long hF.1 hF.2.1 (hF.2.2.1.trans hl.1.symm) hF.2.2.2.1 (hts _ hl9.1) (hts _ hl9.2) (hts _ ini_J9) (hts _ hcd) (show 1 ≤ d + 10 by omega) (show _ ≤ 64 * d + 300 by rw [cat_rv]; omega) h1 h2 hd (kk p e s m args below meth c H locs L hF hH hS hl)
theorem T_mminL {idx : Nat} {x y : Int64} (hl9 : LkS M.1.cls idx M_J9_min_f86c9) (hst : (st.map fun v => v.category).sum ≤ 8) (h1 : kc ≤ mc) (h2 : ks ≤ ms) (hd : decode (Mb M) pc = .ok (.invokestatic idx, 3)) (kk : T γ d mc ms M Q kc ks (pc + 3) ls (.long (if y < x then y else x) :: st) μ) : T γ d mc ms M Q kc ks pc ls (.long y :: .long x :: st) μ := by
  intro p e s m args below meth c H locs L hF hH hS hl
  have hts := hF.2.2.2.2.1
  have hcd : Cond.code Lib.MathLoose.min_long.x Lib.MathLoose.min_long.code 4 (some .long) ∈ tbw := mk_J9_min_f86c9.1
  exact va_mmin_long hF.1 hF.2.1 (hF.2.2.1.trans hl.1.symm) hF.2.2.2.1 (hts _ hl9.1) (hts _ hl9.2) (hts _ ini_J9) (hts _ hcd) (show 1 ≤ d + 10 by omega) (show _ ≤ 64 * d + 300 by rw [cat_rv]; omega) h1 h2 hd (kk p e s m args below meth c H locs L hF hH hS hl)
end MML
/-- word, P, Q, PLACE of Q -/
abbrev Ov : Type := List Nat × Nat × Nat × Nat
def endB (R : List Ru) (p q k : Nat) : Bool := decide ((rAt R p).1.drop ((rAt R p).1.length - k) = (rAt R q).1.take k)
def ovW (R : List Ru) (p q k : Nat) : Ov := ((rAt R p).1 ++ (rAt R q).1.drop k, p, q, (rAt R p).1.length - k)
/-- by the last k of P, the first k of Q, k up to j -/
def ovP (R : List Ru) (p q : Nat) : Nat → List Ov
  | 0 => []
  | j + 1 => if endB R p q (j + 1) = true then ovP R p q j ++ [ovW R p q (j + 1)] else ovP R p q j
def ovK (R : List Ru) (p q : Nat) : Nat := min (rAt R p).1.length (rAt R q).1.length - 1
def ovI (R : List Ru) : Nat → List Ov
  | 0 => []
  | i + 1 => ovI R i ++ ovP R (i / R.length) (i % R.length) (ovK R (i / R.length) (i % R.length))
def wiP (R : List Ru) (p q : Nat) : Nat → List Ov
  | 0 => []
  | j + 1 => if stB (rAt R p).1 j (rAt R q).1 = true then wiP R p q j ++ [((rAt R p).1, p, q, j)] else wiP R p q j
def wiI (R : List Ru) : Nat → List Ov
  | 0 => []
  | i + 1 => wiI R i ++ wiP R (i / R.length) (i % R.length) (if i / R.length = i % R.length then 0 else (rAt R (i / R.length)).1.length)
/-- how many, how many UNLIKE, the first of these, what the first of these of which both settle settles to -/
abbrev Cr : Type := Nat × Nat × Option (List Nat) × Option (List Nat × List Nat)
def crL (A B : Option (Nat × List Nat)) : Bool := match A, B with
  | some a, some b => decide (a.2 = b.2)
  | _, _ => false
def crG (A B : Option (Nat × List Nat)) (p : Option (List Nat × List Nat)) : Option (List Nat × List Nat) := match p with
  | some g => some g
  | none => match A, B with
    | some a, some b => if cd b.2 < cd a.2 then some (a.2, b.2) else some (b.2, a.2)
    | _, _ => none
def crU (A B : Option (Nat × List Nat)) (w : List Nat) (c : Cr) : Cr := if crL A B = true then (c.1 + 1, c.2) else (c.1 + 1, c.2.1 + 1, orE c.2.2.1 (some w), crG A B c.2.2.2)
def crS (R : List Ru) (wg : Bool) (c : Cr) (o : Ov) : Cr := if wg = true then crU (stl (nxR R (0, 0, fun _ _ _ => false)) 100 (trn R o.1 o.2.1)) (stl (nxR R (0, 0, fun _ _ _ => false)) 100 (trn R o.1 (100 * o.2.2.2 + o.2.2.1))) o.1 c else (c.1 + 1, c.2)
def crV (R : List Ru) (wg : Bool) : Cr := (ovI R (R.length * R.length) ++ wiI R (R.length * R.length)).foldl (crS R wg) (0, 0, none, none)
def CrAt (m : SM2) (c : Cr) : Prop := m.1 121 0 = nI c.1 ∧ m.1 121 1 = nI c.2.1 ∧ m.2 121 2 = vO c.2.2.1 ∧ m.2 121 3 = vO (c.2.2.2.map (fun q => q.1)) ∧ m.2 121 4 = vO (c.2.2.2.map (fun q => q.2))
def CrOk (c : Cr) : Prop := (∀ w, c.2.2.1 = some w → Mw w) ∧ ∀ q, c.2.2.2 = some q → Mw q.1 ∧ Mw q.2 ∧ cd q.2 < cd q.1
def OvOk (R : List Ru) (o : Ov) : Prop := Mw o.1 ∧ o.1.length ≤ 8 ∧ (o.2.1 < R.length ∧ o.2.2.1 < R.length) ∧ (rAt R o.2.1).1.length ≤ o.1.length ∧ o.2.2.2 + (rAt R o.2.2.1).1.length ≤ o.1.length ∧ o.2.2.2 ≤ 8
theorem CrAt.ofs {S : Nat → Prop} {c : Cr} {μ m : SM2} (h : CrAt μ c) (g : OfS S μ m) (h0 : ¬ S 121) : CrAt m c := ⟨(g.i h0 0).trans h.1, (g.i h0 1).trans h.2.1, (g.l h0 2).trans h.2.2.1, (g.l h0 3).trans h.2.2.2.1, (g.l h0 4).trans h.2.2.2.2⟩
theorem trn_at {R : List Ru} {l : List Nat} {p r : Nat} (hr : r < 100) : trn R l (100 * p + r) = usd l p (rAt R r).1 (rAt R r).2 := by
  unfold trn
  rw [show (100 * p + r) / 100 = p by omega, show (100 * p + r) % 100 = r by omega]
theorem trn_mw8 {R : List Ru} {l : List Nat} {p r : Nat} (hl : Mw l) (h8 : l.length ≤ 8) (hr : okR (rAt R r)) (hp : p + (rAt R r).1.length ≤ l.length) : Mw (usd l p (rAt R r).1 (rAt R r).2) := by
  have h1 := usd_len (R := (rAt R r).2) hp
  have h2 := hr.2.2.2.2
  exact ⟨by omega, usd_ok hl.2 hr.2.2.2.1⟩
theorem vO_ne {o : Option (List Nat)} (hm : ∀ l, o = some l → Mw l) : vO o = -1 ↔ o = none := by
  cases o with
  | none => exact ⟨fun _ => rfl, fun _ => rfl⟩
  | some l =>
    have := cd_lt (hm l rfl)
    exact ⟨fun z => absurd z (lN_ne (by omega)), fun z => by cases z⟩
def SC (k : Nat) : Prop := SW k ∨ k = 121
theorem SC_SQ {k : Nat} (h : SC k) : SQ k := by unfold SC SW at h; unfold SQ; omega
section CR
variable {γ : Ga} {μ : SM2}
theorem c_meet {R : List Ru} {LL : List (List Int32)} {c : Cr} {o : Ov} {wg : Bool} (hE : EnvW μ R LL (0, 0, fun _ _ _ => false)) (hC : CrAt μ c) (hK : CrOk c) (hw : μ.1 121 5 = bI wg) (ho : OvOk R o) : Ex γ 6 0 0 M_X0_meet [.ref 121, .ref 97, .long (lN (cd o.1)), .int (nI o.2.1), .int (nI o.2.2.1), .int (nI o.2.2.2)] (rm μ) (Rm none (fun m => ((CrAt m (crS R wg c o) ∧ CrOk (crS R wg c o)) ∧ m.1 121 5 = bI wg) ∧ EnvW m R LL (0, 0, fun _ _ _ => false) ∧ OfS SC μ m)) := by
  obtain ⟨w0, p, q, pl⟩ := o
  obtain ⟨o1, o2, ⟨o3, o4⟩, o5, o6, o7⟩ := ho
  dsimp only at o1 o2 o3 o4 o5 o6 o7
  have h12 := hE.1.len
  have bw := cd_lt o1
  obtain ⟨c0, c1, c2, c3, c4⟩ := hC
  have o9 : OfS (fun k => k = 121) μ (wI μ 121 0 (nI (c.1 + 1))) := OfS.sI (OfS.refl _ _) rfl
  have hC1 : CrAt (wI μ 121 0 (nI (c.1 + 1))) (c.1 + 1, c.2) := ⟨e_wI ⟨rfl, rfl⟩, (n_wI (by omega)).trans c1, c2, c3, c4⟩
  have hE1 := hE.ofs o9 (fun k hk => by omega)
  refine Ex.of (by decide +kernel) rfl (Nat.le_of_ble_eq_true rfl) ?_
  show T _ _ _ _ _ _ _ _ _ [some (.ref 121), some (.ref 97), some (.long (lN (cd w0))), none, some (.int (nI p)), some (.int (nI q)), some (.int (nI pl)), none, none, none, none] [] (rm μ)
  refine T_aload_n (pc := 0) (i := 0) dX0_meet_0 rfl rfl ?_
  refine T_dup (pc := 1) dX0_meet_1 rfl ?_
  refine R_getI (pc := 2) (x := nI c.1) fl_X0_9 rfl kc_121 lc_121 c0 dX0_meet_2 ?_
  refine T_iconst (pc := 5) (v := nI 1) dX0_meet_5 (by decide) ?_
  refine R_iadd (pc := 6) dX0_meet_6 ?_
  refine R_putI (pc := 7) fl_X0_9 ⟨rfl, rfl⟩ (Or.inl rfl) kc_121 lc_121 dX0_meet_7 ?_
  refine T_aload_n (pc := 10) (i := 0) dX0_meet_10 rfl rfl ?_
  refine R_getI (pc := 11) (x := bI wg) fl_X0_30 rfl kc_121 lc_121 ((wI_ne (by decide)).trans hw) dX0_meet_11 ?_
  have hw1 : (wI μ 121 0 (nI (c.1 + 1))).1 121 5 = bI wg := (n_wI (by omega)).trans hw
  refine R_ifb_ne (pc := 14) (tgt := 18) dX0_meet_14 (by decide) (fun h1 => ?_) (fun h1 => ?_)
  · skip
    have e : crS R wg c (w0, p, q, pl) = crU (stl (nxR R (0, 0, fun _ _ _ => false)) 100 (trn R w0 p)) (stl (nxR R (0, 0, fun _ _ _ => false)) 100 (trn R w0 (100 * pl + q))) w0 c := by unfold crS; rw [if_pos h1]
    rw [e]
    have et := trn_at (R := R) (l := w0) (p := 0) (r := p) (by omega)
    rw [Nat.mul_zero, Nat.zero_add] at et
    have et2 := trn_at (R := R) (l := w0) (p := pl) (r := q) (by omega)
    have m1w := trn_mw8 (p := 0) o1 o2 (hE.1.ok p o3) (by omega)
    have m2w := trn_mw8 (p := pl) o1 o2 (hE.1.ok q o4) o6
    rw [← et] at m1w
    rw [← et2] at m2w
    refine T_mem (μ' := rm (wI μ 121 0 (nI (c.1 + 1)))) (rfl) ?_
    generalize wI μ 121 0 (nI (c.1 + 1)) = μ1 at *
    have q1 : p % 100 = p := by omega
    have q2 : p / 100 = 0 := by omega
    have q3 : (100 * pl + q) % 100 = q := by omega
    have q4 : (100 * pl + q) / 100 = pl := by omega
    refine T_aload_n (pc := 18) (i := 1) dX0_meet_18 rfl rfl ?_
    refine T_aload_n (pc := 19) (i := 1) dX0_meet_19 rfl rfl ?_
    refine T_lload_n (pc := 20) (i := 2) dX0_meet_20 rfl rfl ?_
    refine T_iload (pc := 21) (i := 4) dX0_meet_21 rfl ?_
    refine R_callV1 (pc := 23) (As := [.long (lN (cd w0)), .int (nI p)]) (rest := [.ref 97]) (Or.inl lk_X0_73) mk_X10_afterTurn (c_afterTurn hE1.1 o1 (by omega) (by rw [q1]; exact o3) (by rw [q1, q2, Nat.zero_add]; exact o5)) kc_97 ⟨by decide, rfl⟩ lc_97 dX0_meet_23 rfl rfl (Nat.le_of_ble_eq_true rfl) (by decide) rfl (Nat.le_refl _) (Nat.le_refl _) ?_
    refine T_bipush (pc := 26) (v := nI 100) dX0_meet_26 (by decide) ?_
    refine R_callVm1 (pc := 28) (As := [.long (lN (cd (trn R w0 p))), .int (nI 100)]) (rest := []) (Or.inl lk_X0_77) mk_X10_settle (c_settle hE1 m1w (by decide)) kc_97 ⟨by decide, rfl⟩ lc_97 dX0_meet_28 rfl rfl (Nat.le_of_ble_eq_true rfl) (by decide) rfl (Nat.le_refl _) (Nat.le_refl _) (fun m2 h2 => ?_)
    obtain ⟨⟨hE2, hO2⟩, -⟩ := h2
    refine T_lstore (pc := 31) (i := 7) (ls' := [some (.ref 121), some (.ref 97), some (.long (lN (cd w0))), none, some (.int (nI p)), some (.int (nI q)), some (.int (nI pl)), some (.long ((vS (stl (nxR R (0, 0, fun _ _ _ => false)) 100 (trn R w0 p))))), none, none, none]) dX0_meet_31 (by decide) rfl ?_
    refine T_aload_n (pc := 33) (i := 1) dX0_meet_33 rfl rfl ?_
    refine T_aload_n (pc := 34) (i := 1) dX0_meet_34 rfl rfl ?_
    refine T_lload_n (pc := 35) (i := 2) dX0_meet_35 rfl rfl ?_
    refine T_bipush (pc := 36) (v := nI 100) dX0_meet_36 (by decide) ?_
    refine T_iload (pc := 38) (i := 6) dX0_meet_38 rfl ?_
    refine R_imul (pc := 40) dX0_meet_40 ?_
    refine T_iload (pc := 41) (i := 5) dX0_meet_41 rfl ?_
    refine R_iadd (pc := 43) dX0_meet_43 ?_
    refine R_callV1 (pc := 44) (As := [.long (lN (cd w0)), .int (nI ((100 * pl) + q))]) (rest := [.ref 97]) (Or.inl lk_X0_73) mk_X10_afterTurn (c_afterTurn hE2.1 o1 (by omega) (by rw [q3]; exact o4) (by rw [q3, q4]; exact o6)) kc_97 ⟨by decide, rfl⟩ lc_97 dX0_meet_44 rfl rfl (Nat.le_of_ble_eq_true rfl) (by decide) rfl (Nat.le_refl _) (Nat.le_refl _) ?_
    refine T_bipush (pc := 47) (v := nI 100) dX0_meet_47 (by decide) ?_
    refine R_callVm1 (pc := 49) (As := [.long (lN (cd (trn R w0 (100 * pl + q)))), .int (nI 100)]) (rest := []) (Or.inl lk_X0_77) mk_X10_settle (c_settle hE2 m2w (by decide)) kc_97 ⟨by decide, rfl⟩ lc_97 dX0_meet_49 rfl rfl (Nat.le_of_ble_eq_true rfl) (by decide) rfl (Nat.le_refl _) (Nat.le_refl _) (fun m3 h3 => ?_)
    obtain ⟨⟨hE3, hO3⟩, -⟩ := h3
    have hO4 : OfS SW μ1 m3 := hO2.trans hO3
    have hC3 := hC1.ofs hO4 (by unfold SW; omega)
    have hw3 : m3.1 121 5 = bI wg := (hO4.i (by unfold SW; omega) 5).trans hw1
    have aw : ∀ x, stl (nxR R (0, 0, fun _ _ _ => false)) 100 (trn R w0 p) = some x → Mw x.2 := fun x hx => (stl_mw hE.1.ok m1w hx).1
    have bw2 : ∀ x, stl (nxR R (0, 0, fun _ _ _ => false)) 100 (trn R w0 (100 * pl + q)) = some x → Mw x.2 := fun x hx => (stl_mw hE.1.ok m2w hx).1
    have hO5 : OfS SC μ m3 := (o9.mono (fun k hk => Or.inr hk)).trans (hO4.mono (fun k hk => Or.inl hk))
    generalize stl (nxR R (0, 0, fun _ _ _ => false)) 100 (trn R w0 p) = A at *
    generalize stl (nxR R (0, 0, fun _ _ _ => false)) 100 (trn R w0 (100 * pl + q)) = B at *
    obtain ⟨d0, d1, d2, d3, d4⟩ := hC3
    obtain ⟨k1, k2⟩ := hK
    have fin : ∀ (g : Option (List Nat × List Nat)) (m : SM2), OfS (fun k => k = 121) m3 m → crL A B = false → g = crG A B c.2.2.2 → m.1 121 0 = nI (c.1 + 1) → m.1 121 1 = nI (c.2.1 + 1) → m.2 121 2 = vO (orE c.2.2.1 (some w0)) → m.2 121 3 = vO (g.map (fun q => q.1)) → m.2 121 4 = vO (g.map (fun q => q.2)) → m.1 121 5 = bI wg → ((CrAt m (crU A B w0 c) ∧ CrOk (crU A B w0 c)) ∧ m.1 121 5 = bI wg) ∧ EnvW m R LL (0, 0, fun _ _ _ => false) ∧ OfS SC μ m := fun g m a1 a2 a3 f0 f1 f2 f3 f4 f5 => by
      have eu : crU A B w0 c = (c.1 + 1, c.2.1 + 1, orE c.2.2.1 (some w0), g) := by unfold crU; rw [if_neg (by rw [a2]; decide), a3]
      rw [eu]
      refine ⟨⟨⟨⟨f0, f1, f2, f3, f4⟩, fun w hw => ?_, fun x hx => ?_⟩, f5⟩, hE3.ofs a1 (fun k hk => by omega), hO5.trans (a1.mono (fun k hk => Or.inr hk))⟩
      · have hw2 : orE c.2.2.1 (some w0) = some w := hw
        cases ec : c.2.2.1 with
        | none =>
          rw [ec] at hw2
          cases hw2
          exact o1
        | some v =>
          rw [ec] at hw2
          cases hw2
          exact k1 _ ec
      · have hx2 : g = some x := hx
        rw [a3] at hx2
        unfold crG at hx2
        cases ec : c.2.2.2 with
        | some v =>
          rw [ec] at hx2
          cases hx2
          exact k2 _ ec
        | none =>
          rw [ec] at hx2
          cases hA : A with
          | none => rw [hA] at hx2; cases hx2
          | some a =>
            cases hB : B with
            | none => rw [hA, hB] at hx2; cases hx2
            | some b =>
              rw [hA, hB] at hx2
              dsimp only at hx2
              split at hx2
              · next hlt =>
                cases hx2
                exact ⟨aw _ hA, bw2 _ hB, hlt⟩
              · next hlt =>
                cases hx2
                refine ⟨bw2 _ hB, aw _ hA, ?_⟩
                have a22 := a2
                rw [hA, hB] at a22
                have hne : a.2 ≠ b.2 := of_decide_eq_false a22
                have hne2 : cd a.2 ≠ cd b.2 := fun z => hne (cd_inj (aw _ hA).2 (bw2 _ hB).2 z)
                show cd a.2 < cd b.2
                omega
    have t98 : crL A B = false → ∀ m : SM2, OfS (fun k => k = 121) m3 m → m.1 121 0 = nI (c.1 + 1) → m.1 121 1 = nI (c.2.1 + 1) → m.2 121 2 = vO (orE c.2.2.1 (some w0)) → m.2 121 3 = vO (c.2.2.2.map (fun q => q.1)) → m.2 121 4 = vO (c.2.2.2.map (fun q => q.2)) → m.1 121 5 = bI wg → T γ 6 0 0 M_X0_meet (Rm none (fun m => ((CrAt m (crU A B w0 c) ∧ CrOk (crU A B w0 c)) ∧ m.1 121 5 = bI wg) ∧ EnvW m R LL (0, 0, fun _ _ _ => false) ∧ OfS SC μ m)) 0 0 98 [some (.ref 121), some (.ref 97), some (.long (lN (cd w0))), none, some (.int (nI p)), some (.int (nI q)), some (.int (nI pl)), some (.long (vS A)), none, some (.long (vS B)), none] [] (rm m) := fun ha m a1 f0 f1 f2 f3 f4 f5 => by
      cases ec : c.2.2.2 with
      | some g =>
        have hg := k2 g ec
        have bg := cd_lt hg.1
        rw [ec] at f3 f4
        show T _ _ _ _ _ _ _ _ 98 [some (.ref 121), some (.ref 97), some (.long (lN (cd w0))), none, some (.int (nI p)), some (.int (nI q)), some (.int (nI pl)), some (.long ((vS A))), none, some (.long ((vS B))), none] [] (rm m)
        refine T_aload_n (pc := 98) (i := 0) dX0_meet_98 rfl rfl ?_
        refine R_getL (pc := 99) (x := lN (cd g.1)) fl_X0_24 rfl kc_121 lc_121 f3 dX0_meet_99 ?_
        refine T_ldc2 (pc := 102) dX0_meet_102 cn_X0_18 ?_
        refine T_lcmp (pc := 105) dX0_meet_105 ?_
        refine R_lx_ne (pc := 106) (tgt := 149) dX0_meet_106 (by decide) (fun h5 => ?_) (fun h5 => ?_)
        · skip
          exact T_vret dX0_meet_149 rfl (Nat.le_refl _) (Nat.le_refl _) ⟨_, rfl, rfl, fin (some g) m a1 ha (by unfold crG; rw [ec]) f0 f1 f2 f3 f4 f5⟩
        · exact absurd h5 (lN_ne (by omega))
      | none =>
        rw [ec] at f3 f4
        cases hA : A with
        | none =>
          show T _ _ _ _ _ _ _ _ 98 [some (.ref 121), some (.ref 97), some (.long (lN (cd w0))), none, some (.int (nI p)), some (.int (nI q)), some (.int (nI pl)), some (.long ((-1))), none, some (.long ((vS B))), none] [] (rm m)
          refine T_aload_n (pc := 98) (i := 0) dX0_meet_98 rfl rfl ?_
          refine R_getL (pc := 99) (x := (-1)) fl_X0_24 rfl kc_121 lc_121 f3 dX0_meet_99 ?_
          refine T_ldc2 (pc := 102) dX0_meet_102 cn_X0_18 ?_
          refine T_lcmp (pc := 105) dX0_meet_105 ?_
          refine R_lx_ne (pc := 106) (tgt := 149) dX0_meet_106 (by decide) (fun h5 => ?_) (fun h5 => ?_)
          · exact absurd rfl h5
          · skip
            refine T_lload (pc := 109) (i := 7) dX0_meet_109 rfl ?_
            refine T_ldc2 (pc := 111) dX0_meet_111 cn_X0_18 ?_
            refine T_lcmp (pc := 114) dX0_meet_114 ?_
            refine R_lx_eq (pc := 115) (tgt := 149) dX0_meet_115 (by decide) (fun h6 => ?_) (fun h6 => ?_)
            · skip
              rw [← hA]
              exact T_vret dX0_meet_149 rfl (Nat.le_refl _) (Nat.le_refl _) ⟨_, rfl, rfl, fin none m a1 ha (by unfold crG; rw [ec, hA]) f0 f1 f2 f3 f4 f5⟩
            · exact absurd rfl h6
        | some a =>
          have ba := cd_lt (aw a hA)
          cases hB : B with
          | none =>
            show T _ _ _ _ _ _ _ _ 98 [some (.ref 121), some (.ref 97), some (.long (lN (cd w0))), none, some (.int (nI p)), some (.int (nI q)), some (.int (nI pl)), some (.long (lN (cd a.2))), none, some (.long ((-1))), none] [] (rm m)
            refine T_aload_n (pc := 98) (i := 0) dX0_meet_98 rfl rfl ?_
            refine R_getL (pc := 99) (x := (-1)) fl_X0_24 rfl kc_121 lc_121 f3 dX0_meet_99 ?_
            refine T_ldc2 (pc := 102) dX0_meet_102 cn_X0_18 ?_
            refine T_lcmp (pc := 105) dX0_meet_105 ?_
            refine R_lx_ne (pc := 106) (tgt := 149) dX0_meet_106 (by decide) (fun h5 => ?_) (fun h5 => ?_)
            · exact absurd rfl h5
            · skip
              refine T_lload (pc := 109) (i := 7) dX0_meet_109 rfl ?_
              refine T_ldc2 (pc := 111) dX0_meet_111 cn_X0_18 ?_
              refine T_lcmp (pc := 114) dX0_meet_114 ?_
              refine R_lx_eq (pc := 115) (tgt := 149) dX0_meet_115 (by decide) (fun h6 => ?_) (fun h6 => ?_)
              · exact absurd h6 (lN_ne (by omega))
              · skip
                refine T_lload (pc := 118) (i := 9) dX0_meet_118 rfl ?_
                refine T_ldc2 (pc := 120) dX0_meet_120 cn_X0_18 ?_
                refine T_lcmp (pc := 123) dX0_meet_123 ?_
                refine R_lx_eq (pc := 124) (tgt := 149) dX0_meet_124 (by decide) (fun h7 => ?_) (fun h7 => ?_)
                · skip
                  rw [← hA, ← hB]
                  exact T_vret dX0_meet_149 rfl (Nat.le_refl _) (Nat.le_refl _) ⟨_, rfl, rfl, fin none m a1 ha (by unfold crG; rw [ec, hA, hB]) f0 f1 f2 f3 f4 f5⟩
                · exact absurd rfl h7
          | some b =>
            have bb := cd_lt (bw2 b hB)
            show T _ _ _ _ _ _ _ _ 98 [some (.ref 121), some (.ref 97), some (.long (lN (cd w0))), none, some (.int (nI p)), some (.int (nI q)), some (.int (nI pl)), some (.long (lN (cd a.2))), none, some (.long (lN (cd b.2))), none] [] (rm m)
            refine T_aload_n (pc := 98) (i := 0) dX0_meet_98 rfl rfl ?_
            refine R_getL (pc := 99) (x := (-1)) fl_X0_24 rfl kc_121 lc_121 f3 dX0_meet_99 ?_
            refine T_ldc2 (pc := 102) dX0_meet_102 cn_X0_18 ?_
            refine T_lcmp (pc := 105) dX0_meet_105 ?_
            refine R_lx_ne (pc := 106) (tgt := 149) dX0_meet_106 (by decide) (fun h5 => ?_) (fun h5 => ?_)
            · exact absurd rfl h5
            · skip
              refine T_lload (pc := 109) (i := 7) dX0_meet_109 rfl ?_
              refine T_ldc2 (pc := 111) dX0_meet_111 cn_X0_18 ?_
              refine T_lcmp (pc := 114) dX0_meet_114 ?_
              refine R_lx_eq (pc := 115) (tgt := 149) dX0_meet_115 (by decide) (fun h6 => ?_) (fun h6 => ?_)
              · exact absurd h6 (lN_ne (by omega))
              · skip
                refine T_lload (pc := 118) (i := 9) dX0_meet_118 rfl ?_
                refine T_ldc2 (pc := 120) dX0_meet_120 cn_X0_18 ?_
                refine T_lcmp (pc := 123) dX0_meet_123 ?_
                refine R_lx_eq (pc := 124) (tgt := 149) dX0_meet_124 (by decide) (fun h7 => ?_) (fun h7 => ?_)
                · exact absurd h7 (lN_ne (by omega))
                · skip
                  refine T_aload_n (pc := 127) (i := 0) dX0_meet_127 rfl rfl ?_
                  refine T_lload (pc := 128) (i := 7) dX0_meet_128 rfl ?_
                  refine T_lload (pc := 130) (i := 9) dX0_meet_130 rfl ?_
                  refine T_mmaxL (pc := 132) lk_X0_80 (by decide) (Nat.le_refl _) (Nat.le_refl _) dX0_meet_132 ?_
                  by_cases hlt : cd b.2 < cd a.2
                  · rw [if_pos (show lN (cd b.2) < lN (cd a.2) from (pk_lLT (by omega) (by omega)).mpr hlt)]
                    refine R_putL (pc := 135) fl_X0_24 ⟨rfl, rfl⟩ kc_121 lc_121 dX0_meet_135 ?_
                    refine T_aload_n (pc := 138) (i := 0) dX0_meet_138 rfl rfl ?_
                    refine T_lload (pc := 139) (i := 7) dX0_meet_139 rfl ?_
                    refine T_lload (pc := 141) (i := 9) dX0_meet_141 rfl ?_
                    refine T_mminL (pc := 143) lk_X0_86 (by decide) (Nat.le_refl _) (Nat.le_refl _) dX0_meet_143 ?_
                    rw [if_pos (show lN (cd b.2) < lN (cd a.2) from (pk_lLT (by omega) (by omega)).mpr hlt)]
                    refine R_putL (pc := 146) fl_X0_27 ⟨rfl, rfl⟩ kc_121 lc_121 dX0_meet_146 ?_
                    rw [← hA, ← hB]
                    refine T_vret dX0_meet_149 rfl (Nat.le_refl _) (Nat.le_refl _) ⟨_, rfl, rfl, fin (some (a.2, b.2)) _ (a1.trans (OfS.sL (OfS.sL (OfS.refl _ _) rfl) rfl)) ha (by unfold crG; rw [ec, hA, hB]; exact (if_pos hlt).symm) f0 f1 ?_ ?_ ?_ f5⟩
                    · skip
                      simp (disch := omega) only [n_wI, e_wI, n_wL, e_wL, m_wI2, m_wL1, n_wCI, e_wCI, n_wCL, e_wCL, m_wCI2, m_wCL1, n_wF, e_wF, m_wF2]
                      exact f2
                    · skip
                      simp (disch := omega) only [n_wI, e_wI, n_wL, e_wL, m_wI2, m_wL1, n_wCI, e_wCI, n_wCL, e_wCL, m_wCI2, m_wCL1, n_wF, e_wF, m_wF2]
                      rfl
                    · skip
                      simp (disch := omega) only [n_wI, e_wI, n_wL, e_wL, m_wI2, m_wL1, n_wCI, e_wCI, n_wCL, e_wCL, m_wCI2, m_wCL1, n_wF, e_wF, m_wF2]
                      rfl
                  · rw [if_neg (show ¬ lN (cd b.2) < lN (cd a.2) from fun z => hlt ((pk_lLT (by omega) (by omega)).mp z))]
                    refine R_putL (pc := 135) fl_X0_24 ⟨rfl, rfl⟩ kc_121 lc_121 dX0_meet_135 ?_
                    refine T_aload_n (pc := 138) (i := 0) dX0_meet_138 rfl rfl ?_
                    refine T_lload (pc := 139) (i := 7) dX0_meet_139 rfl ?_
                    refine T_lload (pc := 141) (i := 9) dX0_meet_141 rfl ?_
                    refine T_mminL (pc := 143) lk_X0_86 (by decide) (Nat.le_refl _) (Nat.le_refl _) dX0_meet_143 ?_
                    rw [if_neg (show ¬ lN (cd b.2) < lN (cd a.2) from fun z => hlt ((pk_lLT (by omega) (by omega)).mp z))]
                    refine R_putL (pc := 146) fl_X0_27 ⟨rfl, rfl⟩ kc_121 lc_121 dX0_meet_146 ?_
                    rw [← hA, ← hB]
                    refine T_vret dX0_meet_149 rfl (Nat.le_refl _) (Nat.le_refl _) ⟨_, rfl, rfl, fin (some (b.2, a.2)) _ (a1.trans (OfS.sL (OfS.sL (OfS.refl _ _) rfl) rfl)) ha (by unfold crG; rw [ec, hA, hB]; exact (if_neg hlt).symm) f0 f1 ?_ ?_ ?_ f5⟩
                    · skip
                      simp (disch := omega) only [n_wI, e_wI, n_wL, e_wL, m_wI2, m_wL1, n_wCI, e_wCI, n_wCL, e_wCL, m_wCI2, m_wCL1, n_wF, e_wF, m_wF2]
                      exact f2
                    · skip
                      simp (disch := omega) only [n_wI, e_wI, n_wL, e_wL, m_wI2, m_wL1, n_wCI, e_wCI, n_wCL, e_wCL, m_wCI2, m_wCL1, n_wF, e_wF, m_wF2]
                      rfl
                    · skip
                      simp (disch := omega) only [n_wI, e_wI, n_wL, e_wL, m_wI2, m_wL1, n_wCI, e_wCI, n_wCL, e_wCL, m_wCI2, m_wCL1, n_wF, e_wF, m_wF2]
                      rfl
    have t72 : crL A B = false → T γ 6 0 0 M_X0_meet (Rm none (fun m => ((CrAt m (crU A B w0 c) ∧ CrOk (crU A B w0 c)) ∧ m.1 121 5 = bI wg) ∧ EnvW m R LL (0, 0, fun _ _ _ => false) ∧ OfS SC μ m)) 0 0 72 [some (.ref 121), some (.ref 97), some (.long (lN (cd w0))), none, some (.int (nI p)), some (.int (nI q)), some (.int (nI pl)), some (.long (vS A)), none, some (.long (vS B)), none] [] (rm m3) := fun ha => by
      have oo : OfS (fun k => k = 121) m3 (wI m3 121 1 (nI (c.2.1 + 1))) := OfS.sI (OfS.refl _ _) rfl
      have g0 : (wI m3 121 1 (nI (c.2.1 + 1))).1 121 0 = nI (c.1 + 1) := (n_wI (by omega)).trans d0
      have g5 : (wI m3 121 1 (nI (c.2.1 + 1))).1 121 5 = bI wg := (n_wI (by omega)).trans hw3
      cases ef : c.2.2.1 with
      | none =>
        rw [ef] at d2
        refine T_aload_n (pc := 72) (i := 0) dX0_meet_72 rfl rfl ?_
        refine T_dup (pc := 73) dX0_meet_73 rfl ?_
        refine R_getI (pc := 74) (x := nI c.2.1) fl_X0_15 rfl kc_121 lc_121 d1 dX0_meet_74 ?_
        refine T_iconst (pc := 77) (v := nI 1) dX0_meet_77 (by decide) ?_
        refine R_iadd (pc := 78) dX0_meet_78 ?_
        refine R_putI (pc := 79) fl_X0_15 ⟨rfl, rfl⟩ (Or.inl rfl) kc_121 lc_121 dX0_meet_79 ?_
        refine T_aload_n (pc := 82) (i := 0) dX0_meet_82 rfl rfl ?_
        refine R_getL (pc := 83) (x := (-1)) fl_X0_20 rfl kc_121 lc_121 (skI.trans d2) dX0_meet_83 ?_
        refine T_ldc2 (pc := 86) dX0_meet_86 cn_X0_18 ?_
        refine T_lcmp (pc := 89) dX0_meet_89 ?_
        refine R_lx_ne (pc := 90) (tgt := 98) dX0_meet_90 (by decide) (fun h5 => ?_) (fun h5 => ?_)
        · exact absurd rfl h5
        · skip
          refine T_aload_n (pc := 93) (i := 0) dX0_meet_93 rfl rfl ?_
          refine T_lload_n (pc := 94) (i := 2) dX0_meet_94 rfl rfl ?_
          refine R_putL (pc := 95) fl_X0_20 ⟨rfl, rfl⟩ kc_121 lc_121 dX0_meet_95 ?_
          refine t98 ha _ (oo.trans (OfS.sL (OfS.refl _ _) rfl)) g0 (show (wI m3 121 1 (nI (c.2.1 + 1))).1 121 1 = _ from e_wI ⟨rfl, rfl⟩) ?_ ?_ ?_ g5
          · rw [ef]
            simp (disch := omega) only [n_wI, e_wI, n_wL, e_wL, m_wI2, m_wL1, n_wCI, e_wCI, n_wCL, e_wCL, m_wCI2, m_wCL1, n_wF, e_wF, m_wF2]
            rfl
          · skip
            simp (disch := omega) only [n_wI, e_wI, n_wL, e_wL, m_wI2, m_wL1, n_wCI, e_wCI, n_wCL, e_wCL, m_wCI2, m_wCL1, n_wF, e_wF, m_wF2]
            exact d3
          · skip
            simp (disch := omega) only [n_wI, e_wI, n_wL, e_wL, m_wI2, m_wL1, n_wCI, e_wCI, n_wCL, e_wCL, m_wCI2, m_wCL1, n_wF, e_wF, m_wF2]
            exact d4
      | some v =>
        have bv := cd_lt (k1 v ef)
        rw [ef] at d2
        refine T_aload_n (pc := 72) (i := 0) dX0_meet_72 rfl rfl ?_
        refine T_dup (pc := 73) dX0_meet_73 rfl ?_
        refine R_getI (pc := 74) (x := nI c.2.1) fl_X0_15 rfl kc_121 lc_121 d1 dX0_meet_74 ?_
        refine T_iconst (pc := 77) (v := nI 1) dX0_meet_77 (by decide) ?_
        refine R_iadd (pc := 78) dX0_meet_78 ?_
        refine R_putI (pc := 79) fl_X0_15 ⟨rfl, rfl⟩ (Or.inl rfl) kc_121 lc_121 dX0_meet_79 ?_
        refine T_aload_n (pc := 82) (i := 0) dX0_meet_82 rfl rfl ?_
        refine R_getL (pc := 83) (x := lN (cd v)) fl_X0_20 rfl kc_121 lc_121 (skI.trans d2) dX0_meet_83 ?_
        refine T_ldc2 (pc := 86) dX0_meet_86 cn_X0_18 ?_
        refine T_lcmp (pc := 89) dX0_meet_89 ?_
        refine R_lx_ne (pc := 90) (tgt := 98) dX0_meet_90 (by decide) (fun h5 => ?_) (fun h5 => ?_)
        · refine t98 ha _ oo g0 (e_wI ⟨rfl, rfl⟩) ?_ ?_ ?_ g5
          · rw [ef]
            exact d2
          · exact d3
          · exact d4
        · exact absurd h5 (lN_ne (by omega))
    cases hA : A with
    | none =>
      have hl : crL A B = false := by rw [hA]; rfl
      have t9 := t72 hl
      cases hB : B with
      | none =>
        rw [hA, hB] at t9
        show T _ _ _ _ _ _ _ _ 52 [some (.ref 121), some (.ref 97), some (.long (lN (cd w0))), none, some (.int (nI p)), some (.int (nI q)), some (.int (nI pl)), some (.long ((-1))), none, none, none] [.long ((-1))] (rm m3)
        refine T_lstore (pc := 52) (i := 9) (ls' := [some (.ref 121), some (.ref 97), some (.long (lN (cd w0))), none, some (.int (nI p)), some (.int (nI q)), some (.int (nI pl)), some (.long ((-1))), none, some (.long ((-1))), none]) dX0_meet_52 (by decide) rfl ?_
        refine T_lload (pc := 54) (i := 7) dX0_meet_54 rfl ?_
        refine T_lload (pc := 56) (i := 9) dX0_meet_56 rfl ?_
        refine T_lcmp (pc := 58) dX0_meet_58 ?_
        refine R_lx_ne (pc := 59) (tgt := 72) dX0_meet_59 (by decide) (fun h5 => ?_) (fun h5 => ?_)
        · exact absurd rfl h5
        · skip
          refine T_lload (pc := 62) (i := 7) dX0_meet_62 rfl ?_
          refine T_ldc2 (pc := 64) dX0_meet_64 cn_X0_18 ?_
          refine T_lcmp (pc := 67) dX0_meet_67 ?_
          refine R_lx_eq (pc := 68) (tgt := 72) dX0_meet_68 (by decide) (fun h6 => ?_) (fun h6 => ?_)
          · exact t9
          · exact absurd rfl h6
      | some b =>
        have bb := cd_lt (bw2 b hB)
        rw [hA, hB] at t9
        show T _ _ _ _ _ _ _ _ 52 [some (.ref 121), some (.ref 97), some (.long (lN (cd w0))), none, some (.int (nI p)), some (.int (nI q)), some (.int (nI pl)), some (.long ((-1))), none, none, none] [.long (lN (cd b.2))] (rm m3)
        refine T_lstore (pc := 52) (i := 9) (ls' := [some (.ref 121), some (.ref 97), some (.long (lN (cd w0))), none, some (.int (nI p)), some (.int (nI q)), some (.int (nI pl)), some (.long ((-1))), none, some (.long (lN (cd b.2))), none]) dX0_meet_52 (by decide) rfl ?_
        refine T_lload (pc := 54) (i := 7) dX0_meet_54 rfl ?_
        refine T_lload (pc := 56) (i := 9) dX0_meet_56 rfl ?_
        refine T_lcmp (pc := 58) dX0_meet_58 ?_
        refine R_lx_ne (pc := 59) (tgt := 72) dX0_meet_59 (by decide) (fun h5 => ?_) (fun h5 => ?_)
        · exact t9
        · exact absurd h5.symm (lN_ne (by omega))
    | some a =>
      have ba := cd_lt (aw a hA)
      cases hB : B with
      | none =>
        have hl : crL A B = false := by rw [hA, hB]; rfl
        have t9 := t72 hl
        rw [hA, hB] at t9
        show T _ _ _ _ _ _ _ _ 52 [some (.ref 121), some (.ref 97), some (.long (lN (cd w0))), none, some (.int (nI p)), some (.int (nI q)), some (.int (nI pl)), some (.long (lN (cd a.2))), none, none, none] [.long ((-1))] (rm m3)
        refine T_lstore (pc := 52) (i := 9) (ls' := [some (.ref 121), some (.ref 97), some (.long (lN (cd w0))), none, some (.int (nI p)), some (.int (nI q)), some (.int (nI pl)), some (.long (lN (cd a.2))), none, some (.long ((-1))), none]) dX0_meet_52 (by decide) rfl ?_
        refine T_lload (pc := 54) (i := 7) dX0_meet_54 rfl ?_
        refine T_lload (pc := 56) (i := 9) dX0_meet_56 rfl ?_
        refine T_lcmp (pc := 58) dX0_meet_58 ?_
        refine R_lx_ne (pc := 59) (tgt := 72) dX0_meet_59 (by decide) (fun h5 => ?_) (fun h5 => ?_)
        · exact t9
        · exact absurd h5 (lN_ne (by omega))
      | some b =>
        have bb := cd_lt (bw2 b hB)
        show T _ _ _ _ _ _ _ _ 52 [some (.ref 121), some (.ref 97), some (.long (lN (cd w0))), none, some (.int (nI p)), some (.int (nI q)), some (.int (nI pl)), some (.long (lN (cd a.2))), none, none, none] [.long (lN (cd b.2))] (rm m3)
        refine T_lstore (pc := 52) (i := 9) (ls' := [some (.ref 121), some (.ref 97), some (.long (lN (cd w0))), none, some (.int (nI p)), some (.int (nI q)), some (.int (nI pl)), some (.long (lN (cd a.2))), none, some (.long (lN (cd b.2))), none]) dX0_meet_52 (by decide) rfl ?_
        refine T_lload (pc := 54) (i := 7) dX0_meet_54 rfl ?_
        refine T_lload (pc := 56) (i := 9) dX0_meet_56 rfl ?_
        refine T_lcmp (pc := 58) dX0_meet_58 ?_
        refine R_ln_ne (pc := 59) (tgt := 72) (by omega) (by omega) dX0_meet_59 (by decide) (fun h5 => ?_) (fun h5 => ?_)
        · have hl : crL A B = false := by
            rw [hA, hB]
            exact decide_eq_false (fun z => h5 (by rw [z]))
          have t9 := t72 hl
          rw [hA, hB] at t9
          exact t9
        · skip
          have hl : crL (some a) (some b) = true := decide_eq_true (cd_inj (aw a hA).2 (bw2 b hB).2 h5)
          have eu : crU (some a) (some b) w0 c = (c.1 + 1, c.2) := by unfold crU; rw [if_pos hl]
          rw [eu]
          refine T_lload (pc := 62) (i := 7) dX0_meet_62 rfl ?_
          refine T_ldc2 (pc := 64) dX0_meet_64 cn_X0_18 ?_
          refine T_lcmp (pc := 67) dX0_meet_67 ?_
          refine R_lx_eq (pc := 68) (tgt := 72) dX0_meet_68 (by decide) (fun h6 => ?_) (fun h6 => ?_)
          · exact absurd h6 (lN_ne (by omega))
          · skip
            exact T_vret dX0_meet_71 rfl (Nat.le_refl _) (Nat.le_refl _) ⟨_, rfl, rfl, ⟨⟨⟨d0, d1, d2, d3, d4⟩, k1, k2⟩, hw3⟩, hE3, hO5⟩
  · skip
    have e : crS R wg c (w0, p, q, pl) = (c.1 + 1, c.2) := by unfold crS; rw [if_neg (by rw [h1]; decide)]
    rw [e]
    exact T_vret dX0_meet_17 rfl (Nat.le_refl _) (Nat.le_refl _) ⟨_, rfl, rfl, ⟨⟨hC1, hK⟩, hw1⟩, hE1, o9.mono (fun k hk => Or.inr hk)⟩
end CR

