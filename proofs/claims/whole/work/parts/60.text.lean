/-! the TAPE as a text: its things -/
def spF (P : Nat → Bool) (B : List Nat) : Nat → Nat → Nat
  | 0, p => p
  | f + 1, p => if p < B.length ∧ P (B.getD p 0) = true then spF P B f (p + 1) else p
/-- behind all from p on of a kind -/
def spn (P : Nat → Bool) (B : List Nat) (p : Nat) : Nat := spF P B (B.length - p) p
theorem spn_y {P : Nat → Bool} {B : List Nat} {p : Nat} (h : p < B.length) (g : P (B.getD p 0) = true) : spn P B p = spn P B (p + 1) := by
  unfold spn
  rw [show B.length - p = (B.length - (p + 1)) + 1 by omega]
  show (if p < B.length ∧ P (B.getD p 0) = true then spF P B (B.length - (p + 1)) (p + 1) else p) = _
  rw [if_pos ⟨h, g⟩]
theorem spn_n {P : Nat → Bool} {B : List Nat} {p : Nat} (h : B.length ≤ p ∨ P (B.getD p 0) = false) : spn P B p = p := by
  unfold spn
  cases e : B.length - p with
  | zero => rfl
  | succ f =>
    show (if p < B.length ∧ P (B.getD p 0) = true then spF P B f (p + 1) else p) = _
    rw [if_neg]
    rintro ⟨a, b⟩
    rcases h with h | h
    · omega
    · rw [h] at b
      cases b
theorem spF_le (P : Nat → Bool) (B : List Nat) : ∀ f p, p ≤ spF P B f p ∧ (p ≤ B.length → spF P B f p ≤ B.length)
  | 0, p => ⟨Nat.le_refl _, fun h => h⟩
  | f + 1, p => by
    unfold spF
    have h := spF_le P B f (p + 1)
    split
    · next g => exact ⟨by omega, fun _ => h.2 g.1⟩
    · exact ⟨Nat.le_refl _, fun h => h⟩
theorem spn_le {P : Nat → Bool} {B : List Nat} {p : Nat} (h : p ≤ B.length) : p ≤ spn P B p ∧ spn P B p ≤ B.length := ⟨(spF_le P B _ p).1, (spF_le P B _ p).2 h⟩
def isB (b : Nat) : Bool := decide (b = 32)
def isL (b : Nat) : Bool := decide (97 ≤ b) && decide (b ≤ 122)
def isD (b : Nat) : Bool := decide (48 ≤ b) && decide (b ≤ 57)
/-- the thing ahead of p: where it begins, ends, its kind, its number -/
def tS (B : List Nat) (p : Nat) : Nat := spn isB B p
def tE (B : List Nat) (p : Nat) : Nat := if tS B p < B.length then (if isL (B.getD (tS B p) 0) = true then spn isL B (tS B p) else if isD (B.getD (tS B p) 0) = true then spn isD B (tS B p) else tS B p + 1) else tS B p
def tK (B : List Nat) (p : Nat) : Int32 := if tS B p < B.length then (if isL (B.getD (tS B p) 0) = true then -2 else if isD (B.getD (tS B p) 0) = true then -3 else nI (B.getD (tS B p) 0)) else -1
def nvN (B : List Nat) (s : Nat) : Nat → Nat
  | 0 => 0
  | k + 1 => 10 * nvN B s k + B.getD (s + k) 0 - 48
def tV (B : List Nat) (p : Nat) : Int32 := if 3 < tE B p - tS B p then -1 else nI (nvN B (tS B p) (tE B p - tS B p))
def BytesAt (m : SM2) (B : List Nat) : Prop := (m.1 1 1 = nI B.length ∧ B.length ≤ 400) ∧ ∀ i, i < B.length → B.getD i 0 < 256 ∧ m.1 2 i = nI (B.getD i 0)
def TokAt (m : SM2) (B : List Nat) (p : Nat) : Prop := (BytesAt m B ∧ p ≤ B.length) ∧ m.1 1 3 = nI (tS B p) ∧ m.1 1 4 = nI (tE B p) ∧ m.1 1 2 = tK B p ∧ (tK B p = -3 → m.1 1 5 = tV B p)
theorem tS_le {B : List Nat} {p : Nat} (h : p ≤ B.length) : p ≤ tS B p ∧ tS B p ≤ B.length := spn_le h
theorem tE_le {B : List Nat} {p : Nat} (h : p ≤ B.length) : tS B p ≤ tE B p ∧ tE B p ≤ B.length := by
  have h1 := tS_le h
  unfold tE
  split
  · split
    · exact spn_le h1.2
    · split
      · exact spn_le h1.2
      · omega
  · omega
theorem BytesAt.keep {μ m : SM2} {B : List Nat} (h : BytesAt μ B) (h1 : m.1 1 1 = μ.1 1 1) (h2 : ∀ j, m.1 2 j = μ.1 2 j) : BytesAt m B := ⟨⟨h1.trans h.1.1, h.1.2⟩, fun i hi => ⟨(h.2 i hi).1, (h2 i).trans (h.2 i hi).2⟩⟩
theorem BytesAt.ofs {S : Nat → Prop} {μ m : SM2} {B : List Nat} (h : BytesAt μ B) (g : OfS S μ m) (h1 : ¬ S 1) (h2 : ¬ S 2) : BytesAt m B := h.keep (g.i h1 1) (g.i h2)
theorem TokAt.ofs {S : Nat → Prop} {μ m : SM2} {B : List Nat} {p : Nat} (h : TokAt μ B p) (g : OfS S μ m) (h1 : ¬ S 1) (h2 : ¬ S 2) : TokAt m B p := ⟨⟨h.1.1.ofs g h1 h2, h.1.2⟩, (g.i h1 3).trans h.2.1, (g.i h1 4).trans h.2.2.1, (g.i h1 2).trans h.2.2.2.1, fun e => (g.i h1 5).trans (h.2.2.2.2 e)⟩
def S1 (k : Nat) : Prop := k = 1
/-- a word stands ahead -/
def wdB (B : List Nat) (p : Nat) (bs : List Int32) : Bool := decide (tK B p = -2) && decide (((B.take (tE B p)).drop (tS B p)).map nI = bs)
/-- four bytes of a number -/
def byN (x : Int32) (s : Nat) : Nat := x.toBitVec.toNat / 2 ^ s % 256
theorem byN_eq (x : Int32) {s : Nat} (hs : s < 32) : iushr x (nI s) &&& nI 255 = nI (byN x s) := by
  have e : x = nI x.toBitVec.toNat := by
    apply Int32.toBitVec_inj.1
    show x.toBitVec = BitVec.ofNat 32 x.toBitVec.toNat
    simp
  have hk : x.toBitVec.toNat < 2 ^ 32 := x.toBitVec.isLt
  unfold byN
  generalize x.toBitVec.toNat = k at *
  rw [e]
  have hs2 : k >>> s ≤ k := by
    rw [Nat.shiftRight_eq_div_pow]
    exact Nat.div_le_self _ _
  have e2 : iushr (nI k) (nI s) = nI (k >>> s) := by
    have e3 : UInt32.ofNat k >>> (UInt32.ofNat s &&& Int32.toUInt32 31) = UInt32.ofNat (k >>> s) := by
      apply UInt32.toNat_inj.1
      have h1 : (UInt32.ofNat k).toNat = k := Nat.mod_eq_of_lt (by omega)
      have h2 : (UInt32.ofNat (k >>> s)).toNat = k >>> s := Nat.mod_eq_of_lt (by omega)
      rw [UInt32.toNat_shiftRight, nx_cnt ⟨s, hs⟩, h1, h2]
    show (UInt32.ofNat k >>> (UInt32.ofNat s &&& Int32.toUInt32 31)).toInt32 = _
    rw [e3]
    rfl
  rw [e2, show (255 : Nat) = 2 ^ 8 - 1 by decide, fa_mask, Nat.shiftRight_eq_div_pow]
theorem getD_s2 {B : List Nat} {b i : Nat} (h : i < B.length + 1) : (B ++ [b]).getD i 0 = if i < B.length then B.getD i 0 else b := getD_snoc h
section TX
variable {γ : Ga} {μ : SM2}
theorem c_Text_append {x : Int32} {B : List Nat} (hB : BytesAt μ B) (hl : B.length + 4 ≤ 400) : Ex γ 1 0 0 M_X8_append [.ref 1, .int x] (rm μ) (Rm none (fun m => BytesAt m (B ++ [byN x 24, byN x 16, byN x 8, byN x 0]) ∧ (∀ j, j ≠ 1 → m.1 1 j = μ.1 1 j) ∧ OfS (fun k => k = 1 ∨ k = 2) μ m)) := by
  have step : ∀ (s : Nat) (s' : Int32) (C : List Nat) (m : SM2), s < 32 → nI s + (-8) = s' → C.length < 400 → BytesAt m C → (∀ j, j ≠ 1 → m.1 1 j = μ.1 1 j) → OfS (fun k => k = 1 ∨ k = 2) μ m → (∀ m', BytesAt m' (C ++ [byN x s]) → (∀ j, j ≠ 1 → m'.1 1 j = μ.1 1 j) → OfS (fun k => k = 1 ∨ k = 2) μ m' → T γ 1 0 0 M_X8_append (Rm none (fun m => BytesAt m (B ++ [byN x 24, byN x 16, byN x 8, byN x 0]) ∧ (∀ j, j ≠ 1 → m.1 1 j = μ.1 1 j) ∧ OfS (fun k => k = 1 ∨ k = 2) μ m)) 0 0 3 [some (.ref 1), some (.int x), some (.int s')] [] (rm m')) → T γ 1 0 0 M_X8_append (Rm none (fun m => BytesAt m (B ++ [byN x 24, byN x 16, byN x 8, byN x 0]) ∧ (∀ j, j ≠ 1 → m.1 1 j = μ.1 1 j) ∧ OfS (fun k => k = 1 ∨ k = 2) μ m)) 0 0 3 [some (.ref 1), some (.int x), some (.int (nI s))] [] (rm m) := fun s s' C m hs es hc hC hf hO hk => by
    have hsz := hC.1.1
    refine T_iload_n (pc := 3) (i := 2) dX8_append_3 rfl rfl ?_
    refine R_if_lt (pc := 4) (tgt := 49) (by omega) dX8_append_4 (by decide) (fun h1 => ?_) (fun h1 => ?_)
    · exact h1.elim
    · skip
      refine T_aload_n (pc := 7) (i := 0) dX8_append_7 rfl rfl ?_
      refine R_getI (pc := 8) (x := nI C.length) fl_X8_22 rfl kc_1 lc_1 hsz dX8_append_8 ?_
      refine T_sipush (pc := 11) (v := nI 400) dX8_append_11 (by decide) ?_
      refine R_icmp_ge (pc := 14) (tgt := 43) (by omega) (by omega) dX8_append_14 (by decide) (fun h2 => ?_) (fun h2 => ?_)
      · exact absurd h2 (by omega)
      · skip
        refine T_aload_n (pc := 17) (i := 0) dX8_append_17 rfl rfl ?_
        refine R_getR (pc := 18) (i := 2) fl_X8_9 rfl kc_1 lc_1 rc_1_0 dX8_append_18 ?_
        refine T_aload_n (pc := 21) (i := 0) dX8_append_21 rfl rfl ?_
        refine R_getI (pc := 22) (x := nI C.length) fl_X8_22 rfl kc_1 lc_1 hsz dX8_append_22 ?_
        refine T_iload_n (pc := 25) (i := 1) dX8_append_25 rfl rfl ?_
        refine T_iload_n (pc := 26) (i := 2) dX8_append_26 rfl rfl ?_
        refine T_iushr (pc := 27) dX8_append_27 ?_
        refine T_sipush (pc := 28) (v := nI 255) dX8_append_28 (by decide) ?_
        refine T_iand (pc := 31) dX8_append_31 ?_
        refine T_topi (v := nI (byN x s)) (byN_eq x hs) ?_
        refine R_iast (pc := 32) kc_2 lc_2 (by omega) (by first | decide | assumption) dX8_append_32 ?_
        refine T_aload_n (pc := 33) (i := 0) dX8_append_33 rfl rfl ?_
        refine T_dup (pc := 34) dX8_append_34 rfl ?_
        refine R_getI (pc := 35) (x := nI C.length) fl_X8_22 rfl kc_1 lc_1 ((wI_ne (by first | omega | simp)).trans hsz) dX8_append_35 ?_
        refine T_iconst (pc := 38) (v := nI 1) dX8_append_38 (by decide) ?_
        refine R_iadd (pc := 39) dX8_append_39 ?_
        refine R_putI (pc := 40) fl_X8_22 ⟨rfl, rfl⟩ (Or.inl rfl) kc_1 lc_1 dX8_append_40 ?_
        refine T_iinc (pc := 43) (i := 2) (v := (nI s + (-8))) (ls' := [some (.ref 1), some (.int (x)), some (.int ((nI s + (-8))))]) dX8_append_43 rfl rfl rfl ?_
        refine T_goto (pc := 46) (tgt := 3) dX8_append_46 (by decide) ?_
        rw [es]
        refine hk _ ⟨⟨?_, ?_⟩, fun i hi => ?_⟩ (fun j hj => ?_) (OfS.sI (OfS.sI hO (Or.inr rfl)) (Or.inl rfl))
        · rw [List.length_append]
          exact e_wI ⟨rfl, rfl⟩
        · rw [List.length_append]
          show C.length + 1 ≤ 400
          omega
        · rw [List.length_append] at hi
          rw [getD_s2 hi]
          by_cases hi2 : i < C.length
          · rw [if_pos hi2]
            have e := hC.2 i hi2
            refine ⟨e.1, ?_⟩
            simp (disch := omega) only [n_wI, e_wI, n_wL, e_wL, m_wI2, m_wL1, n_wCI, e_wCI, n_wCL, e_wCL, m_wCI2, m_wCL1, n_wF, e_wF, m_wF2]
            exact e.2
          · have hi3 : i < C.length + 1 := hi
            have e : i = C.length := by omega
            rw [if_neg hi2]
            refine ⟨Nat.mod_lt _ (by decide), ?_⟩
            simp (disch := omega) only [n_wI, e_wI, n_wL, e_wL, m_wI2, m_wL1, n_wCI, e_wCI, n_wCL, e_wCL, m_wCI2, m_wCL1, n_wF, e_wF, m_wF2]
        · rw [n_wI (by omega), n_wI (by omega)]
          exact hf j hj
  refine Ex.of (by decide +kernel) rfl (Nat.le_of_ble_eq_true rfl) ?_
  show T _ _ _ _ _ _ _ _ _ [some (.ref 1), some (.int (x)), none] [] (rm μ)
  refine T_bipush (pc := 0) (v := nI 24) dX8_append_0 (by decide) ?_
  refine T_istore_n (pc := 2) (i := 2) (ls' := [some (.ref 1), some (.int (x)), some (.int (nI 24))]) dX8_append_2 rfl (by decide) rfl ?_
  refine step 24 (nI 16) B μ (by decide) (by decide) (by omega) hB (fun j _ => rfl) (OfS.refl _ _) (fun m1 a1 b1 c1 => ?_)
  refine step 16 (nI 8) _ m1 (by decide) (by decide) (by rw [List.length_append]; show B.length + 1 < 400; omega) a1 b1 c1 (fun m2 a2 b2 c2 => ?_)
  refine step 8 (nI 0) _ m2 (by decide) (by decide) (by rw [List.length_append, List.length_append]; show B.length + 1 + 1 < 400; omega) a2 b2 c2 (fun m3 a3 b3 c3 => ?_)
  refine step 0 (-8) _ m3 (by decide) (by decide) (by rw [List.length_append, List.length_append, List.length_append]; show B.length + 1 + 1 + 1 < 400; omega) a3 b3 c3 (fun m4 a4 b4 c4 => ?_)
  rw [List.append_assoc, List.append_assoc, List.append_assoc] at a4
  refine T_iload_n (pc := 3) (i := 2) dX8_append_3 rfl rfl ?_
  refine T_if_lt (pc := 4) (tgt := 49) dX8_append_4 (by decide) (fun h1 => ?_) (fun h1 => ?_)
  · skip
    exact T_vret dX8_append_49 rfl (Nat.le_refl _) (Nat.le_refl _) ⟨_, rfl, rfl, a4, b4, c4⟩
  · exact absurd (show (-8 : Int32) < 0 by decide) h1
theorem c_advance {B : List Nat} {p : Nat} (hB : BytesAt μ B) (h4 : μ.1 1 4 = nI p) (hp : p ≤ B.length) : Ex γ 1 0 0 M_X8_advance [.ref 1] (rm μ) (Rm none (fun m => TokAt m B p ∧ m.1 1 6 = μ.1 1 6 ∧ OfS S1 μ m)) := by
  have h400 := hB.1.2
  have hs := tS_le hp
  have fin : ∀ (m : SM2), BytesAt m B → m.1 1 3 = nI (tS B p) → m.1 1 4 = nI (tE B p) → m.1 1 2 = tK B p → (tK B p = -3 → m.1 1 5 = tV B p) → m.1 1 6 = μ.1 1 6 → OfS S1 μ m → T γ 1 0 0 M_X8_advance (Rm none (fun m => TokAt m B p ∧ m.1 1 6 = μ.1 1 6 ∧ OfS S1 μ m)) 0 0 309 [some (.ref 1)] [] (rm m) := fun m a1 a2 a3 a4 a5 a6 a7 => by
    exact T_vret dX8_advance_309 rfl (Nat.le_refl _) (Nat.le_refl _) ⟨_, rfl, rfl, ⟨⟨a1, hp⟩, a2, a3, a4, a5⟩, a6, a7⟩
  have tail : ∀ (m : SM2), BytesAt m B → m.1 1 3 = nI (tS B p) → m.1 1 6 = μ.1 1 6 → OfS S1 μ m → T γ 1 0 0 M_X8_advance (Rm none (fun m => TokAt m B p ∧ m.1 1 6 = μ.1 1 6 ∧ OfS S1 μ m)) 0 0 46 [some (.ref 1)] [] (rm m) := fun m a1 a2 a6 a7 => by
    obtain ⟨s, es⟩ : ∃ s, tS B p = s := ⟨_, rfl⟩
    have eE : tE B p = if s < B.length then (if isL (B.getD s 0) = true then spn isL B s else if isD (B.getD s 0) = true then spn isD B s else s + 1) else s := by unfold tE; rw [es]
    have eK : tK B p = if s < B.length then (if isL (B.getD s 0) = true then -2 else if isD (B.getD s 0) = true then -3 else nI (B.getD s 0)) else -1 := by unfold tK; rw [es]
    have eV : tV B p = if 3 < tE B p - s then -1 else nI (nvN B s (tE B p - s)) := by unfold tV; rw [es]
    rw [es] at fin a2 hs
    by_cases hlt : s < B.length
    · rw [if_pos hlt] at eE eK
      obtain ⟨b, eb⟩ : ∃ b, B.getD s 0 = b := ⟨_, rfl⟩
      have hby := a1.2 s hlt
      rw [eb] at hby eE eK
      have hb256 := hby.1
      have oth : isL b = false → isD b = false → T γ 1 0 0 M_X8_advance (Rm none (fun m => TokAt m B p ∧ m.1 1 6 = μ.1 1 6 ∧ OfS S1 μ m)) 0 0 291 [some (.ref 1)] [] (rm (wI (wI m 1 4 (nI s)) 1 2 (nI b))) := fun n1 n2 => by
        rw [if_neg (by rw [n1]; decide), if_neg (by rw [n2]; decide)] at eE eK
        refine T_aload_n (pc := 291) (i := 0) dX8_advance_291 rfl rfl ?_
        refine R_getI (pc := 292) (x := nI b) fl_X8_15 rfl kc_1 lc_1 (e_wI ⟨rfl, rfl⟩) dX8_advance_292 ?_
        refine T_iconst (pc := 295) (v := (-1)) dX8_advance_295 (by decide) ?_
        refine T_icmp_eq (pc := 296) (tgt := 309) dX8_advance_296 (by decide) (fun h9 => ?_) (fun h9 => ?_)
        · exact absurd h9 (nI_ne (by omega))
        · skip
          refine T_aload_n (pc := 299) (i := 0) dX8_advance_299 rfl rfl ?_
          refine T_dup (pc := 300) dX8_advance_300 rfl ?_
          refine R_getI (pc := 301) (x := nI s) fl_X8_25 rfl kc_1 lc_1 ((n_wI (by omega)).trans (e_wI ⟨rfl, rfl⟩)) dX8_advance_301 ?_
          refine T_iconst (pc := 304) (v := nI 1) dX8_advance_304 (by decide) ?_
          refine R_iadd (pc := 305) dX8_advance_305 ?_
          refine R_putI (pc := 306) fl_X8_25 ⟨rfl, rfl⟩ (Or.inl rfl) kc_1 lc_1 dX8_advance_306 ?_
          have hk3 : tK B p ≠ -3 := by
            rw [eK]
            intro z
            rw [fa_eq, nI_toInt (by omega)] at z
            have e3 : (-3 : Int32).toInt = -3 := rfl
            omega
          refine fin _ (a1.keep ?_ (fun j => ?_)) ?_ ?_ ?_ (fun z => absurd z hk3) ?_ (OfS.sI (OfS.sI (OfS.sI a7 rfl) rfl) rfl)
          · skip
            simp (disch := omega) only [n_wI, e_wI, n_wL, e_wL, m_wI2, m_wL1, n_wCI, e_wCI, n_wCL, e_wCL, m_wCI2, m_wCL1, n_wF, e_wF, m_wF2]
          · skip
            simp (disch := omega) only [n_wI, e_wI, n_wL, e_wL, m_wI2, m_wL1, n_wCI, e_wCI, n_wCL, e_wCL, m_wCI2, m_wCL1, n_wF, e_wF, m_wF2]
          · skip
            simp (disch := omega) only [n_wI, e_wI, n_wL, e_wL, m_wI2, m_wL1, n_wCI, e_wCI, n_wCL, e_wCL, m_wCI2, m_wCL1, n_wF, e_wF, m_wF2]
            exact a2
          · rw [eE]
            simp (disch := omega) only [n_wI, e_wI, n_wL, e_wL, m_wI2, m_wL1, n_wCI, e_wCI, n_wCL, e_wCL, m_wCI2, m_wCL1, n_wF, e_wF, m_wF2]
          · rw [eK]
            simp (disch := omega) only [n_wI, e_wI, n_wL, e_wL, m_wI2, m_wL1, n_wCI, e_wCI, n_wCL, e_wCL, m_wCI2, m_wCL1, n_wF, e_wF, m_wF2]
          · skip
            simp (disch := omega) only [n_wI, e_wI, n_wL, e_wL, m_wI2, m_wL1, n_wCI, e_wCI, n_wCL, e_wCL, m_wCI2, m_wCL1, n_wF, e_wF, m_wF2]
            exact a6
      have dig : isL b = false → T γ 1 0 0 M_X8_advance (Rm none (fun m => TokAt m B p ∧ m.1 1 6 = μ.1 1 6 ∧ OfS S1 μ m)) 0 0 158 [some (.ref 1)] [] (rm (wI (wI m 1 4 (nI s)) 1 2 (nI b))) := fun n1 => by
        refine T_aload_n (pc := 158) (i := 0) dX8_advance_158 rfl rfl ?_
        refine R_getI (pc := 159) (x := nI b) fl_X8_15 rfl kc_1 lc_1 (e_wI ⟨rfl, rfl⟩) dX8_advance_159 ?_
        refine T_bipush (pc := 162) (v := nI 48) dX8_advance_162 (by decide) ?_
        refine R_icmp_lt (pc := 164) (tgt := 291) (by omega) (by omega) dX8_advance_164 (by decide) (fun h9 => ?_) (fun h9 => ?_)
        · exact oth n1 (by unfold isD; rw [decide_eq_false (by omega)]; rfl)
        · skip
          refine T_aload_n (pc := 167) (i := 0) dX8_advance_167 rfl rfl ?_
          refine R_getI (pc := 168) (x := nI b) fl_X8_15 rfl kc_1 lc_1 (e_wI ⟨rfl, rfl⟩) dX8_advance_168 ?_
          refine T_bipush (pc := 171) (v := nI 57) dX8_advance_171 (by decide) ?_
          refine R_icmp_gt (pc := 173) (tgt := 291) (by omega) (by omega) dX8_advance_173 (by decide) (fun h8 => ?_) (fun h8 => ?_)
          · exact oth n1 (by unfold isD; rw [decide_eq_false (p := b ≤ 57) (by omega)]; simp)
          · skip
            have hd : isD b = true := by unfold isD; rw [decide_eq_true h9, decide_eq_true h8]; rfl
            rw [if_neg (by rw [n1]; decide), if_pos hd] at eE eK
            refine T_aload_n (pc := 176) (i := 0) dX8_advance_176 rfl rfl ?_
            refine T_bipush (pc := 177) (v := (-3)) dX8_advance_177 (by decide) ?_
            refine R_putI (pc := 179) fl_X8_15 ⟨rfl, rfl⟩ (Or.inl rfl) kc_1 lc_1 dX8_advance_179 ?_
            refine T_aload_n (pc := 182) (i := 0) dX8_advance_182 rfl rfl ?_
            refine T_iconst (pc := 183) (v := nI 0) dX8_advance_183 (by decide) ?_
            refine R_putI (pc := 184) fl_X8_34 ⟨rfl, rfl⟩ (Or.inl rfl) kc_1 lc_1 dX8_advance_184 ?_
            suffices loop : ∀ (f k : Nat) (m' : SM2), s + k + f = B.length → BytesAt m' B → m'.1 1 3 = nI s → m'.1 1 4 = nI (s + k) → m'.1 1 2 = -3 → m'.1 1 5 = nI (nvN B s k) → m'.1 1 6 = μ.1 1 6 → OfS S1 μ m' → spn isD B (s + k) = tE B p → T γ 1 0 0 M_X8_advance (Rm none (fun m => TokAt m B p ∧ m.1 1 6 = μ.1 1 6 ∧ OfS S1 μ m)) 0 0 187 [some (.ref 1)] [] (rm m') by
              refine loop (B.length - s) 0 _ (by omega) (a1.keep ?_ (fun j => ?_)) ?_ ?_ ?_ ?_ ?_ (OfS.sI (OfS.sI (OfS.sI (OfS.sI a7 rfl) rfl) rfl) rfl) eE.symm
              · skip
                simp (disch := omega) only [n_wI, e_wI, n_wL, e_wL, m_wI2, m_wL1, n_wCI, e_wCI, n_wCL, e_wCL, m_wCI2, m_wCL1, n_wF, e_wF, m_wF2]
              · skip
                simp (disch := omega) only [n_wI, e_wI, n_wL, e_wL, m_wI2, m_wL1, n_wCI, e_wCI, n_wCL, e_wCL, m_wCI2, m_wCL1, n_wF, e_wF, m_wF2]
              · skip
                simp (disch := omega) only [n_wI, e_wI, n_wL, e_wL, m_wI2, m_wL1, n_wCI, e_wCI, n_wCL, e_wCL, m_wCI2, m_wCL1, n_wF, e_wF, m_wF2]
                exact a2
              · skip
                simp (disch := omega) only [n_wI, e_wI, n_wL, e_wL, m_wI2, m_wL1, n_wCI, e_wCI, n_wCL, e_wCL, m_wCI2, m_wCL1, n_wF, e_wF, m_wF2]
                rfl
              · skip
                simp (disch := omega) only [n_wI, e_wI, n_wL, e_wL, m_wI2, m_wL1, n_wCI, e_wCI, n_wCL, e_wCL, m_wCI2, m_wCL1, n_wF, e_wF, m_wF2]
              · skip
                simp (disch := omega) only [n_wI, e_wI, n_wL, e_wL, m_wI2, m_wL1, n_wCI, e_wCI, n_wCL, e_wCL, m_wCI2, m_wCL1, n_wF, e_wF, m_wF2]
                rfl
              · skip
                simp (disch := omega) only [n_wI, e_wI, n_wL, e_wL, m_wI2, m_wL1, n_wCI, e_wCI, n_wCL, e_wCL, m_wCI2, m_wCL1, n_wF, e_wF, m_wF2]
                exact a6
            have ex : ∀ (k : Nat) (m' : SM2), s + k ≤ B.length → BytesAt m' B → m'.1 1 3 = nI s → m'.1 1 4 = nI (s + k) → m'.1 1 2 = -3 → m'.1 1 5 = nI (nvN B s k) → m'.1 1 6 = μ.1 1 6 → OfS S1 μ m' → s + k = tE B p → T γ 1 0 0 M_X8_advance (Rm none (fun m => TokAt m B p ∧ m.1 1 6 = μ.1 1 6 ∧ OfS S1 μ m)) 0 0 263 [some (.ref 1)] [] (rm m') := fun k m' hk c1 c3 c4 c2 c5 c6 c7 ee => by
              have eV2 : tV B p = if 3 < k then -1 else nI (nvN B s k) := by rw [eV, ← ee, show s + k - s = k by omega]
              refine T_aload_n (pc := 263) (i := 0) dX8_advance_263 rfl rfl ?_
              refine T_aload_n (pc := 264) (i := 0) dX8_advance_264 rfl rfl ?_
              refine R_getI (pc := 265) (x := nI (s + k)) fl_X8_25 rfl kc_1 lc_1 c4 dX8_advance_265 ?_
              refine T_aload_n (pc := 268) (i := 0) dX8_advance_268 rfl rfl ?_
              refine R_getI (pc := 269) (x := nI s) fl_X8_31 rfl kc_1 lc_1 c3 dX8_advance_269 ?_
              refine R_isub (pc := 272) (by omega) dX8_advance_272 ?_
              refine T_iconst (pc := 273) (v := nI 3) dX8_advance_273 (by decide) ?_
              refine R_icmp_le (pc := 274) (tgt := 281) (by omega) (by omega) dX8_advance_274 (by decide) (fun h7 => ?_) (fun h7 => ?_)
              · skip
                refine T_aload_n (pc := 281) (i := 0) dX8_advance_281 rfl rfl ?_
                refine R_getI (pc := 282) (x := nI (nvN B s k)) fl_X8_34 rfl kc_1 lc_1 c5 dX8_advance_282 ?_
                refine R_putI (pc := 285) fl_X8_34 ⟨rfl, rfl⟩ (Or.inl rfl) kc_1 lc_1 dX8_advance_285 ?_
                refine T_goto (pc := 288) (tgt := 309) dX8_advance_288 (by decide) ?_
                refine fin _ (c1.keep ?_ (fun j => ?_)) ?_ ?_ ?_ (fun z => ?_) ?_ (OfS.sI c7 rfl)
                · skip
                  simp (disch := omega) only [n_wI, e_wI, n_wL, e_wL, m_wI2, m_wL1, n_wCI, e_wCI, n_wCL, e_wCL, m_wCI2, m_wCL1, n_wF, e_wF, m_wF2]
                · skip
                  simp (disch := omega) only [n_wI, e_wI, n_wL, e_wL, m_wI2, m_wL1, n_wCI, e_wCI, n_wCL, e_wCL, m_wCI2, m_wCL1, n_wF, e_wF, m_wF2]
                · skip
                  simp (disch := omega) only [n_wI, e_wI, n_wL, e_wL, m_wI2, m_wL1, n_wCI, e_wCI, n_wCL, e_wCL, m_wCI2, m_wCL1, n_wF, e_wF, m_wF2]
                  exact c3
                · rw [← ee]
                  simp (disch := omega) only [n_wI, e_wI, n_wL, e_wL, m_wI2, m_wL1, n_wCI, e_wCI, n_wCL, e_wCL, m_wCI2, m_wCL1, n_wF, e_wF, m_wF2]
                  exact c4
                · rw [eK]
                  simp (disch := omega) only [n_wI, e_wI, n_wL, e_wL, m_wI2, m_wL1, n_wCI, e_wCI, n_wCL, e_wCL, m_wCI2, m_wCL1, n_wF, e_wF, m_wF2]
                  exact c2
                · rw [eV2, if_neg (by omega)]
                  simp (disch := omega) only [n_wI, e_wI, n_wL, e_wL, m_wI2, m_wL1, n_wCI, e_wCI, n_wCL, e_wCL, m_wCI2, m_wCL1, n_wF, e_wF, m_wF2]
                · skip
                  simp (disch := omega) only [n_wI, e_wI, n_wL, e_wL, m_wI2, m_wL1, n_wCI, e_wCI, n_wCL, e_wCL, m_wCI2, m_wCL1, n_wF, e_wF, m_wF2]
                  exact c6
              · skip
                refine T_iconst (pc := 277) (v := (-1)) dX8_advance_277 (by decide) ?_
                refine T_goto (pc := 278) (tgt := 285) dX8_advance_278 (by decide) ?_
                refine R_putI (pc := 285) fl_X8_34 ⟨rfl, rfl⟩ (Or.inl rfl) kc_1 lc_1 dX8_advance_285 ?_
                refine T_goto (pc := 288) (tgt := 309) dX8_advance_288 (by decide) ?_
                refine fin _ (c1.keep ?_ (fun j => ?_)) ?_ ?_ ?_ (fun z => ?_) ?_ (OfS.sI c7 rfl)
                · skip
                  simp (disch := omega) only [n_wI, e_wI, n_wL, e_wL, m_wI2, m_wL1, n_wCI, e_wCI, n_wCL, e_wCL, m_wCI2, m_wCL1, n_wF, e_wF, m_wF2]
                · skip
                  simp (disch := omega) only [n_wI, e_wI, n_wL, e_wL, m_wI2, m_wL1, n_wCI, e_wCI, n_wCL, e_wCL, m_wCI2, m_wCL1, n_wF, e_wF, m_wF2]
                · skip
                  simp (disch := omega) only [n_wI, e_wI, n_wL, e_wL, m_wI2, m_wL1, n_wCI, e_wCI, n_wCL, e_wCL, m_wCI2, m_wCL1, n_wF, e_wF, m_wF2]
                  exact c3
                · rw [← ee]
                  simp (disch := omega) only [n_wI, e_wI, n_wL, e_wL, m_wI2, m_wL1, n_wCI, e_wCI, n_wCL, e_wCL, m_wCI2, m_wCL1, n_wF, e_wF, m_wF2]
                  exact c4
                · rw [eK]
                  simp (disch := omega) only [n_wI, e_wI, n_wL, e_wL, m_wI2, m_wL1, n_wCI, e_wCI, n_wCL, e_wCL, m_wCI2, m_wCL1, n_wF, e_wF, m_wF2]
                  exact c2
                · rw [eV2, if_pos (by omega)]
                  simp (disch := omega) only [n_wI, e_wI, n_wL, e_wL, m_wI2, m_wL1, n_wCI, e_wCI, n_wCL, e_wCL, m_wCI2, m_wCL1, n_wF, e_wF, m_wF2]
                · skip
                  simp (disch := omega) only [n_wI, e_wI, n_wL, e_wL, m_wI2, m_wL1, n_wCI, e_wCI, n_wCL, e_wCL, m_wCI2, m_wCL1, n_wF, e_wF, m_wF2]
                  exact c6
            intro f
            induction f with
            | zero =>
              intro k m' hk c1 c3 c4 c2 c5 c6 c7 ee
              rw [spn_n (Or.inl (by omega))] at ee
              refine T_aload_n (pc := 187) (i := 0) dX8_advance_187 rfl rfl ?_
              refine R_getI (pc := 188) (x := nI (s + k)) fl_X8_25 rfl kc_1 lc_1 c4 dX8_advance_188 ?_
              refine T_aload_n (pc := 191) (i := 0) dX8_advance_191 rfl rfl ?_
              refine R_getI (pc := 192) (x := nI B.length) fl_X8_22 rfl kc_1 lc_1 c1.1.1 dX8_advance_192 ?_
              refine R_icmp_ge (pc := 195) (tgt := 263) (by omega) (by omega) dX8_advance_195 (by decide) (fun h7 => ?_) (fun h7 => ?_)
              · exact ex k m' (by omega) c1 c3 c4 c2 c5 c6 c7 ee
              · exact absurd h7 (by omega)
            | succ f ih =>
              intro k m' hk c1 c3 c4 c2 c5 c6 c7 ee
              obtain ⟨d, ed⟩ : ∃ d, B.getD (s + k) 0 = d := ⟨_, rfl⟩
              have cb := c1.2 (s + k) (by omega)
              rw [ed] at cb
              have cb1 := cb.1
              refine T_aload_n (pc := 187) (i := 0) dX8_advance_187 rfl rfl ?_
              refine R_getI (pc := 188) (x := nI (s + k)) fl_X8_25 rfl kc_1 lc_1 c4 dX8_advance_188 ?_
              refine T_aload_n (pc := 191) (i := 0) dX8_advance_191 rfl rfl ?_
              refine R_getI (pc := 192) (x := nI B.length) fl_X8_22 rfl kc_1 lc_1 c1.1.1 dX8_advance_192 ?_
              refine R_icmp_ge (pc := 195) (tgt := 263) (by omega) (by omega) dX8_advance_195 (by decide) (fun h7 => ?_) (fun h7 => ?_)
              · exact absurd h7 (by omega)
              · skip
                refine T_aload_n (pc := 198) (i := 0) dX8_advance_198 rfl rfl ?_
                refine R_getR (pc := 199) (i := 2) fl_X8_9 rfl kc_1 lc_1 rc_1_0 dX8_advance_199 ?_
                refine T_aload_n (pc := 202) (i := 0) dX8_advance_202 rfl rfl ?_
                refine R_getI (pc := 203) (x := nI (s + k)) fl_X8_25 rfl kc_1 lc_1 c4 dX8_advance_203 ?_
                refine R_iald (pc := 206) (x := nI d) kc_2 lc_2 (by omega) (by first | decide | assumption) cb.2 dX8_advance_206 ?_
                refine T_bipush (pc := 207) (v := nI 48) dX8_advance_207 (by decide) ?_
                refine R_icmp_lt (pc := 209) (tgt := 263) (by omega) (by omega) dX8_advance_209 (by decide) (fun h6 => ?_) (fun h6 => ?_)
                · rw [spn_n (Or.inr (by rw [ed]; unfold isD; rw [decide_eq_false (by omega)]; rfl))] at ee
                  exact ex k m' (by omega) c1 c3 c4 c2 c5 c6 c7 ee
                · skip
                  refine T_aload_n (pc := 212) (i := 0) dX8_advance_212 rfl rfl ?_
                  refine R_getR (pc := 213) (i := 2) fl_X8_9 rfl kc_1 lc_1 rc_1_0 dX8_advance_213 ?_
                  refine T_aload_n (pc := 216) (i := 0) dX8_advance_216 rfl rfl ?_
                  refine R_getI (pc := 217) (x := nI (s + k)) fl_X8_25 rfl kc_1 lc_1 c4 dX8_advance_217 ?_
                  refine R_iald (pc := 220) (x := nI d) kc_2 lc_2 (by omega) (by first | decide | assumption) cb.2 dX8_advance_220 ?_
                  refine T_bipush (pc := 221) (v := nI 57) dX8_advance_221 (by decide) ?_
                  refine R_icmp_gt (pc := 223) (tgt := 263) (by omega) (by omega) dX8_advance_223 (by decide) (fun h5 => ?_) (fun h5 => ?_)
                  · rw [spn_n (Or.inr (by rw [ed]; unfold isD; rw [decide_eq_false (p := d ≤ 57) (by omega)]; simp))] at ee
                    exact ex k m' (by omega) c1 c3 c4 c2 c5 c6 c7 ee
                  · skip
                    rw [spn_y (by omega) (by rw [ed]; unfold isD; rw [decide_eq_true h6, decide_eq_true h5]; rfl)] at ee
                    refine T_aload_n (pc := 226) (i := 0) dX8_advance_226 rfl rfl ?_
                    refine T_bipush (pc := 227) (v := nI 10) dX8_advance_227 (by decide) ?_
                    refine T_aload_n (pc := 229) (i := 0) dX8_advance_229 rfl rfl ?_
                    refine R_getI (pc := 230) (x := nI (nvN B s k)) fl_X8_34 rfl kc_1 lc_1 c5 dX8_advance_230 ?_
                    refine R_imul (pc := 233) dX8_advance_233 ?_
                    refine T_aload_n (pc := 234) (i := 0) dX8_advance_234 rfl rfl ?_
                    refine R_getR (pc := 235) (i := 2) fl_X8_9 rfl kc_1 lc_1 rc_1_0 dX8_advance_235 ?_
                    refine T_aload_n (pc := 238) (i := 0) dX8_advance_238 rfl rfl ?_
                    refine R_getI (pc := 239) (x := nI (s + k)) fl_X8_25 rfl kc_1 lc_1 c4 dX8_advance_239 ?_
                    refine R_iald (pc := 242) (x := nI d) kc_2 lc_2 (by omega) (by first | decide | assumption) cb.2 dX8_advance_242 ?_
                    refine R_iadd (pc := 243) dX8_advance_243 ?_
                    refine T_bipush (pc := 244) (v := nI 48) dX8_advance_244 (by decide) ?_
                    refine R_isub (pc := 246) (by omega) dX8_advance_246 ?_
                    refine R_putI (pc := 247) fl_X8_34 ⟨rfl, rfl⟩ (Or.inl rfl) kc_1 lc_1 dX8_advance_247 ?_
                    refine T_aload_n (pc := 250) (i := 0) dX8_advance_250 rfl rfl ?_
                    refine T_dup (pc := 251) dX8_advance_251 rfl ?_
                    refine R_getI (pc := 252) (x := nI (s + k)) fl_X8_25 rfl kc_1 lc_1 ((wI_ne (by decide)).trans c4) dX8_advance_252 ?_
                    refine T_iconst (pc := 255) (v := nI 1) dX8_advance_255 (by decide) ?_
                    refine R_iadd (pc := 256) dX8_advance_256 ?_
                    refine R_putI (pc := 257) fl_X8_25 ⟨rfl, rfl⟩ (Or.inl rfl) kc_1 lc_1 dX8_advance_257 ?_
                    refine T_goto (pc := 260) (tgt := 187) dX8_advance_260 (by decide) ?_
                    refine ih (k + 1) _ (by omega) (c1.keep ?_ (fun j => ?_)) ?_ ?_ ?_ ?_ ?_ (OfS.sI (OfS.sI c7 rfl) rfl) ee
                    · skip
                      simp (disch := omega) only [n_wI, e_wI, n_wL, e_wL, m_wI2, m_wL1, n_wCI, e_wCI, n_wCL, e_wCL, m_wCI2, m_wCL1, n_wF, e_wF, m_wF2]
                    · skip
                      simp (disch := omega) only [n_wI, e_wI, n_wL, e_wL, m_wI2, m_wL1, n_wCI, e_wCI, n_wCL, e_wCL, m_wCI2, m_wCL1, n_wF, e_wF, m_wF2]
                    · skip
                      simp (disch := omega) only [n_wI, e_wI, n_wL, e_wL, m_wI2, m_wL1, n_wCI, e_wCI, n_wCL, e_wCL, m_wCI2, m_wCL1, n_wF, e_wF, m_wF2]
                      exact c3
                    · skip
                      simp (disch := omega) only [n_wI, e_wI, n_wL, e_wL, m_wI2, m_wL1, n_wCI, e_wCI, n_wCL, e_wCL, m_wCI2, m_wCL1, n_wF, e_wF, m_wF2]
                      rfl
                    · skip
                      simp (disch := omega) only [n_wI, e_wI, n_wL, e_wL, m_wI2, m_wL1, n_wCI, e_wCI, n_wCL, e_wCL, m_wCI2, m_wCL1, n_wF, e_wF, m_wF2]
                      exact c2
                    · skip
                      simp (disch := omega) only [n_wI, e_wI, n_wL, e_wL, m_wI2, m_wL1, n_wCI, e_wCI, n_wCL, e_wCL, m_wCI2, m_wCL1, n_wF, e_wF, m_wF2]
                      show _ = nI (10 * nvN B s k + B.getD (s + k) 0 - 48)
                      rw [ed]
                    · skip
                      simp (disch := omega) only [n_wI, e_wI, n_wL, e_wL, m_wI2, m_wL1, n_wCI, e_wCI, n_wCL, e_wCL, m_wCI2, m_wCL1, n_wF, e_wF, m_wF2]
                      exact c6
      refine T_aload_n (pc := 46) (i := 0) dX8_advance_46 rfl rfl ?_
      refine T_aload_n (pc := 47) (i := 0) dX8_advance_47 rfl rfl ?_
      refine R_getI (pc := 48) (x := nI s) fl_X8_31 rfl kc_1 lc_1 a2 dX8_advance_48 ?_
      refine R_putI (pc := 51) fl_X8_25 ⟨rfl, rfl⟩ (Or.inl rfl) kc_1 lc_1 dX8_advance_51 ?_
      refine T_aload_n (pc := 54) (i := 0) dX8_advance_54 rfl rfl ?_
      refine T_aload_n (pc := 55) (i := 0) dX8_advance_55 rfl rfl ?_
      refine R_getI (pc := 56) (x := nI s) fl_X8_31 rfl kc_1 lc_1 ((wI_ne (by decide)).trans a2) dX8_advance_56 ?_
      refine T_aload_n (pc := 59) (i := 0) dX8_advance_59 rfl rfl ?_
      refine R_getI (pc := 60) (x := nI B.length) fl_X8_22 rfl kc_1 lc_1 ((wI_ne (by decide)).trans a1.1.1) dX8_advance_60 ?_
      refine R_icmp_ge (pc := 63) (tgt := 78) (by omega) (by omega) dX8_advance_63 (by decide) (fun h1 => ?_) (fun h1 => ?_)
      · exact absurd h1 (by omega)
      · skip
        refine T_aload_n (pc := 66) (i := 0) dX8_advance_66 rfl rfl ?_
        refine R_getR (pc := 67) (i := 2) fl_X8_9 rfl kc_1 lc_1 rc_1_0 dX8_advance_67 ?_
        refine T_aload_n (pc := 70) (i := 0) dX8_advance_70 rfl rfl ?_
        refine R_getI (pc := 71) (x := nI s) fl_X8_31 rfl kc_1 lc_1 ((wI_ne (by decide)).trans a2) dX8_advance_71 ?_
        refine R_iald (pc := 74) (x := nI b) kc_2 lc_2 (by omega) (by first | decide | assumption) ((wI_ne (by first | omega | simp)).trans hby.2) dX8_advance_74 ?_
        refine T_goto (pc := 75) (tgt := 79) dX8_advance_75 (by decide) ?_
        refine R_putI (pc := 79) fl_X8_15 ⟨rfl, rfl⟩ (Or.inl rfl) kc_1 lc_1 dX8_advance_79 ?_
        refine T_aload_n (pc := 82) (i := 0) dX8_advance_82 rfl rfl ?_
        refine R_getI (pc := 83) (x := nI b) fl_X8_15 rfl kc_1 lc_1 wI_eq dX8_advance_83 ?_
        refine T_bipush (pc := 86) (v := nI 97) dX8_advance_86 (by decide) ?_
        refine R_icmp_lt (pc := 88) (tgt := 158) (by omega) (by omega) dX8_advance_88 (by decide) (fun h2 => ?_) (fun h2 => ?_)
        · exact dig (by unfold isL; rw [decide_eq_false (by omega)]; rfl)
        · skip
          refine T_aload_n (pc := 91) (i := 0) dX8_advance_91 rfl rfl ?_
          refine R_getI (pc := 92) (x := nI b) fl_X8_15 rfl kc_1 lc_1 wI_eq dX8_advance_92 ?_
          refine T_bipush (pc := 95) (v := nI 122) dX8_advance_95 (by decide) ?_
          refine R_icmp_gt (pc := 97) (tgt := 158) (by omega) (by omega) dX8_advance_97 (by decide) (fun h3 => ?_) (fun h3 => ?_)
          · exact dig (by unfold isL; rw [decide_eq_false (p := b ≤ 122) (by omega)]; simp)
          · skip
            have hL : isL b = true := by unfold isL; rw [decide_eq_true h2, decide_eq_true h3]; rfl
            rw [if_pos hL] at eE eK
            refine T_aload_n (pc := 100) (i := 0) dX8_advance_100 rfl rfl ?_
            refine T_bipush (pc := 101) (v := (-2)) dX8_advance_101 (by decide) ?_
            refine R_putI (pc := 103) fl_X8_15 ⟨rfl, rfl⟩ (Or.inl rfl) kc_1 lc_1 dX8_advance_103 ?_
            suffices loop : ∀ (f q : Nat) (m' : SM2), q + f = B.length → BytesAt m' B → m'.1 1 3 = nI s → m'.1 1 4 = nI q → m'.1 1 2 = -2 → m'.1 1 6 = μ.1 1 6 → OfS S1 μ m' → spn isL B q = tE B p → T γ 1 0 0 M_X8_advance (Rm none (fun m => TokAt m B p ∧ m.1 1 6 = μ.1 1 6 ∧ OfS S1 μ m)) 0 0 106 [some (.ref 1)] [] (rm m') by
              refine loop (B.length - s) s _ (by omega) (a1.keep ?_ (fun j => ?_)) ?_ ?_ ?_ ?_ (OfS.sI (OfS.sI (OfS.sI a7 rfl) rfl) rfl) eE.symm
              · skip
                simp (disch := omega) only [n_wI, e_wI, n_wL, e_wL, m_wI2, m_wL1, n_wCI, e_wCI, n_wCL, e_wCL, m_wCI2, m_wCL1, n_wF, e_wF, m_wF2]
              · skip
                simp (disch := omega) only [n_wI, e_wI, n_wL, e_wL, m_wI2, m_wL1, n_wCI, e_wCI, n_wCL, e_wCL, m_wCI2, m_wCL1, n_wF, e_wF, m_wF2]
              · skip
                simp (disch := omega) only [n_wI, e_wI, n_wL, e_wL, m_wI2, m_wL1, n_wCI, e_wCI, n_wCL, e_wCL, m_wCI2, m_wCL1, n_wF, e_wF, m_wF2]
                exact a2
              · skip
                simp (disch := omega) only [n_wI, e_wI, n_wL, e_wL, m_wI2, m_wL1, n_wCI, e_wCI, n_wCL, e_wCL, m_wCI2, m_wCL1, n_wF, e_wF, m_wF2]
              · skip
                simp (disch := omega) only [n_wI, e_wI, n_wL, e_wL, m_wI2, m_wL1, n_wCI, e_wCI, n_wCL, e_wCL, m_wCI2, m_wCL1, n_wF, e_wF, m_wF2]
              · skip
                simp (disch := omega) only [n_wI, e_wI, n_wL, e_wL, m_wI2, m_wL1, n_wCI, e_wCI, n_wCL, e_wCL, m_wCI2, m_wCL1, n_wF, e_wF, m_wF2]
                exact a6
            have hk3 : tK B p ≠ -3 := by
              rw [eK]
              decide
            intro f
            induction f with
            | zero =>
              intro q m' hk c1 c3 c4 c2 c6 c7 ee
              rw [spn_n (Or.inl (by omega))] at ee
              refine T_aload_n (pc := 106) (i := 0) dX8_advance_106 rfl rfl ?_
              refine R_getI (pc := 107) (x := nI q) fl_X8_25 rfl kc_1 lc_1 c4 dX8_advance_107 ?_
              refine T_aload_n (pc := 110) (i := 0) dX8_advance_110 rfl rfl ?_
              refine R_getI (pc := 111) (x := nI B.length) fl_X8_22 rfl kc_1 lc_1 c1.1.1 dX8_advance_111 ?_
              refine R_icmp_ge (pc := 114) (tgt := 309) (by omega) (by omega) dX8_advance_114 (by decide) (fun h7 => ?_) (fun h7 => ?_)
              · exact fin m' c1 c3 (by rw [← ee]; exact c4) (by rw [eK]; exact c2) (fun z => absurd z hk3) c6 c7
              · exact absurd h7 (by omega)
            | succ f ih =>
              intro q m' hk c1 c3 c4 c2 c6 c7 ee
              obtain ⟨d, ed⟩ : ∃ d, B.getD q 0 = d := ⟨_, rfl⟩
              have cb := c1.2 q (by omega)
              rw [ed] at cb
              have cb1 := cb.1
              refine T_aload_n (pc := 106) (i := 0) dX8_advance_106 rfl rfl ?_
              refine R_getI (pc := 107) (x := nI q) fl_X8_25 rfl kc_1 lc_1 c4 dX8_advance_107 ?_
              refine T_aload_n (pc := 110) (i := 0) dX8_advance_110 rfl rfl ?_
              refine R_getI (pc := 111) (x := nI B.length) fl_X8_22 rfl kc_1 lc_1 c1.1.1 dX8_advance_111 ?_
              refine R_icmp_ge (pc := 114) (tgt := 309) (by omega) (by omega) dX8_advance_114 (by decide) (fun h7 => ?_) (fun h7 => ?_)
              · exact absurd h7 (by omega)
              · skip
                refine T_aload_n (pc := 117) (i := 0) dX8_advance_117 rfl rfl ?_
                refine R_getR (pc := 118) (i := 2) fl_X8_9 rfl kc_1 lc_1 rc_1_0 dX8_advance_118 ?_
                refine T_aload_n (pc := 121) (i := 0) dX8_advance_121 rfl rfl ?_
                refine R_getI (pc := 122) (x := nI q) fl_X8_25 rfl kc_1 lc_1 c4 dX8_advance_122 ?_
                refine R_iald (pc := 125) (x := nI d) kc_2 lc_2 (by omega) (by first | decide | assumption) cb.2 dX8_advance_125 ?_
                refine T_bipush (pc := 126) (v := nI 97) dX8_advance_126 (by decide) ?_
                refine R_icmp_lt (pc := 128) (tgt := 309) (by omega) (by omega) dX8_advance_128 (by decide) (fun h6 => ?_) (fun h6 => ?_)
                · rw [spn_n (Or.inr (by rw [ed]; unfold isL; rw [decide_eq_false (by omega)]; rfl))] at ee
                  exact fin m' c1 c3 (by rw [← ee]; exact c4) (by rw [eK]; exact c2) (fun z => absurd z hk3) c6 c7
                · skip
                  refine T_aload_n (pc := 131) (i := 0) dX8_advance_131 rfl rfl ?_
                  refine R_getR (pc := 132) (i := 2) fl_X8_9 rfl kc_1 lc_1 rc_1_0 dX8_advance_132 ?_
                  refine T_aload_n (pc := 135) (i := 0) dX8_advance_135 rfl rfl ?_
                  refine R_getI (pc := 136) (x := nI q) fl_X8_25 rfl kc_1 lc_1 c4 dX8_advance_136 ?_
                  refine R_iald (pc := 139) (x := nI d) kc_2 lc_2 (by omega) (by first | decide | assumption) cb.2 dX8_advance_139 ?_
                  refine T_bipush (pc := 140) (v := nI 122) dX8_advance_140 (by decide) ?_
                  refine R_icmp_gt (pc := 142) (tgt := 309) (by omega) (by omega) dX8_advance_142 (by decide) (fun h5 => ?_) (fun h5 => ?_)
                  · rw [spn_n (Or.inr (by rw [ed]; unfold isL; rw [decide_eq_false (p := d ≤ 122) (by omega)]; simp))] at ee
                    exact fin m' c1 c3 (by rw [← ee]; exact c4) (by rw [eK]; exact c2) (fun z => absurd z hk3) c6 c7
                  · skip
                    rw [spn_y (by omega) (by rw [ed]; unfold isL; rw [decide_eq_true h6, decide_eq_true h5]; rfl)] at ee
                    refine T_aload_n (pc := 145) (i := 0) dX8_advance_145 rfl rfl ?_
                    refine T_dup (pc := 146) dX8_advance_146 rfl ?_
                    refine R_getI (pc := 147) (x := nI q) fl_X8_25 rfl kc_1 lc_1 c4 dX8_advance_147 ?_
                    refine T_iconst (pc := 150) (v := nI 1) dX8_advance_150 (by decide) ?_
                    refine R_iadd (pc := 151) dX8_advance_151 ?_
                    refine R_putI (pc := 152) fl_X8_25 ⟨rfl, rfl⟩ (Or.inl rfl) kc_1 lc_1 dX8_advance_152 ?_
                    refine T_goto (pc := 155) (tgt := 106) dX8_advance_155 (by decide) ?_
                    refine ih (q + 1) _ (by omega) (c1.keep ?_ (fun j => ?_)) ?_ ?_ ?_ ?_ (OfS.sI c7 rfl) ee
                    · skip
                      simp (disch := omega) only [n_wI, e_wI, n_wL, e_wL, m_wI2, m_wL1, n_wCI, e_wCI, n_wCL, e_wCL, m_wCI2, m_wCL1, n_wF, e_wF, m_wF2]
                    · skip
                      simp (disch := omega) only [n_wI, e_wI, n_wL, e_wL, m_wI2, m_wL1, n_wCI, e_wCI, n_wCL, e_wCL, m_wCI2, m_wCL1, n_wF, e_wF, m_wF2]
                    · skip
                      simp (disch := omega) only [n_wI, e_wI, n_wL, e_wL, m_wI2, m_wL1, n_wCI, e_wCI, n_wCL, e_wCL, m_wCI2, m_wCL1, n_wF, e_wF, m_wF2]
                      exact c3
                    · skip
                      simp (disch := omega) only [n_wI, e_wI, n_wL, e_wL, m_wI2, m_wL1, n_wCI, e_wCI, n_wCL, e_wCL, m_wCI2, m_wCL1, n_wF, e_wF, m_wF2]
                    · skip
                      simp (disch := omega) only [n_wI, e_wI, n_wL, e_wL, m_wI2, m_wL1, n_wCI, e_wCI, n_wCL, e_wCL, m_wCI2, m_wCL1, n_wF, e_wF, m_wF2]
                      exact c2
                    · skip
                      simp (disch := omega) only [n_wI, e_wI, n_wL, e_wL, m_wI2, m_wL1, n_wCI, e_wCI, n_wCL, e_wCL, m_wCI2, m_wCL1, n_wF, e_wF, m_wF2]
                      exact c6
    · rw [if_neg hlt] at eE eK
      have hk3 : tK B p ≠ -3 := by
        rw [eK]
        decide
      refine T_aload_n (pc := 46) (i := 0) dX8_advance_46 rfl rfl ?_
      refine T_aload_n (pc := 47) (i := 0) dX8_advance_47 rfl rfl ?_
      refine R_getI (pc := 48) (x := nI s) fl_X8_31 rfl kc_1 lc_1 a2 dX8_advance_48 ?_
      refine R_putI (pc := 51) fl_X8_25 ⟨rfl, rfl⟩ (Or.inl rfl) kc_1 lc_1 dX8_advance_51 ?_
      refine T_aload_n (pc := 54) (i := 0) dX8_advance_54 rfl rfl ?_
      refine T_aload_n (pc := 55) (i := 0) dX8_advance_55 rfl rfl ?_
      refine R_getI (pc := 56) (x := nI s) fl_X8_31 rfl kc_1 lc_1 ((wI_ne (by decide)).trans a2) dX8_advance_56 ?_
      refine T_aload_n (pc := 59) (i := 0) dX8_advance_59 rfl rfl ?_
      refine R_getI (pc := 60) (x := nI B.length) fl_X8_22 rfl kc_1 lc_1 ((wI_ne (by decide)).trans a1.1.1) dX8_advance_60 ?_
      refine R_icmp_ge (pc := 63) (tgt := 78) (by omega) (by omega) dX8_advance_63 (by decide) (fun h1 => ?_) (fun h1 => ?_)
      · skip
        refine T_iconst (pc := 78) (v := (-1)) dX8_advance_78 (by decide) ?_
        refine R_putI (pc := 79) fl_X8_15 ⟨rfl, rfl⟩ (Or.inl rfl) kc_1 lc_1 dX8_advance_79 ?_
        refine T_aload_n (pc := 82) (i := 0) dX8_advance_82 rfl rfl ?_
        refine R_getI (pc := 83) (x := (-1)) fl_X8_15 rfl kc_1 lc_1 wI_eq dX8_advance_83 ?_
        refine T_bipush (pc := 86) (v := nI 97) dX8_advance_86 (by decide) ?_
        refine T_icmp_lt (pc := 88) (tgt := 158) dX8_advance_88 (by decide) (fun h2 => ?_) (fun h2 => ?_)
        · skip
          refine T_aload_n (pc := 158) (i := 0) dX8_advance_158 rfl rfl ?_
          refine R_getI (pc := 159) (x := (-1)) fl_X8_15 rfl kc_1 lc_1 wI_eq dX8_advance_159 ?_
          refine T_bipush (pc := 162) (v := nI 48) dX8_advance_162 (by decide) ?_
          refine T_icmp_lt (pc := 164) (tgt := 291) dX8_advance_164 (by decide) (fun h3 => ?_) (fun h3 => ?_)
          · skip
            refine T_aload_n (pc := 291) (i := 0) dX8_advance_291 rfl rfl ?_
            refine R_getI (pc := 292) (x := (-1)) fl_X8_15 rfl kc_1 lc_1 wI_eq dX8_advance_292 ?_
            refine T_iconst (pc := 295) (v := (-1)) dX8_advance_295 (by decide) ?_
            refine T_icmp_eq (pc := 296) (tgt := 309) dX8_advance_296 (by decide) (fun h4 => ?_) (fun h4 => ?_)
            · refine fin _ (a1.keep ?_ (fun j => ?_)) ?_ ?_ ?_ (fun z => absurd z hk3) ?_ (OfS.sI (OfS.sI a7 rfl) rfl)
              · skip
                simp (disch := omega) only [n_wI, e_wI, n_wL, e_wL, m_wI2, m_wL1, n_wCI, e_wCI, n_wCL, e_wCL, m_wCI2, m_wCL1, n_wF, e_wF, m_wF2]
              · skip
                simp (disch := omega) only [n_wI, e_wI, n_wL, e_wL, m_wI2, m_wL1, n_wCI, e_wCI, n_wCL, e_wCL, m_wCI2, m_wCL1, n_wF, e_wF, m_wF2]
              · skip
                simp (disch := omega) only [n_wI, e_wI, n_wL, e_wL, m_wI2, m_wL1, n_wCI, e_wCI, n_wCL, e_wCL, m_wCI2, m_wCL1, n_wF, e_wF, m_wF2]
                exact a2
              · rw [eE]
                simp (disch := omega) only [n_wI, e_wI, n_wL, e_wL, m_wI2, m_wL1, n_wCI, e_wCI, n_wCL, e_wCL, m_wCI2, m_wCL1, n_wF, e_wF, m_wF2]
              · rw [eK]
                simp (disch := omega) only [n_wI, e_wI, n_wL, e_wL, m_wI2, m_wL1, n_wCI, e_wCI, n_wCL, e_wCL, m_wCI2, m_wCL1, n_wF, e_wF, m_wF2]
              · skip
                simp (disch := omega) only [n_wI, e_wI, n_wL, e_wL, m_wI2, m_wL1, n_wCI, e_wCI, n_wCL, e_wCL, m_wCI2, m_wCL1, n_wF, e_wF, m_wF2]
                exact a6
            · exact absurd rfl h4
          · exact absurd (show (-1 : Int32) < nI 48 by decide) h3
        · exact absurd (show (-1 : Int32) < nI 97 by decide) h2
      · exact absurd h1 (by omega)
  suffices blank : ∀ (f q : Nat) (m : SM2), q + f = B.length → BytesAt m B → m.1 1 3 = nI q → m.1 1 6 = μ.1 1 6 → OfS S1 μ m → spn isB B q = tS B p → T γ 1 0 0 M_X8_advance (Rm none (fun m => TokAt m B p ∧ m.1 1 6 = μ.1 1 6 ∧ OfS S1 μ m)) 0 0 8 [some (.ref 1)] [] (rm m) by
    refine Ex.of (by decide +kernel) rfl (Nat.le_of_ble_eq_true rfl) ?_
    show T _ _ _ _ _ _ _ _ _ [some (.ref 1)] [] (rm μ)
    refine T_aload_n (pc := 0) (i := 0) dX8_advance_0 rfl rfl ?_
    refine T_aload_n (pc := 1) (i := 0) dX8_advance_1 rfl rfl ?_
    refine R_getI (pc := 2) (x := nI p) fl_X8_25 rfl kc_1 lc_1 h4 dX8_advance_2 ?_
    refine R_putI (pc := 5) fl_X8_31 ⟨rfl, rfl⟩ (Or.inl rfl) kc_1 lc_1 dX8_advance_5 ?_
    exact blank (B.length - p) p _ (by omega) (hB.keep (n_wI (by omega)) (fun j => n_wI (by omega))) (e_wI ⟨rfl, rfl⟩) (n_wI (by omega)) (OfS.sI (OfS.refl _ _) rfl) rfl
  intro f
  induction f with
  | zero =>
    intro q m hq c1 c3 c6 c7 ee
    rw [spn_n (Or.inl (by omega))] at ee
    refine T_aload_n (pc := 8) (i := 0) dX8_advance_8 rfl rfl ?_
    refine R_getI (pc := 9) (x := nI q) fl_X8_31 rfl kc_1 lc_1 c3 dX8_advance_9 ?_
    refine T_aload_n (pc := 12) (i := 0) dX8_advance_12 rfl rfl ?_
    refine R_getI (pc := 13) (x := nI B.length) fl_X8_22 rfl kc_1 lc_1 c1.1.1 dX8_advance_13 ?_
    refine R_icmp_ge (pc := 16) (tgt := 46) (by omega) (by omega) dX8_advance_16 (by decide) (fun h1 => ?_) (fun h1 => ?_)
    · exact tail m c1 (by rw [← ee]; exact c3) c6 c7
    · exact absurd h1 (by omega)
  | succ f ih =>
    intro q m hq c1 c3 c6 c7 ee
    obtain ⟨d, ed⟩ : ∃ d, B.getD q 0 = d := ⟨_, rfl⟩
    have cb := c1.2 q (by omega)
    rw [ed] at cb
    have cb1 := cb.1
    refine T_aload_n (pc := 8) (i := 0) dX8_advance_8 rfl rfl ?_
    refine R_getI (pc := 9) (x := nI q) fl_X8_31 rfl kc_1 lc_1 c3 dX8_advance_9 ?_
    refine T_aload_n (pc := 12) (i := 0) dX8_advance_12 rfl rfl ?_
    refine R_getI (pc := 13) (x := nI B.length) fl_X8_22 rfl kc_1 lc_1 c1.1.1 dX8_advance_13 ?_
    refine R_icmp_ge (pc := 16) (tgt := 46) (by omega) (by omega) dX8_advance_16 (by decide) (fun h1 => ?_) (fun h1 => ?_)
    · exact absurd h1 (by omega)
    · skip
      refine T_aload_n (pc := 19) (i := 0) dX8_advance_19 rfl rfl ?_
      refine R_getR (pc := 20) (i := 2) fl_X8_9 rfl kc_1 lc_1 rc_1_0 dX8_advance_20 ?_
      refine T_aload_n (pc := 23) (i := 0) dX8_advance_23 rfl rfl ?_
      refine R_getI (pc := 24) (x := nI q) fl_X8_31 rfl kc_1 lc_1 c3 dX8_advance_24 ?_
      refine R_iald (pc := 27) (x := nI d) kc_2 lc_2 (by omega) (by first | decide | assumption) cb.2 dX8_advance_27 ?_
      refine T_bipush (pc := 28) (v := nI 32) dX8_advance_28 (by decide) ?_
      refine R_icmp_ne (pc := 30) (tgt := 46) (by omega) (by omega) dX8_advance_30 (by decide) (fun h2 => ?_) (fun h2 => ?_)
      · rw [spn_n (Or.inr (by rw [ed]; exact decide_eq_false h2))] at ee
        exact tail m c1 (by rw [← ee]; exact c3) c6 c7
      · skip
        rw [spn_y (by omega) (by rw [ed]; exact decide_eq_true h2)] at ee
        refine T_aload_n (pc := 33) (i := 0) dX8_advance_33 rfl rfl ?_
        refine T_dup (pc := 34) dX8_advance_34 rfl ?_
        refine R_getI (pc := 35) (x := nI q) fl_X8_31 rfl kc_1 lc_1 c3 dX8_advance_35 ?_
        refine T_iconst (pc := 38) (v := nI 1) dX8_advance_38 (by decide) ?_
        refine R_iadd (pc := 39) dX8_advance_39 ?_
        refine R_putI (pc := 40) fl_X8_31 ⟨rfl, rfl⟩ (Or.inl rfl) kc_1 lc_1 dX8_advance_40 ?_
        refine T_goto (pc := 43) (tgt := 8) dX8_advance_43 (by decide) ?_
        exact ih (q + 1) _ (by omega) (c1.keep (n_wI (by omega)) (fun j => n_wI (by omega))) (e_wI ⟨rfl, rfl⟩) ((n_wI (by omega)).trans c6) (OfS.sI c7 rfl) ee
end TX

