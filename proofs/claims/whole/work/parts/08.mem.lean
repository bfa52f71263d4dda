/-! the rows of T: fields and rows of numbers -/
def cl3 (c : Nat) : vw_C := vwCl.getD c (RX0, TX0, 6)
def tyc (c : Nat) : Nat → FieldType := match c with
  | 0 => tyX0
  | 1 => tyX1
  | 2 => tyX2
  | 3 => tyX3
  | 4 => tyX4
  | 5 => tyX5
  | 6 => tyX6
  | 7 => tyX7
  | 8 => tyX8
  | 9 => tyX9
  | 10 => tyX10
  | 11 => tyX11
  | _ => tyX12
theorem c13 {P : Nat → Prop} (h : ∀ c, c ∈ [0, 1, 2, 3, 4, 5, 6, 7, 8, 9, 10, 11, 12] → P c) {c : Nat} (hc : c < 13) : P c := h c (by
  have : c = 0 ∨ c = 1 ∨ c = 2 ∨ c = 3 ∨ c = 4 ∨ c = 5 ∨ c = 6 ∨ c = 7 ∨ c = 8 ∨ c = 9 ∨ c = 10 ∨ c = 11 ∨ c = 12 := by omega
  simpa using this)
theorem cl_some : ∀ c : Nat, c < 13 → vwCl[c]? = some (cl3 c) := by
  intro c hc
  match c, hc with
  | 0, _ => exact rfl
  | 1, _ => exact rfl
  | 2, _ => exact rfl
  | 3, _ => exact rfl
  | 4, _ => exact rfl
  | 5, _ => exact rfl
  | 6, _ => exact rfl
  | 7, _ => exact rfl
  | 8, _ => exact rfl
  | 9, _ => exact rfl
  | 10, _ => exact rfl
  | 11, _ => exact rfl
  | 12, _ => exact rfl
  | n + 13, h => exact absurd h (by omega)
theorem cl_n : ∀ c : Nat, c < 13 → (cl3 c).2.2 = nf c := by
  intro c hc
  match c, hc with
  | 0, _ => exact rfl
  | 1, _ => exact rfl
  | 2, _ => exact rfl
  | 3, _ => exact rfl
  | 4, _ => exact rfl
  | 5, _ => exact rfl
  | 6, _ => exact rfl
  | 7, _ => exact rfl
  | 8, _ => exact rfl
  | 9, _ => exact rfl
  | 10, _ => exact rfl
  | 11, _ => exact rfl
  | 12, _ => exact rfl
  | n + 13, h => exact absurd h (by omega)
theorem cl_in : ∀ c : Nat, c < 13 → ∀ w ∈ u_ws (cl3 c).1 (cl3 c).2.1 (cl3 c).2.2, w ∈ tbw := by
  intro c hc
  match c, hc with
  | 0, _ => exact (by decide +kernel : ∀ w ∈ wsX00, w ∈ tbw)
  | 1, _ => exact (by decide +kernel : ∀ w ∈ wsX10, w ∈ tbw)
  | 2, _ => exact (by decide +kernel : ∀ w ∈ wsX20, w ∈ tbw)
  | 3, _ => exact (by decide +kernel : ∀ w ∈ wsX30, w ∈ tbw)
  | 4, _ => exact (by decide +kernel : ∀ w ∈ wsX40, w ∈ tbw)
  | 5, _ => exact (by decide +kernel : ∀ w ∈ wsX50, w ∈ tbw)
  | 6, _ => exact (by decide +kernel : ∀ w ∈ wsX60, w ∈ tbw)
  | 7, _ => exact (by decide +kernel : ∀ w ∈ wsX70, w ∈ tbw)
  | 8, _ => exact (by decide +kernel : ∀ w ∈ wsX80, w ∈ tbw)
  | 9, _ => exact (by decide +kernel : ∀ w ∈ wsX90, w ∈ tbw)
  | 10, _ => exact (by decide +kernel : ∀ w ∈ wsX100, w ∈ tbw)
  | 11, _ => exact (by decide +kernel : ∀ w ∈ wsX110, w ∈ tbw)
  | 12, _ => exact (by decide +kernel : ∀ w ∈ wsX120, w ∈ tbw)
  | n + 13, h => exact absurd h (by omega)
theorem cl_ty : ∀ c : Nat, c < 13 → ∀ k, k < (cl3 c).2.2 → parseFieldDescriptor ((cl3 c).2.1 k).2.2.1 = some (tyc c k) := by
  intro c hc
  match c, hc with
  | 0, _ => exact tyX0_ok
  | 1, _ => exact tyX1_ok
  | 2, _ => exact tyX2_ok
  | 3, _ => exact tyX3_ok
  | 4, _ => exact tyX4_ok
  | 5, _ => exact tyX5_ok
  | 6, _ => exact tyX6_ok
  | 7, _ => exact tyX7_ok
  | 8, _ => exact tyX8_ok
  | 9, _ => exact tyX9_ok
  | 10, _ => exact tyX10_ok
  | 11, _ => exact tyX11_ok
  | 12, _ => exact tyX12_ok
  | n + 13, h => exact absurd h (by omega)
theorem cl_nm : ∀ c : Nat, c < 13 → ∀ a, a < (cl3 c).2.2 → ∀ b, b < (cl3 c).2.2 → a ≠ b → ((cl3 c).2.1 a).2.1 ≠ ((cl3 c).2.1 b).2.1 := by
  intro c hc
  match c, hc with
  | 0, _ => exact nmX0
  | 1, _ => exact nmX1
  | 2, _ => exact nmX2
  | 3, _ => exact nmX3
  | 4, _ => exact nmX4
  | 5, _ => exact nmX5
  | 6, _ => exact nmX6
  | 7, _ => exact nmX7
  | 8, _ => exact nmX8
  | 9, _ => exact nmX9
  | 10, _ => exact nmX10
  | 11, _ => exact nmX11
  | 12, _ => exact nmX12
  | n + 13, h => exact absurd h (by omega)
theorem cl_own : ∀ c : Nat, c < 13 → ∀ k, k < (cl3 c).2.2 → ((cl3 c).2.1 k).1 = (cl3 c).1 := by
  intro c hc
  match c, hc with
  | 0, _ => exact (by decide +kernel : ∀ k, k < 6 → (TX0 k).1 = RX0)
  | 1, _ => exact (by decide +kernel : ∀ k, k < 4 → (TX1 k).1 = RX1)
  | 2, _ => exact (by decide +kernel : ∀ k, k < 4 → (TX2 k).1 = RX2)
  | 3, _ => exact (by decide +kernel : ∀ k, k < 4 → (TX3 k).1 = RX3)
  | 4, _ => exact (by decide +kernel : ∀ k, k < 6 → (TX4 k).1 = RX4)
  | 5, _ => exact (by decide +kernel : ∀ k, k < 4 → (TX5 k).1 = RX5)
  | 6, _ => exact (by decide +kernel : ∀ k, k < 5 → (TX6 k).1 = RX6)
  | 7, _ => exact (by decide +kernel : ∀ k, k < 10 → (TX7 k).1 = RX7)
  | 8, _ => exact (by decide +kernel : ∀ k, k < 7 → (TX8 k).1 = RX8)
  | 9, _ => exact (by decide +kernel : ∀ k, k < 12 → (TX9 k).1 = RX9)
  | 10, _ => exact (by decide +kernel : ∀ k, k < 14 → (TX10 k).1 = RX10)
  | 11, _ => exact (by decide +kernel : ∀ k, k < 18 → (TX11 k).1 = RX11)
  | 12, _ => exact (by decide +kernel : ∀ k, k < 51 → (TX12 k).1 = RX12)
  | n + 13, h => exact absurd h (by omega)
theorem cl_ft : ∀ c : Nat, c < 13 → ∀ k, k < (cl3 c).2.2 → (ft c k = 0 ∧ (tyc c k = .int ∨ tyc c k = .boolean)) ∨ (ft c k = 1 ∧ tyc c k = .long) ∨ (ft c k = 2 ∧ defaultValue (tyc c k) = .null) := by
  intro c hc
  match c, hc with
  | 0, _ => exact (by decide +kernel)
  | 1, _ => exact (by decide +kernel)
  | 2, _ => exact (by decide +kernel)
  | 3, _ => exact (by decide +kernel)
  | 4, _ => exact (by decide +kernel)
  | 5, _ => exact (by decide +kernel)
  | 6, _ => exact (by decide +kernel)
  | 7, _ => exact (by decide +kernel)
  | 8, _ => exact (by decide +kernel)
  | 9, _ => exact (by decide +kernel)
  | 10, _ => exact (by decide +kernel)
  | 11, _ => exact (by decide +kernel)
  | 12, _ => exact (by decide +kernel)
  | n + 13, h => exact absurd h (by omega)
def sval (μ : SMem) (c k j : Nat) : Value := match ft c j with
  | 0 => .int (μ.2.2.1 k j)
  | 1 => .long (μ.2.2.2 k j)
  | _ => srf (μ.2.1 k j)
theorem rv_sval {γ : Ga} {μ : SMem} (c k j : Nat) : rv γ (sval μ c k j) = fval γ μ c k j := by
  unfold sval fval
  generalize ft c j = t
  match t with
  | 0 => rfl
  | 1 => rfl
  | n + 2 => exact rv_srf _
/-- an entry of a class's table of constants is the field j of class c -/
def FLk (own : String) (idx c j : Nat) : Prop := (Cond.fieldLink own idx (cl3 c).1 ((cl3 c).2.1 j).2.1 ((cl3 c).2.1 j).2.2.1 ∈ tbw ∧ c < 13) ∧ j < nf c
theorem rho_lt {γ : Ga} {μ : SMem} {H : Heap} {k : Nat} (hH : Hp γ μ H) (h : k < μ.1) : rho γ k = glo γ + k := by
  have h1 := hH.2.2.2
  unfold rho
  rw [if_pos (by unfold N0 at h1; unfold XB; omega)]
theorem ent_obj {γ : Ga} {μ : SMem} {k c : Nat} (h : KT k = (0, c)) : ent γ μ k = .inr (c, (List.range (nf c)).map (fval γ μ c k)) := by
  unfold ent; rw [h]; rfl
theorem ent_int {γ : Ga} {μ : SMem} {k n : Nat} (h : KT k = (1, n)) : ent γ μ k = .inl (gca γ 1, n, .inl (μ.2.2.1 k)) := by
  unfold ent; rw [h]; rfl
theorem ent_long {γ : Ga} {μ : SMem} {k n : Nat} (h : KT k = (2, n)) : ent γ μ k = .inl (gca γ 2, n, .inr (.inl (μ.2.2.2 k))) := by
  unfold ent; rw [h]; rfl
theorem ent_byte {γ : Ga} {μ : SMem} {k n : Nat} (h : KT k = (3, n)) : ent γ μ k = .inl (gca γ 3, n, .inl (μ.2.2.1 k)) := by
  unfold ent; rw [h]; rfl
theorem ent_ref {γ : Ga} {μ : SMem} {k t n : Nat} (h : KT k = (t + 4, n)) : ent γ μ k = .inl (gca γ (t + 4), n, .inr (.inr (.inr (.inr (fun j => oref γ (μ.2.1 k j)))))) := by
  unfold ent; rw [h]; rfl
theorem ent_same {γ : Ga} {μ μ' : SMem} {k : Nat} (h1 : μ'.2.1 k = μ.2.1 k) (h2 : μ'.2.2.1 k = μ.2.2.1 k) (h3 : μ'.2.2.2 k = μ.2.2.2 k) : ent γ μ' k = ent γ μ k := by
  have hf : ∀ c, fval γ μ' c k = fval γ μ c k := by
    intro c
    funext j
    unfold fval
    rw [h1, h2, h3]
  unfold ent
  generalize KT k = q
  obtain ⟨t, n⟩ := q
  match t with
  | 0 => show Sum.inr (n, (List.range (nf n)).map (fval γ μ' n k)) = Sum.inr (n, (List.range (nf n)).map (fval γ μ n k)); rw [hf]
  | 1 => show Sum.inl (gca γ 1, n, Sum.inl (μ'.2.2.1 k)) = Sum.inl (gca γ 1, n, Sum.inl (μ.2.2.1 k)); rw [h2]
  | 2 => show Sum.inl (gca γ 2, n, Sum.inr (Sum.inl (μ'.2.2.2 k))) = Sum.inl (gca γ 2, n, Sum.inr (Sum.inl (μ.2.2.2 k))); rw [h3]
  | 3 => show Sum.inl (gca γ 3, n, Sum.inl (μ'.2.2.1 k)) = Sum.inl (gca γ 3, n, Sum.inl (μ.2.2.1 k)); rw [h2]
  | t + 4 => show Sum.inl (gca γ (t + 4), n, Sum.inr (Sum.inr (Sum.inr (Sum.inr (fun j => oref γ (μ'.2.1 k j)))))) = Sum.inl (gca γ (t + 4), n, Sum.inr (Sum.inr (Sum.inr (Sum.inr (fun j => oref γ (μ.2.1 k j)))))); rw [h1]
theorem Hp.set {γ : Ga} {μ μ' : SMem} {H H1 : Heap} {k : Nat} (h : Hp γ μ H) (hk : k < μ.1) (hn : μ'.1 = μ.1) (e : va_at (gD γ) vwCl (glo γ + k, ent γ μ' k) H1) (z : H1.size = H.size) (oq : ∀ q : Nat, q ≠ glo γ + k → H1[q]? = H[q]?) (ho : ∀ j, j ≠ k → ent γ μ' j = ent γ μ j) : Hp γ μ' H1 := by
  obtain ⟨hP, h1, h2, h3⟩ := h
  refine ⟨?_, by rw [hn, z]; exact h1, by rw [hn, z]; exact h2, by rw [hn]; exact h3⟩
  rw [← wsof_set hk hn rfl ho]
  exact hP.set wsof_D (wsof_get hk) e oq
theorem up2_ne {α : Type} {f : Nat → Nat → α} {k j : Nat} {v : α} {i : Nat} (h : i ≠ k) : up2 f k j v i = f i := by
  funext b
  unfold up2
  rw [if_neg (fun z => h z.1)]
theorem up2_row {α : Type} {f : Nat → Nat → α} {k j : Nat} {v : α} : up2 f k j v k = fun b => if b = j then v else f k b := by
  funext b
  unfold up2
  by_cases hb : b = j
  · rw [if_pos ⟨rfl, hb⟩, if_pos hb]
  · rw [if_neg (fun z => hb z.2), if_neg hb]
theorem map_set {α : Type} (f g : Nat → α) (n j : Nat) (v : α) (hj : g j = v) (ho : ∀ i, i ≠ j → g i = f i) : ((List.range n).map f).set j v = (List.range n).map g := by
  apply List.ext_getElem?
  intro i
  by_cases hi : i < n
  · by_cases e : i = j
    · subst e
      rw [List.getElem?_set_self (by simpa using hi)]
      simp [hi, hj]
    · rw [List.getElem?_set_ne (fun z => e z.symm)]
      simp [hi, ho i e]
  · rw [List.getElem?_eq_none (by simp; omega), List.getElem?_eq_none (by simp; omega)]
section TM
variable {γ : Ga} {d mc ms : Nat} {M : MI} {Q : Out → SMem → Prop} {kc ks : Nat} {pc : Nat} {ls : List (Option Value)} {st : List Value} {μ : SMem}
theorem T_get {k c j idx : Nat} (hf : FLk M.1.cls idx c j) (hk : KT k = (0, c)) (hn : k < μ.1) (hd : decode (Mb M) pc = .ok (.getfield idx, 3)) (kk : T γ d mc ms M Q kc ks (pc + 3) ls (sval μ c k j :: st) μ) : T γ d mc ms M Q kc ks pc ls (.ref k :: st) μ := by
  intro p e s m args below meth c' H locs L hF hH hS hl
  obtain ⟨⟨hw, hc⟩, hj⟩ := hf
  have hcn := cl_n c hc
  have k9 := kk p e s m args below meth c' H locs L hF hH hS hl
  rw [List.map_cons, rv_sval] at k9
  show W p (gl γ) e (rmd d mc ms) s m args below meth c' H locs kc ks _ (F0 m pc L (.ref (rho γ k) :: st.map (rv γ)))
  rw [rho_lt hH hn]
  refine va_get (D := gD γ) (tys := tysof γ) (cl := vwCl) (ws := wsof γ μ) (C := (cl3 c).1) (T := (cl3 c).2.1) (N := (cl3 c).2.2) (ref := (cl3 c).1) hF.1 hF.2.1 hF.2.2.2.2.1 (cl_in c hc) hF.2.2.2.1 hF.2.2.2.2.2.2.2.2.2.2.1 hH.1 k (by rw [wsof_get hn, ent_obj hk]) (cl_some c hc) j (by rw [hcn]; exact hj) (hF.2.2.2.2.1 _ hw) (fun x hx => ?_) ?_ hd k9
  · rw [cl_own c hc j (by rw [hcn]; exact hj)] at hx
    exact hx
  · simp [hj]
theorem T_getI {k c j idx : Nat} (hf : FLk M.1.cls idx c j) (ht : ft c j = 0) (hk : KT k = (0, c)) (hn : k < μ.1) (hd : decode (Mb M) pc = .ok (.getfield idx, 3)) (kk : T γ d mc ms M Q kc ks (pc + 3) ls (.int (μ.2.2.1 k j) :: st) μ) : T γ d mc ms M Q kc ks pc ls (.ref k :: st) μ :=
  T_get hf hk hn hd (by rw [show sval μ c k j = .int (μ.2.2.1 k j) by unfold sval; rw [ht]; rfl]; exact kk)
theorem T_getL {k c j idx : Nat} (hf : FLk M.1.cls idx c j) (ht : ft c j = 1) (hk : KT k = (0, c)) (hn : k < μ.1) (hd : decode (Mb M) pc = .ok (.getfield idx, 3)) (kk : T γ d mc ms M Q kc ks (pc + 3) ls (.long (μ.2.2.2 k j) :: st) μ) : T γ d mc ms M Q kc ks pc ls (.ref k :: st) μ :=
  T_get hf hk hn hd (by rw [show sval μ c k j = .long (μ.2.2.2 k j) by unfold sval; rw [ht]; rfl]; exact kk)
theorem T_getR {k c j idx i : Nat} (hf : FLk M.1.cls idx c j) (ht : ft c j = 2) (hk : KT k = (0, c)) (hn : k < μ.1) (hr : μ.2.1 k j = i + 1) (hd : decode (Mb M) pc = .ok (.getfield idx, 3)) (kk : T γ d mc ms M Q kc ks (pc + 3) ls (.ref i :: st) μ) : T γ d mc ms M Q kc ks pc ls (.ref k :: st) μ :=
  T_get hf hk hn hd (by rw [show sval μ c k j = .ref i by unfold sval; rw [ht, hr]; rfl]; exact kk)
/-- a field anew, in general -/
theorem T_put {k c j idx : Nat} {v : Value} {μ' : SMem} (hf : FLk M.1.cls idx c j) (hfin : ((cl3 c).2.1 j).2.2.2 = false ∨ (((cl3 c).2.1 j).2.2.2 = true ∧ M.1.name = "<init>" ∧ (cl3 c).1 = M.1.cls)) (hv : narrow (tyc c j) (rv γ v) = rv γ v ∧ fits (tyc c j) (rv γ v) = true) (hk : KT k = (0, c)) (hn : k < μ.1) (hd : decode (Mb M) pc = .ok (.putfield idx, 3))
    (e1 : μ'.1 = μ.1) (e2 : fval γ μ' c k j = rv γ v) (e3 : ∀ i, i ≠ j → fval γ μ' c k i = fval γ μ c k i) (e4 : ∀ i, i ≠ k → ent γ μ' i = ent γ μ i)
    (kk : T γ d mc ms M Q kc ks (pc + 3) ls st μ') : T γ d mc ms M Q kc ks pc ls (v :: .ref k :: st) μ := by
  intro p e s m args below meth c' H locs L hF hH hS hl
  obtain ⟨⟨hw, hc⟩, hj⟩ := hf
  have hcn := cl_n c hc
  have hj' : j < (cl3 c).2.2 := by rw [hcn]; exact hj
  show W p (gl γ) e (rmd d mc ms) s m args below meth c' H locs kc ks _ (F0 m pc L (rv γ v :: .ref (rho γ k) :: st.map (rv γ)))
  rw [rho_lt hH hn]
  have hts := hF.2.2.2.2.1
  have hown := hF.2.2.2.1
  have hK := hF.2.2.2.2.2.2.2.2.2.2.1
  have hap := va_apart (own := M.1.cls) hts (cl_in c hc) (tyc c) (cl_ty c hc) (cl_nm c hc) hK (cl_some c hc)
  obtain ⟨r, h1, cell, q1, q2, q3, q4⟩ := hH.1 k _ (by rw [wsof_get hn, ent_obj hk])
  have hr : r = cl3 c := Option.some.inj (h1.symm.trans (cl_some c hc))
  subst hr
  obtain ⟨hSl, hfc, kC, hkC, hkind⟩ := hK.1 c _ (cl_some c hc)
  obtain ⟨cf, kf, fi, f, hi, hsl⟩ := hSl j hj'
  have hlay := hts _ (cl_in c hc _ (u_in_lay hj'))
  have hsame : s.fieldFound? (cl3 c).1 ((cl3 c).2.1 j).2.1 ((cl3 c).2.1 j).2.2.1 = some (cf, kf, fi, f) := by
    rw [cl_own c hc j hj'] at hi
    exact hi
  have hst := (u_facts hfc hkC (u_lays hts (cl_in c hc) hj') hi).1
  have hset : ((List.range (nf c)).map (fval γ μ c k)).set j (rv γ v) = (List.range (nf c)).map (fval γ μ' c k) := map_set _ _ _ _ _ e2 e3
  have fin9 : ∀ H1 : Heap, H1[glo γ + k]? = some (cell.setSlot f.slot (rv γ v)) → H1.size = H.size → (∀ q : Nat, q ≠ glo γ + k → H1[q]? = H[q]?) → W p (gl γ) e (rmd d mc ms) s m args below meth c' H1 (locs ++ [⟨glo γ + k, f.slot⟩]) kc ks (vx_MQ below (QC γ Q) (XC γ Q) args s mc ms (gA γ)) (F0 m (pc + 3) L (st.map (rv γ))) := by
    intro H1 b1 b2 b3
    refine kk p e s m args below meth c' H1 _ L hF (hH.set hn e1 ?_ b2 b3 e4) (hS.put b2 b3 (Nat.le_add_right _ _)) hl
    rw [ent_obj hk, ← hset]
    refine ⟨cl3 c, cl_some c hc, ?_⟩
    rw [hsl] at b1
    exact t_OB.to (V := updV (vp_V ((List.range (nf c)).map (fval γ μ c k))) j (rv γ v)) ⟨_, b1, q2, q3, t_set q4 hap hj' (rv γ v)⟩ (fun i _ => vp_updV_set (by simpa using hj) (rv γ v) i)
  rcases hfin with hfin | ⟨hfin, hini, hdecl⟩
  · unfold u_lay at hlay
    rw [if_neg (by rw [hfin]; decide)] at hlay
    have h6 := u_store hfc hkC hkind hlay hi (cl_ty c hc j hj') hv.1 hv.2
    exact W.putK hF.1 hF.2.1 (f := f) ⟨hown, hts _ hw, ⟨_, _, _, hsame⟩, hst⟩ (by rw [q2]; exact h6) q1 q3 (by rw [hsl]; exact k2_hasslot (q4 j hj')) rfl rfl hd fin9
  · unfold u_lay at hlay
    rw [if_pos hfin] at hlay
    have hcf : m.cls = cf := by
      obtain ⟨_, _, c9, _, _, _, -, -, hf9, -, -, -, hown2, -⟩ := Cond.laysFinal_spec hlay
      have e9 : c9 = cf := by have := hi.symm.trans hf9; simp at this; exact this.1.symm
      rw [cl_own c hc j hj', hdecl] at hown2
      rw [← e9]; exact Option.some.inj (hown.symm.trans hown2)
    have h6 := u_fits hfc hkC hkind (Or.inr hlay) hi (cl_ty c hc j hj') hv.1 hv.2
    exact W.putFinK hF.1 hF.2.1 hown (hts _ hw) hsame hst hcf (hF.2.2.2.2.2.2.2.1.trans hini) (by rw [q2]; exact h6) q1 q3 (by rw [hsl]; exact k2_hasslot (q4 j hj')) rfl rfl hd fin9
def mI (μ : SMem) (k j : Nat) (x : Int32) : SMem := (μ.1, μ.2.1, up2 μ.2.2.1 k j x, μ.2.2.2)
def mL (μ : SMem) (k j : Nat) (x : Int64) : SMem := (μ.1, μ.2.1, μ.2.2.1, up2 μ.2.2.2 k j x)
def mR (μ : SMem) (k j : Nat) (x : Nat) : SMem := (μ.1, up2 μ.2.1 k j x, μ.2.2.1, μ.2.2.2)
theorem T_putI {k c j idx : Nat} {x : Int32} (hf : FLk M.1.cls idx c j) (ht : ft c j = 0 ∧ ((cl3 c).2.1 j).2.2.2 = false) (hx : tyc c j = .int ∨ x = 0 ∨ x = 1) (hk : KT k = (0, c)) (hn : k < μ.1) (hd : decode (Mb M) pc = .ok (.putfield idx, 3)) (kk : T γ d mc ms M Q kc ks (pc + 3) ls st (mI μ k j x)) : T γ d mc ms M Q kc ks pc ls (.int x :: .ref k :: st) μ := by
  have hcn := cl_n c hf.1.2
  refine T_put (μ' := mI μ k j x) hf (Or.inl ht.2) ?_ hk hn hd rfl ?_ ?_ ?_ kk
  · have h9 : tyc c j = .int ∨ tyc c j = .boolean := by
      rcases cl_ft c hf.1.2 j (by rw [hcn]; exact hf.2) with h | h | h
      · exact h.2
      · rw [ht.1] at h; exact absurd h.1 (by decide)
      · rw [ht.1] at h; exact absurd h.1 (by decide)
    show narrow (tyc c j) (.int x) = .int x ∧ fits (tyc c j) (.int x) = true
    rcases h9 with h9 | h9
    · rw [h9]; exact ⟨rfl, rfl⟩
    · rcases hx with hx | rfl | rfl
      · rw [h9] at hx; cases hx
      · rw [h9]; exact ⟨by decide, by decide⟩
      · rw [h9]; exact ⟨by decide, by decide⟩
  · show fval γ (mI μ k j x) c k j = .int x
    unfold fval mI up2
    rw [ht.1]
    simp
  · intro i hi
    unfold fval mI
    simp only [up2_row, if_neg hi]
  · intro i hi
    exact ent_same rfl (up2_ne hi) rfl
theorem T_putL {k c j idx : Nat} {x : Int64} (hf : FLk M.1.cls idx c j) (ht : ft c j = 1 ∧ ((cl3 c).2.1 j).2.2.2 = false) (hk : KT k = (0, c)) (hn : k < μ.1) (hd : decode (Mb M) pc = .ok (.putfield idx, 3)) (kk : T γ d mc ms M Q kc ks (pc + 3) ls st (mL μ k j x)) : T γ d mc ms M Q kc ks pc ls (.long x :: .ref k :: st) μ := by
  have hcn := cl_n c hf.1.2
  refine T_put (μ' := mL μ k j x) hf (Or.inl ht.2) ?_ hk hn hd rfl ?_ ?_ ?_ kk
  · have h9 : tyc c j = .long := by
      rcases cl_ft c hf.1.2 j (by rw [hcn]; exact hf.2) with h | h | h
      · rw [ht.1] at h; exact absurd h.1 (by decide)
      · exact h.2
      · rw [ht.1] at h; exact absurd h.1 (by decide)
    show narrow (tyc c j) (.long x) = .long x ∧ fits (tyc c j) (.long x) = true
    rw [h9]; exact ⟨rfl, rfl⟩
  · show fval γ (mL μ k j x) c k j = .long x
    unfold fval mL up2
    rw [ht.1]
    simp
  · intro i hi
    unfold fval mL
    simp only [up2_row, if_neg hi]
  · intro i hi
    exact ent_same rfl rfl (up2_ne hi)
/-- a final reference, in the constructor -/
theorem T_putR {k c j idx i : Nat} (hf : FLk M.1.cls idx c j) (ht : ft c j = 2 ∧ ((cl3 c).2.1 j).2.2.2 = true) (hi : M.1.name = "<init>" ∧ (cl3 c).1 = M.1.cls) (ha : ∀ q : Nat, narrow (tyc c j) (.ref q) = .ref q ∧ fits (tyc c j) (.ref q) = true) (hk : KT k = (0, c)) (hn : k < μ.1) (hd : decode (Mb M) pc = .ok (.putfield idx, 3)) (kk : T γ d mc ms M Q kc ks (pc + 3) ls st (mR μ k j (i + 1))) : T γ d mc ms M Q kc ks pc ls (.ref i :: .ref k :: st) μ := by
  refine T_put (μ' := mR μ k j (i + 1)) hf (Or.inr ⟨ht.2, hi.1, hi.2⟩) (ha _) hk hn hd rfl ?_ ?_ ?_ kk
  · show fval γ (mR μ k j (i + 1)) c k j = .ref (rho γ i)
    unfold fval mR up2
    rw [ht.1]
    simp [rf]
  · intro q hq
    unfold fval mR
    simp only [up2_row, if_neg hq]
  · intro q hq
    exact ent_same (up2_ne hq) rfl rfl
theorem T_iald {k n : Nat} {i : Int32} (hk : KT k = (1, n)) (hn : k < μ.1) (hi : vp_in i n) (hd : decode (Mb M) pc = .ok (.iaload, 1)) (kk : T γ d mc ms M Q kc ks (pc + 1) ls (.int (μ.2.2.1 k i.toNatClampNeg) :: st) μ) : T γ d mc ms M Q kc ks pc ls (.int i :: .ref k :: st) μ := by
  intro p e s m args below meth c' H locs L hF hH hS hl
  show W p (gl γ) e (rmd d mc ms) s m args below meth c' H locs kc ks _ (F0 m pc L (.int i :: .ref (rho γ k) :: st.map (rv γ)))
  rw [rho_lt hH hn]
  exact va_iald (D := gD γ) (tys := tysof γ) (cl := vwCl) (ws := wsof γ μ) hF.1 hF.2.1 hF.2.2.2.2.2.2.2.2.2.2.1 hH.1 k 0 (by rw [wsof_get hn, ent_int hk]) rfl hi hd (kk p e s m args below meth c' H locs L hF hH hS hl)
theorem T_lald {k n : Nat} {i : Int32} (hk : KT k = (2, n)) (hn : k < μ.1) (hi : vp_in i n) (hd : decode (Mb M) pc = .ok (.laload, 1)) (kk : T γ d mc ms M Q kc ks (pc + 1) ls (.long (μ.2.2.2 k i.toNatClampNeg) :: st) μ) : T γ d mc ms M Q kc ks pc ls (.int i :: .ref k :: st) μ := by
  intro p e s m args below meth c' H locs L hF hH hS hl
  show W p (gl γ) e (rmd d mc ms) s m args below meth c' H locs kc ks _ (F0 m pc L (.int i :: .ref (rho γ k) :: st.map (rv γ)))
  rw [rho_lt hH hn]
  exact va_lald (D := gD γ) (tys := tysof γ) (cl := vwCl) (ws := wsof γ μ) hF.1 hF.2.1 hF.2.2.2.2.2.2.2.2.2.2.1 hH.1 k 1 (by rw [wsof_get hn, ent_long hk]) rfl hi hd (kk p e s m args below meth c' H locs L hF hH hS hl)
theorem T_bald {k n : Nat} {i : Int32} (hk : KT k = (3, n)) (hn : k < μ.1) (hi : vp_in i n) (hd : decode (Mb M) pc = .ok (.baload, 1)) (kk : T γ d mc ms M Q kc ks (pc + 1) ls (.int (μ.2.2.1 k i.toNatClampNeg) :: st) μ) : T γ d mc ms M Q kc ks pc ls (.int i :: .ref k :: st) μ := by
  intro p e s m args below meth c' H locs L hF hH hS hl
  show W p (gl γ) e (rmd d mc ms) s m args below meth c' H locs kc ks _ (F0 m pc L (.int i :: .ref (rho γ k) :: st.map (rv γ)))
  rw [rho_lt hH hn]
  exact va_bald (D := gD γ) (tys := tysof γ) (cl := vwCl) (ws := wsof γ μ) hF.1 hF.2.1 hF.2.2.2.2.2.2.2.2.2.2.1 hH.1 k 2 (by rw [wsof_get hn, ent_byte hk]) rfl hi hd (kk p e s m args below meth c' H locs L hF hH hS hl)
theorem T_aald {k t n j : Nat} {i : Int32} (hk : KT k = (t + 4, n)) (ht : t < 2) (hn : k < μ.1) (hi : vp_in i n) (hr : μ.2.1 k i.toNatClampNeg = j + 1) (hd : decode (Mb M) pc = .ok (.aaload, 1)) (kk : T γ d mc ms M Q kc ks (pc + 1) ls (.ref j :: st) μ) : T γ d mc ms M Q kc ks pc ls (.int i :: .ref k :: st) μ := by
  intro p e s m args below meth c' H locs L hF hH hS hl
  show W p (gl γ) e (rmd d mc ms) s m args below meth c' H locs kc ks _ (F0 m pc L (.int i :: .ref (rho γ k) :: st.map (rv γ)))
  rw [rho_lt hH hn]
  have k9 := kk p e s m args below meth c' H locs L hF hH hS hl
  refine va_aldq (D := gD γ) (tys := tysof γ) (cl := vwCl) (ws := wsof γ μ) (t0 := t + 3) (cA := gca γ (t + 4)) (C := if t = 0 then RX1 else RX9) (n := n) (f := fun j => oref γ (μ.2.1 k j)) hF.1 hF.2.1 hF.2.2.2.2.2.2.2.2.2.2.1 hH.1 k (by rw [wsof_get hn, ent_ref hk]) ?_ hi hd ?_
  · match t, ht with
    | 0, _ => rfl
    | 1, _ => rfl
  · rw [hr]
    exact k9
theorem T_alen {k t n : Nat} (hk : KT k = (t, n)) (ht : 1 ≤ t ∧ t < 6) (hn : k < μ.1) (hd : decode (Mb M) pc = .ok (.arraylength, 1)) (kk : T γ d mc ms M Q kc ks (pc + 1) ls (.int (nI n) :: st) μ) : T γ d mc ms M Q kc ks pc ls (.ref k :: st) μ := by
  intro p e s m args below meth c' H locs L hF hH hS hl
  show W p (gl γ) e (rmd d mc ms) s m args below meth c' H locs kc ks _ (F0 m pc L (.ref (rho γ k) :: st.map (rv γ)))
  rw [rho_lt hH hn]
  have k9 := kk p e s m args below meth c' H locs L hF hH hS hl
  match t, hk, ht with
  | 1, hk, _ => exact va_alen (x := (n, .inl (μ.2.2.1 k))) (D := gD γ) (tys := tysof γ) (cl := vwCl) (ws := wsof γ μ) hF.1 hF.2.1 hF.2.2.2.2.2.2.2.2.2.2.1 hH.1 k 0 (by rw [wsof_get hn, ent_int hk]) rfl rfl hd k9
  | 2, hk, _ => exact va_alen (x := (n, .inr (.inl (μ.2.2.2 k)))) (D := gD γ) (tys := tysof γ) (cl := vwCl) (ws := wsof γ μ) hF.1 hF.2.1 hF.2.2.2.2.2.2.2.2.2.2.1 hH.1 k 1 (by rw [wsof_get hn, ent_long hk]) rfl rfl hd k9
  | 3, hk, _ => exact va_alen (x := (n, .inl (μ.2.2.1 k))) (D := gD γ) (tys := tysof γ) (cl := vwCl) (ws := wsof γ μ) hF.1 hF.2.1 hF.2.2.2.2.2.2.2.2.2.2.1 hH.1 k 2 (by rw [wsof_get hn, ent_byte hk]) rfl rfl hd k9
  | 4, hk, _ => exact va_alen (x := (n, .inr (.inr (.inr (.inr (fun j => oref γ (μ.2.1 k j))))))) (D := gD γ) (tys := tysof γ) (cl := vwCl) (ws := wsof γ μ) hF.1 hF.2.1 hF.2.2.2.2.2.2.2.2.2.2.1 hH.1 k 3 (by rw [wsof_get hn, ent_ref (t := 0) hk]) rfl rfl hd k9
  | 5, hk, _ => exact va_alen (x := (n, .inr (.inr (.inr (.inr (fun j => oref γ (μ.2.1 k j))))))) (D := gD γ) (tys := tysof γ) (cl := vwCl) (ws := wsof γ μ) hF.1 hF.2.1 hF.2.2.2.2.2.2.2.2.2.2.1 hH.1 k 4 (by rw [wsof_get hn, ent_ref (t := 1) hk]) rfl rfl hd k9
  | t + 6, hk, h => omega
  | 0, hk, h => omega
theorem T_iast {k n : Nat} {i x : Int32} (hk : KT k = (1, n)) (hn : k < μ.1) (hi : vp_in i n) (hd : decode (Mb M) pc = .ok (.iastore, 1)) (kk : T γ d mc ms M Q kc ks (pc + 1) ls st (mI μ k i.toNatClampNeg x)) : T γ d mc ms M Q kc ks pc ls (.int x :: .int i :: .ref k :: st) μ := by
  intro p e s m args below meth c' H locs L hF hH hS hl
  show W p (gl γ) e (rmd d mc ms) s m args below meth c' H locs kc ks _ (F0 m pc L (.int x :: .int i :: .ref (rho γ k) :: st.map (rv γ)))
  rw [rho_lt hH hn]
  have hK := hF.2.2.2.2.2.2.2.2.2.2.1
  have ha : va_at (gD γ) vwCl (glo γ + k, ent γ μ k) H := hH.1 k _ (wsof_get hn)
  rw [ent_int hk] at ha
  refine W.iast hF.1 hF.2.1 ha ((hK.2 0 (gca γ 1, .int) rfl).1 n (fun j => .int (μ.2.2.1 k j))) (fun q => by cases q) (by show ¬ (i < 0 ∨ (arrV _ _ _).slots.size ≤ _); rw [arrV_size]; exact hi) rfl rfl hd fun H1 e1 z oq => ?_
  refine kk p e s m args below meth c' H1 _ L hF (hH.set hn rfl ?_ z oq (fun q hq => ent_same rfl (up2_ne hq) rfl)) (hS.put z oq (Nat.le_add_right _ _)) hl
  rw [ent_int hk]
  show H1[glo γ + k]? = some (vp_cell _ _)
  rw [e1, vp_cell_i, vp_cell_i, arrV_store]
  congr 2
  funext q
  by_cases hq : q = i.toNatClampNeg
  · subst hq
    simp [updV, mI, up2]
  · simp [updV, mI, up2, hq]
theorem T_bast {k n : Nat} {i x : Int32} (hk : KT k = (3, n)) (hn : k < μ.1) (hi : vp_in i n) (hd : decode (Mb M) pc = .ok (.bastore, 1)) (kk : T γ d mc ms M Q kc ks (pc + 1) ls st (mI μ k i.toNatClampNeg x.toInt8.toInt32)) : T γ d mc ms M Q kc ks pc ls (.int x :: .int i :: .ref k :: st) μ := by
  intro p e s m args below meth c' H locs L hF hH hS hl
  show W p (gl γ) e (rmd d mc ms) s m args below meth c' H locs kc ks _ (F0 m pc L (.int x :: .int i :: .ref (rho γ k) :: st.map (rv γ)))
  rw [rho_lt hH hn]
  have hK := hF.2.2.2.2.2.2.2.2.2.2.1
  have ha : va_at (gD γ) vwCl (glo γ + k, ent γ μ k) H := hH.1 k _ (wsof_get hn)
  rw [ent_byte hk] at ha
  refine W.bast hF.1 hF.2.1 ha ((hK.2 2 (gca γ 3, .byte) rfl).1 n (fun j => .int (μ.2.2.1 k j))) (fun q => by cases q) (by show ¬ (i < 0 ∨ (arrV _ _ _).slots.size ≤ _); rw [arrV_size]; exact hi) rfl rfl hd fun H1 e1 z oq => ?_
  refine kk p e s m args below meth c' H1 _ L hF (hH.set hn rfl ?_ z oq (fun q hq => ent_same rfl (up2_ne hq) rfl)) (hS.put z oq (Nat.le_add_right _ _)) hl
  rw [ent_byte hk]
  show H1[glo γ + k]? = some (vp_cell _ _)
  rw [e1, vp_cell_i, vp_cell_i, arrV_store]
  congr 2
  funext q
  by_cases hq : q = i.toNatClampNeg
  · subst hq
    simp [updV, mI, up2, narrow]
  · simp [updV, mI, up2, hq]
theorem T_last {k n : Nat} {i : Int32} {x : Int64} (hk : KT k = (2, n)) (hn : k < μ.1) (hi : vp_in i n) (hd : decode (Mb M) pc = .ok (.lastore, 1)) (kk : T γ d mc ms M Q kc ks (pc + 1) ls st (mL μ k i.toNatClampNeg x)) : T γ d mc ms M Q kc ks pc ls (.long x :: .int i :: .ref k :: st) μ := by
  intro p e s m args below meth c' H locs L hF hH hS hl
  show W p (gl γ) e (rmd d mc ms) s m args below meth c' H locs kc ks _ (F0 m pc L (.long x :: .int i :: .ref (rho γ k) :: st.map (rv γ)))
  rw [rho_lt hH hn]
  have hK := hF.2.2.2.2.2.2.2.2.2.2.1
  have ha : va_at (gD γ) vwCl (glo γ + k, ent γ μ k) H := hH.1 k _ (wsof_get hn)
  rw [ent_long hk] at ha
  refine W.last hF.1 hF.2.1 ha ((hK.2 1 (gca γ 2, .long) rfl).1 n (fun j => .long (μ.2.2.2 k j))) (fun q => by cases q) (by show ¬ (i < 0 ∨ (arrV _ _ _).slots.size ≤ _); rw [arrV_size]; exact hi) rfl rfl hd fun H1 e1 z oq => ?_
  refine kk p e s m args below meth c' H1 _ L hF (hH.set hn rfl ?_ z oq (fun q hq => ent_same rfl rfl (up2_ne hq))) (hS.put z oq (Nat.le_add_right _ _)) hl
  rw [ent_long hk]
  show H1[glo γ + k]? = some (vp_cell _ _)
  rw [e1, vp_cell_l, vp_cell_l, arrV_store]
  congr 2
  funext q
  by_cases hq : q = i.toNatClampNeg
  · subst hq
    simp [updV, mL, up2]
  · simp [updV, mL, up2, hq]
end TM
