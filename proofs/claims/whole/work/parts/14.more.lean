/-! the rows of T: copies, texts, what constructors do -/
section TE
variable {γ : Ga} {d mc ms : Nat} {M : MI} {Q : Out → SMem → Prop} {kc ks : Nat} {pc : Nat} {ls : List (Option Value)} {st : List Value} {μ : SMem}
theorem cat_rv {γ : Ga} (st : List Value) : ((st.map (rv γ)).map fun v => v.category).sum = (st.map fun v => v.category).sum := by
  rw [List.map_map, show ((fun v : Value => v.category) ∘ rv γ) = fun v => v.category from funext (fun v => rv_cat v)]
theorem T_i2c {x : Int32} (hd : decode (Mb M) pc = .ok (.i2c, 1)) (kk : T γ d mc ms M Q kc ks (pc + 1) ls (.int ((x.toUInt32 % 65536).toInt32) :: st) μ) : T γ d mc ms M Q kc ks pc ls (.int x :: st) μ := fun p e s m args below meth c H locs L hF hH hS hl =>
  lv_i2c hF.1 hF.2.1 hd rfl (kk p e s m args below meth c H locs L hF hH hS hl)
def mCI (μ : SMem) (k0 k1 sp dp n : Nat) : SMem := (μ.1, μ.2.1, fun a b => if a = k1 then va_cpy (μ.2.2.1 k0) (μ.2.2.1 k1) sp dp n b else μ.2.2.1 a b, μ.2.2.2)
def mCL (μ : SMem) (k0 k1 sp dp n : Nat) : SMem := (μ.1, μ.2.1, μ.2.2.1, fun a b => if a = k1 then va_cpy (μ.2.2.2 k0) (μ.2.2.2 k1) sp dp n b else μ.2.2.2 a b)
def CpOk (own : String) (idx : Nat) : Prop := Cond.methodLink own idx arraycopyName ∈ tbw ∧ Cond.native arraycopyName ∈ tbw ∧ Cond.static arraycopyName ∈ tbw ∧ Cond.initialized "java/lang/System" ∈ tbw
theorem Hp.cells {γ : Ga} {μ : SMem} {H : Heap} (hμ : μ.1 = N0) (hP : va_P (gD γ) vwCl (wsof γ μ) H) : Hp γ μ H := by
  have h1 : 594 < μ.1 := by rw [hμ]; exact Nat.le_of_ble_eq_true rfl
  have h2 := (hP 594 _ (wsof_get h1)).lt
  refine ⟨hP, ?_, fun z => ?_, ?_⟩
  · rw [hμ]
    show glo γ + N0 ≤ H.size
    have h3 : glo γ + 594 < H.size := h2
    unfold N0
    omega
  · rw [hμ] at z
    exact absurd z (Nat.lt_irrefl _)
  · rw [hμ]
    exact Nat.le_refl _
theorem T_copyI {idx k0 k1 n0 n1 : Nat} {sp dp n : Int32} (hc : CpOk M.1.cls idx) (hk0 : KT k0 = (1, n0)) (hk1 : KT k1 = (1, n1)) (hμ : μ.1 = N0) (hn0 : k0 < N0) (hn1 : k1 < N0) (h1 : ¬ sp < 0) (h2 : ¬ dp < 0) (h3 : ¬ n < 0) (h4 : sp.toNatClampNeg + n.toNatClampNeg ≤ n0) (h5 : dp.toNatClampNeg + n.toNatClampNeg ≤ n1) (hst : (st.map fun v => v.category).sum ≤ 8)
    (hd : decode (Mb M) pc = .ok (.invokestatic idx, 3)) (kk : T γ d mc ms M Q kc ks (pc + 3) ls st (mCI μ k0 k1 sp.toNatClampNeg dp.toNatClampNeg n.toNatClampNeg)) : T γ d mc ms M Q kc ks pc ls (.int n :: .int dp :: .ref k1 :: .int sp :: .ref k0 :: st) μ := by
  intro p e s m args below meth c H locs L hF hH hS hl
  show W p (gl γ) e (rmd d mc ms) s m args below meth c H locs kc ks _ (F0 m pc L (.int n :: .int dp :: .ref (rho γ k1) :: .int sp :: .ref (rho γ k0) :: st.map (rv γ)))
  rw [rho_lt (k := k1) hH (by rw [hμ]; exact hn1), rho_lt (k := k0) hH (by rw [hμ]; exact hn0)]
  have hts := hF.2.2.2.2.1
  refine va_copyi (D := gD γ) (tys := tysof γ) (cl := vwCl) (ws := wsof γ μ) (ty := .int) hF.1 hF.2.1 (hF.2.2.1.trans hl.1.symm) hF.2.2.2.1 (hts _ hc.1) (hts _ hc.2.1) (hts _ hc.2.2.1) (hts _ hc.2.2.2) hF.2.2.2.2.2.2.2.2.2.2.1 hH.1 wsof_D hS k0 k1 0 0 (by rw [wsof_get (by rw [hμ]; exact hn0), ent_int hk0]) (by rw [wsof_get (by rw [hμ]; exact hn1), ent_int hk1]) rfl rfl rfl h1 h2 h3 h4 h5 (fun i _ => rfl) ?_ ?_ hd (fun H1 locs1 hP1 _ hS1 => ?_)
  · unfold rmd; dsimp only; omega
  · rw [cat_rv]
    have : nativeFrameWords "java/lang/System" "arraycopy" 5 ≤ 200 := by decide +kernel
    unfold rmd; dsimp only; omega
  · refine kk p e s m args below meth c H1 locs1 L hF (Hp.cells hμ ?_) hS1 hl
    have hs := wsof_set (γ := γ) (μ := μ) (μ' := mCI μ k0 k1 sp.toNatClampNeg dp.toNatClampNeg n.toNatClampNeg) (k := k1) (by rw [hμ]; exact hn1) rfl rfl (fun j hj => ent_same rfl (by funext b; unfold mCI; dsimp only; rw [if_neg hj]) rfl)
    rw [← hs, ent_int hk1]
    have e9 : (mCI μ k0 k1 sp.toNatClampNeg dp.toNatClampNeg n.toNatClampNeg).2.2.1 k1 = va_cpy (μ.2.2.1 k0) (μ.2.2.1 k1) sp.toNatClampNeg dp.toNatClampNeg n.toNatClampNeg := by
      funext b; unfold mCI; dsimp only; rw [if_pos rfl]
    rw [e9]
    exact hP1
theorem T_copyL {idx k0 k1 n0 n1 : Nat} {sp dp n : Int32} (hc : CpOk M.1.cls idx) (hk0 : KT k0 = (2, n0)) (hk1 : KT k1 = (2, n1)) (hμ : μ.1 = N0) (hn0 : k0 < N0) (hn1 : k1 < N0) (h1 : ¬ sp < 0) (h2 : ¬ dp < 0) (h3 : ¬ n < 0) (h4 : sp.toNatClampNeg + n.toNatClampNeg ≤ n0) (h5 : dp.toNatClampNeg + n.toNatClampNeg ≤ n1) (hst : (st.map fun v => v.category).sum ≤ 8)
    (hd : decode (Mb M) pc = .ok (.invokestatic idx, 3)) (kk : T γ d mc ms M Q kc ks (pc + 3) ls st (mCL μ k0 k1 sp.toNatClampNeg dp.toNatClampNeg n.toNatClampNeg)) : T γ d mc ms M Q kc ks pc ls (.int n :: .int dp :: .ref k1 :: .int sp :: .ref k0 :: st) μ := by
  intro p e s m args below meth c H locs L hF hH hS hl
  show W p (gl γ) e (rmd d mc ms) s m args below meth c H locs kc ks _ (F0 m pc L (.int n :: .int dp :: .ref (rho γ k1) :: .int sp :: .ref (rho γ k0) :: st.map (rv γ)))
  rw [rho_lt (k := k1) hH (by rw [hμ]; exact hn1), rho_lt (k := k0) hH (by rw [hμ]; exact hn0)]
  have hts := hF.2.2.2.2.1
  refine va_copyl (D := gD γ) (tys := tysof γ) (cl := vwCl) (ws := wsof γ μ) (ty := .long) hF.1 hF.2.1 (hF.2.2.1.trans hl.1.symm) hF.2.2.2.1 (hts _ hc.1) (hts _ hc.2.1) (hts _ hc.2.2.1) (hts _ hc.2.2.2) hF.2.2.2.2.2.2.2.2.2.2.1 hH.1 wsof_D hS k0 k1 1 1 (by rw [wsof_get (by rw [hμ]; exact hn0), ent_long hk0]) (by rw [wsof_get (by rw [hμ]; exact hn1), ent_long hk1]) rfl rfl rfl h1 h2 h3 h4 h5 (fun i _ => rfl) ?_ ?_ hd (fun H1 locs1 hP1 _ hS1 => ?_)
  · unfold rmd; dsimp only; omega
  · rw [cat_rv]
    have : nativeFrameWords "java/lang/System" "arraycopy" 5 ≤ 200 := by decide +kernel
    unfold rmd; dsimp only; omega
  · refine kk p e s m args below meth c H1 locs1 L hF (Hp.cells hμ ?_) hS1 hl
    have hs := wsof_set (γ := γ) (μ := μ) (μ' := mCL μ k0 k1 sp.toNatClampNeg dp.toNatClampNeg n.toNatClampNeg) (k := k1) (by rw [hμ]; exact hn1) rfl rfl (fun j hj => ent_same rfl rfl (by funext b; unfold mCL; dsimp only; rw [if_neg hj]))
    rw [← hs, ent_long hk1]
    have e9 : (mCL μ k0 k1 sp.toNatClampNeg dp.toNatClampNeg n.toNatClampNeg).2.2.2 k1 = va_cpy (μ.2.2.2 k0) (μ.2.2.2 k1) sp.toNatClampNeg dp.toNatClampNeg n.toNatClampNeg := by
      funext b; unfold mCL; dsimp only; rw [if_pos rfl]
    rw [e9]
    exact hP1
theorem T_objInit {idx k : Nat} (hw : (Cond.methodLink M.1.cls idx Lib.objectInit ∈ tbw ∧ Cond.instanceMethod Lib.objectInit ∈ tbw) ∧ Cond.code Lib.objectInit ⟨#[0xb1]⟩ 1 none ∈ tbw) (hst : (st.map fun v => v.category).sum ≤ 8) (hd : decode (Mb M) pc = .ok (.invokespecial idx, 3)) (kk : T γ d mc ms M Q kc ks (pc + 3) ls st μ) : T γ d mc ms M Q kc ks pc ls (.ref k :: st) μ := by
  intro p e s m args below meth c H locs L hF hH hS hl
  have hts := hF.2.2.2.2.1
  have k9 := kk p e s m args below meth c H locs L hF hH hS hl
  refine W.objInit hF.1 hF.2.1 hF.2.2.2.1 (hts _ hw.1.1) (hts _ hw.1.2) (hts _ hw.2) rfl (hl.1.trans hF.2.2.1.symm) (a := rho γ k) (rest := st.map (rv γ)) rfl hd ?_ ?_ k9
  · unfold rmd; dsimp only; omega
  · have h9 := lv_room (m := m) (pc := pc) (ls := L) (rest := List.map (rv γ) (.ref k :: st)) (st := st.map (rv γ)) (by rw [cat_rv]; exact hst)
    refine Nat.le_trans (Nat.add_le_add_right h9 12) ?_
    unfold rmd; dsimp only; omega
def zr {α : Type} (z : α) (f : Nat → Nat → α) (n : Nat) : Nat → Nat → α := fun a b => if a = n then z else f a b
/-- one cell more, empty -/
def mNew (μ : SMem) : SMem := (μ.1 + 1, zr 0 μ.2.1 μ.1, zr 0 μ.2.2.1 μ.1, zr 0 μ.2.2.2 μ.1)
theorem zr_ne {α : Type} {z : α} {f : Nat → Nat → α} {n i : Nat} (h : i ≠ n) : zr z f n i = f i := by
  funext b; unfold zr; rw [if_neg h]
theorem zr_eq {α : Type} {z : α} {f : Nat → Nat → α} {n : Nat} : zr z f n n = fun _ => z := by
  funext b; unfold zr; rw [if_pos rfl]
theorem Hp.push {γ : Ga} {μ : SMem} {H H1 : Heap} (h : Hp γ μ H) (hn : μ.1 < N0) (z : H1.size = H.size + 1) (o : ∀ q : Nat, q < H.size → H1[q]? = H[q]?) (e : va_at (gD γ) vwCl (glo γ + μ.1, ent γ (mNew μ) μ.1) H1) : Hp γ (mNew μ) H1 := by
  have hsz := h.2.2.1 hn
  refine ⟨fun k q hq => ?_, ?_, fun _ => ?_, hn⟩
  · have hk : k < (mNew μ).1 := by
      have := (List.getElem?_eq_some_iff.mp hq).1
      rwa [wsof_len] at this
    rw [wsof_get hk] at hq
    cases hq
    have hk' : k < μ.1 + 1 := hk
    by_cases hk2 : k = μ.1
    · subst hk2
      exact e
    · have h9 := h.1 k _ (wsof_get (by omega))
      have hlt := h9.lt
      rw [ent_same (μ := μ) (μ' := mNew μ) (k := k) (zr_ne hk2) (zr_ne hk2) (zr_ne hk2)]
      exact h9.kept (o _ hlt)
  · show glo γ + (μ.1 + 1) ≤ H1.size
    omega
  · show H1.size = glo γ + (μ.1 + 1)
    omega
theorem T_new {idx c : Nat} (hw : (Cond.classLink M.1.cls idx (cl3 c).1 ∈ tbw ∧ Cond.instantiable (cl3 c).1 (cl3 c).2.2 ∈ tbw) ∧ Cond.initialized (cl3 c).1 ∈ tbw) (hc : c < 13) (hk : KT μ.1 = (0, c)) (hn : μ.1 < N0) (h1 : kc + 1 ≤ mc) (h2 : ks + nf c ≤ ms) (hd : decode (Mb M) pc = .ok (.new idx, 3)) (kk : T γ d mc ms M Q (kc + 1) (ks + nf c) (pc + 3) ls (.ref μ.1 :: st) (mNew μ)) : T γ d mc ms M Q kc ks pc ls st μ := by
  intro p e s m args below meth c' H locs L hF hH hS hl
  have hts := hF.2.2.2.2.1
  have hKn := hF.2.2.2.2.2.2.2.2.2.2.1.1 c _ (cl_some c hc)
  have hsz := hH.2.2.1 hn
  have hnf := cl_n c hc
  refine W.newcK hF.1 hF.2.1 hF.2.2.2.1 (hts _ hw.1.1) (hts _ hw.1.2) (hts _ hw.2) rfl hd ?_ ?_ hKn.2.1 rfl fun H1 kC hkC e1 z1 o1 => ?_
  · unfold rmd; dsimp only; omega
  · unfold rmd; dsimp only; omega
  · have hH1 : Hp γ (mNew μ) H1 := by
      refine hH.push hn z1 o1 ?_
      rw [ent_obj hk]
      refine ⟨cl3 c, cl_some c hc, ?_⟩
      rw [← hsz]
      refine (u_born (tyc c) hts (cl_in c hc) hKn hkC e1 (cl_ty c hc)).to (fun j hj => ?_)
      have hj' : j < nf c := by rw [← hnf]; exact hj
      have hv : vp_V ((List.range (nf c)).map (fval γ (mNew μ) c μ.1)) j = fval γ (mNew μ) c μ.1 j := by
        unfold vp_V
        simp [List.getD, hj']
      rw [hv]
      unfold fval mNew
      dsimp only
      rw [zr_eq, zr_eq, zr_eq]
      rcases cl_ft c hc j hj with ⟨h, h' | h'⟩ | ⟨h, h'⟩ | ⟨h, h'⟩
      · rw [h, h']; rfl
      · rw [h, h']; rfl
      · rw [h, h']; rfl
      · rw [h, h']; rfl
    have k9 := kk p e s m args below meth c' H1 locs L hF hH1 ⟨Nat.le_trans hS.1 (by omega), fun x a1 a2 => (o1 x (Nat.lt_of_lt_of_le a1 hS.1)).trans (hS.2.1 x a1 a2), hS.2.2⟩ hl
    rw [hnf]
    have hr : rho γ μ.1 = H.size := by
      rw [hsz]
      exact rho_lt (μ := mNew μ) hH1 (Nat.lt_succ_self _)
    have e9 : (Value.ref μ.1 :: st).map (rv γ) = .ref H.size :: st.map (rv γ) := by
      rw [← hr]; rfl
    rw [e9] at k9
    exact k9
theorem T_newa {at9 : ArrayType} {t N : Nat} {n : Int32} (hw : Cond.arrayClass (newarray.typeOf at9) ∈ tbw) (ht : (t = 1 ∧ newarray.typeOf at9 = .int) ∨ (t = 2 ∧ newarray.typeOf at9 = .long) ∨ (t = 3 ∧ newarray.typeOf at9 = .byte)) (hn' : ¬ n < 0) (hN : n.toNatClampNeg = N) (hN9 : N ≤ 10000) (hk : KT μ.1 = (t, N)) (hn : μ.1 < N0) (h1 : kc + 1 ≤ mc) (h2 : ks + N ≤ ms) (hd : decode (Mb M) pc = .ok (.newarray at9, 2)) (kk : T γ d mc ms M Q (kc + 1) (ks + N) (pc + 2) ls (.ref μ.1 :: st) (mNew μ)) : T γ d mc ms M Q kc ks pc ls (.int n :: st) μ := by
  intro p e s m args below meth c' H locs L hF hH hS hl
  have hts := hF.2.2.2.2.1
  have hK := hF.2.2.2.2.2.2.2.2.2.2.1
  have hsz := hH.2.2.1 hn
  have hby : N * componentBytes (newarray.typeOf at9) ≤ 536870912 := by
    have : componentBytes (newarray.typeOf at9) ≤ 8 := by cases at9 <;> decide
    exact Nat.le_trans (Nat.mul_le_mul hN9 this) (by decide)
  refine va_newaK (atype := at9) hF.1 hF.2.1 (hts _ hw) rfl hd (n := n) (rest := st.map (rv γ)) rfl hn' hN hby ?_ ?_ rfl (fun H1 cA e1 z1 o1 hAr hfc => ?_)
  · unfold rmd; dsimp only; omega
  · unfold rmd; dsimp only; omega
  · have hH1 : Hp γ (mNew μ) H1 := by
      refine hH.push hn z1 o1 ?_
      rw [← hsz]
      rcases ht with ⟨rfl, h9⟩ | ⟨rfl, h9⟩ | ⟨rfl, h9⟩
      · rw [h9] at hfc e1
        have hca : cA = gca γ 1 := Option.some.inj (hfc.symm.trans (hK.2 0 (gca γ 1, .int) rfl).2)
        rw [ent_int hk, ← hca]
        show H1[H.size]? = some (vp_cell _ _)
        rw [e1, vp_cell_i]
        unfold mNew
        dsimp only
        rw [zr_eq]
        rfl
      · rw [h9] at hfc e1
        have hca : cA = gca γ 2 := Option.some.inj (hfc.symm.trans (hK.2 1 (gca γ 2, .long) rfl).2)
        rw [ent_long hk, ← hca]
        show H1[H.size]? = some (vp_cell _ _)
        rw [e1, vp_cell_l]
        unfold mNew
        dsimp only
        rw [zr_eq]
        rfl
      · rw [h9] at hfc e1
        have hca : cA = gca γ 3 := Option.some.inj (hfc.symm.trans (hK.2 2 (gca γ 3, .byte) rfl).2)
        rw [ent_byte hk, ← hca]
        show H1[H.size]? = some (vp_cell _ _)
        rw [e1, vp_cell_i]
        unfold mNew
        dsimp only
        rw [zr_eq]
        rfl
    have k9 := kk p e s m args below meth c' H1 locs L hF hH1 ⟨Nat.le_trans hS.1 (by omega), fun x a1 a2 => (o1 x (Nat.lt_of_lt_of_le a1 hS.1)).trans (hS.2.1 x a1 a2), hS.2.2⟩ hl
    have hr : rho γ μ.1 = H.size := by
      rw [hsz]
      exact rho_lt (μ := mNew μ) hH1 (Nat.lt_succ_self _)
    have e9 : (Value.ref μ.1 :: st).map (rv γ) = .ref H.size :: st.map (rv γ) := by
      rw [← hr]; rfl
    rw [e9] at k9
    exact k9
theorem T_anew {idx c t N : Nat} {n : Int32} (hw : Cond.classLink M.1.cls idx (cl3 c).1 ∈ tbw) (ht : (t = 4 ∧ c = 1) ∨ (t = 5 ∧ c = 9)) (hn' : ¬ n < 0) (hN : n.toNatClampNeg = N) (hN9 : N ≤ 1000) (hk : KT μ.1 = (t, N)) (hn : μ.1 < N0) (h1 : kc + 1 ≤ mc) (h2 : ks + N ≤ ms) (hd : decode (Mb M) pc = .ok (.anewarray idx, 3)) (kk : T γ d mc ms M Q (kc + 1) (ks + N) (pc + 3) ls (.ref μ.1 :: st) (mNew μ)) : T γ d mc ms M Q kc ks pc ls (.int n :: st) μ := by
  intro p e s m args below meth c' H locs L hF hH hS hl
  subst hN
  have hts := hF.2.2.2.2.1
  have hEn := hF.2.2.2.2.2.2.2.2.2.2
  have hsz := hH.2.2.1 hn
  have hao : va_AO (cl3 c).1 s := by
    rcases ht with ⟨-, rfl⟩ | ⟨-, rfl⟩
    · exact hEn.2.2.2.2.2.2.1.1.1
    · exact hEn.2.2.2.2.2.2.1.2.1
  refine W.anew hF.1 hF.2.1 hF.2.2.2.1 (hts _ hw) (va_AO.use hao) rfl hd (n := n) (rest := st.map (rv γ)) rfl hn' (by omega) ?_ ?_ fun cA kA comp f1 f2 f3 f4 => ?_
  · unfold rmd; dsimp only; omega
  · unfold rmd; dsimp only; omega
  · generalize hH1' : H.push ({ cls := cA, slots := Array.replicate n.toNatClampNeg .null, vm := .none } : Cell) = H1
    have z1 : H1.size = H.size + 1 := by rw [← hH1', Array.size_push]
    have e1 : H1[H.size]? = some (arrV cA n.toNatClampNeg (fun _ => .null)) := by rw [← hH1', Array.getElem?_push_size, ← arrV_new]
    have o1 : ∀ q : Nat, q < H.size → H1[q]? = H[q]? := fun q hq => by rw [← hH1', Array.getElem?_push, if_neg (Nat.ne_of_lt hq)]
    have hH1 : Hp γ (mNew μ) H1 := by
      refine hH.push hn z1 o1 ?_
      rw [← hsz]
      rcases ht with ⟨rfl, rfl⟩ | ⟨rfl, rfl⟩
      · obtain ⟨_, _, _, _, _, g4⟩ := (hEn.1.2 3 (gca γ 4, .object RX1) rfl).2
        have hca : cA = gca γ 4 := Option.some.inj (f1.symm.trans g4)
        rw [ent_ref (t := 0) hk, ← hca]
        show H1[H.size]? = some (vp_cell _ _)
        rw [e1, vp_cell_q]
        unfold mNew
        dsimp only
        rw [zr_eq]
        rfl
      · obtain ⟨_, _, _, _, _, g4⟩ := (hEn.1.2 4 (gca γ 5, .object RX9) rfl).2
        have hca : cA = gca γ 5 := Option.some.inj (f1.symm.trans g4)
        rw [ent_ref (t := 1) hk, ← hca]
        show H1[H.size]? = some (vp_cell _ _)
        rw [e1, vp_cell_q]
        unfold mNew
        dsimp only
        rw [zr_eq]
        rfl
    have k9 := kk p e s m args below meth c' H1 locs L hF hH1 ⟨Nat.le_trans hS.1 (by omega), fun x a1 a2 => (o1 x (Nat.lt_of_lt_of_le a1 hS.1)).trans (hS.2.1 x a1 a2), hS.2.2⟩ hl
    have hr : rho γ μ.1 = H.size := by
      rw [hsz]
      exact rho_lt (μ := mNew μ) hH1 (Nat.lt_succ_self _)
    have e9 : (Value.ref μ.1 :: st).map (rv γ) = .ref H.size :: st.map (rv γ) := by
      rw [← hr]; rfl
    rw [e9] at k9
    exact k9
theorem T_aast {k t c n v : Nat} {i : Int32} (hk : KT k = (t + 4, n)) (ht : (t = 0 ∧ c = 1) ∨ (t = 1 ∧ c = 9)) (hkv : KT v = (0, c)) (hn : k < μ.1) (hv : v < μ.1) (hi : vp_in i n) (hd : decode (Mb M) pc = .ok (.aastore, 1)) (kk : T γ d mc ms M Q kc ks (pc + 1) ls st (mR μ k i.toNatClampNeg (v + 1))) : T γ d mc ms M Q kc ks pc ls (.ref v :: .int i :: .ref k :: st) μ := by
  intro p e s m args below meth c' H locs L hF hH hS hl
  show W p (gl γ) e (rmd d mc ms) s m args below meth c' H locs kc ks _ (F0 m pc L (.ref (rho γ v) :: .int i :: .ref (rho γ k) :: st.map (rv γ)))
  rw [rho_lt hH hn, rho_lt hH hv]
  have hK := hF.2.2.2.2.2.2.2.2.2.2.1
  have hlt : i.toNatClampNeg < n := Nat.not_le.mp fun q => hi (Or.inr q)
  have h0 : ¬ i < 0 := fun q => hi (Or.inl q)
  have hc : c < 13 := by rcases ht with ⟨-, rfl⟩ | ⟨-, rfl⟩ <;> decide
  have ha : va_at (gD γ) vwCl (glo γ + k, ent γ μ k) H := hH.1 k _ (wsof_get hn)
  rw [ent_ref hk] at ha
  obtain ⟨r', hr', cellV, g1, g2, g3, -⟩ := hH.1 v _ (by rw [wsof_get hv, ent_obj hkv])
  have hcls := (hK.1 c _ (cl_some c hc)).2
  have hra : va_RA s (gca γ (t + 4)) (.object (cl3 c).1) := by
    rcases ht with ⟨rfl, rfl⟩ | ⟨rfl, rfl⟩
    · exact (hK.2 3 (gca γ 4, .object RX1) rfl).2
    · exact (hK.2 4 (gca γ 5, .object RX9) rfl).2
  obtain ⟨kA, comp, k1, k2, k3, -⟩ := hra
  have hcomp : comp = (gD γ).1 c := Option.some.inj (k3.symm.trans hcls.1)
  subst hcomp
  obtain ⟨kC, hkC, -⟩ := hcls.2
  refine W.aast hF.1 hF.2.1 ha (fun q h => by cases h) (fun h => by cases h) k1 k2 rfl hkC ⟨h0, by show _ < (arrV _ _ _).slots.size; rw [arrV_size]; exact hlt⟩ g1 (fun q h => by rw [g3] at h; cases h) (by rw [g2]; exact hkC) (by rw [g2]; exact va_assign hcls) rfl rfl hd fun H1 e1 z oq => ?_
  refine kk p e s m args below meth c' H1 _ L hF (hH.set hn rfl ?_ z oq (fun q hq => ent_same (up2_ne hq) rfl rfl)) (hS.put z oq (Nat.le_add_right _ _)) hl
  rw [ent_ref hk]
  show H1[glo γ + k]? = some (vp_cell _ _)
  rw [e1, vp_cell_q, vp_cell_q, arrV_store]
  congr 2
  funext q
  by_cases hq : q = i.toNatClampNeg
  · subst hq
    simp [updV, mR, up2, va_rf, oref, rho_lt hH hv]
  · simp [updV, mR, up2, hq]
end TE
