/-! what is caught: a call that may throw in a method with handlers; a method with handlers called; the script -/
/-- a throw of E at pc, caught or not, comes to the end that is owed -/
def Xk (γ : Ga) (d mc ms : Nat) (M : MI) (Q : Out → SMem → Prop) (kc ks : Nat) (pc : Nat) (ls : List (Option Value)) (E : String) (μ' : SMem) : Prop :=
  ∀ (p : Program) (e : Env) (s : State) (m : MethodId) (args : Array Value) (below : List Frame) (meth : Method) (c : Code) (H1 : Heap) (locs1 : List Loc) (L : Array Slot) (st9 : List Value) (ce : Cell) (q9 : Addr),
    Fr γ M p s m args meth c → Hp γ μ' H1 → va_S (gA γ) s.heap H1 locs1 → LH γ (Ml M) ls L → H1[q9]? = some ce → ce.vm = .none → s.vm.findClass E = some ce.cls →
    vx_W p (gl γ) e (rmd d mc ms) s m args below meth c H1 locs1 kc ks (vx_MQ below (QC γ Q) (XC γ Q) args s mc ms (gA γ)) (F0 m pc L st9) q9
section CA
variable {γ : Ga} {d mc ms : Nat} {M : MI} {Q : Out → SMem → Prop} {kc ks : Nat} {pc : Nat} {ls : List (Option Value)} {μ : SMem}
variable {d' mc' ms' n idx : Nat} {M' : MI} {Q' : Out → SMem → Prop} {av As rest st : List Value}
theorem T_callVH {b c : Nat} (hl9 : LkV M.1.cls idx M' ∨ LkVN M.1.cls idx M') (hm : MOk M' n) (hE : Ex γ d' mc' ms' M' (.ref b :: As) μ Q') (hk : KT b = (0, c)) (hc : c < 13 ∧ (cl3 c).1 = M'.1.cls) (hb : b < μ.1) (hd : decode (Mb M) pc = .ok (.invokevirtual idx, 3)) (hst : st = As.reverse ++ .ref b :: rest) (hn : As.length = n) (hw : (rest.map fun v => v.category).sum ≤ 8) (hdd : d' < d) (h1 : kc + mc' ≤ mc) (h2 : ks + ms' ≤ ms)
    (hx : ∀ (E : String) (μ' : SMem), Q' (.inr E) μ' → Xk γ d mc ms M Q (kc + mc') (ks + ms') pc ls E μ') (kk : ∀ (v : Option Value) (μ' : SMem), Q' (.inl v) μ' → T γ d mc ms M Q (kc + mc') (ks + ms') (pc + 3) ls (v.toList ++ rest) μ') : T γ d mc ms M Q kc ks pc ls st μ := by
  intro p e s m args below meth c' H locs L hF hH hS hl
  subst hst
  have hts := hF.2.2.2.2.1
  have hw' : ((rest.map (rv γ)).map fun v => v.category).sum ≤ 8 := by
    rw [List.map_map, show ((fun v : Value => v.category) ∘ rv γ) = fun v => v.category from funext (fun v => rv_cat v)]
    exact hw
  have fix : CallFix p m c' (Mb M) (Ml M) s args tbw M.1.cls := ⟨hF.1, hF.2.1, hF.2.2.1, hF.2.2.2.1, hts⟩
  have hrec : ∃ cellB : Cell, H[rho γ b]? = some cellB ∧ cellB.vm.isStatics = false ∧ s.vm.findClass M'.1.cls = some cellB.cls := by
    have h9 := va_recv (D := gD γ) (tys := tysof γ) (cl := vwCl) (ws := wsof γ μ) (q0 := b) hF.2.2.2.2.2.2.2.2.2.2.1 hH.1 (cl_some c hc.1) (by rw [wsof_get hb, ent_obj hk])
    rw [hc.2] at h9
    rw [rho_lt hH hb]
    exact h9
  have hpre := PreS.mk9 (av := .ref b :: As) hF hH hS
  have hst9 : (As.reverse ++ .ref b :: rest).map (rv γ) = (As.map (rv γ)).reverse ++ .ref (rho γ b) :: rest.map (rv γ) := by
    rw [List.map_append, List.map_reverse]; rfl
  have hr : vx_Run p (gl γ) e (rmd d mc ms) s m args below meth c' H locs kc ks mc' ms' (F0 m pc L ((As.reverse ++ .ref b :: rest).map (rv γ))) (rest.map (rv γ)) (QC γ Q' (Value.ref (rho γ b) :: As.map (rv γ)).toArray) (XC γ Q') (gA γ) := by
    rcases hl9 with hl9 | hl9
    · exact vx_runV (C := M'.1.cls) fix hE ⟨callB_of (own := M.1.cls) (index := idx) n hts hm.good hm.ws rfl rfl (hts _ hm.2.2.1) (hts _ hl9.1) hm.2.2.2.1 (roomOk hdd hm.2.2.2.2), hts _ hl9.2.1, hts _ hl9.2.2⟩ ⟨hpre.1, hrec, hpre.2⟩ rfl (by rw [List.length_map]; exact hn) hl.1 hst9 (lv_room hw') hd ⟨h1, h2⟩
    · obtain ⟨⟨host, hh⟩, hs9, hs8⟩ := hl9
      exact vx_runVN (C := M'.1.cls) fix hE ⟨va_cnB (own := M.1.cls) (index := idx) (host := host) n hts hm.good hm.ws rfl rfl (hF.2.2.2.2.2.2.2.2.2.2.2.1 _ hh) (hts _ hm.2.2.1) hm.2.2.2.1 (roomOk hdd hm.2.2.2.2), hts _ hs9, hts _ hs8⟩ ⟨hpre.1, hrec, hpre.2⟩ rfl (by rw [List.length_map]; exact hn) hl.1 hst9 (lv_room hw') hd ⟨h1, h2⟩
  exact T_back hr hF hS hl (fun E ce q9 μ' H1 locs1 hQ hH1 hS1 hce hcv hcl => hx E μ' hQ p e s m args below meth c' H1 locs1 L _ ce q9 hF hH1 hS1 hl hce hcv hcl) kk
theorem X_catch {E name : String} {k : Int32} {ki : Int} {pre suf : List (Nat × Nat × Nat × Nat)} {a b h ct n1 : Nat} (μ' : SMem) (hM : Mh M = pre ++ (a, b, h, ct) :: suf) (hpc : covers ⟨a, b, h, ct⟩ pc = true) (hct : ct ≠ 0) (hlink : Cond.classLink M.1.cls ct name ∈ tbw) (hcast : Cond.castable E name ∈ nww) (hpre : ∀ z ∈ pre, z.2.2.2 ≠ 0 ∧ ∃ nm, Cond.classLink M.1.cls z.2.2.2 nm ∈ tbw ∧ (E, nm) ∈ ncL)
    (hst : (∃ j : Fin 4, decode (Mb M) h = .ok (.astore_n j, 1) ∧ (j : Nat) < Ml M ∧ n1 = h + 1) ∨ (∃ j : Nat, decode (Mb M) h = .ok (.astore j, 2) ∧ j < Ml M ∧ n1 = h + 2)) (hd1 : decode (Mb M) n1 = .ok (.iconst ki, 1)) (hki : Int32.ofInt ki = k) (hd2 : decode (Mb M) (n1 + 1) = .ok (.ireturn, 1)) (hr : Mr M = some .int) (h1 : kc ≤ mc) (h2 : ks ≤ ms) (hQ : Q (.inl (some (.int k))) μ') : Xk γ d mc ms M Q kc ks pc ls E μ' := by
  intro p e s m args below meth c H1 locs1 L st9 ce q9 hF hH hS hl hce hcv hcl
  have hts := hF.2.2.2.2.1
  have hEn := hF.2.2.2.2.2.2.2.2.2.2
  refine vx_catch (own := M.1.cls) (name := name) (E := E) (ce := ce) hF.2.2.2.1 (tableOf pre) ⟨a, b, h, ct⟩ (tableOf suf) ?_ ?_ hpc hct (hts _ hlink) (va_Nw.use rfl (hEn.2.1 _ hcast)) hce hcv hcl ?_
  · rw [hF.2.2.2.2.2.2.2.2.1, hM]
    unfold tableOf
    rw [List.map_append]
    rfl
  · intro z hz
    obtain ⟨q, hq, rfl⟩ := List.mem_map.mp hz
    obtain ⟨g0, nm, g1, g2⟩ := hpre q hq
    exact Or.inr ⟨g0, nm, hts _ g1, hEn.2.2.2.2.2.2.1.1.2 _ g2⟩
  · have fin : ∀ L' : Array Slot, W p (gl γ) e (rmd d mc ms) s m args below meth c H1 locs1 kc ks (vx_MQ below (QC γ Q) (XC γ Q) args s mc ms (gA γ)) (F0 m n1 L' []) := fun L' =>
      lv_iconst hF.1 hF.2.1 hd1 hki (W.widen h1 h2 (vx_ret (W.zret hF.1 hF.2.1 (hF.2.2.2.2.2.1.trans hr) rfl (fun t ht hW => hF.end (v := some (.int k)) hH hS hQ ht hW) hS.2.2 hd2 hF.2.2.2.2.2.2.1)))
    rcases hst with ⟨j, g1, g2, g3⟩ | ⟨j, g1, g2, g3⟩
    · exact lv_astore_n hF.1 hF.2.1 g1 rfl hl.has g2 rfl (fun L' _ => by rw [← g3]; exact fin L')
    · exact lv_astore hF.1 hF.2.1 g1 hl.has g2 rfl (fun L' _ => by rw [← g3]; exact fin L')
/-- a method with handlers -/
def MOkH (M : MI) (n : Nat) : Prop := Cond.codeWith M.1 (Mb M) (Ml M) (Mr M) (Mh M) ∈ tbw ∧ Mh M ≠ [] ∧ Cond.initialized M.1.cls ∈ tbw ∧ (M.1.cls ≠ "java/lang/invoke/MethodHandle" ∧ M.1.cls ≠ "java/lang/invoke/VarHandle" ∧ (parseMethodDescriptor M.1.desc).map (fun d => d.parameters.length) = some n) ∧ Ml M ≤ 45
theorem MOkH.ws {M : MI} {n : Nat} (h : MOkH M n) : wsM M = Cond.codeWith M.1 (Mb M) (Ml M) (Mr M) (Mh M) :: tbw := by
  have h2 := h.2.1
  unfold wsM
  cases e : Mh M with
  | nil => exact absurd e h2
  | cons a t => rfl
theorem MOkH.good {M : MI} {n : Nat} (h : MOkH M n) : GoodIn tbw (wsM M) := by
  rw [h.ws]
  intro w hw
  rcases List.mem_cons.mp hw with rfl | hw
  · exact ⟨h.1, good_of_word (List.mem_filter.mp h.1).2⟩
  · exact tb_good w hw
theorem Ex.ofH (hy : plainName M.1.cls = true) (hh : Mh M ≠ []) (hcw : Cond.codeWith M.1 (Mb M) (Ml M) (Mr M) (Mh M) ∈ tbw) (hlen : (lg_sl (av.map (rv γ))).length ≤ Ml M)
    (h : T γ d mc ms M Q 0 0 0 (eloc av (Ml M)) [] μ) : Ex γ d mc ms M av μ Q := by
  have hw : wsM M = Cond.codeWith M.1 (Mb M) (Ml M) (Mr M) (Mh M) :: tbw := by
    unfold wsM
    cases e : Mh M with
    | nil => exact absurd e hh
    | cons a t => rfl
  refine vx_ofWH (cc := Mb M) (maxL := Ml M) (ret := Mr M) (hh := Mh M) hy hw ?_
  intro p e s m args below meth c s₁ B hml hv
  obtain ⟨rfl, hEn, hHp⟩ := hv
  have hpre := atoms_spec (ws := wsM M) B.pre
  have hte : c.exceptionTable.toList = tableOf (Mh M) := vx_table (x := M.1) B (hpre _ (by rw [hw]; exact List.mem_cons_self))
  have hF : Fr γ M p s m (av.map (rv γ)).toArray meth c := ⟨B.exec, B.bytes, hml, findClass_of_methodNamed B.named, fun w hw' => hpre w (by rw [hw]; exact List.mem_cons_of_mem _ hw'), B.returns, B.notSynchronized, (name_of_methodNamed B.named B.method).1, hte, hEn.2.2.2.2.2.2.1.2.2, hEn⟩
  have hl := lv_entry (av.map (rv γ)) hlen
  rw [lg_entry_eq]
  refine h p e s m _ below meth c s.heap [] _ hF hHp va_S.rf ⟨hl.1, hl.2.1, fun i v hg => ?_⟩
  have := glk_eloc (γ := γ) av (Ml M) i 0 v hg
  rw [Nat.zero_add] at this
  exact hl.2.2 _ this
theorem T_callSH (hl9 : LkS M.1.cls idx M') (hm : MOkH M' n) (hE : Ex γ d' mc' ms' M' av μ Q') (hd : decode (Mb M) pc = .ok (.invokestatic idx, 3)) (hst : st = av.reverse ++ rest) (hn : av.length = n) (hw : (rest.map fun v => v.category).sum ≤ 8) (hdd : d' < d) (hno : Mh M = []) (h1 : kc + mc' ≤ mc) (h2 : ks + ms' ≤ ms)
    (hx : ∀ (E : String) (μ' : SMem), Q' (.inr E) μ' → Q (.inr E) μ') (kk : ∀ (v : Option Value) (μ' : SMem), Q' (.inl v) μ' → T γ d mc ms M Q (kc + mc') (ks + ms') (pc + 3) ls (v.toList ++ rest) μ') : T γ d mc ms M Q kc ks pc ls st μ := by
  intro p e s m args below meth c H locs L hF hH hS hl
  subst hst
  have hts := hF.2.2.2.2.1
  have hw' : ((rest.map (rv γ)).map fun v => v.category).sum ≤ 8 := by
    rw [List.map_map, show ((fun v : Value => v.category) ∘ rv γ) = fun v => v.category from funext (fun v => rv_cat v)]
    exact hw
  have fix : CallFix p m c (Mb M) (Ml M) s args tbw M.1.cls := ⟨hF.1, hF.2.1, hF.2.2.1, hF.2.2.2.1, hts⟩
  have hcw : vx_CSW (rmd d mc ms) s args M.1.cls idx M'.1 (Mb M') (Ml M') (Mr M') (Mh M') (wsM M') (rmd d' mc' ms') mc' ms' n := by
    have hr9 := roomOk (mc := mc) (ms := ms) (mc' := mc') (ms' := ms') hdd hm.2.2.2.2
    refine ⟨⟨rfl, rfl, hr9.1, hr9.2, pay_in hts hm.good, by rw [hm.ws]; exact List.mem_cons_self⟩, hts _ hm.1, hts _ hm.2.2.1, ⟨hm.2.2.2.1.1, hm.2.2.2.1.2.1⟩, fun sig hsig => ?_, hts _ hl9.1, hts _ hl9.2⟩
    have h3 := hm.2.2.2.1.2.2
    rw [hsig] at h3
    exact (Option.some.inj h3).symm
  have hr : vx_Run p (gl γ) e (rmd d mc ms) s m args below meth c H locs kc ks mc' ms' (F0 m pc L ((av.reverse ++ rest).map (rv γ))) (rest.map (rv γ)) (QC γ Q' (av.map (rv γ)).toArray) (XC γ Q') (gA γ) :=
    vx_runSX fix hE hcw (PreS.mk9 hF hH hS) rfl (by rw [List.length_map]; exact hn) hl.1 (by rw [List.map_append, List.map_reverse]) (lv_room hw') hd ⟨h1, h2⟩
  exact T_back hr hF hS hl (fun E ce q9 μ' H1 locs1 hQ hH1 hS1 hce hcv hcl => T_out hF hno h1 h2 (hx E μ' hQ) hH1 hS1 hce hcv hcl) kk
theorem rho_scr {γ : Ga} : rho γ XB = gex γ 0 := by
  unfold rho
  rw [if_neg (Nat.lt_irrefl _), Nat.sub_self]
theorem T_slen (hd : decode (Mb M) pc = .ok (.arraylength, 1)) (kk : T γ d mc ms M Q kc ks (pc + 1) ls (.int (nI (gsl γ)) :: st) μ) : T γ d mc ms M Q kc ks pc ls (.ref XB :: st) μ := by
  intro p e s m args below meth c H locs L hF hH hS hl
  have hX := hF.2.2.2.2.2.2.2.2.2.2.2.2.2.1
  have hlo := hF.2.2.2.2.2.2.2.2.2.2.2.2.2.2.2.2.2
  show W p _ e _ s m args below meth c H locs _ _ _ (F0 m pc L (.ref (rho γ XB) :: st.map (rv γ)))
  rw [rho_scr]
  refine va_slen (A := gA γ) hF.1 hF.2.1 hX.1 (Nat.lt_of_lt_of_le hX.2 hlo) (fun z => Nat.lt_irrefl _ (Nat.lt_of_lt_of_le hX.2 z)) hS hd ?_
  exact kk p e s m args below meth c H locs L hF hH hS hl
theorem T_sld {i : Nat} (hi : i < gsl γ) (h31 : gsl γ < 2 ^ 31) (hd : decode (Mb M) pc = .ok (.iaload, 1)) (kk : T γ d mc ms M Q kc ks (pc + 1) ls (.int (gsx γ i) :: st) μ) : T γ d mc ms M Q kc ks pc ls (.int (nI i) :: .ref XB :: st) μ := by
  intro p e s m args below meth c H locs L hF hH hS hl
  have hX := hF.2.2.2.2.2.2.2.2.2.2.2.2.2.1
  have hlo := hF.2.2.2.2.2.2.2.2.2.2.2.2.2.2.2.2.2
  show W p _ e _ s m args below meth c H locs _ _ _ (F0 m pc L (.int (nI i) :: .ref (rho γ XB) :: st.map (rv γ)))
  rw [rho_scr]
  refine va_sld (A := gA γ) hF.1 hF.2.1 hX.1 (Nat.lt_of_lt_of_le hX.2 hlo) (fun z => Nat.lt_irrefl _ (Nat.lt_of_lt_of_le hX.2 z)) hS (vp_in_nI hi h31) hd ?_
  rw [nI_clamp (by omega)]
  exact kk p e s m args below meth c H locs L hF hH hS hl
end CA

