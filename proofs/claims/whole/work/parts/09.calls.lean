/-! the rows of T: calls, throws -/
theorem Wd.blind {γ : Ga} {av : List Value} {μ : SMem} : FrameBlind (va_Pc av (Wd γ μ)) := by
  intro a U g mk h
  obtain ⟨h1, h2, h3⟩ := h
  exact ⟨h1, En.go (s := U) (U := U.calling g mk a) h2 va_S.rf rfl (State.WarmedH.refl U), h3⟩
/-- a method that can be called: its words, how many it takes -/
def MOk (M : MI) (n : Nat) : Prop := Cond.code M.1 (Mb M) (Ml M) (Mr M) ∈ tbw ∧ Mh M = [] ∧ Cond.initialized M.1.cls ∈ tbw ∧ (M.1.cls ≠ "java/lang/invoke/MethodHandle" ∧ M.1.cls ≠ "java/lang/invoke/VarHandle" ∧ (parseMethodDescriptor M.1.desc).map (fun d => d.parameters.length) = some n) ∧ Ml M ≤ 45
theorem MOk.ws {M : MI} {n : Nat} (h : MOk M n) : wsM M = Cond.code M.1 (Mb M) (Ml M) (Mr M) :: tbw := by unfold wsM; rw [h.2.1]
theorem MOk.good {M : MI} {n : Nat} (h : MOk M n) : GoodIn tbw (wsM M) := by
  rw [h.ws]
  intro w hw
  rcases List.mem_cons.mp hw with rfl | hw
  · exact tb_good _ h.1
  · exact tb_good _ hw
def LkV (own : String) (idx : Nat) (M : MI) : Prop := Cond.methodLink own idx M.1 ∈ tbw ∧ Cond.instanceMethod M.1 ∈ tbw ∧ Cond.selects M.1.cls M.1 M.1 ∈ tbw
def LkS (own : String) (idx : Nat) (M : MI) : Prop := Cond.methodLink own idx M.1 ∈ tbw ∧ Cond.static M.1 ∈ tbw
def LkI (own : String) (idx : Nat) (M : MI) : Prop := Cond.methodLink own idx M.1 ∈ tbw ∧ Cond.instanceMethod M.1 ∈ tbw ∧ M.1.name = "<init>"
def LkVN (own : String) (idx : Nat) (M : MI) : Prop := (∃ host, Cond.methodLinkNest own idx M.1 host ∈ nww) ∧ Cond.instanceMethod M.1 ∈ tbw ∧ Cond.selects M.1.cls M.1 M.1 ∈ tbw
def LkSN (own : String) (idx : Nat) (M : MI) : Prop := (∃ host, Cond.methodLinkNest own idx M.1 host ∈ nww) ∧ Cond.static M.1 ∈ tbw
def LkIN (own : String) (idx : Nat) (M : MI) : Prop := (∃ host, Cond.methodLinkNest own idx M.1 host ∈ nww) ∧ Cond.instanceMethod M.1 ∈ tbw ∧ M.1.name = "<init>"
section TC
variable {γ : Ga} {d mc ms : Nat} {M : MI} {Q : Out → SMem → Prop} {kc ks : Nat} {pc : Nat} {ls : List (Option Value)} {st : List Value} {μ : SMem}
variable {p : Program} {e : Env} {s : State} {m : MethodId} {args : Array Value} {below : List Frame} {meth : Method} {c : Code} {H : Heap} {locs : List Loc} {L : Array Slot}
/-- behind a call: it answered, or it threw -/
theorem T_back {mc' ms' : Nat} {st0 rest : List Value} {a : Array Value} {Q' : Out → SMem → Prop} (hr : vx_Run p (gl γ) e (rmd d mc ms) s m args below meth c H locs kc ks mc' ms' (F0 m pc L st0) (rest.map (rv γ)) (QC γ Q' a) (XC γ Q') (gA γ))
    (hF : Fr γ M p s m args meth c) (hS : va_S (gA γ) s.heap H locs) (hl : LH γ (Ml M) ls L)
    (kx : ∀ (E : String) (ce : Cell) (q9 : Addr) (μ' : SMem) (H1 : Heap) (locs1 : List Loc), Q' (.inr E) μ' → Hp γ μ' H1 → va_S (gA γ) s.heap H1 locs1 → H1[q9]? = some ce → ce.vm = .none → s.vm.findClass E = some ce.cls → vx_W p (gl γ) e (rmd d mc ms) s m args below meth c H1 locs1 (kc + mc') (ks + ms') (vx_MQ below (QC γ Q) (XC γ Q) args s mc ms (gA γ)) (F0 m pc L (rest.map (rv γ))) q9)
    (kk : ∀ (v : Option Value) (μ' : SMem), Q' (.inl v) μ' → T γ d mc ms M Q (kc + mc') (ks + ms') (pc + 3) ls (v.toList ++ rest) μ') :
    W p (gl γ) e (rmd d mc ms) s m args below meth c H locs kc ks (vx_MQ below (QC γ Q) (XC γ Q) args s mc ms (gA γ)) (F0 m pc L st0) := by
  intro T9 hT X
  rcases hr T9 hT X with ⟨v, st₀, t, T', L9, h0, X', hL, e1, e2, ⟨⟨v', μ', hv, hp, hb⟩, hF9⟩, st9⟩ | ⟨q, st₀, t, T', L9, E, ce, h0, X', hL, e1, e2, ⟨⟨μ', hp, hb⟩, hF9⟩, hce, hcv, hcl, st9⟩
  · have hv' : v = v'.map (rv γ) := by cases hv; rfl
    subst hv'
    obtain ⟨k1, k2, k3⟩ := vx_keep h0 e1 hS (fun q _ h => h) (fun q h => h) hL hF9
    have k9 := kk v' μ' hp p e s m args below meth c T'.heap (locs ++ L9) L hF (by rw [e1]; exact hb) k3 hl
    have hst : (v'.toList ++ rest).map (rv γ) = (v'.map (rv γ)).toList ++ rest.map (rv γ) := by cases v' <;> simp
    rw [hst] at k9
    obtain ⟨t2, a1, b1⟩ := k9 T' rfl X'
    exact ⟨t2, st9 t2 a1, b1⟩
  · obtain ⟨k1, k2, k3⟩ := vx_keep h0 e1 hS (fun q _ h => h) (fun q h => h) hL hF9
    obtain ⟨t2, a1, b1⟩ := kx E ce q μ' T'.heap (locs ++ L9) hp (by rw [e1]; exact hb) k3 (by rw [e1]; exact hce) hcv hcl T' rfl X'
    exact ⟨t2, st9.trans a1, b1⟩
theorem T_out {st0 : List Value} {E : String} {ce : Cell} {q9 : Addr} {μ' : SMem} {H1 : Heap} {locs1 : List Loc} (hF : Fr γ M p s m args meth c) (hno : Mh M = []) (h1 : kc ≤ mc) (h2 : ks ≤ ms) (hQ : Q (.inr E) μ') (hH : Hp γ μ' H1) (hS : va_S (gA γ) s.heap H1 locs1) (hce : H1[q9]? = some ce) (hcv : ce.vm = .none) (hcl : s.vm.findClass E = some ce.cls) :
    vx_W p (gl γ) e (rmd d mc ms) s m args below meth c H1 locs1 kc ks (vx_MQ below (QC γ Q) (XC γ Q) args s mc ms (gA γ)) (F0 m pc L st0) q9 := by
  refine vx_out (E := E) (ce := ce) (fun x hx => ?_) hF.2.2.2.2.2.2.1 hce hcv hcl (fun t ht _ => ⟨⟨μ', hQ, by rw [ht]; exact hH⟩, hS.F ht⟩) hS.2.2 h1 h2
  rw [hF.2.2.2.2.2.2.2.2.1, hno] at hx
  exact absurd hx (List.not_mem_nil)
theorem PreS.mk9 {av : List Value} (hF : Fr γ M p s m args meth c) (hH : Hp γ μ H) (hS : va_S (gA γ) s.heap H locs) : PreS s H (va_Pc (av.map (rv γ)) (Wd γ μ)) (av.map (rv γ)) :=
  ⟨Wd.blind, fun U hU hW => ⟨rfl, hF.2.2.2.2.2.2.2.2.2.2.go hS hU hW, by rw [hU]; exact hH⟩⟩
theorem roomOk {d d' mc ms mc' ms' n : Nat} (h : d' < d) (hl : n ≤ 45) : (rmd d' mc' ms').frames + 1 ≤ (rmd d mc ms).frames ∧ 8 + (n + 11) + (rmd d' mc' ms').locals ≤ (rmd d mc ms).locals := by
  unfold rmd
  dsimp only
  omega
end TC
section TD
variable {γ : Ga} {d mc ms : Nat} {M : MI} {Q : Out → SMem → Prop} {kc ks : Nat} {pc : Nat} {ls : List (Option Value)} {μ : SMem}
variable {d' mc' ms' n idx : Nat} {M' : MI} {Q' : Out → SMem → Prop} {av As rest st : List Value}
theorem T_callS (hl9 : LkS M.1.cls idx M' ∨ LkSN M.1.cls idx M') (hm : MOk M' n) (hE : Ex γ d' mc' ms' M' av μ Q') (hd : decode (Mb M) pc = .ok (.invokestatic idx, 3)) (hst : st = av.reverse ++ rest) (hn : av.length = n) (hw : (rest.map fun v => v.category).sum ≤ 8) (hdd : d' < d) (hno : Mh M = []) (h1 : kc + mc' ≤ mc) (h2 : ks + ms' ≤ ms)
    (hx : ∀ (E : String) (μ' : SMem), Q' (.inr E) μ' → Q (.inr E) μ') (kk : ∀ (v : Option Value) (μ' : SMem), Q' (.inl v) μ' → T γ d mc ms M Q (kc + mc') (ks + ms') (pc + 3) ls (v.toList ++ rest) μ') : T γ d mc ms M Q kc ks pc ls st μ := by
  intro p e s m args below meth c H locs L hF hH hS hl
  subst hst
  have hts := hF.2.2.2.2.1
  have hw' : ((rest.map (rv γ)).map fun v => v.category).sum ≤ 8 := by
    rw [List.map_map, show ((fun v : Value => v.category) ∘ rv γ) = fun v => v.category from funext (fun v => rv_cat v)]
    exact hw
  have fix : CallFix p m c (Mb M) (Ml M) s args tbw M.1.cls := ⟨hF.1, hF.2.1, hF.2.2.1, hF.2.2.2.1, hts⟩
  have hr : vx_Run p (gl γ) e (rmd d mc ms) s m args below meth c H locs kc ks mc' ms' (F0 m pc L ((av.reverse ++ rest).map (rv γ))) (rest.map (rv γ)) (QC γ Q' (av.map (rv γ)).toArray) (XC γ Q') (gA γ) := by
    rcases hl9 with hl9 | hl9
    · exact vx_runS fix hE ⟨callB_of (own := M.1.cls) (index := idx) n hts hm.good hm.ws rfl rfl (hts _ hm.2.2.1) (hts _ hl9.1) hm.2.2.2.1 (roomOk hdd hm.2.2.2.2), hts _ hl9.2⟩ (PreS.mk9 hF hH hS) rfl (by rw [List.length_map]; exact hn) hl.1 (by rw [List.map_append, List.map_reverse]) (lv_room hw') hd ⟨h1, h2⟩
    · obtain ⟨⟨host, hh⟩, hs9⟩ := hl9
      exact vx_runSN fix hE ⟨va_cnB (own := M.1.cls) (index := idx) (host := host) n hts hm.good hm.ws rfl rfl (hF.2.2.2.2.2.2.2.2.2.2.2.1 _ hh) (hts _ hm.2.2.1) hm.2.2.2.1 (roomOk hdd hm.2.2.2.2), hts _ hs9, trivial⟩ (PreS.mk9 hF hH hS) rfl (by rw [List.length_map]; exact hn) hl.1 (by rw [List.map_append, List.map_reverse]) (lv_room hw') hd ⟨h1, h2⟩
  exact T_back hr hF hS hl (fun E ce q9 μ' H1 locs1 hQ hH1 hS1 hce hcv hcl => T_out hF hno h1 h2 (hx E μ' hQ) hH1 hS1 hce hcv hcl) kk
theorem T_callV {b c : Nat} (hl9 : LkV M.1.cls idx M' ∨ LkVN M.1.cls idx M') (hm : MOk M' n) (hE : Ex γ d' mc' ms' M' (.ref b :: As) μ Q') (hk : KT b = (0, c)) (hc : c < 13 ∧ (cl3 c).1 = M'.1.cls) (hb : b < μ.1) (hd : decode (Mb M) pc = .ok (.invokevirtual idx, 3)) (hst : st = As.reverse ++ .ref b :: rest) (hn : As.length = n) (hw : (rest.map fun v => v.category).sum ≤ 8) (hdd : d' < d) (hno : Mh M = []) (h1 : kc + mc' ≤ mc) (h2 : ks + ms' ≤ ms)
    (hx : ∀ (E : String) (μ' : SMem), Q' (.inr E) μ' → Q (.inr E) μ') (kk : ∀ (v : Option Value) (μ' : SMem), Q' (.inl v) μ' → T γ d mc ms M Q (kc + mc') (ks + ms') (pc + 3) ls (v.toList ++ rest) μ') : T γ d mc ms M Q kc ks pc ls st μ := by
  intro p e s m args below meth c' H locs L hF hH hS hl
  subst hst
  have hts := hF.2.2.2.2.1
  have hw' : ((rest.map (rv γ)).map fun v => v.category).sum ≤ 8 := by
    rw [List.map_map, show ((fun v : Value => v.category) ∘ rv γ) = fun v => v.category from funext (fun v => rv_cat v)]
    exact hw
  have fix : CallFix p m c' (Mb M) (Ml M) s args tbw M.1.cls := ⟨hF.1, hF.2.1, hF.2.2.1, hF.2.2.2.1, hts⟩
  have hrec : ∃ cellB : Cell, H[rho γ b]? = some cellB ∧ cellB.vm.isStatics = false ∧ s.vm.findClass M'.1.cls = some cellB.cls := by
    have h9 := va_recv (D := gD γ) (tys := tysof γ) (cl := vwCl) (ws := wsof γ μ) (q0 := b) hF.2.2.2.2.2.2.2.2.2.2.1 hH.1 (cl_some c hc.1) (by rw [wsof_get hb, ent_obj hk])
    rw [hc.2] at h9
    rw [rho_lt hH hb]
    exact h9
  have hpre := PreS.mk9 (av := .ref b :: As) hF hH hS
  have hst9 : (As.reverse ++ .ref b :: rest).map (rv γ) = (As.map (rv γ)).reverse ++ .ref (rho γ b) :: rest.map (rv γ) := by
    rw [List.map_append, List.map_reverse]; rfl
  have hr : vx_Run p (gl γ) e (rmd d mc ms) s m args below meth c' H locs kc ks mc' ms' (F0 m pc L ((As.reverse ++ .ref b :: rest).map (rv γ))) (rest.map (rv γ)) (QC γ Q' (Value.ref (rho γ b) :: As.map (rv γ)).toArray) (XC γ Q') (gA γ) := by
    rcases hl9 with hl9 | hl9
    · exact vx_runV (C := M'.1.cls) fix hE ⟨callB_of (own := M.1.cls) (index := idx) n hts hm.good hm.ws rfl rfl (hts _ hm.2.2.1) (hts _ hl9.1) hm.2.2.2.1 (roomOk hdd hm.2.2.2.2), hts _ hl9.2.1, hts _ hl9.2.2⟩ ⟨hpre.1, hrec, hpre.2⟩ rfl (by rw [List.length_map]; exact hn) hl.1 hst9 (lv_room hw') hd ⟨h1, h2⟩
    · obtain ⟨⟨host, hh⟩, hs9, hs8⟩ := hl9
      exact vx_runVN (C := M'.1.cls) fix hE ⟨va_cnB (own := M.1.cls) (index := idx) (host := host) n hts hm.good hm.ws rfl rfl (hF.2.2.2.2.2.2.2.2.2.2.2.1 _ hh) (hts _ hm.2.2.1) hm.2.2.2.1 (roomOk hdd hm.2.2.2.2), hts _ hs9, hts _ hs8⟩ ⟨hpre.1, hrec, hpre.2⟩ rfl (by rw [List.length_map]; exact hn) hl.1 hst9 (lv_room hw') hd ⟨h1, h2⟩
  exact T_back hr hF hS hl (fun E ce q9 μ' H1 locs1 hQ hH1 hS1 hce hcv hcl => T_out hF hno h1 h2 (hx E μ' hQ) hH1 hS1 hce hcv hcl) kk
theorem T_callI {b : Nat} (hl9 : LkI M.1.cls idx M' ∨ LkIN M.1.cls idx M') (hm : MOk M' n) (hret : Mr M' = none) (hE : Ex γ d' mc' ms' M' (.ref b :: As) μ Q') (hd : decode (Mb M) pc = .ok (.invokespecial idx, 3)) (hst : st = As.reverse ++ .ref b :: rest) (hn : As.length = n) (hw : (rest.map fun v => v.category).sum ≤ 8) (hdd : d' < d) (hno : Mh M = []) (h1 : kc + mc' ≤ mc) (h2 : ks + ms' ≤ ms)
    (hx : ∀ (E : String) (μ' : SMem), Q' (.inr E) μ' → Q (.inr E) μ') (kk : ∀ (v : Option Value) (μ' : SMem), Q' (.inl v) μ' → T γ d mc ms M Q (kc + mc') (ks + ms') (pc + 3) ls (v.toList ++ rest) μ') : T γ d mc ms M Q kc ks pc ls st μ := by
  intro p e s m args below meth c' H locs L hF hH hS hl
  subst hst
  have hts := hF.2.2.2.2.1
  have hw' : ((rest.map (rv γ)).map fun v => v.category).sum ≤ 8 := by
    rw [List.map_map, show ((fun v : Value => v.category) ∘ rv γ) = fun v => v.category from funext (fun v => rv_cat v)]
    exact hw
  have fix : CallFix p m c' (Mb M) (Ml M) s args tbw M.1.cls := ⟨hF.1, hF.2.1, hF.2.2.1, hF.2.2.2.1, hts⟩
  have hpre := PreS.mk9 (av := .ref b :: As) hF hH hS
  have hst9 : (As.reverse ++ .ref b :: rest).map (rv γ) = (As.map (rv γ)).reverse ++ .ref (rho γ b) :: rest.map (rv γ) := by
    rw [List.map_append, List.map_reverse]; rfl
  have hws : wsM M' = Cond.code M'.1 (Mb M') (Ml M') none :: tbw := by rw [hm.ws, hret]
  have hr : vx_Run p (gl γ) e (rmd d mc ms) s m args below meth c' H locs kc ks mc' ms' (F0 m pc L ((As.reverse ++ .ref b :: rest).map (rv γ))) (rest.map (rv γ)) (QC γ Q' (Value.ref (rho γ b) :: As.map (rv γ)).toArray) (XC γ Q') (gA γ) := by
    rcases hl9 with hl9 | hl9
    · exact vx_runI fix hE ⟨callB_of (own := M.1.cls) (index := idx) n hts hm.good hws rfl rfl (hts _ hm.2.2.1) (hts _ hl9.1) hm.2.2.2.1 (roomOk hdd hm.2.2.2.2), hl9.2.2, hts _ hl9.2.1⟩ hpre rfl (by rw [List.length_map]; exact hn) hl.1 hst9 (lv_room hw') hd ⟨h1, h2⟩
    · obtain ⟨⟨host, hh⟩, hs9, hs8⟩ := hl9
      exact vx_runIN fix hE ⟨va_cnB (own := M.1.cls) (index := idx) (host := host) n hts hm.good hws rfl rfl (hF.2.2.2.2.2.2.2.2.2.2.2.1 _ hh) (hts _ hm.2.2.1) hm.2.2.2.1 (roomOk hdd hm.2.2.2.2), hs8, hts _ hs9⟩ hpre rfl (by rw [List.length_map]; exact hn) hl.1 hst9 (lv_room hw') hd ⟨h1, h2⟩
  exact T_back hr hF hS hl (fun E ce q9 μ' H1 locs1 hQ hH1 hS1 hce hcv hcl => T_out hF hno h1 h2 (hx E μ' hQ) hH1 hS1 hce hcv hcl) kk
/-- throw new E(): new, dup, its constructor, athrow -/
theorem T_throw {ik ic : Nat} {E : String} {names : List String} (hfit : Bundle.fit E = true ∧ (∀ n ∈ names, Bundle.fit n = true) ∧ names.length ≤ 4) (hwd : (Cond.classLink M.1.cls ik E ∈ tbw ∧ Cond.initialized E ∈ tbw) ∧ ∀ w ∈ vx_at0 M.1.cls ic E names, w ∈ tbw ∨ (w ∈ nww ∧ w.onTables = true))
    (d0 : decode (Mb M) pc = .ok (.new ik, 3)) (d3 : decode (Mb M) (pc + 3) = .ok (.dup, 1)) (d4 : decode (Mb M) (pc + 4) = .ok (.invokespecial ic, 3)) (d7 : decode (Mb M) (pc + 7) = .ok (.athrow, 1)) (hno : Mh M = []) (hst : (st.map fun v => v.category).sum ≤ 8) (h1 : kc + 1 ≤ mc) (h2 : ks + 6 ≤ ms) (hμ : μ.1 = N0) (hQ : Q (.inr E) μ) : T γ d mc ms M Q kc ks pc ls st μ := by
  intro p e s m args below meth c' H locs L hF hH hS hl
  have hts := hF.2.2.2.2.1
  have hw' : ((st.map (rv γ)).map fun v => v.category).sum ≤ 8 := by
    rw [List.map_map, show ((fun v : Value => v.category) ∘ rv γ) = fun v => v.category from funext (fun v => rv_cat v)]
    exact hst
  have hat : ∀ w ∈ vx_at0 M.1.cls ic E names, w.before args s = true := by
    intro w hw
    rcases hwd.2 w hw with h | ⟨h, ht⟩
    · exact hts w h
    · exact va_Nw.use ht (hF.2.2.2.2.2.2.2.2.2.2.2.1 w h)
  have hgood : ∀ w ∈ Cond.classLink M.1.cls ik E :: Cond.initialized E :: vx_at0 M.1.cls ic E names, vx_ot w = true := by
    intro w hw
    have hb : ∀ w ∈ tbw, vx_ot w = true := fun w h => by
      unfold vx_ot
      rw [(List.mem_filter.mp h).2, Bool.or_true]
    rcases List.mem_cons.mp hw with rfl | hw
    · exact hb _ hwd.1.1
    · rcases List.mem_cons.mp hw with rfl | hw
      · exact hb _ hwd.1.2
      · rcases hwd.2 w hw with h | ⟨h, ht⟩
        · exact hb w h
        · unfold vx_ot
          rw [ht, Bool.true_or]
  have hEn := hF.2.2.2.2.2.2.2.2.2.2
  refine vx_throw0 (A := gA γ) hF.1 hF.2.1 hF.2.2.2.2.2.2.2.2.2.1 (own := M.1.cls) (cls := E) (names := names) (ik := ik) (ic := ic) hF.2.2.2.1 hfit.1 hfit.2.1 (hts _ hwd.1.1) (hts _ hwd.1.2) hat hgood hEn.2.2.1.1 hEn.2.2.1.2 hS (hl.1.trans hF.2.2.1.symm) d0 d3 d4 d7 (fun x hx => ?_) ?_ ?_ ?_ ?_ hF.2.2.2.2.2.2.1 (fun t hvm hsz hk => ?_) hS.2.2 h1 h2
  · rw [hF.2.2.2.2.2.2.2.2.1, hno] at hx
    exact absurd hx List.not_mem_nil
  · have := hfit.2.2
    unfold rmd
    dsimp only
    omega
  · have := hfit.2.2
    unfold rmd
    dsimp only
    omega
  · unfold rmd
    dsimp only
    omega
  · unfold rmd
    dsimp only
    omega
  · refine ⟨⟨μ, hQ, ?_, ?_, ?_, hH.2.2.2⟩, ?_, fun q hq hA => ?_⟩
    · exact hH.1.kept (fun k q h => hk q.1 (hH.1 k q h).lt)
    · exact Nat.le_trans hH.2.1 hsz
    · intro z
      rw [hμ] at z
      exact absurd z (Nat.lt_irrefl _)
    · exact Nat.le_trans hS.1 hsz
    · rw [hk q (Nat.lt_of_lt_of_le hq hS.1)]
      exact hS.2.1 q hq hA
end TD
