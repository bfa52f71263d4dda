/-! the rows of T: String constants -/
section TS
variable {γ : Ga} {d mc ms : Nat} {M : MI} {Q : Out → SMem → Prop} {kc ks : Nat} {pc : Nat} {ls : List (Option Value)} {st : List Value} {μ : SMem}
theorem rho_ext {γ : Ga} (i : Nat) : rho γ (XB + i) = gex γ i := by
  unfold rho
  rw [if_neg (by omega), Nat.add_sub_cancel_left]
theorem Fr.str {p : Program} {s : State} {m : MethodId} {args : Array Value} {meth : Method} {c : Code} (hF : Fr γ M p s m args meth c) {i : Nat} {q : String × Nat × String × List Int32} (h : strs[i]? = some q) : StrOk γ (gex γ (i + 1)) (gex γ (i + 100)) q.1 q.2.1 q.2.2.1 q.2.2.2 s s.heap := hF.2.2.2.2.2.2.2.2.2.2.2.2.2.2.1 i q h
theorem T_ldcS {i idx : Nat} {tx : String} {bs : List Int32} (hs : strs[i]? = some (M.1.cls, idx, tx, bs)) (hd : decode (Mb M) pc = .ok (.ldc idx, 2)) (kk : T γ d mc ms M Q kc ks (pc + 2) ls (.ref (XB + (i + 1)) :: st) μ) : T γ d mc ms M Q kc ks pc ls st μ := by
  intro p e s m args below meth c H locs L hF hH hS hl
  have k9 := kk p e s m args below meth c H locs L hF hH hS hl
  refine va_ldcS hF.1 hF.2.1 hF.2.2.2.1 (hF.str hs).1 hd ?_
  rw [← rho_ext]
  exact k9
theorem T_ldcSw {i idx : Nat} {tx : String} {bs : List Int32} (hs : strs[i]? = some (M.1.cls, idx, tx, bs)) (hd : decode (Mb M) pc = .ok (.ldc_w idx, 3)) (kk : T γ d mc ms M Q kc ks (pc + 3) ls (.ref (XB + (i + 1)) :: st) μ) : T γ d mc ms M Q kc ks pc ls st μ := by
  intro p e s m args below meth c H locs L hF hH hS hl
  have k9 := kk p e s m args below meth c H locs L hF hH hS hl
  have hZ := (hF.str hs).1
  intro T9 hT X
  have e9 : (Value.ref (XB + (i + 1)) :: st).map (rv γ) = .ref (gex γ (i + 1)) :: st.map (rv γ) := by
    rw [← rho_ext]; rfl
  rw [e9] at k9
  obtain ⟨t, a1, b1⟩ := k9 T9 hT X
  exact ⟨t, X.ldcStringW hF.1 (own := M.1.cls) (text := tx) (index := idx) (a := gex γ (i + 1)) hF.2.2.2.1 hZ.1 hZ.2 (g := F0 m pc L (st.map (rv γ))) rfl (by rw [hF.2.1]; exact hd) t a1, b1⟩
theorem T_strV {i idx : Nat} {q : String × Nat × String × List Int32} (hs : strs[i]? = some q) (hf : Cond.fieldLink M.1.cls idx "java/lang/String" "value" "[B" ∈ tbw) (hd : decode (Mb M) pc = .ok (.getfield idx, 3)) (kk : T γ d mc ms M Q kc ks (pc + 3) ls (.ref (XB + (i + 100)) :: st) μ) : T γ d mc ms M Q kc ks pc ls (.ref (XB + (i + 1)) :: st) μ := by
  intro p e s m args below meth c H locs L hF hH hS hl
  have k9 := kk p e s m args below meth c H locs L hF hH hS hl
  show W p (gl γ) e (rmd d mc ms) s m args below meth c H locs kc ks _ (F0 m pc L (.ref (rho γ (XB + (i + 1))) :: st.map (rv γ)))
  rw [rho_ext]
  refine vk_getf (ref := "java/lang/String") hF.1 hF.2.1 (hF.str hs).2.2.2.1 hS hF.2.2.2.1 (hF.2.2.2.2.1 _ hf) (fun _ h => h) hd ?_
  rw [← rho_ext]
  exact k9
theorem T_strC {i idx : Nat} {q : String × Nat × String × List Int32} (hs : strs[i]? = some q) (hf : Cond.fieldLink M.1.cls idx "java/lang/String" "coder" "B" ∈ tbw) (hd : decode (Mb M) pc = .ok (.getfield idx, 3)) (kk : T γ d mc ms M Q kc ks (pc + 3) ls (.int 0 :: st) μ) : T γ d mc ms M Q kc ks pc ls (.ref (XB + (i + 1)) :: st) μ := by
  intro p e s m args below meth c H locs L hF hH hS hl
  have k9 := kk p e s m args below meth c H locs L hF hH hS hl
  show W p (gl γ) e (rmd d mc ms) s m args below meth c H locs kc ks _ (F0 m pc L (.ref (rho γ (XB + (i + 1))) :: st.map (rv γ)))
  rw [rho_ext]
  exact vk_getf (ref := "java/lang/String") hF.1 hF.2.1 (hF.str hs).2.2.1 hS hF.2.2.2.1 (hF.2.2.2.2.1 _ hf) (fun _ h => h) hd k9
theorem T_strL {i : Nat} {q : String × Nat × String × List Int32} (hs : strs[i]? = some q) (hd : decode (Mb M) pc = .ok (.arraylength, 1)) (kk : T γ d mc ms M Q kc ks (pc + 1) ls (.int (nI q.2.2.2.length) :: st) μ) : T γ d mc ms M Q kc ks pc ls (.ref (XB + (i + 100)) :: st) μ := by
  intro p e s m args below meth c H locs L hF hH hS hl
  have k9 := kk p e s m args below meth c H locs L hF hH hS hl
  show W p (gl γ) e (rmd d mc ms) s m args below meth c H locs kc ks _ (F0 m pc L (.ref (rho γ (XB + (i + 100))) :: st.map (rv γ)))
  rw [rho_ext]
  exact va_tlen hF.1 hF.2.1 (hF.str hs).2.2.2.2 hS rfl hd k9
theorem T_strB {i : Nat} {j : Int32} {q : String × Nat × String × List Int32} (hs : strs[i]? = some q) (hj : vp_in j q.2.2.2.length) (hd : decode (Mb M) pc = .ok (.baload, 1)) (kk : T γ d mc ms M Q kc ks (pc + 1) ls (.int (q.2.2.2.getD j.toNatClampNeg 0) :: st) μ) : T γ d mc ms M Q kc ks pc ls (.int j :: .ref (XB + (i + 100)) :: st) μ := by
  intro p e s m args below meth c H locs L hF hH hS hl
  have k9 := kk p e s m args below meth c H locs L hF hH hS hl
  show W p (gl γ) e (rmd d mc ms) s m args below meth c H locs kc ks _ (F0 m pc L (.int j :: .ref (rho γ (XB + (i + 100))) :: st.map (rv γ)))
  rw [rho_ext]
  exact va_tb hF.1 hF.2.1 (hF.str hs).2.2.2.2 hS hj rfl hd k9
theorem T_getsC {idx : Nat} (hf : Cond.fieldLink M.1.cls idx "java/lang/String" "COMPACT_STRINGS" "Z" ∈ tbw) (hd : decode (Mb M) pc = .ok (.getstatic idx, 3)) (kk : T γ d mc ms M Q kc ks (pc + 3) ls (.int 1 :: st) μ) : T γ d mc ms M Q kc ks pc ls st μ := by
  intro p e s m args below meth c H locs L hF hH hS hl
  have k9 := kk p e s m args below meth c H locs L hF hH hS hl
  exact va_gets (ref := "java/lang/String") hF.1 hF.2.1 hF.2.2.2.2.2.2.2.2.2.2.2.2.2.2.2.1.1 hS hF.2.2.2.1 (hF.2.2.2.2.1 _ hf) (fun _ h => h) hd k9
theorem T_getsS {idx : Nat} (hf : Cond.fieldLink M.1.cls idx "jdk/internal/util/Preconditions" "SIOOBE_FORMATTER" "Ljava/util/function/BiFunction;" ∈ tbw) (hd : decode (Mb M) pc = .ok (.getstatic idx, 3)) (k1 : T γ d mc ms M Q kc ks (pc + 3) ls (.null :: st) μ) (k2 : T γ d mc ms M Q kc ks (pc + 3) ls (.ref (XB + 99) :: st) μ) : T γ d mc ms M Q kc ks pc ls st μ := by
  intro p e s m args below meth c H locs L hF hH hS hl
  rcases hF.2.2.2.2.2.2.2.2.2.2.2.2.2.2.2.1.2 with h | h
  · exact va_gets (ref := "jdk/internal/util/Preconditions") hF.1 hF.2.1 h hS hF.2.2.2.1 (hF.2.2.2.2.1 _ hf) (fun _ h => h) hd (k1 p e s m args below meth c H locs L hF hH hS hl)
  · have k9 := k2 p e s m args below meth c H locs L hF hH hS hl
    refine va_gets (ref := "jdk/internal/util/Preconditions") hF.1 hF.2.1 h hS hF.2.2.2.1 (hF.2.2.2.2.1 _ hf) (fun _ h => h) hd ?_
    rw [← rho_ext]
    exact k9
end TS
section TSC
variable {γ : Ga} {d mc ms : Nat} {M : MI} {Q : Out → SMem → Prop} {kc ks : Nat} {pc : Nat} {ls : List (Option Value)} {μ : SMem}
variable {d' mc' ms' n idx : Nat} {M' : MI} {Q' : Out → SMem → Prop} {av As rest st : List Value}
/-- a call on a String constant -/
theorem T_callVs {i : Nat} {q : String × Nat × String × List Int32} (hs : strs[i]? = some q) (hl9 : LkV M.1.cls idx M') (hm : MOk M' n) (hE : Ex γ d' mc' ms' M' (.ref (XB + (i + 1)) :: As) μ Q') (hc : M'.1.cls = "java/lang/String") (hd : decode (Mb M) pc = .ok (.invokevirtual idx, 3)) (hst : st = As.reverse ++ .ref (XB + (i + 1)) :: rest) (hn : As.length = n) (hw : (rest.map fun v => v.category).sum ≤ 8) (hdd : d' < d) (hno : Mh M = []) (h1 : kc + mc' ≤ mc) (h2 : ks + ms' ≤ ms)
    (hx : ∀ (E : String) (μ' : SMem), Q' (.inr E) μ' → Q (.inr E) μ') (kk : ∀ (v : Option Value) (μ' : SMem), Q' (.inl v) μ' → T γ d mc ms M Q (kc + mc') (ks + ms') (pc + 3) ls (v.toList ++ rest) μ') : T γ d mc ms M Q kc ks pc ls st μ := by
  intro p e s m args below meth c' H locs L hF hH hS hl
  subst hst
  have hts := hF.2.2.2.2.1
  have fix : CallFix p m c' (Mb M) (Ml M) s args tbw M.1.cls := ⟨hF.1, hF.2.1, hF.2.2.1, hF.2.2.2.1, hts⟩
  have hrec : ∃ cellB : Cell, H[rho γ (XB + (i + 1))]? = some cellB ∧ cellB.vm.isStatics = false ∧ s.vm.findClass M'.1.cls = some cellB.cls := by
    obtain ⟨cell, h1, h2, h3, -⟩ := (hF.str hs).2.1.kept hS.2.1
    rw [rho_ext, hc]
    exact ⟨cell, h1, h2, h3⟩
  have hpre := PreS.mk9 (av := .ref (XB + (i + 1)) :: As) hF hH hS
  have hst9 : (As.reverse ++ .ref (XB + (i + 1)) :: rest).map (rv γ) = (As.map (rv γ)).reverse ++ .ref (rho γ (XB + (i + 1))) :: rest.map (rv γ) := by
    rw [List.map_append, List.map_reverse]; rfl
  have hr : vx_Run p (gl γ) e (rmd d mc ms) s m args below meth c' H locs kc ks mc' ms' (F0 m pc L ((As.reverse ++ .ref (XB + (i + 1)) :: rest).map (rv γ))) (rest.map (rv γ)) (QC γ Q' (Value.ref (rho γ (XB + (i + 1))) :: As.map (rv γ)).toArray) (XC γ Q') (gA γ) := by
    exact vx_runV (C := M'.1.cls) fix hE ⟨callB_of (own := M.1.cls) (index := idx) n hts hm.good hm.ws rfl rfl (hts _ hm.2.2.1) (hts _ hl9.1) hm.2.2.2.1 (roomOk hdd hm.2.2.2.2), hts _ hl9.2.1, hts _ hl9.2.2⟩ ⟨hpre.1, hrec, hpre.2⟩ rfl (by rw [List.length_map]; exact hn) hl.1 hst9 (lv_room (by rw [cat_rv]; exact hw)) hd ⟨h1, h2⟩
  exact T_back hr hF hS hl (fun E ce q9 μ' H1 locs1 hQ hH1 hS1 hce hcv hcl => T_out hF hno h1 h2 (hx E μ' hQ) hH1 hS1 hce hcv hcl) kk
end TSC
