/-! a callee that throws or answers, with its memory -/
section RX
variable {γ : Ga} {d mc ms : Nat} {M : MI} {Q : Out → SMem → Prop} {kc ks : Nat} {pc : Nat} {ls : List (Option Value)} {μ : SM2}
variable {d' mc' ms' n idx : Nat} {M' : MI} {av As rest st : List Value} {v : Value} {r : Option String} {P : SM2 → Prop}
theorem R_callVX {b c : Nat} (hl9 : LkV M.1.cls idx M' ∨ LkVN M.1.cls idx M') (hm : MOk M' n) (hE : Ex γ d' mc' ms' M' (.ref b :: As) (rm μ) (Ax r v μ P)) (hk : KT b = (0, c)) (hc : c < 13 ∧ (cl3 c).1 = M'.1.cls) (hb : b < N0) (hd : decode (Mb M) pc = .ok (.invokevirtual idx, 3)) (hst : st = As.reverse ++ .ref b :: rest) (hn : As.length = n) (hw : (rest.map fun v => v.category).sum ≤ 8) (hdd : d' < d) (hno : Mh M = []) (h1 : kc + mc' ≤ mc) (h2 : ks + ms' ≤ ms) (hx : ∀ E, r = some E → Q (.inr E) (rm μ)) (kk : r = none → ∀ m, P m → T γ d mc ms M Q (kc + mc') (ks + ms') (pc + 3) ls (v :: rest) (rm m)) : T γ d mc ms M Q kc ks pc ls st (rm μ) :=
  T_callV hl9 hm hE hk hc hb hd hst hn hw hdd hno h1 h2 (fun E' m' h => by
    cases r with
    | some E =>
      obtain ⟨h3, h4⟩ := h
      cases h4
      subst h3
      exact hx _ rfl
    | none =>
      obtain ⟨_, h3, _⟩ := h
      cases h3) (fun v' m' h => by
    cases r with
    | some E =>
      obtain ⟨_, h4⟩ := h
      cases h4
    | none =>
      obtain ⟨m9, h3, h4, h5⟩ := h
      cases h3
      subst h4
      exact kk rfl m9 h5)
end RX

