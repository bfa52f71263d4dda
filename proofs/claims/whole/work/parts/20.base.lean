/-! the class's own: CODES -/
section B1
variable {γ : Ga} {μ : SM2}
theorem c_sizeOf {c : Nat} (hc : c < 2 ^ 63) : Ex γ 1 0 0 M_X11_sizeOf [.long (lN c)] (rm μ) (Fn (some (.int (nI (sz c)))) μ) := by
  refine Ex.of (by decide +kernel) rfl (Nat.le_of_ble_eq_true rfl) ?_
  show T _ _ _ _ _ _ _ _ _ [some (.long (lN c)), none, none] [] (rm μ)
  refine T_iconst (v := nI 0) dX11_sizeOf_0 (by decide) ?_
  refine T_istore_n (i := 2) (ls' := [some (.long (lN c)), none, some (.int (nI 0))]) dX11_sizeOf_1 rfl (by decide) rfl ?_
  suffices loop : ∀ f k, k + f = 20 → T γ 1 0 0 M_X11_sizeOf (Fn (some (.int (nI (szF c f k)))) μ) 0 0 2 [some (.long (lN c)), none, some (.int (nI k))] [] (rm μ) from loop 20 0 rfl
  intro f
  induction f with
  | zero =>
    intro k hk
    refine T_iload_n (i := 2) dX11_sizeOf_2 rfl rfl ?_
    refine T_bipush (v := nI 20) dX11_sizeOf_3 (by decide) ?_
    refine R_icmp_ge (tgt := 26) (by omega) (by omega) dX11_sizeOf_5 (by decide) (fun h => ?_) (fun h => ?_)
    · skip
      refine T_iload_n (i := 2) dX11_sizeOf_26 rfl rfl ?_
      exact T_iret (ty := .int) dX11_sizeOf_27 rfl rfl (Nat.le_refl _) (Nat.le_refl _) ⟨rfl, rfl⟩
    · skip
      exact absurd h (by omega)
  | succ f ih =>
    intro k hk
    refine T_iload_n (i := 2) dX11_sizeOf_2 rfl rfl ?_
    refine T_bipush (v := nI 20) dX11_sizeOf_3 (by decide) ?_
    refine R_icmp_ge (tgt := 26) (by omega) (by omega) dX11_sizeOf_5 (by decide) (fun h => ?_) (fun h => ?_)
    · exact absurd h (by omega)
    · skip
      refine T_lload_n (i := 0) dX11_sizeOf_8 rfl rfl ?_
      refine T_iconst (v := nI 3) dX11_sizeOf_9 (by decide) ?_
      refine T_iload_n (i := 2) dX11_sizeOf_10 rfl rfl ?_
      refine R_imul dX11_sizeOf_11 ?_
      refine T_iconst (v := nI 3) dX11_sizeOf_12 (by decide) ?_
      refine R_iadd dX11_sizeOf_13 ?_
      refine R_lushr ⟨by omega, by omega⟩ dX11_sizeOf_14 ?_
      refine T_lconst (v := lN 0) dX11_sizeOf_15 rfl ?_
      refine T_lcmp dX11_sizeOf_16 ?_
      have hb : c / 2 ^ (3 * k + 3) ≤ c := Nat.div_le_self _ _
      refine R_ln_eq (tgt := 26) (by omega) (by omega) dX11_sizeOf_17 (by decide) (fun h3 => ?_) (fun h3 => ?_)
      · skip
        refine T_iload_n (i := 2) dX11_sizeOf_26 rfl rfl ?_
        unfold szF
        rw [if_pos h3]
        exact T_iret (ty := .int) dX11_sizeOf_27 rfl rfl (Nat.le_refl _) (Nat.le_refl _) ⟨rfl, rfl⟩
      · skip
        refine R_iinc (i := 2) (n := 1) (ls' := [some (.long (lN c)), none, some (.int (nI (k + 1)))]) dX11_sizeOf_20 rfl rfl ?_
        refine T_goto (tgt := 2) dX11_sizeOf_23 (by decide) ?_
        unfold szF
        rw [if_neg h3]
        exact ih (k + 1) (by omega)
end B1

