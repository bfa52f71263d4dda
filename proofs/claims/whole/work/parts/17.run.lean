/-! the rows over the running system: whole numbers as natural numbers -/
def bI (b : Bool) : Int32 := if b then 1 else 0
theorem bI_t : bI true = 1 := rfl
theorem bI_f : bI false = 0 := rfl
theorem nar_b (b : Bool) : narrow .boolean (.int (bI b)) = .int (bI b) := by cases b <;> decide
def wI (μ : SM2) (k j : Nat) (x : Int32) : SM2 := (up2 μ.1 k j x, μ.2)
def wL (μ : SM2) (k j : Nat) (x : Int64) : SM2 := (μ.1, up2 μ.2 k j x)
def wCI (μ : SM2) (k0 k1 sp dp n : Nat) : SM2 := (fun a b => if a = k1 then va_cpy (μ.1 k0) (μ.1 k1) sp dp n b else μ.1 a b, μ.2)
def wCL (μ : SM2) (k0 k1 sp dp n : Nat) : SM2 := (μ.1, fun a b => if a = k1 then va_cpy (μ.2 k0) (μ.2 k1) sp dp n b else μ.2 a b)
/-- it answers v, and the memory is μ' -/
def Fn (v : Option Value) (μ' : SM2) : Out → SMem → Prop := fun o m => o = .inl v ∧ m = rm μ'
/-- it answers, and P holds -/
def Rl (P : Option Value → SM2 → Prop) : Out → SMem → Prop := fun o m => ∃ v μ', o = .inl v ∧ m = rm μ' ∧ P v μ'
theorem nI_cl {e n : Nat} (h : e < n) (hn : n < 2 ^ 31) : vp_in (nI e) n ∧ (nI e).toNatClampNeg = e := ⟨vp_in_nI h hn, nI_clamp (Nat.lt_trans h hn)⟩
theorem nI_clamp0 {e : Nat} (h : e < 2 ^ 31) : ¬ nI e < 0 := nI_pos h
section RR
variable {γ : Ga} {d mc ms : Nat} {M : MI} {Q : Out → SMem → Prop} {kc ks : Nat} {pc : Nat} {ls : List (Option Value)} {st : List Value} {μ : SM2}
theorem R_getI {k c j idx : Nat} {x : Int32} (hf : FLk M.1.cls idx c j) (ht : ft c j = 0) (hk : KT k = (0, c)) (hn : k < N0) (hx : μ.1 k j = x) (hd : decode (Mb M) pc = .ok (.getfield idx, 3)) (kk : T γ d mc ms M Q kc ks (pc + 3) ls (.int x :: st) (rm μ)) : T γ d mc ms M Q kc ks pc ls (.ref k :: st) (rm μ) :=
  T_getI hf ht hk hn hd (by rw [show (rm μ).2.2.1 k j = x from hx]; exact kk)
theorem R_getL {k c j idx : Nat} {x : Int64} (hf : FLk M.1.cls idx c j) (ht : ft c j = 1) (hk : KT k = (0, c)) (hn : k < N0) (hx : μ.2 k j = x) (hd : decode (Mb M) pc = .ok (.getfield idx, 3)) (kk : T γ d mc ms M Q kc ks (pc + 3) ls (.long x :: st) (rm μ)) : T γ d mc ms M Q kc ks pc ls (.ref k :: st) (rm μ) :=
  T_getL hf ht hk hn hd (by rw [show (rm μ).2.2.2 k j = x from hx]; exact kk)
theorem R_getR {k c j idx : Nat} {i : Nat} (hf : FLk M.1.cls idx c j) (ht : ft c j = 2) (hk : KT k = (0, c)) (hn : k < N0) (hr : R0 k j = i + 1) (hd : decode (Mb M) pc = .ok (.getfield idx, 3)) (kk : T γ d mc ms M Q kc ks (pc + 3) ls (.ref i :: st) (rm μ)) : T γ d mc ms M Q kc ks pc ls (.ref k :: st) (rm μ) :=
  T_getR hf ht hk hn hr hd kk
theorem R_putI {k c j idx : Nat} {x : Int32} (hf : FLk M.1.cls idx c j) (ht : ft c j = 0 ∧ ((cl3 c).2.1 j).2.2.2 = false) (hx : tyc c j = .int ∨ x = 0 ∨ x = 1) (hk : KT k = (0, c)) (hn : k < N0) (hd : decode (Mb M) pc = .ok (.putfield idx, 3)) (kk : T γ d mc ms M Q kc ks (pc + 3) ls (st) (rm (wI μ k j x))) : T γ d mc ms M Q kc ks pc ls (.int x :: .ref k :: st) (rm μ) :=
  T_putI hf ht hx hk hn hd kk
theorem R_putL {k c j idx : Nat} {x : Int64} (hf : FLk M.1.cls idx c j) (ht : ft c j = 1 ∧ ((cl3 c).2.1 j).2.2.2 = false) (hk : KT k = (0, c)) (hn : k < N0) (hd : decode (Mb M) pc = .ok (.putfield idx, 3)) (kk : T γ d mc ms M Q kc ks (pc + 3) ls (st) (rm (wL μ k j x))) : T γ d mc ms M Q kc ks pc ls (.long x :: .ref k :: st) (rm μ) :=
  T_putL hf ht hk hn hd kk
theorem R_iald {k n e : Nat} {x : Int32} (hk : KT k = (1, n)) (hn : k < N0) (he : e < n) (h31 : n < 2 ^ 31) (hx : μ.1 k e = x) (hd : decode (Mb M) pc = .ok (.iaload, 1)) (kk : T γ d mc ms M Q kc ks (pc + 1) ls (.int x :: st) (rm μ)) : T γ d mc ms M Q kc ks pc ls (.int (nI e) :: .ref k :: st) (rm μ) :=
  T_iald hk hn (nI_cl he h31).1 hd (by rw [(nI_cl he h31).2, show (rm μ).2.2.1 k e = x from hx]; exact kk)
theorem R_lald {k n e : Nat} {x : Int64} (hk : KT k = (2, n)) (hn : k < N0) (he : e < n) (h31 : n < 2 ^ 31) (hx : μ.2 k e = x) (hd : decode (Mb M) pc = .ok (.laload, 1)) (kk : T γ d mc ms M Q kc ks (pc + 1) ls (.long x :: st) (rm μ)) : T γ d mc ms M Q kc ks pc ls (.int (nI e) :: .ref k :: st) (rm μ) :=
  T_lald hk hn (nI_cl he h31).1 hd (by rw [(nI_cl he h31).2, show (rm μ).2.2.2 k e = x from hx]; exact kk)
theorem R_bald {k n e : Nat} {x : Int32} (hk : KT k = (3, n)) (hn : k < N0) (he : e < n) (h31 : n < 2 ^ 31) (hx : μ.1 k e = x) (hd : decode (Mb M) pc = .ok (.baload, 1)) (kk : T γ d mc ms M Q kc ks (pc + 1) ls (.int x :: st) (rm μ)) : T γ d mc ms M Q kc ks pc ls (.int (nI e) :: .ref k :: st) (rm μ) :=
  T_bald hk hn (nI_cl he h31).1 hd (by rw [(nI_cl he h31).2, show (rm μ).2.2.1 k e = x from hx]; exact kk)
theorem R_iast {k n e : Nat} {x : Int32} (hk : KT k = (1, n)) (hn : k < N0) (he : e < n) (h31 : n < 2 ^ 31) (hd : decode (Mb M) pc = .ok (.iastore, 1)) (kk : T γ d mc ms M Q kc ks (pc + 1) ls (st) (rm (wI μ k e (x)))) : T γ d mc ms M Q kc ks pc ls (.int x :: .int (nI e) :: .ref k :: st) (rm μ) :=
  T_iast hk hn (nI_cl he h31).1 hd (by rw [(nI_cl he h31).2]; exact kk)
theorem R_last {k n e : Nat} {x : Int64} (hk : KT k = (2, n)) (hn : k < N0) (he : e < n) (h31 : n < 2 ^ 31) (hd : decode (Mb M) pc = .ok (.lastore, 1)) (kk : T γ d mc ms M Q kc ks (pc + 1) ls (st) (rm (wL μ k e (x)))) : T γ d mc ms M Q kc ks pc ls (.long x :: .int (nI e) :: .ref k :: st) (rm μ) :=
  T_last hk hn (nI_cl he h31).1 hd (by rw [(nI_cl he h31).2]; exact kk)
theorem R_bast {k n e : Nat} {x : Int32} (hk : KT k = (3, n)) (hn : k < N0) (he : e < n) (h31 : n < 2 ^ 31) (hd : decode (Mb M) pc = .ok (.bastore, 1)) (kk : T γ d mc ms M Q kc ks (pc + 1) ls (st) (rm (wI μ k e (x.toInt8.toInt32)))) : T γ d mc ms M Q kc ks pc ls (.int x :: .int (nI e) :: .ref k :: st) (rm μ) :=
  T_bast hk hn (nI_cl he h31).1 hd (by rw [(nI_cl he h31).2]; exact kk)
theorem R_aald {k t n e j : Nat} (hk : KT k = (t + 4, n)) (ht : t < 2) (hn : k < N0) (he : e < n) (h31 : n < 2 ^ 31) (hr : R0 k e = j + 1) (hd : decode (Mb M) pc = .ok (.aaload, 1)) (kk : T γ d mc ms M Q kc ks (pc + 1) ls (.ref j :: st) (rm μ)) : T γ d mc ms M Q kc ks pc ls (.int (nI e) :: .ref k :: st) (rm μ) :=
  T_aald hk ht hn (nI_cl he h31).1 (by rw [(nI_cl he h31).2]; exact hr) hd kk
theorem R_alen {k t n : Nat} (hk : KT k = (t, n)) (ht : 1 ≤ t ∧ t < 6) (hn : k < N0) (hd : decode (Mb M) pc = .ok (.arraylength, 1)) (kk : T γ d mc ms M Q kc ks (pc + 1) ls (.int (nI n) :: st) (rm μ)) : T γ d mc ms M Q kc ks pc ls (.ref k :: st) (rm μ) :=
  T_alen hk ht hn hd kk
theorem R_copyI {idx k0 k1 n0 n1 sp dp n : Nat} (hc : CpOk M.1.cls idx) (hk0 : KT k0 = (1, n0)) (hk1 : KT k1 = (1, n1)) (hn0 : k0 < N0) (hn1 : k1 < N0) (h4 : sp + n ≤ n0) (h5 : dp + n ≤ n1) (h6 : n0 < 2 ^ 31 ∧ n1 < 2 ^ 31) (hst : (st.map fun v => v.category).sum ≤ 8) (hd : decode (Mb M) pc = .ok (.invokestatic idx, 3)) (kk : T γ d mc ms M Q kc ks (pc + 3) ls (st) (rm (wCI μ k0 k1 sp dp n))) : T γ d mc ms M Q kc ks pc ls (.int (nI n) :: .int (nI dp) :: .ref k1 :: .int (nI sp) :: .ref k0 :: st) (rm μ) :=
  T_copyI hc hk0 hk1 rfl hn0 hn1 (nI_pos (by omega)) (nI_pos (by omega)) (nI_pos (by omega)) (by rw [nI_clamp (n := sp) (by omega), nI_clamp (n := n) (by omega)]; exact h4) (by rw [nI_clamp (n := dp) (by omega), nI_clamp (n := n) (by omega)]; exact h5) hst hd (by rw [nI_clamp (n := sp) (by omega), nI_clamp (n := dp) (by omega), nI_clamp (n := n) (by omega)]; exact kk)
theorem R_copyL {idx k0 k1 n0 n1 sp dp n : Nat} (hc : CpOk M.1.cls idx) (hk0 : KT k0 = (2, n0)) (hk1 : KT k1 = (2, n1)) (hn0 : k0 < N0) (hn1 : k1 < N0) (h4 : sp + n ≤ n0) (h5 : dp + n ≤ n1) (h6 : n0 < 2 ^ 31 ∧ n1 < 2 ^ 31) (hst : (st.map fun v => v.category).sum ≤ 8) (hd : decode (Mb M) pc = .ok (.invokestatic idx, 3)) (kk : T γ d mc ms M Q kc ks (pc + 3) ls (st) (rm (wCL μ k0 k1 sp dp n))) : T γ d mc ms M Q kc ks pc ls (.int (nI n) :: .int (nI dp) :: .ref k1 :: .int (nI sp) :: .ref k0 :: st) (rm μ) :=
  T_copyL hc hk0 hk1 rfl hn0 hn1 (nI_pos (by omega)) (nI_pos (by omega)) (nI_pos (by omega)) (by rw [nI_clamp (n := sp) (by omega), nI_clamp (n := n) (by omega)]; exact h4) (by rw [nI_clamp (n := dp) (by omega), nI_clamp (n := n) (by omega)]; exact h5) hst hd (by rw [nI_clamp (n := sp) (by omega), nI_clamp (n := dp) (by omega), nI_clamp (n := n) (by omega)]; exact kk)
theorem R_iadd {a b : Nat} (hd : decode (Mb M) pc = .ok (.iadd, 1)) (kk : T γ d mc ms M Q kc ks (pc + 1) ls (.int (nI (a + b)) :: st) (rm μ)) : T γ d mc ms M Q kc ks pc ls (.int (nI b) :: .int (nI a) :: st) (rm μ) :=
  T_iadd hd (by rw [nI_add]; exact kk)
theorem R_isub {a b : Nat} (h : b ≤ a) (hd : decode (Mb M) pc = .ok (.isub, 1)) (kk : T γ d mc ms M Q kc ks (pc + 1) ls (.int (nI (a - b)) :: st) (rm μ)) : T γ d mc ms M Q kc ks pc ls (.int (nI b) :: .int (nI a) :: st) (rm μ) :=
  T_isub hd (by rw [pk_sub h]; exact kk)
theorem R_imul {a b : Nat} (hd : decode (Mb M) pc = .ok (.imul, 1)) (kk : T γ d mc ms M Q kc ks (pc + 1) ls (.int (nI (a * b)) :: st) (rm μ)) : T γ d mc ms M Q kc ks pc ls (.int (nI b) :: .int (nI a) :: st) (rm μ) :=
  T_imul hd (by rw [pk_mul]; exact kk)
theorem R_iand {a b : Nat} (hd : decode (Mb M) pc = .ok (.iand, 1)) (kk : T γ d mc ms M Q kc ks (pc + 1) ls (.int (nI (a &&& b)) :: st) (rm μ)) : T γ d mc ms M Q kc ks pc ls (.int (nI b) :: .int (nI a) :: st) (rm μ) :=
  T_iand hd (by rw [fa_and]; exact kk)
theorem R_ior {a b : Nat} (hd : decode (Mb M) pc = .ok (.ior, 1)) (kk : T γ d mc ms M Q kc ks (pc + 1) ls (.int (nI (a ||| b)) :: st) (rm μ)) : T γ d mc ms M Q kc ks pc ls (.int (nI b) :: .int (nI a) :: st) (rm μ) :=
  T_ior hd (by rw [fa_or]; exact kk)
theorem R_ixor {a b : Nat} (hd : decode (Mb M) pc = .ok (.ixor, 1)) (kk : T γ d mc ms M Q kc ks (pc + 1) ls (.int (nI (a ^^^ b)) :: st) (rm μ)) : T γ d mc ms M Q kc ks pc ls (.int (nI b) :: .int (nI a) :: st) (rm μ) :=
  T_ixor hd (by rw [fb_xorI]; exact kk)
theorem R_idiv {a b : Nat} (h : 0 < b ∧ b < 2 ^ 31 ∧ a < 2 ^ 31) (hd : decode (Mb M) pc = .ok (.idiv, 1)) (kk : T γ d mc ms M Q kc ks (pc + 1) ls (.int (nI (a / b)) :: st) (rm μ)) : T γ d mc ms M Q kc ks pc ls (.int (nI b) :: .int (nI a) :: st) (rm μ) :=
  T_idiv hd (fun z => nI_ne0 h.1 h.2.1 z) (by rw [pk_div h.2.2 h.1 h.2.1]; exact kk)
theorem R_irem {a b : Nat} (h : 0 < b ∧ b < 2 ^ 31 ∧ a < 2 ^ 31) (hd : decode (Mb M) pc = .ok (.irem, 1)) (kk : T γ d mc ms M Q kc ks (pc + 1) ls (.int (nI (a % b)) :: st) (rm μ)) : T γ d mc ms M Q kc ks pc ls (.int (nI b) :: .int (nI a) :: st) (rm μ) :=
  T_irem hd (fun z => nI_ne0 h.1 h.2.1 z) (by unfold irem; rw [pk_rem h.2.2 h.1 h.2.1]; exact kk)
theorem ishl_n {a k : Nat} (hk : k < 32) : ishl (nI a) (nI k) = nI (a * 2 ^ k) := by
  have hn : ∀ n : Nat, (nI n).toBitVec.toNat = n % 2 ^ 32 := fun n => BitVec.toNat_ofNat n 32
  unfold ishl
  apply Int32.toBitVec_inj.mp
  apply BitVec.eq_of_toNat_eq
  rw [pk_shl _ _ k (s_l k hk), hn, hn, Nat.mod_mul_mod]
theorem ishr_n {a k : Nat} (ha : a < 2 ^ 31) (hk : k < 32) : ishr (nI a) (nI k) = nI (a / 2 ^ k) := by
  unfold ishr
  exact pk_shrN ha _ k (s_l k hk)
theorem lushr_n {a k : Nat} (ha : a < 2 ^ 64) (hk : k < 64) : lushr (lN a) (nI k) = lN (a / 2 ^ k) := wb_shr ha hk
theorem lshl_n {a k : Nat} (hk : k < 64) : lshl (lN a) (nI k) = lN (a * 2 ^ k) := wb_shl a hk
theorem lshr_n {a k : Nat} (ha : a < 2 ^ 62) (hk : k < 64) : lshr (lN a) (nI k) = lN (a / 2 ^ k) := by
  unfold lshr
  rw [wb_c k hk]
  refine pf_shr ?_ ha
  rw [wb_tb, wb_sm k hk, BitVec.toNat_ofNat]
  omega
theorem R_ishl {a b : Nat} (h : b < 32) (hd : decode (Mb M) pc = .ok (.ishl, 1)) (kk : T γ d mc ms M Q kc ks (pc + 1) ls (.int (nI (a * 2 ^ b)) :: st) (rm μ)) : T γ d mc ms M Q kc ks pc ls (.int (nI b) :: .int (nI a) :: st) (rm μ) :=
  T_ishl hd (by rw [ishl_n h]; exact kk)
theorem R_ishr {a b : Nat} (h : a < 2 ^ 31 ∧ b < 32) (hd : decode (Mb M) pc = .ok (.ishr, 1)) (kk : T γ d mc ms M Q kc ks (pc + 1) ls (.int (nI (a / 2 ^ b)) :: st) (rm μ)) : T γ d mc ms M Q kc ks pc ls (.int (nI b) :: .int (nI a) :: st) (rm μ) :=
  T_ishr hd (by rw [ishr_n h.1 h.2]; exact kk)
theorem R_ladd {a b : Nat} (hd : decode (Mb M) pc = .ok (.ladd, 1)) (kk : T γ d mc ms M Q kc ks (pc + 1) ls (.long (lN (a + b)) :: st) (rm μ)) : T γ d mc ms M Q kc ks pc ls (.long (lN b) :: .long (lN a) :: st) (rm μ) :=
  T_ladd hd (by rw [lN_add]; exact kk)
theorem R_lmul {a b : Nat} (hd : decode (Mb M) pc = .ok (.lmul, 1)) (kk : T γ d mc ms M Q kc ks (pc + 1) ls (.long (lN (a * b)) :: st) (rm μ)) : T γ d mc ms M Q kc ks pc ls (.long (lN b) :: .long (lN a) :: st) (rm μ) :=
  T_lmul hd (by rw [lN_mul]; exact kk)
theorem R_lsub {a b : Nat} (h : b ≤ a) (hd : decode (Mb M) pc = .ok (.lsub, 1)) (kk : T γ d mc ms M Q kc ks (pc + 1) ls (.long (lN (a - b)) :: st) (rm μ)) : T γ d mc ms M Q kc ks pc ls (.long (lN b) :: .long (lN a) :: st) (rm μ) :=
  T_lsub hd (by rw [lN_sub h]; exact kk)
theorem R_land {a b : Nat} (hd : decode (Mb M) pc = .ok (.land, 1)) (kk : T γ d mc ms M Q kc ks (pc + 1) ls (.long (lN (a &&& b)) :: st) (rm μ)) : T γ d mc ms M Q kc ks pc ls (.long (lN b) :: .long (lN a) :: st) (rm μ) :=
  T_land hd (by rw [fb_andL]; exact kk)
theorem R_lor {a b : Nat} (hd : decode (Mb M) pc = .ok (.lor, 1)) (kk : T γ d mc ms M Q kc ks (pc + 1) ls (.long (lN (a ||| b)) :: st) (rm μ)) : T γ d mc ms M Q kc ks pc ls (.long (lN b) :: .long (lN a) :: st) (rm μ) :=
  T_lor hd (by rw [fb_orL]; exact kk)
theorem R_lxor {a b : Nat} (hd : decode (Mb M) pc = .ok (.lxor, 1)) (kk : T γ d mc ms M Q kc ks (pc + 1) ls (.long (lN (a ^^^ b)) :: st) (rm μ)) : T γ d mc ms M Q kc ks pc ls (.long (lN b) :: .long (lN a) :: st) (rm μ) :=
  T_lxor hd (by rw [fb_xorL]; exact kk)
theorem R_lushr {a b : Nat} (h : a < 2 ^ 64 ∧ b < 64) (hd : decode (Mb M) pc = .ok (.lushr, 1)) (kk : T γ d mc ms M Q kc ks (pc + 1) ls (.long (lN (a / 2 ^ b)) :: st) (rm μ)) : T γ d mc ms M Q kc ks pc ls (.int (nI b) :: .long (lN a) :: st) (rm μ) :=
  T_lushr hd (by rw [lushr_n h.1 h.2]; exact kk)
theorem R_lshl {a b : Nat} (h : b < 64) (hd : decode (Mb M) pc = .ok (.lshl, 1)) (kk : T γ d mc ms M Q kc ks (pc + 1) ls (.long (lN (a * 2 ^ b)) :: st) (rm μ)) : T γ d mc ms M Q kc ks pc ls (.int (nI b) :: .long (lN a) :: st) (rm μ) :=
  T_lshl hd (by rw [lshl_n h]; exact kk)
theorem R_lshr {a b : Nat} (h : a < 2 ^ 62 ∧ b < 64) (hd : decode (Mb M) pc = .ok (.lshr, 1)) (kk : T γ d mc ms M Q kc ks (pc + 1) ls (.long (lN (a / 2 ^ b)) :: st) (rm μ)) : T γ d mc ms M Q kc ks pc ls (.int (nI b) :: .long (lN a) :: st) (rm μ) :=
  T_lshr hd (by rw [lshr_n h.1 h.2]; exact kk)
theorem R_i2l {a : Nat} (h : a < 2 ^ 31) (hd : decode (Mb M) pc = .ok (.i2l, 1)) (kk : T γ d mc ms M Q kc ks (pc + 1) ls (.long (lN a) :: st) (rm μ)) : T γ d mc ms M Q kc ks pc ls (.int (nI a) :: st) (rm μ) :=
  T_i2l hd (by rw [nI_l h]; exact kk)
theorem R_l2i {a : Nat} (hd : decode (Mb M) pc = .ok (.l2i, 1)) (kk : T γ d mc ms M Q kc ks (pc + 1) ls (.int (nI a) :: st) (rm μ)) : T γ d mc ms M Q kc ks pc ls (.long (lN a) :: st) (rm μ) :=
  T_l2i hd (by rw [lN_i]; exact kk)
theorem R_iinc {i a n : Nat} {ls' : List (Option Value)} (hd : decode (Mb M) pc = .ok (.iinc i (n : Int), 3)) (hg : glk ls i = some (.int (nI a))) (hs : sto1 ls i (.int (nI (a + n))) = ls') (kk : T γ d mc ms M Q kc ks (pc + 3) ls' st (rm μ)) : T γ d mc ms M Q kc ks pc ls st (rm μ) :=
  T_iinc hd hg (by rw [← nI_add]; rfl) hs kk
theorem R_idec {i a : Nat} {ls' : List (Option Value)} (hd : decode (Mb M) pc = .ok (.iinc i (-1), 3)) (ha : 0 < a) (hg : glk ls i = some (.int (nI a))) (hs : sto1 ls i (.int (nI (a - 1))) = ls') (kk : T γ d mc ms M Q kc ks (pc + 3) ls' st (rm μ)) : T γ d mc ms M Q kc ks pc ls st (rm μ) :=
  T_iinc hd hg (by
    obtain ⟨b, rfl⟩ : ∃ b, a = b + 1 := ⟨a - 1, by omega⟩
    rw [Nat.add_sub_cancel]
    exact pk_m1 b) hs kk
theorem nI_z {a : Nat} (ha : a < 2 ^ 31) : nI a = 0 ↔ a = 0 := by
  rw [← nI_0]; exact nI_eq ha (by decide)
theorem R_icmp_eq {a b : Nat} {off : Int} {tgt : Nat} (ha : a < 2 ^ 31) (hb : b < 2 ^ 31) (hd : decode (Mb M) pc = .ok (.if_icmp .eq off, 3)) (ht : (pc : Int) + off = (tgt : Int)) (kt : a = b → T γ d mc ms M Q kc ks tgt ls st (rm μ)) (kf : ¬ a = b → T γ d mc ms M Q kc ks (pc + 3) ls st (rm μ)) : T γ d mc ms M Q kc ks pc ls (.int (nI b) :: .int (nI a) :: st) (rm μ) :=
  T_icmp_eq hd ht (fun h => kt ((nI_eq ha hb).mp h)) (fun h => kf ((fun z => h ((nI_eq ha hb).mpr z))))
theorem R_if_eq {a : Nat} {off : Int} {tgt : Nat} (ha : a < 2 ^ 31) (hd : decode (Mb M) pc = .ok (.ifCond .eq off, 3)) (ht : (pc : Int) + off = (tgt : Int)) (kt : a = 0 → T γ d mc ms M Q kc ks tgt ls st (rm μ)) (kf : ¬ a = 0 → T γ d mc ms M Q kc ks (pc + 3) ls st (rm μ)) : T γ d mc ms M Q kc ks pc ls (.int (nI a) :: st) (rm μ) :=
  T_if_eq hd ht (fun h => kt ((nI_z ha).mp h)) (fun h => kf ((fun z => h ((nI_z ha).mpr z))))
theorem R_icmp_ne {a b : Nat} {off : Int} {tgt : Nat} (ha : a < 2 ^ 31) (hb : b < 2 ^ 31) (hd : decode (Mb M) pc = .ok (.if_icmp .ne off, 3)) (ht : (pc : Int) + off = (tgt : Int)) (kt : ¬ a = b → T γ d mc ms M Q kc ks tgt ls st (rm μ)) (kf : a = b → T γ d mc ms M Q kc ks (pc + 3) ls st (rm μ)) : T γ d mc ms M Q kc ks pc ls (.int (nI b) :: .int (nI a) :: st) (rm μ) :=
  T_icmp_ne hd ht (fun h => kt ((fun z => h ((nI_eq ha hb).mpr z)))) (fun h => kf ((nI_eq ha hb).mp h))
theorem R_if_ne {a : Nat} {off : Int} {tgt : Nat} (ha : a < 2 ^ 31) (hd : decode (Mb M) pc = .ok (.ifCond .ne off, 3)) (ht : (pc : Int) + off = (tgt : Int)) (kt : ¬ a = 0 → T γ d mc ms M Q kc ks tgt ls st (rm μ)) (kf : a = 0 → T γ d mc ms M Q kc ks (pc + 3) ls st (rm μ)) : T γ d mc ms M Q kc ks pc ls (.int (nI a) :: st) (rm μ) :=
  T_if_ne hd ht (fun h => kt ((fun z => h ((nI_z ha).mpr z)))) (fun h => kf (Classical.byContradiction (fun z => z ((nI_z ha).mp h))))
theorem R_icmp_lt {a b : Nat} {off : Int} {tgt : Nat} (ha : a < 2 ^ 31) (hb : b < 2 ^ 31) (hd : decode (Mb M) pc = .ok (.if_icmp .lt off, 3)) (ht : (pc : Int) + off = (tgt : Int)) (kt : a < b → T γ d mc ms M Q kc ks tgt ls st (rm μ)) (kf : b ≤ a → T γ d mc ms M Q kc ks (pc + 3) ls st (rm μ)) : T γ d mc ms M Q kc ks pc ls (.int (nI b) :: .int (nI a) :: st) (rm μ) :=
  T_icmp_lt hd ht (fun h => kt ((nI_ltI ha hb).mp h)) (fun h => kf (Nat.le_of_not_lt (fun z => h ((nI_ltI ha hb).mpr z))))
theorem R_if_lt {a : Nat} {off : Int} {tgt : Nat} (ha : a < 2 ^ 31) (hd : decode (Mb M) pc = .ok (.ifCond .lt off, 3)) (ht : (pc : Int) + off = (tgt : Int)) (kt : False → T γ d mc ms M Q kc ks tgt ls st (rm μ)) (kf : True → T γ d mc ms M Q kc ks (pc + 3) ls st (rm μ)) : T γ d mc ms M Q kc ks pc ls (.int (nI a) :: st) (rm μ) :=
  T_if_lt hd ht (fun h => kt (nI_pos ha h)) (fun h => kf (trivial))
theorem R_icmp_ge {a b : Nat} {off : Int} {tgt : Nat} (ha : a < 2 ^ 31) (hb : b < 2 ^ 31) (hd : decode (Mb M) pc = .ok (.if_icmp .ge off, 3)) (ht : (pc : Int) + off = (tgt : Int)) (kt : b ≤ a → T γ d mc ms M Q kc ks tgt ls st (rm μ)) (kf : a < b → T γ d mc ms M Q kc ks (pc + 3) ls st (rm μ)) : T γ d mc ms M Q kc ks pc ls (.int (nI b) :: .int (nI a) :: st) (rm μ) :=
  T_icmp_ge hd ht (fun h => kt ((nI_leI hb ha).mp h)) (fun h => kf (Nat.lt_of_not_le (fun z => h ((nI_leI hb ha).mpr z))))
theorem R_if_ge {a : Nat} {off : Int} {tgt : Nat} (ha : a < 2 ^ 31) (hd : decode (Mb M) pc = .ok (.ifCond .ge off, 3)) (ht : (pc : Int) + off = (tgt : Int)) (kt : True → T γ d mc ms M Q kc ks tgt ls st (rm μ)) (kf : False → T γ d mc ms M Q kc ks (pc + 3) ls st (rm μ)) : T γ d mc ms M Q kc ks pc ls (.int (nI a) :: st) (rm μ) :=
  T_if_ge hd ht (fun h => kt (trivial)) (fun h => kf (h (nI_pos' ha)))
theorem R_icmp_gt {a b : Nat} {off : Int} {tgt : Nat} (ha : a < 2 ^ 31) (hb : b < 2 ^ 31) (hd : decode (Mb M) pc = .ok (.if_icmp .gt off, 3)) (ht : (pc : Int) + off = (tgt : Int)) (kt : b < a → T γ d mc ms M Q kc ks tgt ls st (rm μ)) (kf : a ≤ b → T γ d mc ms M Q kc ks (pc + 3) ls st (rm μ)) : T γ d mc ms M Q kc ks pc ls (.int (nI b) :: .int (nI a) :: st) (rm μ) :=
  T_icmp_gt hd ht (fun h => kt ((nI_ltI hb ha).mp h)) (fun h => kf (Nat.le_of_not_lt (fun z => h ((nI_ltI hb ha).mpr z))))
theorem R_if_gt {a : Nat} {off : Int} {tgt : Nat} (ha : a < 2 ^ 31) (hd : decode (Mb M) pc = .ok (.ifCond .gt off, 3)) (ht : (pc : Int) + off = (tgt : Int)) (kt : 0 < a → T γ d mc ms M Q kc ks tgt ls st (rm μ)) (kf : a = 0 → T γ d mc ms M Q kc ks (pc + 3) ls st (rm μ)) : T γ d mc ms M Q kc ks pc ls (.int (nI a) :: st) (rm μ) :=
  T_if_gt hd ht (fun h => kt (Nat.pos_of_ne_zero (fun z => by subst z; exact absurd h (by decide)))) (fun h => kf (Classical.byContradiction (fun z => h (by have := (nI_ltI (a := 0) (b := a) (by decide) ha).mpr (Nat.pos_of_ne_zero z); exact this))))
theorem R_icmp_le {a b : Nat} {off : Int} {tgt : Nat} (ha : a < 2 ^ 31) (hb : b < 2 ^ 31) (hd : decode (Mb M) pc = .ok (.if_icmp .le off, 3)) (ht : (pc : Int) + off = (tgt : Int)) (kt : a ≤ b → T γ d mc ms M Q kc ks tgt ls st (rm μ)) (kf : b < a → T γ d mc ms M Q kc ks (pc + 3) ls st (rm μ)) : T γ d mc ms M Q kc ks pc ls (.int (nI b) :: .int (nI a) :: st) (rm μ) :=
  T_icmp_le hd ht (fun h => kt ((nI_leI ha hb).mp h)) (fun h => kf (Nat.lt_of_not_le (fun z => h ((nI_leI ha hb).mpr z))))
theorem R_if_le {a : Nat} {off : Int} {tgt : Nat} (ha : a < 2 ^ 31) (hd : decode (Mb M) pc = .ok (.ifCond .le off, 3)) (ht : (pc : Int) + off = (tgt : Int)) (kt : a = 0 → T γ d mc ms M Q kc ks tgt ls st (rm μ)) (kf : 0 < a → T γ d mc ms M Q kc ks (pc + 3) ls st (rm μ)) : T γ d mc ms M Q kc ks pc ls (.int (nI a) :: st) (rm μ) :=
  T_if_le hd ht (fun h => kt (Classical.byContradiction (fun z => nI_nle (Nat.pos_of_ne_zero z) ha h))) (fun h => kf (Nat.pos_of_ne_zero (fun z => by subst z; exact h (by decide))))
theorem R_ifb_eq {b : Bool} {off : Int} {tgt : Nat} (hd : decode (Mb M) pc = .ok (.ifCond .eq off, 3)) (ht : (pc : Int) + off = (tgt : Int)) (kt : b = false → T γ d mc ms M Q kc ks tgt ls st (rm μ)) (kf : b = true → T γ d mc ms M Q kc ks (pc + 3) ls st (rm μ)) : T γ d mc ms M Q kc ks pc ls (.int (bI b) :: st) (rm μ) :=
  T_if_eq hd ht (fun h => kt (by cases b <;> first | rfl | exact absurd h (by decide))) (fun h => kf (by cases b <;> first | rfl | exact absurd h (by decide)))
theorem R_ifb_ne {b : Bool} {off : Int} {tgt : Nat} (hd : decode (Mb M) pc = .ok (.ifCond .ne off, 3)) (ht : (pc : Int) + off = (tgt : Int)) (kt : b = true → T γ d mc ms M Q kc ks tgt ls st (rm μ)) (kf : b = false → T γ d mc ms M Q kc ks (pc + 3) ls st (rm μ)) : T γ d mc ms M Q kc ks pc ls (.int (bI b) :: st) (rm μ) :=
  T_if_ne hd ht (fun h => kt (by cases b <;> first | rfl | exact absurd h (by decide))) (fun h => kf (by cases b <;> first | rfl | exact absurd h (by decide)))
theorem lgc (x y : Int64) : (x < y ∧ lg_cmp x y = -1) ∨ (x = y ∧ lg_cmp x y = 0) ∨ (y < x ∧ lg_cmp x y = 1) := by
  unfold lg_cmp
  by_cases h1 : x > y
  · exact Or.inr (Or.inr ⟨h1, by rw [if_pos h1]⟩)
  · by_cases h2 : x = y
    · exact Or.inr (Or.inl ⟨h2, by rw [if_neg h1, if_pos h2]⟩)
    · refine Or.inl ⟨?_, by rw [if_neg h1, if_neg h2]⟩
      rw [fa_lt64]
      rw [gt_iff_lt, fa_lt64] at h1
      rw [fa_eq64] at h2
      omega
theorem lgc_eq (x y : Int64) : lg_cmp x y = 0 ↔ x = y := by
  rcases lgc x y with ⟨h, e⟩ | ⟨h, e⟩ | ⟨h, e⟩ <;> rw [e]
  · exact ⟨fun z => absurd z (by decide), fun z => by rw [fa_lt64] at h; rw [z] at h; omega⟩
  · exact ⟨fun _ => h, fun _ => rfl⟩
  · exact ⟨fun z => absurd z (by decide), fun z => by rw [fa_lt64] at h; rw [z] at h; omega⟩
theorem lgc_lt (x y : Int64) : lg_cmp x y < 0 ↔ x < y := by
  rcases lgc x y with ⟨h, e⟩ | ⟨h, e⟩ | ⟨h, e⟩ <;> rw [e]
  · exact ⟨fun _ => h, fun _ => by decide⟩
  · exact ⟨fun z => absurd z (by decide), fun z => by rw [fa_lt64] at z; rw [h] at z; omega⟩
  · exact ⟨fun z => absurd z (by decide), fun z => by rw [fa_lt64] at h z; omega⟩
theorem lgc_gt (x y : Int64) : 0 < lg_cmp x y ↔ y < x := by
  rcases lgc x y with ⟨h, e⟩ | ⟨h, e⟩ | ⟨h, e⟩ <;> rw [e]
  · exact ⟨fun z => absurd z (by decide), fun z => by rw [fa_lt64] at h z; omega⟩
  · exact ⟨fun z => absurd z (by decide), fun z => by rw [fa_lt64] at z; rw [h] at z; omega⟩
  · exact ⟨fun _ => h, fun _ => by decide⟩
theorem lgc_le (x y : Int64) : lg_cmp x y ≤ 0 ↔ ¬ y < x := by
  rw [← lgc_gt, fa_le, fa_lt]; simp
theorem lgc_ge (x y : Int64) : 0 ≤ lg_cmp x y ↔ ¬ x < y := by
  rw [← lgc_lt, fa_le, fa_lt]; simp
theorem R_lx_eq {x y : Int64} {off : Int} {tgt : Nat} (hd : decode (Mb M) pc = .ok (.ifCond .eq off, 3)) (ht : (pc : Int) + off = (tgt : Int)) (kt : x = y → T γ d mc ms M Q kc ks tgt ls st (rm μ)) (kf : ¬ x = y → T γ d mc ms M Q kc ks (pc + 3) ls st (rm μ)) : T γ d mc ms M Q kc ks pc ls (.int (lg_cmp x y) :: st) (rm μ) :=
  T_if_eq hd ht (fun h => kt ((lgc_eq _ _).mp h)) (fun h => kf (fun z => h ((lgc_eq _ _).mpr z)))
theorem R_ln_eq {a b : Nat} {off : Int} {tgt : Nat} (ha : a < 2 ^ 63) (hb : b < 2 ^ 63) (hd : decode (Mb M) pc = .ok (.ifCond .eq off, 3)) (ht : (pc : Int) + off = (tgt : Int)) (kt : a = b → T γ d mc ms M Q kc ks tgt ls st (rm μ)) (kf : ¬ a = b → T γ d mc ms M Q kc ks (pc + 3) ls st (rm μ)) : T γ d mc ms M Q kc ks pc ls (.int (lg_cmp (lN a) (lN b)) :: st) (rm μ) :=
  R_lx_eq hd ht (fun h => kt ((pk_lEQ ha hb).mp h)) (fun h => kf (fun z => h ((pk_lEQ ha hb).mpr z)))
theorem R_lx_ne {x y : Int64} {off : Int} {tgt : Nat} (hd : decode (Mb M) pc = .ok (.ifCond .ne off, 3)) (ht : (pc : Int) + off = (tgt : Int)) (kt : ¬ x = y → T γ d mc ms M Q kc ks tgt ls st (rm μ)) (kf : x = y → T γ d mc ms M Q kc ks (pc + 3) ls st (rm μ)) : T γ d mc ms M Q kc ks pc ls (.int (lg_cmp x y) :: st) (rm μ) :=
  T_if_ne hd ht (fun h => kt (fun z => h ((lgc_eq _ _).mpr z))) (fun h => kf ((lgc_eq _ _).mp h))
theorem R_ln_ne {a b : Nat} {off : Int} {tgt : Nat} (ha : a < 2 ^ 63) (hb : b < 2 ^ 63) (hd : decode (Mb M) pc = .ok (.ifCond .ne off, 3)) (ht : (pc : Int) + off = (tgt : Int)) (kt : ¬ a = b → T γ d mc ms M Q kc ks tgt ls st (rm μ)) (kf : a = b → T γ d mc ms M Q kc ks (pc + 3) ls st (rm μ)) : T γ d mc ms M Q kc ks pc ls (.int (lg_cmp (lN a) (lN b)) :: st) (rm μ) :=
  R_lx_ne hd ht (fun h => kt (fun z => h ((pk_lEQ ha hb).mpr z))) (fun h => kf ((pk_lEQ ha hb).mp h))
theorem R_lx_lt {x y : Int64} {off : Int} {tgt : Nat} (hd : decode (Mb M) pc = .ok (.ifCond .lt off, 3)) (ht : (pc : Int) + off = (tgt : Int)) (kt : x < y → T γ d mc ms M Q kc ks tgt ls st (rm μ)) (kf : ¬ x < y → T γ d mc ms M Q kc ks (pc + 3) ls st (rm μ)) : T γ d mc ms M Q kc ks pc ls (.int (lg_cmp x y) :: st) (rm μ) :=
  T_if_lt hd ht (fun h => kt ((lgc_lt _ _).mp h)) (fun h => kf (fun z => h ((lgc_lt _ _).mpr z)))
theorem R_ln_lt {a b : Nat} {off : Int} {tgt : Nat} (ha : a < 2 ^ 63) (hb : b < 2 ^ 63) (hd : decode (Mb M) pc = .ok (.ifCond .lt off, 3)) (ht : (pc : Int) + off = (tgt : Int)) (kt : a < b → T γ d mc ms M Q kc ks tgt ls st (rm μ)) (kf : b ≤ a → T γ d mc ms M Q kc ks (pc + 3) ls st (rm μ)) : T γ d mc ms M Q kc ks pc ls (.int (lg_cmp (lN a) (lN b)) :: st) (rm μ) :=
  R_lx_lt hd ht (fun h => kt ((pk_lLT ha hb).mp h)) (fun h => kf (Nat.le_of_not_lt fun z => h ((pk_lLT ha hb).mpr z)))
theorem R_lx_ge {x y : Int64} {off : Int} {tgt : Nat} (hd : decode (Mb M) pc = .ok (.ifCond .ge off, 3)) (ht : (pc : Int) + off = (tgt : Int)) (kt : ¬ x < y → T γ d mc ms M Q kc ks tgt ls st (rm μ)) (kf : x < y → T γ d mc ms M Q kc ks (pc + 3) ls st (rm μ)) : T γ d mc ms M Q kc ks pc ls (.int (lg_cmp x y) :: st) (rm μ) :=
  T_if_ge hd ht (fun h => kt ((lgc_ge _ _).mp h)) (fun h => kf (Classical.byContradiction fun z => h ((lgc_ge _ _).mpr z)))
theorem R_ln_ge {a b : Nat} {off : Int} {tgt : Nat} (ha : a < 2 ^ 63) (hb : b < 2 ^ 63) (hd : decode (Mb M) pc = .ok (.ifCond .ge off, 3)) (ht : (pc : Int) + off = (tgt : Int)) (kt : b ≤ a → T γ d mc ms M Q kc ks tgt ls st (rm μ)) (kf : a < b → T γ d mc ms M Q kc ks (pc + 3) ls st (rm μ)) : T γ d mc ms M Q kc ks pc ls (.int (lg_cmp (lN a) (lN b)) :: st) (rm μ) :=
  R_lx_ge hd ht (fun h => kt (Nat.le_of_not_lt fun z => h ((pk_lLT ha hb).mpr z))) (fun h => kf ((pk_lLT ha hb).mp h))
theorem R_lx_gt {x y : Int64} {off : Int} {tgt : Nat} (hd : decode (Mb M) pc = .ok (.ifCond .gt off, 3)) (ht : (pc : Int) + off = (tgt : Int)) (kt : y < x → T γ d mc ms M Q kc ks tgt ls st (rm μ)) (kf : ¬ y < x → T γ d mc ms M Q kc ks (pc + 3) ls st (rm μ)) : T γ d mc ms M Q kc ks pc ls (.int (lg_cmp x y) :: st) (rm μ) :=
  T_if_gt hd ht (fun h => kt ((lgc_gt _ _).mp h)) (fun h => kf (fun z => h ((lgc_gt _ _).mpr z)))
theorem R_ln_gt {a b : Nat} {off : Int} {tgt : Nat} (ha : a < 2 ^ 63) (hb : b < 2 ^ 63) (hd : decode (Mb M) pc = .ok (.ifCond .gt off, 3)) (ht : (pc : Int) + off = (tgt : Int)) (kt : b < a → T γ d mc ms M Q kc ks tgt ls st (rm μ)) (kf : a ≤ b → T γ d mc ms M Q kc ks (pc + 3) ls st (rm μ)) : T γ d mc ms M Q kc ks pc ls (.int (lg_cmp (lN a) (lN b)) :: st) (rm μ) :=
  R_lx_gt hd ht (fun h => kt ((pk_lLT hb ha).mp h)) (fun h => kf (Nat.le_of_not_lt fun z => h ((pk_lLT hb ha).mpr z)))
theorem R_lx_le {x y : Int64} {off : Int} {tgt : Nat} (hd : decode (Mb M) pc = .ok (.ifCond .le off, 3)) (ht : (pc : Int) + off = (tgt : Int)) (kt : ¬ y < x → T γ d mc ms M Q kc ks tgt ls st (rm μ)) (kf : y < x → T γ d mc ms M Q kc ks (pc + 3) ls st (rm μ)) : T γ d mc ms M Q kc ks pc ls (.int (lg_cmp x y) :: st) (rm μ) :=
  T_if_le hd ht (fun h => kt ((lgc_le _ _).mp h)) (fun h => kf (Classical.byContradiction fun z => h ((lgc_le _ _).mpr z)))
theorem R_ln_le {a b : Nat} {off : Int} {tgt : Nat} (ha : a < 2 ^ 63) (hb : b < 2 ^ 63) (hd : decode (Mb M) pc = .ok (.ifCond .le off, 3)) (ht : (pc : Int) + off = (tgt : Int)) (kt : a ≤ b → T γ d mc ms M Q kc ks tgt ls st (rm μ)) (kf : b < a → T γ d mc ms M Q kc ks (pc + 3) ls st (rm μ)) : T γ d mc ms M Q kc ks pc ls (.int (lg_cmp (lN a) (lN b)) :: st) (rm μ) :=
  R_lx_le hd ht (fun h => kt (Nat.le_of_not_lt fun z => h ((pk_lLT hb ha).mpr z))) (fun h => kf ((pk_lLT hb ha).mp h))
end RR
section RC
variable {γ : Ga} {d mc ms : Nat} {M : MI} {Q : Out → SMem → Prop} {kc ks : Nat} {pc : Nat} {ls : List (Option Value)} {μ μ1 : SM2}
variable {d' n idx : Nat} {M' : MI} {av As rest st : List Value} {v : Value} {P : Option Value → SM2 → Prop}
theorem R_callS1 (hl9 : LkS M.1.cls idx M' ∨ LkSN M.1.cls idx M') (hm : MOk M' n) (hE : Ex γ d' 0 0 M' av (rm μ) (Fn (some v) μ1)) (hd : decode (Mb M) pc = .ok (.invokestatic idx, 3)) (hst : st = av.reverse ++ rest) (hn : av.length = n) (hw : (rest.map fun v => v.category).sum ≤ 8) (hdd : d' < d) (hno : Mh M = []) (h1 : kc ≤ mc) (h2 : ks ≤ ms) (kk : T γ d mc ms M Q kc ks (pc + 3) ls (v :: rest) (rm μ1)) : T γ d mc ms M Q kc ks pc ls st (rm μ) :=
  T_callS hl9 hm hE hd hst hn hw hdd hno h1 h2 (fun E m' h => absurd h.1 (fun z => by cases z)) (fun v' m' h => by obtain ⟨h3, rfl⟩ := h; cases h3; exact kk)
theorem R_callS0 (hl9 : LkS M.1.cls idx M' ∨ LkSN M.1.cls idx M') (hm : MOk M' n) (hE : Ex γ d' 0 0 M' av (rm μ) (Fn none μ1)) (hd : decode (Mb M) pc = .ok (.invokestatic idx, 3)) (hst : st = av.reverse ++ rest) (hn : av.length = n) (hw : (rest.map fun v => v.category).sum ≤ 8) (hdd : d' < d) (hno : Mh M = []) (h1 : kc ≤ mc) (h2 : ks ≤ ms) (kk : T γ d mc ms M Q kc ks (pc + 3) ls (rest) (rm μ1)) : T γ d mc ms M Q kc ks pc ls st (rm μ) :=
  T_callS hl9 hm hE hd hst hn hw hdd hno h1 h2 (fun E m' h => absurd h.1 (fun z => by cases z)) (fun v' m' h => by obtain ⟨h3, rfl⟩ := h; cases h3; exact kk)
theorem R_callSR (hl9 : LkS M.1.cls idx M' ∨ LkSN M.1.cls idx M') (hm : MOk M' n) (hE : Ex γ d' 0 0 M' av (rm μ) (Rl P)) (hd : decode (Mb M) pc = .ok (.invokestatic idx, 3)) (hst : st = av.reverse ++ rest) (hn : av.length = n) (hw : (rest.map fun v => v.category).sum ≤ 8) (hdd : d' < d) (hno : Mh M = []) (h1 : kc ≤ mc) (h2 : ks ≤ ms) (kk : ∀ (v : Option Value) (μ' : SM2), P v μ' → T γ d mc ms M Q kc ks (pc + 3) ls (v.toList ++ rest) (rm μ')) : T γ d mc ms M Q kc ks pc ls st (rm μ) :=
  T_callS hl9 hm hE hd hst hn hw hdd hno h1 h2 (fun E m' h => by obtain ⟨v, μ', h3, -⟩ := h; cases h3) (fun v' m' h => by obtain ⟨v, μ', h3, rfl, h4⟩ := h; cases h3; exact kk _ _ h4)
theorem R_callV1 {b c : Nat} (hl9 : LkV M.1.cls idx M' ∨ LkVN M.1.cls idx M') (hm : MOk M' n) (hE : Ex γ d' 0 0 M' (.ref b :: As) (rm μ) (Fn (some v) μ1)) (hk : KT b = (0, c)) (hc : c < 13 ∧ (cl3 c).1 = M'.1.cls) (hb : b < N0) (hd : decode (Mb M) pc = .ok (.invokevirtual idx, 3)) (hst : st = As.reverse ++ .ref b :: rest) (hn : As.length = n) (hw : (rest.map fun v => v.category).sum ≤ 8) (hdd : d' < d) (hno : Mh M = []) (h1 : kc ≤ mc) (h2 : ks ≤ ms) (kk : T γ d mc ms M Q kc ks (pc + 3) ls (v :: rest) (rm μ1)) : T γ d mc ms M Q kc ks pc ls st (rm μ) :=
  T_callV hl9 hm hE hk hc hb hd hst hn hw hdd hno h1 h2 (fun E m' h => absurd h.1 (fun z => by cases z)) (fun v' m' h => by obtain ⟨h3, rfl⟩ := h; cases h3; exact kk)
theorem R_callV0 {b c : Nat} (hl9 : LkV M.1.cls idx M' ∨ LkVN M.1.cls idx M') (hm : MOk M' n) (hE : Ex γ d' 0 0 M' (.ref b :: As) (rm μ) (Fn none μ1)) (hk : KT b = (0, c)) (hc : c < 13 ∧ (cl3 c).1 = M'.1.cls) (hb : b < N0) (hd : decode (Mb M) pc = .ok (.invokevirtual idx, 3)) (hst : st = As.reverse ++ .ref b :: rest) (hn : As.length = n) (hw : (rest.map fun v => v.category).sum ≤ 8) (hdd : d' < d) (hno : Mh M = []) (h1 : kc ≤ mc) (h2 : ks ≤ ms) (kk : T γ d mc ms M Q kc ks (pc + 3) ls (rest) (rm μ1)) : T γ d mc ms M Q kc ks pc ls st (rm μ) :=
  T_callV hl9 hm hE hk hc hb hd hst hn hw hdd hno h1 h2 (fun E m' h => absurd h.1 (fun z => by cases z)) (fun v' m' h => by obtain ⟨h3, rfl⟩ := h; cases h3; exact kk)
theorem R_callVR {b c : Nat} (hl9 : LkV M.1.cls idx M' ∨ LkVN M.1.cls idx M') (hm : MOk M' n) (hE : Ex γ d' 0 0 M' (.ref b :: As) (rm μ) (Rl P)) (hk : KT b = (0, c)) (hc : c < 13 ∧ (cl3 c).1 = M'.1.cls) (hb : b < N0) (hd : decode (Mb M) pc = .ok (.invokevirtual idx, 3)) (hst : st = As.reverse ++ .ref b :: rest) (hn : As.length = n) (hw : (rest.map fun v => v.category).sum ≤ 8) (hdd : d' < d) (hno : Mh M = []) (h1 : kc ≤ mc) (h2 : ks ≤ ms) (kk : ∀ (v : Option Value) (μ' : SM2), P v μ' → T γ d mc ms M Q kc ks (pc + 3) ls (v.toList ++ rest) (rm μ')) : T γ d mc ms M Q kc ks pc ls st (rm μ) :=
  T_callV hl9 hm hE hk hc hb hd hst hn hw hdd hno h1 h2 (fun E m' h => by obtain ⟨v, μ', h3, -⟩ := h; cases h3) (fun v' m' h => by obtain ⟨v, μ', h3, rfl, h4⟩ := h; cases h3; exact kk _ _ h4)
end RC
