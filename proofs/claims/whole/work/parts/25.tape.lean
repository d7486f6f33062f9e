/-! the tape: T its signs, len, the place p -/
theorem sI_sI (M : am_M) (a j : Nat) (v w : Int32) : sI (sI M a j v) a j w = sI M a j w := M_ext (fun b k => by rw [gI_sI, gI_sI, gI_sI]; split <;> rfl) (fun _ _ => rfl) (fun _ _ => rfl)
theorem sI_id {M : am_M} {a j : Nat} {v : Int32} (h : gI M a j = v) : sI M a j v = M := M_ext (fun b k => by
  rw [gI_sI]
  split
  · rename_i q; rw [q.1, q.2, h]
  · rfl) (fun _ _ => rfl) (fun _ _ => rfl)
/-- past blanks: j signs are left at most -/
def sk (T : Nat → Int32) : Nat → Nat → Nat
  | 0, p => p
  | j + 1, p => if T p = 32 then sk T j (p + 1) else p
theorem sk_ge (T : Nat → Int32) : ∀ j p, p ≤ sk T j p ∧ sk T j p ≤ p + j
  | 0, p => by unfold sk; omega
  | j + 1, p => by unfold sk; have := sk_ge T j (p + 1); split <;> omega
def skp (T : Nat → Int32) (len p : Nat) : Nat := sk T (len - p) p
/-- the sign at a place; -1 at the end -/
def sg (T : Nat → Int32) (len p : Nat) : Int32 := if p < len then T p else -1
def dgt (x : Int32) : Bool := decide (48 ≤ x) && decide (x ≤ 57)
def TP (M : am_M) (len p : Nat) : Prop := gR M 1 0 = some 2 ∧ gI M 1 1 = nI len ∧ gI M 1 2 = nI p ∧ len ≤ 240 ∧ p ≤ len
section
variable {d : Nat} {M : am_M} {Q : am_Q} {len p : Nat}
theorem l_peek (hr : gR M 1 0 = some 2) (hl : gI M 1 1 = nI len) (hn : len ≤ 240) : ∀ (j p : Nat), p + j = len → ok d mX9_peek 488 Q 488 0 0 5 [some (.ref 1), some (.int (nI p))] [] (sI M 1 2 (nI p)) = Q (some (.int (sg (gI M 2) len (sk (gI M 2) j p)))) (sI M 1 2 (nI (sk (gI M 2) j p))) := by
  have hob := ob (a := 1) (c := 9) (by omega) rfl
  have hl2 : ∀ v, gI (sI M 1 2 v) 1 1 = nI len := fun v => by rw [gI_j (by omega), hl]
  have ht : ∀ v k, gI (sI M 1 2 v) 2 k = gI M 2 k := fun v k => gI_o (by omega)
  have hp : ∀ v, gI (sI M 1 2 v) 1 2 = v := fun v => gI_e
  intro j
  induction j with
  | zero =>
    intro p hp0
    have e : p = len := by omega
    subst e
    rw [sX9_peek_5]
    simp only [sX9_peek_0, sX9_peek_1, sX9_peek_4, sX9_peek_6, sX9_peek_7, sX9_peek_10, sX9_peek_13, sX9_peek_14, sX9_peek_17, sX9_peek_18, sX9_peek_19, sX9_peek_21, sX9_peek_24, sX9_peek_25, sX9_peek_26, sX9_peek_27, sX9_peek_28, sX9_peek_31, sX9_peek_34, sX9_peek_37, sX9_peek_38, sX9_peek_41, sX9_peek_42, sX9_peek_45, sX9_peek_48, sX9_peek_49, sX9_peek_52, sX9_peek_53, sX9_peek_56, sX9_peek_57, sX9_peek_60, sX9_peek_61, kI_i, kL_l, kV_v, am_rv_s, am_kl_i, am_kl_r, am_kl_n, am_kl_l, true_and, and_true, and_self, true_or, or_true, implies_true, forall_const, not_true_eq_false, not_false_eq_true, false_implies, true_implies, hob, hl2, hp, Int32.le_refl, sk, sg, Nat.lt_irrefl, if_false]
  | succ j ih =>
    intro p hp0
    have ih := ih (p + 1) (by omega)
    have e0 : (nI len ≤ nI p) = False := by rw [nI_leE (by omega) (by omega)]; exact eq_false (by omega)
    have c0 : (nI p).toNatClampNeg = p := nI_clamp (by omega)
    have i1 := fun M => in1 (M := M) (a := 2) (k := p) (L := 240) (by omega) rfl (by omega) (by omega)
    have hlt : p < len := by omega
    rw [sX9_peek_5]
    simp only [sX9_peek_0, sX9_peek_1, sX9_peek_4, sX9_peek_6, sX9_peek_7, sX9_peek_10, sX9_peek_13, sX9_peek_14, sX9_peek_17, sX9_peek_18, sX9_peek_19, sX9_peek_21, sX9_peek_24, sX9_peek_25, sX9_peek_26, sX9_peek_27, sX9_peek_28, sX9_peek_31, sX9_peek_34, sX9_peek_37, sX9_peek_38, sX9_peek_41, sX9_peek_42, sX9_peek_45, sX9_peek_48, sX9_peek_49, sX9_peek_52, sX9_peek_53, sX9_peek_56, sX9_peek_57, sX9_peek_60, sX9_peek_61, kI_i, kL_l, kV_v, am_rv_s, am_kl_i, am_kl_r, am_kl_n, am_kl_l, true_and, and_true, and_self, true_or, or_true, implies_true, forall_const, not_true_eq_false, not_false_eq_true, false_implies, true_implies, hob, hl2, hp, hr, gR_sI, ht, e0, c0, i1, nI_1, sI_sI, ih]
    by_cases q : gI M 2 p = 32
    · simp [q, sk]
    · simp [q, sk, sg, hlt]
theorem c_peek (h : TP M len p) : am_big (d + 1) mX9_peek [.ref 1] 488 M Q = Q (some (.int (sg (gI M 2) len (skp (gI M 2) len p)))) (sI M 1 2 (nI (skp (gI M 2) len p))) := by
  obtain ⟨h1, h2, h3, h4, h5⟩ := h
  have hob := ob (a := 1) (c := 9) (by omega) rfl
  have := l_peek (d := d) (Q := Q) h1 h2 h4 (len - p) p (by omega)
  rw [sI_id h3] at this
  rw [eX9_peek]
  simp only [sX9_peek_0, sX9_peek_1, sX9_peek_4, sX9_peek_6, sX9_peek_7, sX9_peek_10, sX9_peek_13, sX9_peek_14, sX9_peek_17, sX9_peek_18, sX9_peek_19, sX9_peek_21, sX9_peek_24, sX9_peek_25, sX9_peek_26, sX9_peek_27, sX9_peek_28, sX9_peek_31, sX9_peek_34, sX9_peek_37, sX9_peek_38, sX9_peek_41, sX9_peek_42, sX9_peek_45, sX9_peek_48, sX9_peek_49, sX9_peek_52, sX9_peek_53, sX9_peek_56, sX9_peek_57, sX9_peek_60, sX9_peek_61, kI_i, kL_l, kV_v, am_rv_s, am_kl_i, am_kl_r, am_kl_n, am_kl_l, true_and, and_true, and_self, true_or, or_true, implies_true, forall_const, not_true_eq_false, not_false_eq_true, false_implies, true_implies, hob, h3]
  exact this
theorem skp_le (h : TP M len p) : skp (gI M 2) len p ≤ len := by
  have := sk_ge (gI M 2) (len - p) p
  have := h.2.2.2.2
  unfold skp
  omega
theorem TP_at {q : Nat} (h : TP M len p) (hq : q ≤ len) : TP (sI M 1 2 (nI q)) len q := ⟨h.1, by rw [gI_j (by omega)]; exact h.2.1, gI_e, h.2.2.2.1, hq⟩
theorem T_at {q : Int32} : gI (sI M 1 2 q) 2 = gI M 2 := funext fun k => gI_o (by omega)
theorem c_accept {x : Int32} (h : TP M len p) : am_big (d + 2) mX9_accept [.ref 1, .int x] 488 M Q = if sg (gI M 2) len (skp (gI M 2) len p) = x then Q (some (.int 1)) (sI M 1 2 (nI (skp (gI M 2) len p + 1))) else Q (some (.int 0)) (sI M 1 2 (nI (skp (gI M 2) len p))) := by
  have hob := ob (a := 1) (c := 9) (by omega) rfl
  have hp : ∀ v, gI (sI M 1 2 v) 1 2 = v := fun v => gI_e
  rw [eX9_accept]
  simp only [sX9_accept_0, sX9_accept_1, sX9_accept_4, sX9_accept_5, sX9_accept_8, sX9_accept_9, sX9_accept_10, sX9_accept_11, sX9_accept_12, sX9_accept_15, sX9_accept_16, sX9_accept_17, sX9_accept_20, sX9_accept_21, kI_i, kL_l, kV_v, am_rv_s, am_kl_i, am_kl_r, am_kl_n, am_kl_l, true_and, and_true, and_self, true_or, or_true, implies_true, forall_const, not_true_eq_false, not_false_eq_true, false_implies, true_implies, hob, c_peek h, hp, nI_1, sI_sI]
  split <;> rename_i q <;> simp [q]
theorem c_isDigit {x : Int32} : am_big (d + 1) mX9_isDigit [.int x] 488 M Q = Q (some (.int (bz (dgt x)))) M := by
  rw [eX9_isDigit]
  simp only [sX9_isDigit_0, sX9_isDigit_1, sX9_isDigit_3, sX9_isDigit_6, sX9_isDigit_7, sX9_isDigit_9, sX9_isDigit_12, sX9_isDigit_13, sX9_isDigit_16, sX9_isDigit_17, kI_i, kL_l, kV_v, am_rv_s, am_kl_i, am_kl_r, am_kl_n, am_kl_l, true_and, and_true, and_self, true_or, or_true, implies_true, forall_const, not_true_eq_false, not_false_eq_true, false_implies, true_implies]
  unfold dgt
  by_cases q1 : x < 48
  · have : ¬ 48 ≤ x := fun q => absurd q1 (Int32.not_lt.mpr q)
    simp [q1, this, bz]
  · have q1' : 48 ≤ x := Int32.not_lt.mp q1
    by_cases q2 : 57 < x
    · have : ¬ x ≤ 57 := fun q => absurd q2 (Int32.not_lt.mpr q)
      simp [q1, q1', q2, this, bz]
    · have : x ≤ 57 := Int32.not_lt.mp q2
      simp [q1, q1', q2, this, bz]
theorem c_readDigit (h : TP M len p) : am_big (d + 2) mX9_readDigit [.ref 1] 488 M Q = if dgt (sg (gI M 2) len (skp (gI M 2) len p)) = true then Q (some (.int (sg (gI M 2) len (skp (gI M 2) len p) - 48))) (sI M 1 2 (nI (skp (gI M 2) len p + 1))) else Q (some (.int (-1))) (sI M 1 2 (nI (skp (gI M 2) len p))) := by
  have hob := ob (a := 1) (c := 9) (by omega) rfl
  have hp : ∀ v, gI (sI M 1 2 v) 1 2 = v := fun v => gI_e
  rw [eX9_readDigit]
  simp only [sX9_readDigit_0, sX9_readDigit_1, sX9_readDigit_4, sX9_readDigit_5, sX9_readDigit_6, sX9_readDigit_9, sX9_readDigit_12, sX9_readDigit_13, sX9_readDigit_14, sX9_readDigit_15, sX9_readDigit_16, sX9_readDigit_19, sX9_readDigit_20, sX9_readDigit_21, sX9_readDigit_24, sX9_readDigit_25, sX9_readDigit_27, sX9_readDigit_28, kI_i, kL_l, kV_v, am_rv_s, am_kl_i, am_kl_r, am_kl_n, am_kl_l, true_and, and_true, and_self, true_or, or_true, implies_true, forall_const, not_true_eq_false, not_false_eq_true, false_implies, true_implies, hob, c_peek h, c_isDigit, hp, nI_1, sI_sI, bz_0]
  cases q : dgt (sg (gI M 2) len (skp (gI M 2) len p)) <;> simp
end
