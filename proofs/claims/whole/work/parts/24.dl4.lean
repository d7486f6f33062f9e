section
variable {d : Nat} {M : am_M} {Q : am_Q} {a n : Nat}
theorem nI_sub1 {m : Nat} (h : 0 < m) : nI m - 1 = nI (m - 1) := by
  obtain ⟨k, hk⟩ : ∃ k, m = k + 1 := ⟨m - 1, by omega⟩
  rw [hk, nI_pred]
  rfl
/-- the deeds from e on moved down by one, k of them -/
def drpM (M : am_M) (a e k : Nat) : am_M := (fun b j => if (b = a + 1 ∨ b = a + 2 ∨ b = a + 3) ∧ e ≤ j ∧ j < e + k then M.1 b (j + 1) else M.1 b j, M.2)
theorem gI_drp (M : am_M) (a e k b j : Nat) : gI (drpM M a e k) b j = if (b = a + 1 ∨ b = a + 2 ∨ b = a + 3) ∧ e ≤ j ∧ j < e + k then gI M b (j + 1) else gI M b j := rfl
theorem gR_drp (M : am_M) (a e k b j : Nat) : gR (drpM M a e k) b j = gR M b j := rfl
theorem gL_drp (M : am_M) (a e k b j : Nat) : gL (drpM M a e k) b j = gL M b j := rfl
theorem M_ext {M N : am_M} (h1 : ∀ b j, gI M b j = gI N b j) (h2 : ∀ b j, gL M b j = gL N b j) (h3 : ∀ b j, gR M b j = gR N b j) : M = N := Prod.ext (funext fun b => funext fun j => h1 b j) (Prod.ext (funext fun b => funext fun j => h2 b j) (funext fun b => funext fun j => h3 b j))
theorem drp_0 (M : am_M) (a e : Nat) : drpM M a e 0 = M := M_ext (fun b j => by rw [gI_drp, if_neg (by omega)]) (fun _ _ => rfl) (fun _ _ => rfl)
theorem drp_s (M : am_M) (a e k : Nat) : sI (sI (sI (drpM M a e k) (a + 1) (e + k) (gI M (a + 1) (e + k + 1))) (a + 2) (e + k) (gI M (a + 2) (e + k + 1))) (a + 3) (e + k) (gI M (a + 3) (e + k + 1)) = drpM M a e (k + 1) := by
  refine M_ext (fun b j => ?_) (fun _ _ => rfl) (fun _ _ => rfl)
  rw [gI_drp, gI_sI, gI_sI, gI_sI, gI_drp]
  by_cases h3 : b = a + 3 ∧ j = e + k
  · rw [if_pos h3, if_pos (by omega), h3.1, h3.2]
  · rw [if_neg h3]
    by_cases h2 : b = a + 2 ∧ j = e + k
    · rw [if_pos h2, if_pos (by omega), h2.1, h2.2]
    · rw [if_neg h2]
      by_cases h1 : b = a + 1 ∧ j = e + k
      · rw [if_pos h1, if_pos (by omega), h1.1, h1.2]
      · rw [if_neg h1]
        by_cases h0 : (b = a + 1 ∨ b = a + 2 ∨ b = a + 3) ∧ e ≤ j ∧ j < e + k
        · rw [if_pos h0, if_pos (by omega)]
        · rw [if_neg h0, if_neg (by omega)]
theorem l_drop {e : Nat} (h : DL M a n) (he : e < n) : ∀ (j k : Nat), e + k + j + 1 = n → ok (d + 1) mX0_drop 488 Q 488 0 0 11 [some (.ref a), some (.int (nI e)), some (.int (nI (e + k)))] [] (drpM M a e k) = Q none (sI (drpM M a e (n - 1 - e)) a 3 (nI (n - 1))) := by
  obtain ⟨⟨h1, h2, h3, h4, h5, h6, h7, h8⟩, hsz, hn⟩ := h
  have hob := ob (a := a) (c := 0) (by omega) h2
  have hsz' : ∀ k, gI (drpM M a e k) a 3 = nI n := fun k => by rw [gI_drp, if_neg (by omega), hsz]
  intro j
  induction j with
  | zero =>
    intro k hk
    have ek : n - 1 - e = k := by omega
    have e0 : (nI n ≤ nI (e + k + 1)) = True := by rw [nI_leE (by omega) (by omega)]; exact eq_true (by omega)
    have e1 : nI n - 1 = nI (n - 1) := nI_sub1 (by omega)
    rw [sX0_drop_11, ek]
    simp only [sX0_drop_0, sX0_drop_1, sX0_drop_2, sX0_drop_5, sX0_drop_8, sX0_drop_9, sX0_drop_10, sX0_drop_12, sX0_drop_13, sX0_drop_14, sX0_drop_15, sX0_drop_18, sX0_drop_21, sX0_drop_22, sX0_drop_25, sX0_drop_26, sX0_drop_27, sX0_drop_30, sX0_drop_31, sX0_drop_32, sX0_drop_33, sX0_drop_34, sX0_drop_35, sX0_drop_36, sX0_drop_39, sX0_drop_40, sX0_drop_41, sX0_drop_44, sX0_drop_45, sX0_drop_46, sX0_drop_47, sX0_drop_48, sX0_drop_49, sX0_drop_50, sX0_drop_53, sX0_drop_54, sX0_drop_55, sX0_drop_58, sX0_drop_59, sX0_drop_60, sX0_drop_61, sX0_drop_62, sX0_drop_63, sX0_drop_66, sX0_drop_69, sX0_drop_70, sX0_drop_71, sX0_drop_74, sX0_drop_75, sX0_drop_76, sX0_drop_79, kI_i, kL_l, kV_v, am_rv_s, am_kl_i, am_kl_r, am_kl_n, am_kl_l, true_and, and_true, and_self, true_or, or_true, implies_true, forall_const, not_true_eq_false, not_false_eq_true, false_implies, true_implies, hob, hsz', nI_1, e0, e1]
  | succ j ih =>
    intro k hk
    have ih := ih (k + 1) (by omega)
    have e0 : (nI n ≤ nI (e + k + 1)) = False := by rw [nI_leE (by omega) (by omega)]; exact eq_false (by omega)
    have c0 : (nI (e + k)).toNatClampNeg = e + k := nI_clamp (by omega)
    have c1 : (nI (e + k + 1)).toNatClampNeg = e + k + 1 := nI_clamp (by omega)
    have i1 := fun M => in1 (M := M) (k := e + k + 1) (by omega : a + 1 < 488) h3 (by omega) (by omega)
    have i2 := fun M => in1 (M := M) (k := e + k + 1) (by omega : a + 2 < 488) h4 (by omega) (by omega)
    have i3 := fun M => in1 (M := M) (k := e + k + 1) (by omega : a + 3 < 488) h5 (by omega) (by omega)
    have j1 := iw (k := e + k) (by omega : a + 1 < 488) h3 (by omega) (by omega)
    have j2 := iw (k := e + k) (by omega : a + 2 < 488) h4 (by omega) (by omega)
    have j3 := iw (k := e + k) (by omega : a + 3 < 488) h5 (by omega) (by omega)
    have r1 : gI (drpM M a e k) (a + 1) (e + k + 1) = gI M (a + 1) (e + k + 1) := by rw [gI_drp, if_neg (by omega)]
    have r2 : ∀ v, gI (sI (drpM M a e k) (a + 1) (e + k) v) (a + 2) (e + k + 1) = gI M (a + 2) (e + k + 1) := fun v => by rw [gI_o (by omega), gI_drp, if_neg (by omega)]
    have r3 : ∀ v w, gI (sI (sI (drpM M a e k) (a + 1) (e + k) v) (a + 2) (e + k) w) (a + 3) (e + k + 1) = gI M (a + 3) (e + k + 1) := fun v w => by rw [gI_o (by omega), gI_o (by omega), gI_drp, if_neg (by omega)]
    rw [sX0_drop_11]
    simp only [sX0_drop_0, sX0_drop_1, sX0_drop_2, sX0_drop_5, sX0_drop_8, sX0_drop_9, sX0_drop_10, sX0_drop_12, sX0_drop_13, sX0_drop_14, sX0_drop_15, sX0_drop_18, sX0_drop_21, sX0_drop_22, sX0_drop_25, sX0_drop_26, sX0_drop_27, sX0_drop_30, sX0_drop_31, sX0_drop_32, sX0_drop_33, sX0_drop_34, sX0_drop_35, sX0_drop_36, sX0_drop_39, sX0_drop_40, sX0_drop_41, sX0_drop_44, sX0_drop_45, sX0_drop_46, sX0_drop_47, sX0_drop_48, sX0_drop_49, sX0_drop_50, sX0_drop_53, sX0_drop_54, sX0_drop_55, sX0_drop_58, sX0_drop_59, sX0_drop_60, sX0_drop_61, sX0_drop_62, sX0_drop_63, sX0_drop_66, sX0_drop_69, sX0_drop_70, sX0_drop_71, sX0_drop_74, sX0_drop_75, sX0_drop_76, sX0_drop_79, kI_i, kL_l, kV_v, am_rv_s, am_kl_i, am_kl_r, am_kl_n, am_kl_l, true_and, and_true, and_self, true_or, or_true, implies_true, forall_const, not_true_eq_false, not_false_eq_true, false_implies, true_implies, hob, hsz', nI_1, e0, h6, h7, h8, gR_drp, gR_sI, i1, i2, i3, j1, j2, j3, c0, c1, r1, r2, r3, drp_s]
    exact ih
theorem c_drop {e : Nat} (h : DL M a n) (he : e < n) : am_big (d + 2) mX0_drop [.ref a, .int (nI e)] 488 M Q = Q none (sI (drpM M a e (n - 1 - e)) a 3 (nI (n - 1))) := by
  have hn := h.2.2
  have hob := ob (a := a) (c := 0) (by have := h.1.1; omega) h.1.2.1
  have hh : decide (0 ≤ nI e ∧ nI e < gI M a 3) = true := decide_eq_true ⟨nI_pos' (by omega), by rw [h.2.1]; exact nI_lt he (by omega)⟩
  rw [eX0_drop]
  simp only [sX0_drop_0, sX0_drop_1, sX0_drop_2, sX0_drop_5, sX0_drop_8, sX0_drop_9, sX0_drop_10, sX0_drop_12, sX0_drop_13, sX0_drop_14, sX0_drop_15, sX0_drop_18, sX0_drop_21, sX0_drop_22, sX0_drop_25, sX0_drop_26, sX0_drop_27, sX0_drop_30, sX0_drop_31, sX0_drop_32, sX0_drop_33, sX0_drop_34, sX0_drop_35, sX0_drop_36, sX0_drop_39, sX0_drop_40, sX0_drop_41, sX0_drop_44, sX0_drop_45, sX0_drop_46, sX0_drop_47, sX0_drop_48, sX0_drop_49, sX0_drop_50, sX0_drop_53, sX0_drop_54, sX0_drop_55, sX0_drop_58, sX0_drop_59, sX0_drop_60, sX0_drop_61, sX0_drop_62, sX0_drop_63, sX0_drop_66, sX0_drop_69, sX0_drop_70, sX0_drop_71, sX0_drop_74, sX0_drop_75, sX0_drop_76, sX0_drop_79, kI_i, kL_l, kV_v, am_rv_s, am_kl_i, am_kl_r, am_kl_n, am_kl_l, true_and, and_true, and_self, true_or, or_true, implies_true, forall_const, not_true_eq_false, not_false_eq_true, false_implies, true_implies, hob, c_has h.1, hh, bz_t, i01]
  have := l_drop (d := d) (Q := Q) h he (n - 1 - e) 0 (by omega)
  rw [drp_0] at this
  exact this
/-- a list's deeds put over another's -/
def cpyM (M : am_M) (a b n : Nat) : am_M := cpI (cpI (cpI (sI M a 3 (nI n)) (b + 1) 0 (a + 1) 0 n) (b + 2) 0 (a + 2) 0 n) (b + 3) 0 (a + 3) 0 n
theorem c_copyDL {b : Nat} (h : DLs M a) (hb : DL M b n) (hd : a + 3 < b ∨ b + 3 < a) : am_big (d + 1) mX0_copyFrom [.ref a, .ref b] 488 M Q = Q none (cpyM M a b n) := by
  obtain ⟨h1, h2, h3, h4, h5, h6, h7, h8⟩ := h
  obtain ⟨⟨g1, g2, g3, g4, g5, g6, g7, g8⟩, hsz, hn⟩ := hb
  have hob := ob (a := a) (c := 0) (by omega) h2
  have hob2 := ob (a := b) (c := 0) (by omega) g2
  have ek : (nI n).toNatClampNeg = n := nI_clamp (by omega)
  have e0 : (0 : Int32).toNatClampNeg = 0 := by decide
  have hc : ∀ i, i < 3 → am_cpok 488 (b + 1 + i) 0 (a + 1 + i) 0 (nI n) = True := by
    intro i hi
    have ta : am_T (a + 1 + i) = (1, 16) := by
      match i, hi with
      | 0, _ => exact h3
      | 1, _ => exact h4
      | 2, _ => exact h5
    have tb : am_T (b + 1 + i) = (1, 16) := by
      match i, hi with
      | 0, _ => exact g3
      | 1, _ => exact g4
      | 2, _ => exact g5
    refine eq_true ⟨by omega, by omega, by rw [tb], by rw [ta], by decide, by decide, nI_pos (by omega), ?_, ?_⟩
    · rw [tb, ek, e0]; show 0 + n ≤ 16; omega
    · rw [ta, ek, e0]; show 0 + n ≤ 16; omega
  have hc1 := hc 0 (by omega)
  have hc2 := hc 1 (by omega)
  have hc3 := hc 2 (by omega)
  have s0 : gI (sI M a 3 (nI n)) a 3 = nI n := gI_e
  have s1 : ∀ (N : am_M) (x y z i : Nat), i < 3 → gI (cpI N x y (a + 1 + i) z n) a 3 = gI N a 3 := fun N x y z i hi => by rw [gI_cpI, if_neg (by omega)]
  have s11 := fun N x y z => s1 N x y z 0 (by omega)
  have s12 := fun N x y z => s1 N x y z 1 (by omega)
  rw [eX0_copyFrom]
  simp only [Nat.add_zero] at hc1 s11
  simp only [Nat.add_assoc] at hc2 hc3 s12
  simp only [sX0_copyFrom_0, sX0_copyFrom_1, sX0_copyFrom_2, sX0_copyFrom_5, sX0_copyFrom_8, sX0_copyFrom_9, sX0_copyFrom_12, sX0_copyFrom_13, sX0_copyFrom_14, sX0_copyFrom_17, sX0_copyFrom_18, sX0_copyFrom_19, sX0_copyFrom_22, sX0_copyFrom_25, sX0_copyFrom_26, sX0_copyFrom_29, sX0_copyFrom_30, sX0_copyFrom_31, sX0_copyFrom_34, sX0_copyFrom_35, sX0_copyFrom_36, sX0_copyFrom_39, sX0_copyFrom_42, sX0_copyFrom_43, sX0_copyFrom_46, sX0_copyFrom_47, sX0_copyFrom_48, sX0_copyFrom_51, sX0_copyFrom_52, sX0_copyFrom_53, sX0_copyFrom_56, sX0_copyFrom_59, kI_i, kL_l, kV_v, am_rv_s, am_kl_i, am_kl_r, am_kl_n, am_kl_l, true_and, and_true, and_self, true_or, or_true, implies_true, forall_const, not_true_eq_false, not_false_eq_true, false_implies, true_implies, hob, hob2, hsz, gR_sI, gR_cpI, h6, h7, h8, g6, g7, g8, s0, s11, s12, ek, e0, hc1, hc2, hc3]
  rfl
end
