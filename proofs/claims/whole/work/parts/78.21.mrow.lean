section
variable {M N : am_M} {ap lim n : Nat} {S : Sg} {P : List Sg} {l : List Dd} {d : Nat} {Q : am_Q} {K : Int32}
def XMP (c j : Nat) : Prop := XMW c j ∨ c = 483
theorem m_row {i a : Int32} (h : RS M ap lim S P) : ∃ M', (∀ d (Q : am_Q), am_big (d + 4) mX11_row [.ref 457, .int i, .int a] 488 M Q = Q (some (.int (rowA S.1 i a))) M') ∧ Fw XMP M M' := by
  have f0 : Fw XMP M (sI M 457 0 0) := Fw_thr.mo (fun c j z => Or.inl (Or.inl (Or.inl z)))
  obtain ⟨hW, hS, hP, hf, hm, hw, hlim, ht⟩ := RS_th h
  generalize hM0 : sI M 457 0 0 = M0 at *
  have hl := hS.1
  have g36 : gI M0 465 36 = nI S.1.length := by have := hS.2.1; rwa [Nat.zero_add] at this
  have lw := fun d (Q : am_Q) => m_laysWays (d := d) (Q := Q) hW hS.p hw
  have we := wS_eq (l := S.1) WH_0
  have f1 : Fw XMP M (ww M0 S.1) := f0.tr (Fw_ww.mo (fun c j z => Or.inl z))
  have w1 : WR (ww M0 S.1) := (Fw_ww (l := S.1)).2 hW
  have wle := wS_le (g := drD S.1) (s := 0) hl
  have e1 := isin_hiB (n := S.1.length) (by omega) a
  have e2 := isin_hiB (n := wS (drD S.1) S.1.length 0) (by omega) i
  unfold rowA
  rw [we]
  by_cases c : 0 ≤ a ∧ a < nI S.1.length
  · obtain ⟨e, he, rfl⟩ := deed_x (by omega) c
    rw [if_pos c]
    rw [decide_eq_true c] at e1
    by_cases c2 : 0 ≤ i ∧ i < nI (wS (drD S.1) S.1.length 0)
    · rw [if_pos c2]
      rw [decide_eq_true c2] at e2
      obtain ⟨k, hk, rfl⟩ := nI_of (Int32.not_lt.mpr c2.1)
      have hki : k < wS (drD S.1) S.1.length 0 := by have := c2.2; rwa [nI_ltE hk (by omega)] at this
      have pk := fun d (Q : am_Q) => m_picks (d := d) (Q := Q) (l := S.1) (N := ww M0 S.1) (i := k) w1 (by unfold ww; rw [gI_fro (by omega), nd_o (by omega)]; exact g36) (fun t ht => by unfold ww; rw [gI_fro (by omega)]; exact nd_a ht) hl (fun s hs => by unfold ww; rw [gI_fr (Nat.zero_le _) hs]) hki
      refine ⟨fl (ww M0 S.1) 483 S.1.length (fun t => nI (rdd (drD S.1) S.1.length k t)), fun d Q => ?_, f1.tr (Fw.f (fun t _ => Or.inr rfl))⟩
      have gr : gI (fl (ww M0 S.1) 483 S.1.length (fun t => nI (rdd (drD S.1) S.1.length k t))) 483 e = nI (rdd (drD S.1) S.1.length k e) := gI_fl he
      have ec : (nI e).toNatClampNeg = e := nI_clamp (by omega)
      rw [ec, nI_clamp hk, rdd_eq (by rw [we]; exact hki) he, eX11_row]
      simp (disch := (first | assumption | omega | decide)) only [sX11_row_0, sX11_row_1, sX11_row_2, sX11_row_5, sX11_row_6, sX11_row_7, sX11_row_8, sX11_row_9, sX11_row_12, sX11_row_14, sX11_row_15, sX11_row_16, sX11_row_17, sX11_row_18, sX11_row_21, sX11_row_24, sX11_row_25, sX11_row_26, sX11_row_27, sX11_row_28, sX11_row_31, sX11_row_32, sX11_row_33, sX11_row_34, sX11_row_37, sX11_row_40, sX11_row_41, sX11_row_42, sX11_row_43, sX11_row_44, sX11_row_47, sX11_row_48, sX11_row_51, sX11_row_52, sX11_row_53, kI_i, kL_l, kV_v, am_rv_s, am_kl_i, am_kl_r, am_kl_n, am_kl_l, true_and, and_true, and_self, true_or, or_true, implies_true, forall_const, not_true_eq_false, not_false_eq_true, false_implies, true_implies, if_true, if_false, Bool.true_eq_false, Bool.false_eq_true, ob_457, hM0, r_457_27, n36, in_465, nI_clamp (show 36 < 2147483648 by omega), g36, c64_0, m_isIn, e1, bz_t, i01, lw, e2, pk, gR_fl, r_457_49, in_483 (show e < 12 by omega), ec, gr]
    · rw [if_neg c2]
      rw [decide_eq_false c2] at e2
      refine ⟨ww M0 S.1, fun d Q => ?_, f1⟩
      rw [eX11_row]
      simp (disch := (first | assumption | omega | decide)) only [sX11_row_0, sX11_row_1, sX11_row_2, sX11_row_5, sX11_row_6, sX11_row_7, sX11_row_8, sX11_row_9, sX11_row_12, sX11_row_14, sX11_row_15, sX11_row_16, sX11_row_17, sX11_row_18, sX11_row_21, sX11_row_24, sX11_row_25, sX11_row_26, sX11_row_27, sX11_row_28, sX11_row_31, sX11_row_32, sX11_row_33, sX11_row_34, sX11_row_37, sX11_row_40, sX11_row_41, sX11_row_42, sX11_row_43, sX11_row_44, sX11_row_47, sX11_row_48, sX11_row_51, sX11_row_52, sX11_row_53, kI_i, kL_l, kV_v, am_rv_s, am_kl_i, am_kl_r, am_kl_n, am_kl_l, true_and, and_true, and_self, true_or, or_true, implies_true, forall_const, not_true_eq_false, not_false_eq_true, false_implies, true_implies, if_true, if_false, Bool.true_eq_false, Bool.false_eq_true, ob_457, hM0, r_457_27, n36, in_465, nI_clamp (show 36 < 2147483648 by omega), g36, c64_0, m_isIn, e1, bz_t, bz_f, i01, lw, e2]
  · rw [if_neg c]
    rw [decide_eq_false c] at e1
    refine ⟨M0, fun d Q => ?_, f0⟩
    rw [eX11_row]
    simp (disch := (first | assumption | omega | decide)) only [sX11_row_0, sX11_row_1, sX11_row_2, sX11_row_5, sX11_row_6, sX11_row_7, sX11_row_8, sX11_row_9, sX11_row_12, sX11_row_14, sX11_row_15, sX11_row_16, sX11_row_17, sX11_row_18, sX11_row_21, sX11_row_24, sX11_row_25, sX11_row_26, sX11_row_27, sX11_row_28, sX11_row_31, sX11_row_32, sX11_row_33, sX11_row_34, sX11_row_37, sX11_row_40, sX11_row_41, sX11_row_42, sX11_row_43, sX11_row_44, sX11_row_47, sX11_row_48, sX11_row_51, sX11_row_52, sX11_row_53, kI_i, kL_l, kV_v, am_rv_s, am_kl_i, am_kl_r, am_kl_n, am_kl_l, true_and, and_true, and_self, true_or, or_true, implies_true, forall_const, not_true_eq_false, not_false_eq_true, false_implies, true_implies, if_true, if_false, Bool.true_eq_false, Bool.false_eq_true, ob_457, hM0, r_457_27, n36, in_465, nI_clamp (show 36 < 2147483648 by omega), g36, c64_0, m_isIn, e1, bz_f]
end
