theorem isin_hiB {n : Nat} (hn : n < 2 ^ 31) (v : Int32) : (decide (0 ≤ v) && decide (v ≤ nI n - 1)) = decide (0 ≤ v ∧ v < nI n) := by
  by_cases z : 0 ≤ v
  · have e : (v ≤ nI n - 1) = (v < nI n) := by
      obtain ⟨j, hj, rfl⟩ := nI_of (Int32.not_lt.mpr z)
      by_cases hz : n = 0
      · subst hz
        rw [show nI 0 - 1 = -1 from by decide, nI_ltE hj (by omega)]
        refine propext ⟨fun q => absurd (Int32.le_trans z q) (by decide), fun q => by omega⟩
      · rw [nI_sub1 (by omega), nI_leE hj (by omega), nI_ltE hj (by omega)]
        exact propext (by omega)
    by_cases q : v < nI n
    · rw [decide_eq_true z, decide_eq_true (e ▸ q), decide_eq_true ⟨z, q⟩]; rfl
    · have q' : ¬ v ≤ nI n - 1 := fun w => q (e ▸ w)
      have q2 : ¬ (0 ≤ v ∧ v < nI n) := fun w => q w.2
      rw [decide_eq_false q', decide_eq_false q2, Bool.and_false]
  · have q2 : ¬ (0 ≤ v ∧ v < nI n) := fun w => z w.1
    rw [decide_eq_false z, decide_eq_false q2, Bool.false_and]
def rowA (l : List Dd) (i a : Int32) : Int32 := if 0 ≤ a ∧ a < nI l.length then (if 0 ≤ i ∧ i < nI (wS (bl l) l.length 0) then nI (rdd (bl l) l.length i.toNatClampNeg a.toNatClampNeg) else -1) else -1
section
variable {M N : am_M} {ap lim n : Nat} {S : Sg} {P : List Sg} {l : List Dd} {d : Nat} {Q : am_Q} {K : Int32}
theorem c_row {i a : Int32} (hW : WR M) (h : StC M 3 ap lim S) (hl : S.1.length ≤ 12) : ∃ M', (∀ d (Q : am_Q), am_big (d + 4) mX10_row [.ref 0, .int i, .int a] 488 M Q = Q (some (.int (rowA S.1 i a))) M') ∧ Fw XLW M M' := by
  have hL := StC_LH h
  have ha := fun d (Q : am_Q) => c_hasL (d := d) (Q := Q) (y := a) hL
  have lk := fun d (Q : am_Q) => c_look (d := d) (Q := Q) hW hL hl
  have cw := fun d (Q : am_Q) => c_lkw (d := d) (Q := Q) (l := S.1) hW hl
  have wl : WR (lkM M S.1) := Fw_lk.2 hW
  have f1 : Fw XLW M (cwM (lkM M S.1) S.1) := Fw_lkW.tr Fw_cw
  have wc : WR (cwM (lkM M S.1) S.1) := f1.2 hW
  have wle := wS_le (g := bl S.1) (s := 0) hl
  unfold rowA
  by_cases c : 0 ≤ a ∧ a < nI S.1.length
  · obtain ⟨e, he, rfl⟩ := deed_x (by omega) c
    rw [if_pos c]
    by_cases c2 : 0 ≤ i ∧ i < nI (wS (bl S.1) S.1.length 0)
    · rw [if_pos c2]
      obtain ⟨k, hk, rfl⟩ := nI_of (Int32.not_lt.mpr c2.1)
      have hki : k < wS (bl S.1) S.1.length 0 := by have := c2.2; rwa [nI_ltE hk (by omega)] at this
      have dw := fun d (Q : am_Q) => c_deedOfWay (d := d) (Q := Q) (l := S.1) (N := cwM (lkM M S.1) S.1) (i := k) (a := e) wc (by unfold cwM; rw [gI_fro (by omega), gI_fn (by omega)]; exact lk_n) (fun t ht => by unfold cwM; rw [gI_fro (by omega), gI_fn (by omega)]; exact lk_a ht) hl (fun s hs hs2 => by unfold cwM; rw [gI_fr (Nat.zero_le _) hs2]; unfold wkF; rw [if_pos (whB_iff.mpr hs)]) hki he
      have n0 := nI_lt0 (k := k) hk
      have lt := eq_true c2.2
      refine ⟨cwM (lkM M S.1) S.1, fun d Q => ?_, f1⟩
      rw [nI_clamp (show e < 2 ^ 31 by omega), nI_clamp hk, eX10_row]
      simp (disch := (first | assumption | omega | decide)) only [sX10_row_0, sX10_row_1, sX10_row_4, sX10_row_7, sX10_row_8, sX10_row_11, sX10_row_14, sX10_row_15, sX10_row_16, sX10_row_17, sX10_row_20, sX10_row_21, sX10_row_24, sX10_row_27, sX10_row_30, sX10_row_31, sX10_row_34, sX10_row_37, sX10_row_38, sX10_row_39, sX10_row_42, sX10_row_43, sX10_row_44, sX10_row_47, sX10_row_48, sX10_row_51, sX10_row_52, sX10_row_55, sX10_row_56, sX10_row_57, sX10_row_60, kI_i, kL_l, kV_v, am_rv_s, am_kl_i, am_kl_r, am_kl_n, am_kl_l, true_and, and_true, and_self, true_or, or_true, implies_true, forall_const, not_true_eq_false, not_false_eq_true, false_implies, true_implies, if_true, if_false, Bool.true_eq_false, Bool.false_eq_true, ob_0, ob_3, ob_4, ob_424, r_0_1, r_3_0, r_0_13, ha, c, decide_true, bz_t, i01, lk, cw, n0, lt, dw]
    · refine ⟨cwM (lkM M S.1) S.1, fun d Q => ?_, f1⟩
      rw [if_neg c2, eX10_row]
      by_cases n0 : i < 0
      · simp (disch := (first | assumption | omega | decide)) only [sX10_row_0, sX10_row_1, sX10_row_4, sX10_row_7, sX10_row_8, sX10_row_11, sX10_row_14, sX10_row_15, sX10_row_16, sX10_row_17, sX10_row_20, sX10_row_21, sX10_row_24, sX10_row_27, sX10_row_30, sX10_row_31, sX10_row_34, sX10_row_37, sX10_row_38, sX10_row_39, sX10_row_42, sX10_row_43, sX10_row_44, sX10_row_47, sX10_row_48, sX10_row_51, sX10_row_52, sX10_row_55, sX10_row_56, sX10_row_57, sX10_row_60, kI_i, kL_l, kV_v, am_rv_s, am_kl_i, am_kl_r, am_kl_n, am_kl_l, true_and, and_true, and_self, true_or, or_true, implies_true, forall_const, not_true_eq_false, not_false_eq_true, false_implies, true_implies, if_true, if_false, Bool.true_eq_false, Bool.false_eq_true, ob_0, ob_3, ob_4, ob_424, r_0_1, r_3_0, r_0_13, ha, c, decide_true, bz_t, i01, lk, cw, n0]
      · have lt : ¬ i < nI (wS (bl S.1) S.1.length 0) := fun z => c2 ⟨Int32.not_lt.mp n0, z⟩
        simp (disch := (first | assumption | omega | decide)) only [sX10_row_0, sX10_row_1, sX10_row_4, sX10_row_7, sX10_row_8, sX10_row_11, sX10_row_14, sX10_row_15, sX10_row_16, sX10_row_17, sX10_row_20, sX10_row_21, sX10_row_24, sX10_row_27, sX10_row_30, sX10_row_31, sX10_row_34, sX10_row_37, sX10_row_38, sX10_row_39, sX10_row_42, sX10_row_43, sX10_row_44, sX10_row_47, sX10_row_48, sX10_row_51, sX10_row_52, sX10_row_55, sX10_row_56, sX10_row_57, sX10_row_60, kI_i, kL_l, kV_v, am_rv_s, am_kl_i, am_kl_r, am_kl_n, am_kl_l, true_and, and_true, and_self, true_or, or_true, implies_true, forall_const, not_true_eq_false, not_false_eq_true, false_implies, true_implies, if_true, if_false, Bool.true_eq_false, Bool.false_eq_true, ob_0, ob_3, ob_4, ob_424, r_0_1, r_3_0, r_0_13, ha, c, decide_true, bz_t, i01, lk, cw, n0, lt]
  · refine ⟨M, fun d Q => ?_, Fw.rf⟩
    rw [if_neg c, eX10_row]
    simp (disch := (first | assumption | omega | decide)) only [sX10_row_0, sX10_row_1, sX10_row_4, sX10_row_7, sX10_row_8, sX10_row_11, sX10_row_14, sX10_row_15, sX10_row_16, sX10_row_17, sX10_row_20, sX10_row_21, sX10_row_24, sX10_row_27, sX10_row_30, sX10_row_31, sX10_row_34, sX10_row_37, sX10_row_38, sX10_row_39, sX10_row_42, sX10_row_43, sX10_row_44, sX10_row_47, sX10_row_48, sX10_row_51, sX10_row_52, sX10_row_55, sX10_row_56, sX10_row_57, sX10_row_60, kI_i, kL_l, kV_v, am_rv_s, am_kl_i, am_kl_r, am_kl_n, am_kl_l, true_and, and_true, and_self, true_or, or_true, implies_true, forall_const, not_true_eq_false, not_false_eq_true, false_implies, true_implies, if_true, if_false, Bool.true_eq_false, Bool.false_eq_true, ob_0, ob_3, ob_4, r_0_1, r_3_0, ha, c, decide_false, bz_f]
end
