theorem sw0_4 (x : Int32) : (x.toInt < 0 ∨ 4 < x.toInt) = (¬ x = 0 ∧ ¬ x = 1 ∧ ¬ x = 2 ∧ ¬ x = 3 ∧ ¬ x = 4) := by
  rw [i32e x 0, i32e x 1, i32e x 2, i32e x 3, i32e x 4]
  have e0 : (0 : Int32).toInt = 0 := by decide
  have e1 : (1 : Int32).toInt = 1 := by decide
  have e2 : (2 : Int32).toInt = 2 := by decide
  have e3 : (3 : Int32).toInt = 3 := by decide
  have e4 : (4 : Int32).toInt = 4 := by decide
  rw [e0, e1, e2, e3, e4]
  exact propext ⟨fun h => by omega, fun h => by omega⟩
theorem sw0_5 (x : Int32) : (x.toInt < 0 ∨ 5 < x.toInt) = (¬ x = 0 ∧ ¬ x = 1 ∧ ¬ x = 2 ∧ ¬ x = 3 ∧ ¬ x = 4 ∧ ¬ x = 5) := by
  rw [i32e x 0, i32e x 1, i32e x 2, i32e x 3, i32e x 4, i32e x 5]
  have e0 : (0 : Int32).toInt = 0 := by decide
  have e1 : (1 : Int32).toInt = 1 := by decide
  have e2 : (2 : Int32).toInt = 2 := by decide
  have e3 : (3 : Int32).toInt = 3 := by decide
  have e4 : (4 : Int32).toInt = 4 := by decide
  have e5 : (5 : Int32).toInt = 5 := by decide
  rw [e0, e1, e2, e3, e4, e5]
  exact propext ⟨fun h => by omega, fun h => by omega⟩
theorem sw0_6 (x : Int32) : (x.toInt < 0 ∨ 6 < x.toInt) = (¬ x = 0 ∧ ¬ x = 1 ∧ ¬ x = 2 ∧ ¬ x = 3 ∧ ¬ x = 4 ∧ ¬ x = 5 ∧ ¬ x = 6) := by
  rw [i32e x 0, i32e x 1, i32e x 2, i32e x 3, i32e x 4, i32e x 5, i32e x 6]
  have e0 : (0 : Int32).toInt = 0 := by decide
  have e1 : (1 : Int32).toInt = 1 := by decide
  have e2 : (2 : Int32).toInt = 2 := by decide
  have e3 : (3 : Int32).toInt = 3 := by decide
  have e4 : (4 : Int32).toInt = 4 := by decide
  have e5 : (5 : Int32).toInt = 5 := by decide
  have e6 : (6 : Int32).toInt = 6 := by decide
  rw [e0, e1, e2, e3, e4, e5, e6]
  exact propext ⟨fun h => by omega, fun h => by omega⟩
theorem sw0_11 (x : Int32) : (x.toInt < 0 ∨ 11 < x.toInt) = (¬ x = 0 ∧ ¬ x = 1 ∧ ¬ x = 2 ∧ ¬ x = 3 ∧ ¬ x = 4 ∧ ¬ x = 5 ∧ ¬ x = 6 ∧ ¬ x = 7 ∧ ¬ x = 8 ∧ ¬ x = 9 ∧ ¬ x = 10 ∧ ¬ x = 11) := by
  rw [i32e x 0, i32e x 1, i32e x 2, i32e x 3, i32e x 4, i32e x 5, i32e x 6, i32e x 7, i32e x 8, i32e x 9, i32e x 10, i32e x 11]
  have e0 : (0 : Int32).toInt = 0 := by decide
  have e1 : (1 : Int32).toInt = 1 := by decide
  have e2 : (2 : Int32).toInt = 2 := by decide
  have e3 : (3 : Int32).toInt = 3 := by decide
  have e4 : (4 : Int32).toInt = 4 := by decide
  have e5 : (5 : Int32).toInt = 5 := by decide
  have e6 : (6 : Int32).toInt = 6 := by decide
  have e7 : (7 : Int32).toInt = 7 := by decide
  have e8 : (8 : Int32).toInt = 8 := by decide
  have e9 : (9 : Int32).toInt = 9 := by decide
  have e10 : (10 : Int32).toInt = 10 := by decide
  have e11 : (11 : Int32).toInt = 11 := by decide
  rw [e0, e1, e2, e3, e4, e5, e6, e7, e8, e9, e10, e11]
  exact propext ⟨fun h => by omega, fun h => by omega⟩
def deedA (l : List Dd) (y w : Int32) : Int32 := if 0 ≤ y ∧ y < nI l.length then (if w = 0 then sf l y.toNatClampNeg else if w = 1 then pf l y.toNatClampNeg else if w = 2 then xf l y.toNatClampNeg else -1) else -1
theorem in02 {w : Int32} : (decide (0 ≤ w) && decide (w ≤ 2)) = decide (w = 0 ∨ w = 1 ∨ w = 2) := by
  have e : (0 ≤ w ∧ w ≤ 2) ↔ (w = 0 ∨ w = 1 ∨ w = 2) := by
    rw [Int32.le_iff_toInt_le, Int32.le_iff_toInt_le, i32e w 0, i32e w 1, i32e w 2]
    have e0 : (0 : Int32).toInt = 0 := by decide
    have e1 : (1 : Int32).toInt = 1 := by decide
    have e2 : (2 : Int32).toInt = 2 := by decide
    rw [e0, e1, e2]; omega
  by_cases c : 0 ≤ w ∧ w ≤ 2
  · rw [decide_eq_true (e.mp c), decide_eq_true c.1, decide_eq_true c.2]; rfl
  · rw [decide_eq_false (fun z => c (e.mpr z))]
    by_cases z : 0 ≤ w
    · rw [decide_eq_false (fun q => c ⟨z, q⟩), Bool.and_false]
    · rw [decide_eq_false z, Bool.false_and]
theorem in01 {w : Int32} : (decide (0 ≤ w) && decide (w ≤ 1)) = decide (w = 0 ∨ w = 1) := by
  have e : (0 ≤ w ∧ w ≤ 1) ↔ (w = 0 ∨ w = 1) := by
    rw [Int32.le_iff_toInt_le, Int32.le_iff_toInt_le, i32e w 0, i32e w 1]
    have e0 : (0 : Int32).toInt = 0 := by decide
    have e1 : (1 : Int32).toInt = 1 := by decide
    rw [e0, e1]; omega
  by_cases c : 0 ≤ w ∧ w ≤ 1
  · rw [decide_eq_true (e.mp c), decide_eq_true c.1, decide_eq_true c.2]; rfl
  · rw [decide_eq_false (fun z => c (e.mpr z))]
    by_cases z : 0 ≤ w
    · rw [decide_eq_false (fun q => c ⟨z, q⟩), Bool.and_false]
    · rw [decide_eq_false z, Bool.false_and]
section
variable {M N : am_M} {ap lim : Nat} {S : Sg} {P : List Sg} {l : List Dd} {d : Nat} {Q : am_Q}
theorem c_tellL {a : Nat} {y w : Int32} (h : LH M a l) : am_big (d + 2) mX0_tell [.ref a, .int y, .int w] 488 M Q = Q (some (.int (deedA l y w))) M := by
  have hl := h.1.2.2
  unfold deedA
  by_cases c : 0 ≤ y ∧ y < nI l.length
  · obtain ⟨e, he, rfl⟩ := deed_x hl c
    rw [c_tell h.1 he, if_pos c, nI_clamp (by omega), (LH_s h e he).1, (LH_s h e he).2, LH_x h e he]
  · rw [c_tell0 h.1.1 (by rw [h.1.2.1]; exact c), if_neg c]
theorem c_deed {y w : Int32} (hW : WR M) (h : StC M 3 ap lim S) : am_big (d + 3) mX10_deed [.ref 0, .int y, .int w] 488 M Q = Q (some (.int (deedA S.1 y w))) M := by
  rw [eX10_deed]
  simp (disch := (first | assumption | omega | decide)) only [sX10_deed_0, sX10_deed_1, sX10_deed_4, sX10_deed_7, sX10_deed_8, sX10_deed_9, sX10_deed_12, kI_i, kL_l, kV_v, am_rv_s, am_kl_i, am_kl_r, am_kl_n, am_kl_l, true_and, and_true, and_self, true_or, or_true, implies_true, forall_const, not_true_eq_false, not_false_eq_true, false_implies, true_implies, if_true, if_false, Bool.true_eq_false, Bool.false_eq_true, ob_0, ob_3, ob_4, r_0_1, r_3_0, c_tellL (StC_LH h)]
theorem m_deed {y w : Int32} (h : RS M ap lim S P) : am_big (d + 3) mX11_deed [.ref 457, .int y, .int w] 488 M Q = Q (some (.int (deedA S.1 y w))) (sI M 457 0 0) := by
  obtain ⟨hW, hS, hP, hf, hm, hw, hlim, ht⟩ := RS_th h
  have hl := hS.1
  generalize hM0 : sI M 457 0 0 = M0 at *
  have idd := fun d (Q : am_Q) => m_isDeed (d := d) (Q := Q) (y := y) hW hS.p
  unfold deedA
  rw [eX11_deed]
  by_cases c : 0 ≤ y ∧ y < nI S.1.length
  · obtain ⟨e, he, rfl⟩ := deed_x (by omega) c
    obtain ⟨g1, g2, g3⟩ := Pc_get hS.p he
    rw [if_pos c, nI_clamp (by omega)]
    by_cases w0 : w = 0
    · subst w0
      simp (disch := (first | assumption | omega | decide)) only [sX11_deed_0, sX11_deed_1, sX11_deed_2, sX11_deed_5, sX11_deed_6, sX11_deed_7, sX11_deed_10, sX11_deed_13, sX11_deed_14, sX11_deed_15, sX11_deed_16, sX11_deed_19, sX11_deed_22, sX11_deed_25, sX11_deed_26, sX11_deed_29, sX11_deed_30, sX11_deed_31, sX11_deed_32, sX11_deed_33, sX11_deed_34, sX11_deed_35, sX11_deed_38, sX11_deed_39, kI_i, kL_l, kV_v, am_rv_s, am_kl_i, am_kl_r, am_kl_n, am_kl_l, true_and, and_true, and_self, true_or, or_true, implies_true, forall_const, not_true_eq_false, not_false_eq_true, false_implies, true_implies, if_true, if_false, Bool.true_eq_false, Bool.false_eq_true, ob_457, hM0, idd, c, decide_true, bz_t, i01, c64_0, c64_2, m_isIn, in02, true_or, r_457_27, nI_m3, Int32.add_zero, in_465, nI_clamp, g1]
    · by_cases w1 : w = 1
      · subst w1
        simp (disch := (first | assumption | omega | decide)) only [sX11_deed_0, sX11_deed_1, sX11_deed_2, sX11_deed_5, sX11_deed_6, sX11_deed_7, sX11_deed_10, sX11_deed_13, sX11_deed_14, sX11_deed_15, sX11_deed_16, sX11_deed_19, sX11_deed_22, sX11_deed_25, sX11_deed_26, sX11_deed_29, sX11_deed_30, sX11_deed_31, sX11_deed_32, sX11_deed_33, sX11_deed_34, sX11_deed_35, sX11_deed_38, sX11_deed_39, kI_i, kL_l, kV_v, am_rv_s, am_kl_i, am_kl_r, am_kl_n, am_kl_l, true_and, and_true, and_self, true_or, or_true, implies_true, forall_const, not_true_eq_false, not_false_eq_true, false_implies, true_implies, if_true, if_false, Bool.true_eq_false, Bool.false_eq_true, ob_457, hM0, idd, c, decide_true, bz_t, i01, c64_0, c64_2, m_isIn, in02, true_or, or_true, r_457_27, nI_m3, nI_1, in_465, nI_clamp, g2, nq10]
      · by_cases w2 : w = 2
        · subst w2
          simp (disch := (first | assumption | omega | decide)) only [sX11_deed_0, sX11_deed_1, sX11_deed_2, sX11_deed_5, sX11_deed_6, sX11_deed_7, sX11_deed_10, sX11_deed_13, sX11_deed_14, sX11_deed_15, sX11_deed_16, sX11_deed_19, sX11_deed_22, sX11_deed_25, sX11_deed_26, sX11_deed_29, sX11_deed_30, sX11_deed_31, sX11_deed_32, sX11_deed_33, sX11_deed_34, sX11_deed_35, sX11_deed_38, sX11_deed_39, kI_i, kL_l, kV_v, am_rv_s, am_kl_i, am_kl_r, am_kl_n, am_kl_l, true_and, and_true, and_self, true_or, or_true, implies_true, forall_const, not_true_eq_false, not_false_eq_true, false_implies, true_implies, if_true, if_false, Bool.true_eq_false, Bool.false_eq_true, ob_457, hM0, idd, c, decide_true, bz_t, i01, c64_0, c64_2, m_isIn, in02, or_true, r_457_27, nI_m3, nI_2, in_465, nI_clamp, g3, nq20, nq21]
        · simp (disch := (first | assumption | omega | decide)) only [sX11_deed_0, sX11_deed_1, sX11_deed_2, sX11_deed_5, sX11_deed_6, sX11_deed_7, sX11_deed_10, sX11_deed_13, sX11_deed_14, sX11_deed_15, sX11_deed_16, sX11_deed_19, sX11_deed_22, sX11_deed_25, sX11_deed_26, sX11_deed_29, sX11_deed_30, sX11_deed_31, sX11_deed_32, sX11_deed_33, sX11_deed_34, sX11_deed_35, sX11_deed_38, sX11_deed_39, kI_i, kL_l, kV_v, am_rv_s, am_kl_i, am_kl_r, am_kl_n, am_kl_l, true_and, and_true, and_self, true_or, or_true, implies_true, forall_const, not_true_eq_false, not_false_eq_true, false_implies, true_implies, if_true, if_false, Bool.true_eq_false, Bool.false_eq_true, ob_457, hM0, idd, c, decide_true, bz_t, i01, c64_0, c64_2, m_isIn, in02, w0, w1, w2, or_self, decide_false, bz_f]
  · rw [if_neg c]
    simp (disch := (first | assumption | omega | decide)) only [sX11_deed_0, sX11_deed_1, sX11_deed_2, sX11_deed_5, sX11_deed_6, sX11_deed_7, sX11_deed_10, sX11_deed_13, sX11_deed_14, sX11_deed_15, sX11_deed_16, sX11_deed_19, sX11_deed_22, sX11_deed_25, sX11_deed_26, sX11_deed_29, sX11_deed_30, sX11_deed_31, sX11_deed_32, sX11_deed_33, sX11_deed_34, sX11_deed_35, sX11_deed_38, sX11_deed_39, kI_i, kL_l, kV_v, am_rv_s, am_kl_i, am_kl_r, am_kl_n, am_kl_l, true_and, and_true, and_self, true_or, or_true, implies_true, forall_const, not_true_eq_false, not_false_eq_true, false_implies, true_implies, if_true, if_false, Bool.true_eq_false, Bool.false_eq_true, ob_457, hM0, idd, c, decide_false, bz_f]
def uponA (l : List Dd) (y : Int32) : Int32 := if thL l y = true then ovL l y else -1
theorem c_upon {y : Int32} (hW : WR M) (h : StC M 3 ap lim S) : am_big (d + 3) mX10_upon [.ref 0, .int y] 488 M Q = Q (some (.int (uponA S.1 y))) M := by
  have hL := StC_LH h
  have e : ovr (gI M 5) (gI M 6) (gI M 7) y S.1.length = ovL S.1 y := ovr_congr (LH_s hL) (LH_x hL)
  have co : ∀ d (Q : am_Q), am_big (d + 1) mX0_over [.ref 4, .int y] 488 M Q = Q (some (.int (ovL S.1 y))) M := fun d Q => by rw [c_over hL.1]; exact congrArg (fun z => Q (some (.int z)) M) e
  rw [eX10_upon]
  unfold uponA
  cases c : thL S.1 y with
  | true => simp (disch := (first | assumption | omega | decide)) only [sX10_upon_0, sX10_upon_1, sX10_upon_4, sX10_upon_7, sX10_upon_8, sX10_upon_11, sX10_upon_14, sX10_upon_15, sX10_upon_18, sX10_upon_21, sX10_upon_22, sX10_upon_25, sX10_upon_28, sX10_upon_29, kI_i, kL_l, kV_v, am_rv_s, am_kl_i, am_kl_r, am_kl_n, am_kl_l, true_and, and_true, and_self, true_or, or_true, implies_true, forall_const, not_true_eq_false, not_false_eq_true, false_implies, true_implies, if_true, if_false, Bool.true_eq_false, Bool.false_eq_true, ob_0, ob_3, ob_4, r_0_1, r_3_0, c_isThere hL.1, thr_L hL, c, bz_t, i01, co]
  | false => simp (disch := (first | assumption | omega | decide)) only [sX10_upon_0, sX10_upon_1, sX10_upon_4, sX10_upon_7, sX10_upon_8, sX10_upon_11, sX10_upon_14, sX10_upon_15, sX10_upon_18, sX10_upon_21, sX10_upon_22, sX10_upon_25, sX10_upon_28, sX10_upon_29, kI_i, kL_l, kV_v, am_rv_s, am_kl_i, am_kl_r, am_kl_n, am_kl_l, true_and, and_true, and_self, true_or, or_true, implies_true, forall_const, not_true_eq_false, not_false_eq_true, false_implies, true_implies, if_true, if_false, Bool.true_eq_false, Bool.false_eq_true, ob_0, ob_3, ob_4, r_0_1, r_3_0, c_isThere hL.1, thr_L hL, c, bz_f]
theorem th_x (hw : WFl l) {y : Int32} (h : thL l y = true) : ∃ i, i < 6 ∧ y = nI i := by
  unfold thL at h
  obtain ⟨k, hk⟩ := Option.isSome_iff_exists.mp h
  obtain ⟨a1, a2, a3⟩ := lst_lt hk
  obtain ⟨s, p, x', e1, e2, e3, b1, b2, b3, b4⟩ := WF_at hw a1
  exact ⟨p, b2, a3.symm.trans e2⟩
theorem upon_L {i : Nat} (hW : WR M) (hw : WFl l) (hi : i < 9) : am_big (d + 1) mX11_upon0 [.ref 457, .int (nI i)] 488 (stL M l l.length) Q = Q (some (.int (ovL l (nI i)))) (stL M l l.length) := by
  have wS : WR (stL M l l.length) := hW
  rw [m_upon0 wS]
  have e : upN (gI (stL M l l.length) 471) (nI i) 6 = upN (onF l l.length) (nI i) 6 := by
    apply Nat.eq_of_testBit_eq
    intro j
    rw [upN_bit, upN_bit]
    by_cases hj : j < 6
    · rw [show gI (stL M l l.length) 471 j = onF l l.length j from gI_st4 hj]
    · simp [hj]
  rw [e, up_ov hw hi]
def XMr (c j : Nat) : Prop := (c = 457 ∧ j = 0) ∨ XS c j
theorem Fw_thr {M : am_M} : Fw XMr M (sI M 457 0 0) := Fw.s (Or.inl ⟨rfl, rfl⟩)
theorem XS_XMr (c j : Nat) (h : XS c j) : XMr c j := Or.inr h
theorem m_upon {y : Int32} (h : RS M ap lim S P) : ∃ M', (∀ d (Q : am_Q), am_big (d + 4) mX11_upon [.ref 457, .int y] 488 M Q = Q (some (.int (uponA S.1 y))) M') ∧ Fw XMr M M' := by
  obtain ⟨hW, hS, hP, hf, hm, hw, hlim, ht⟩ := RS_th h
  have f0 := Fw_thr (M := M)
  generalize hM0 : sI M 457 0 0 = M0 at *
  have ms := fun d (Q : am_Q) => m_stands (d := d) (Q := Q) hW (Or.inl rfl) hS.p hw
  have it := fun d (Q : am_Q) => m_isThereL (d := d) (Q := Q) (x := y) hW hw
  refine ⟨stL M0 S.1 S.1.length, fun d Q => ?_, f0.tr (Fw_stL.mo XS_XMr)⟩
  rw [eX11_upon]
  unfold uponA
  cases c : thL S.1 y with
  | true =>
    obtain ⟨i, hi, rfl⟩ := th_x hw c
    have up := fun d (Q : am_Q) => upon_L (d := d) (Q := Q) (i := i) hW hw (by omega)
    simp (disch := (first | assumption | omega | decide)) only [sX11_upon_0, sX11_upon_1, sX11_upon_2, sX11_upon_5, sX11_upon_6, sX11_upon_7, sX11_upon_10, sX11_upon_13, sX11_upon_14, sX11_upon_15, sX11_upon_18, sX11_upon_21, sX11_upon_22, sX11_upon_23, sX11_upon_26, sX11_upon_29, sX11_upon_30, kI_i, kL_l, kV_v, am_rv_s, am_kl_i, am_kl_r, am_kl_n, am_kl_l, true_and, and_true, and_self, true_or, or_true, implies_true, forall_const, not_true_eq_false, not_false_eq_true, false_implies, true_implies, if_true, if_false, Bool.true_eq_false, Bool.false_eq_true, ob_457, hM0, r_457_27, ms, it, c, bz_t, i01, up]
  | false => simp (disch := (first | assumption | omega | decide)) only [sX11_upon_0, sX11_upon_1, sX11_upon_2, sX11_upon_5, sX11_upon_6, sX11_upon_7, sX11_upon_10, sX11_upon_13, sX11_upon_14, sX11_upon_15, sX11_upon_18, sX11_upon_21, sX11_upon_22, sX11_upon_23, sX11_upon_26, sX11_upon_29, sX11_upon_30, kI_i, kL_l, kV_v, am_rv_s, am_kl_i, am_kl_r, am_kl_n, am_kl_l, true_and, and_true, and_self, true_or, or_true, implies_true, forall_const, not_true_eq_false, not_false_eq_true, false_implies, true_implies, if_true, if_false, Bool.true_eq_false, Bool.false_eq_true, ob_457, hM0, r_457_27, ms, it, c, bz_f]
def logA (lg : Lg) (y w : Int32) : Int32 := if 0 ≤ y ∧ y < nI lg.length then (if w = 0 then (lg.getD y.toNatClampNeg (0, 0)).1 else if w = 1 then (lg.getD y.toNatClampNeg (0, 0)).2 else -1) else -1
theorem lg_get {lg : Lg} {i : Nat} (h : i < lg.length) : lg.getD i (0, 0) = lg[i] := by rw [List.getD_eq_getElem?_getD, List.getElem?_eq_getElem h]; rfl
theorem c_log {y w : Int32} (hW : WR M) (h : StC M 3 ap lim S) : am_big (d + 2) mX10_log [.ref 0, .int y, .int w] 488 M Q = Q (some (.int (logA S.2.2.2.2 y w))) M := by
  obtain ⟨n, hn, hnt⟩ := h.toN
  obtain ⟨h1, h2, h3, h4, h5, h6, ⟨h7, h9, h9'⟩, h10, h11⟩ := hn
  have ll : ∀ d (Q : am_Q), am_big (d + 1) mX8_logLength [.ref 3] 488 M Q = Q (some (.int (nI S.2.2.2.2.length))) M := fun d Q => by
    have e : (if (60 : Int32) < nI n then 60 else nI n) = nI S.2.2.2.2.length := by
      rw [h9, show (60 : Int32) = nI 60 from rfl]
      by_cases c : 60 < n
      · rw [if_pos (nI_lt c (by omega))]; congr 1; omega
      · rw [if_neg (by rw [nI_ltE (by omega) (by omega)]; exact c)]; congr 1; omega
    rw [eX8_logLength]
    simp (disch := (first | assumption | omega | decide)) only [sX8_logLength_0, sX8_logLength_1, sX8_logLength_4, sX8_logLength_6, sX8_logLength_9, kI_i, kL_l, kV_v, am_rv_s, am_kl_i, am_kl_r, am_kl_n, am_kl_l, true_and, and_true, and_self, true_or, or_true, implies_true, forall_const, not_true_eq_false, not_false_eq_true, false_implies, true_implies, if_true, if_false, Bool.true_eq_false, Bool.false_eq_true, ob_3, h7, e]
  have hl60 : S.2.2.2.2.length ≤ 60 := by omega
  unfold logA
  rw [eX10_log]
  by_cases c0 : y < 0
  · rw [if_neg (fun z => absurd c0 (Int32.not_lt.mpr z.1))]
    simp (disch := (first | assumption | omega | decide)) only [sX10_log_0, sX10_log_1, sX10_log_4, sX10_log_5, sX10_log_6, sX10_log_9, sX10_log_12, sX10_log_15, sX10_log_16, sX10_log_19, sX10_log_20, sX10_log_21, sX10_log_24, sX10_log_25, sX10_log_26, sX10_log_27, sX10_log_30, sX10_log_33, sX10_log_34, sX10_log_35, sX10_log_36, sX10_log_37, sX10_log_39, sX10_log_40, sX10_log_41, sX10_log_42, sX10_log_45, sX10_log_46, sX10_log_49, sX10_log_52, sX10_log_53, sX10_log_54, sX10_log_57, sX10_log_58, sX10_log_61, sX10_log_64, sX10_log_65, sX10_log_66, kI_i, kL_l, kV_v, am_rv_s, am_kl_i, am_kl_r, am_kl_n, am_kl_l, true_and, and_true, and_self, true_or, or_true, implies_true, forall_const, not_true_eq_false, not_false_eq_true, false_implies, true_implies, if_true, if_false, Bool.true_eq_false, Bool.false_eq_true, c0]
  · have c0' : 0 ≤ y := Int32.not_lt.mp c0
    by_cases c1 : y < nI S.2.2.2.2.length
    · obtain ⟨i, hi0, rfl⟩ := nI_of c0
      have hi : i < S.2.2.2.2.length := by rwa [nI_ltE hi0 (by omega)] at c1
      have c1' : (nI S.2.2.2.2.length ≤ nI i) = False := eq_false (Int32.not_le.mpr c1)
      have e1 : nI n - 1 - nI i = nI (n - 1 - i) := by rw [nI_sub1 (by omega), pk_sub (by omega)]
      have e2 : nI (n - 1 - i) - nI (n - 1 - i) / 60 * 60 = nI ((n - 1 - i) % 60) := by rw [show (60 : Int32) = nI 60 from rfl]; exact pk_rem (by omega) (by omega) (by omega)
      have n60 : ((60 : Int32) = 0) = False := eq_false (by decide)
      have hm : (n - 1 - i) % 60 < 60 := Nat.mod_lt _ (by omega)
      obtain ⟨g1, g2⟩ := h9' i hi
      rw [if_pos ⟨c0', c1⟩, nI_clamp (by omega), lg_get hi]
      by_cases w0 : w = 0
      · subst w0
        have z1 : ((0 : Int32) < 0) = False := eq_false (by decide)
        have z2 : ((0 : Int32) ≤ 1) = True := eq_true (by decide)
        simp (disch := (first | assumption | omega | decide)) only [sX10_log_0, sX10_log_1, sX10_log_4, sX10_log_5, sX10_log_6, sX10_log_9, sX10_log_12, sX10_log_15, sX10_log_16, sX10_log_19, sX10_log_20, sX10_log_21, sX10_log_24, sX10_log_25, sX10_log_26, sX10_log_27, sX10_log_30, sX10_log_33, sX10_log_34, sX10_log_35, sX10_log_36, sX10_log_37, sX10_log_39, sX10_log_40, sX10_log_41, sX10_log_42, sX10_log_45, sX10_log_46, sX10_log_49, sX10_log_52, sX10_log_53, sX10_log_54, sX10_log_57, sX10_log_58, sX10_log_61, sX10_log_64, sX10_log_65, sX10_log_66, kI_i, kL_l, kV_v, am_rv_s, am_kl_i, am_kl_r, am_kl_n, am_kl_l, true_and, and_true, and_self, true_or, or_true, implies_true, forall_const, not_true_eq_false, not_false_eq_true, false_implies, true_implies, if_true, if_false, Bool.true_eq_false, Bool.false_eq_true, c0, ob_0, ob_3, r_0_1, ll, c1', z1, z2, h7, e1, e2, n60, r_3_6, in_10, nI_clamp]
        exact congrArg (fun z => Q (some (.int z)) M) g1
      · by_cases w1 : w = 1
        · subst w1
          have z1 : ((1 : Int32) < 0) = False := eq_false (by decide)
          have z2 : ((1 : Int32) ≤ 1) = True := eq_true (by decide)
          simp (disch := (first | assumption | omega | decide)) only [sX10_log_0, sX10_log_1, sX10_log_4, sX10_log_5, sX10_log_6, sX10_log_9, sX10_log_12, sX10_log_15, sX10_log_16, sX10_log_19, sX10_log_20, sX10_log_21, sX10_log_24, sX10_log_25, sX10_log_26, sX10_log_27, sX10_log_30, sX10_log_33, sX10_log_34, sX10_log_35, sX10_log_36, sX10_log_37, sX10_log_39, sX10_log_40, sX10_log_41, sX10_log_42, sX10_log_45, sX10_log_46, sX10_log_49, sX10_log_52, sX10_log_53, sX10_log_54, sX10_log_57, sX10_log_58, sX10_log_61, sX10_log_64, sX10_log_65, sX10_log_66, kI_i, kL_l, kV_v, am_rv_s, am_kl_i, am_kl_r, am_kl_n, am_kl_l, true_and, and_true, and_self, true_or, or_true, implies_true, forall_const, not_true_eq_false, not_false_eq_true, false_implies, true_implies, if_true, if_false, Bool.true_eq_false, Bool.false_eq_true, c0, ob_0, ob_3, r_0_1, ll, c1', z1, z2, h7, e1, e2, n60, i01, r_3_7, in_11, nI_clamp]
          exact congrArg (fun z => Q (some (.int z)) M) g2
        · have hw : (decide (0 ≤ w) && decide (w ≤ 1)) = false := by rw [in01, decide_eq_false (fun z => z.elim w0 w1)]
          by_cases z : w < 0
          · simp (disch := (first | assumption | omega | decide)) only [sX10_log_0, sX10_log_1, sX10_log_4, sX10_log_5, sX10_log_6, sX10_log_9, sX10_log_12, sX10_log_15, sX10_log_16, sX10_log_19, sX10_log_20, sX10_log_21, sX10_log_24, sX10_log_25, sX10_log_26, sX10_log_27, sX10_log_30, sX10_log_33, sX10_log_34, sX10_log_35, sX10_log_36, sX10_log_37, sX10_log_39, sX10_log_40, sX10_log_41, sX10_log_42, sX10_log_45, sX10_log_46, sX10_log_49, sX10_log_52, sX10_log_53, sX10_log_54, sX10_log_57, sX10_log_58, sX10_log_61, sX10_log_64, sX10_log_65, sX10_log_66, kI_i, kL_l, kV_v, am_rv_s, am_kl_i, am_kl_r, am_kl_n, am_kl_l, true_and, and_true, and_self, true_or, or_true, implies_true, forall_const, not_true_eq_false, not_false_eq_true, false_implies, true_implies, if_true, if_false, Bool.true_eq_false, Bool.false_eq_true, c0, ob_0, ob_3, r_0_1, ll, c1', z, w0, w1]
          · have z2 : (w ≤ 1) = False := by
              rw [Bool.and_eq_false_iff] at hw
              rcases hw with a | a
              · exact absurd (Int32.not_lt.mp z) (of_decide_eq_false a)
              · exact eq_false (of_decide_eq_false a)
            simp (disch := (first | assumption | omega | decide)) only [sX10_log_0, sX10_log_1, sX10_log_4, sX10_log_5, sX10_log_6, sX10_log_9, sX10_log_12, sX10_log_15, sX10_log_16, sX10_log_19, sX10_log_20, sX10_log_21, sX10_log_24, sX10_log_25, sX10_log_26, sX10_log_27, sX10_log_30, sX10_log_33, sX10_log_34, sX10_log_35, sX10_log_36, sX10_log_37, sX10_log_39, sX10_log_40, sX10_log_41, sX10_log_42, sX10_log_45, sX10_log_46, sX10_log_49, sX10_log_52, sX10_log_53, sX10_log_54, sX10_log_57, sX10_log_58, sX10_log_61, sX10_log_64, sX10_log_65, sX10_log_66, kI_i, kL_l, kV_v, am_rv_s, am_kl_i, am_kl_r, am_kl_n, am_kl_l, true_and, and_true, and_self, true_or, or_true, implies_true, forall_const, not_true_eq_false, not_false_eq_true, false_implies, true_implies, if_true, if_false, Bool.true_eq_false, Bool.false_eq_true, c0, ob_0, ob_3, r_0_1, ll, c1', z, z2, w0, w1]
    · have c1' : (nI S.2.2.2.2.length ≤ y) = True := eq_true (Int32.not_lt.mp c1)
      rw [if_neg (fun z => c1 z.2)]
      simp (disch := (first | assumption | omega | decide)) only [sX10_log_0, sX10_log_1, sX10_log_4, sX10_log_5, sX10_log_6, sX10_log_9, sX10_log_12, sX10_log_15, sX10_log_16, sX10_log_19, sX10_log_20, sX10_log_21, sX10_log_24, sX10_log_25, sX10_log_26, sX10_log_27, sX10_log_30, sX10_log_33, sX10_log_34, sX10_log_35, sX10_log_36, sX10_log_37, sX10_log_39, sX10_log_40, sX10_log_41, sX10_log_42, sX10_log_45, sX10_log_46, sX10_log_49, sX10_log_52, sX10_log_53, sX10_log_54, sX10_log_57, sX10_log_58, sX10_log_61, sX10_log_64, sX10_log_65, sX10_log_66, kI_i, kL_l, kV_v, am_rv_s, am_kl_i, am_kl_r, am_kl_n, am_kl_l, true_and, and_true, and_self, true_or, or_true, implies_true, forall_const, not_true_eq_false, not_false_eq_true, false_implies, true_implies, if_true, if_false, Bool.true_eq_false, Bool.false_eq_true, c0, ob_0, ob_3, r_0_1, ll, c1']
theorem m_log {y w : Int32} (h : RS M ap lim S P) : am_big (d + 2) mX11_log [.ref 457, .int y, .int w] 488 M Q = Q (some (.int (logA S.2.2.2.2 y w))) (sI M 457 0 0) := by
  obtain ⟨hW, hS, hP, hf, hm, hw, hlim, ht⟩ := RS_th h
  generalize hM0 : sI M 457 0 0 = M0 at *
  obtain ⟨h1, h2, h3, h4, h5, h8, h9, h10, h11⟩ := hS
  simp only [Nat.zero_add] at h9 h11
  unfold logA
  rw [eX11_log]
  by_cases hz : S.2.2.2.2.length = 0
  · have c : ¬ (0 ≤ y ∧ y < nI S.2.2.2.2.length) := fun z => by rw [hz] at z; exact absurd z.2 (Int32.not_lt.mpr z.1)
    have e : (decide (0 ≤ y) && decide (y ≤ nI S.2.2.2.2.length - 1)) = false := by
      rw [hz, show nI 0 - 1 = -1 from by decide]
      by_cases z : 0 ≤ y
      · have : ¬ y ≤ -1 := fun q => absurd (Int32.le_trans z q) (by decide)
        simp [this]
      · simp [z]
    rw [if_neg c]
    simp (disch := (first | assumption | omega | decide)) only [sX11_log_0, sX11_log_1, sX11_log_2, sX11_log_5, sX11_log_6, sX11_log_7, sX11_log_8, sX11_log_9, sX11_log_12, sX11_log_14, sX11_log_15, sX11_log_16, sX11_log_17, sX11_log_18, sX11_log_21, sX11_log_24, sX11_log_25, sX11_log_26, sX11_log_27, sX11_log_28, sX11_log_31, sX11_log_34, sX11_log_35, sX11_log_38, sX11_log_40, sX11_log_41, sX11_log_42, sX11_log_45, sX11_log_47, sX11_log_48, sX11_log_49, sX11_log_50, sX11_log_51, sX11_log_52, sX11_log_53, sX11_log_54, sX11_log_55, sX11_log_56, sX11_log_57, sX11_log_60, sX11_log_61, kI_i, kL_l, kV_v, am_rv_s, am_kl_i, am_kl_r, am_kl_n, am_kl_l, true_and, and_true, and_self, true_or, or_true, implies_true, forall_const, not_true_eq_false, not_false_eq_true, false_implies, true_implies, if_true, if_false, Bool.true_eq_false, Bool.false_eq_true, ob_457, hM0, r_457_27, n43, in_465, nI_clamp, h9, c64_0, m_isIn, e, bz_f]
  · have em : nI S.2.2.2.2.length - 1 = nI (S.2.2.2.2.length - 1) := nI_sub1 (by omega)
    by_cases c : 0 ≤ y ∧ y < nI S.2.2.2.2.length
    · obtain ⟨i, hi0, rfl⟩ := nI_of (Int32.not_lt.mpr c.1)
      have hi : i < S.2.2.2.2.length := by have := c.2; rwa [nI_ltE hi0 (by omega)] at this
      have e : (decide (0 ≤ nI i) && decide (nI i ≤ nI (S.2.2.2.2.length - 1))) = true := by
        rw [decide_eq_true c.1, decide_eq_true (by rw [nI_leE (by omega) (by omega)]; omega)]; rfl
      have e1 : nI (S.2.2.2.2.length - 1) - nI i = nI (S.2.2.2.2.length - 1 - i) := pk_sub (by omega)
      obtain ⟨g1, g2⟩ := h11 i hi
      rw [if_pos c, nI_clamp (by omega), lg_get hi]
      by_cases w0 : w = 0
      · subst w0
        simp (disch := (first | assumption | omega | decide)) only [sX11_log_0, sX11_log_1, sX11_log_2, sX11_log_5, sX11_log_6, sX11_log_7, sX11_log_8, sX11_log_9, sX11_log_12, sX11_log_14, sX11_log_15, sX11_log_16, sX11_log_17, sX11_log_18, sX11_log_21, sX11_log_24, sX11_log_25, sX11_log_26, sX11_log_27, sX11_log_28, sX11_log_31, sX11_log_34, sX11_log_35, sX11_log_38, sX11_log_40, sX11_log_41, sX11_log_42, sX11_log_45, sX11_log_47, sX11_log_48, sX11_log_49, sX11_log_50, sX11_log_51, sX11_log_52, sX11_log_53, sX11_log_54, sX11_log_55, sX11_log_56, sX11_log_57, sX11_log_60, sX11_log_61, kI_i, kL_l, kV_v, am_rv_s, am_kl_i, am_kl_r, am_kl_n, am_kl_l, true_and, and_true, and_self, true_or, or_true, implies_true, forall_const, not_true_eq_false, not_false_eq_true, false_implies, true_implies, if_true, if_false, Bool.true_eq_false, Bool.false_eq_true, ob_457, hM0, r_457_27, n43, n44, in_465, nI_clamp, h9, em, c64_0, c64_1, m_isIn, in01, e, true_or, decide_true, bz_t, i01, e1, nI_m2, nI_add, Int32.add_zero, g1]
      · by_cases w1 : w = 1
        · subst w1
          have ex : 44 + 2 * (S.2.2.2.2.length - 1 - i) + 1 = 45 + 2 * (S.2.2.2.2.length - 1 - i) := by omega
          simp (disch := (first | assumption | omega | decide)) only [sX11_log_0, sX11_log_1, sX11_log_2, sX11_log_5, sX11_log_6, sX11_log_7, sX11_log_8, sX11_log_9, sX11_log_12, sX11_log_14, sX11_log_15, sX11_log_16, sX11_log_17, sX11_log_18, sX11_log_21, sX11_log_24, sX11_log_25, sX11_log_26, sX11_log_27, sX11_log_28, sX11_log_31, sX11_log_34, sX11_log_35, sX11_log_38, sX11_log_40, sX11_log_41, sX11_log_42, sX11_log_45, sX11_log_47, sX11_log_48, sX11_log_49, sX11_log_50, sX11_log_51, sX11_log_52, sX11_log_53, sX11_log_54, sX11_log_55, sX11_log_56, sX11_log_57, sX11_log_60, sX11_log_61, kI_i, kL_l, kV_v, am_rv_s, am_kl_i, am_kl_r, am_kl_n, am_kl_l, true_and, and_true, and_self, true_or, or_true, implies_true, forall_const, not_true_eq_false, not_false_eq_true, false_implies, true_implies, if_true, if_false, Bool.true_eq_false, Bool.false_eq_true, ob_457, hM0, r_457_27, n43, n44, in_465, nI_clamp, h9, em, c64_0, c64_1, m_isIn, in01, e, or_true, decide_true, bz_t, i01, e1, nI_m2, nI_add, nI_1, ex, g2]
        · simp (disch := (first | assumption | omega | decide)) only [sX11_log_0, sX11_log_1, sX11_log_2, sX11_log_5, sX11_log_6, sX11_log_7, sX11_log_8, sX11_log_9, sX11_log_12, sX11_log_14, sX11_log_15, sX11_log_16, sX11_log_17, sX11_log_18, sX11_log_21, sX11_log_24, sX11_log_25, sX11_log_26, sX11_log_27, sX11_log_28, sX11_log_31, sX11_log_34, sX11_log_35, sX11_log_38, sX11_log_40, sX11_log_41, sX11_log_42, sX11_log_45, sX11_log_47, sX11_log_48, sX11_log_49, sX11_log_50, sX11_log_51, sX11_log_52, sX11_log_53, sX11_log_54, sX11_log_55, sX11_log_56, sX11_log_57, sX11_log_60, sX11_log_61, kI_i, kL_l, kV_v, am_rv_s, am_kl_i, am_kl_r, am_kl_n, am_kl_l, true_and, and_true, and_self, true_or, or_true, implies_true, forall_const, not_true_eq_false, not_false_eq_true, false_implies, true_implies, if_true, if_false, Bool.true_eq_false, Bool.false_eq_true, ob_457, hM0, r_457_27, n43, in_465, nI_clamp, h9, em, c64_0, c64_1, m_isIn, in01, e, w0, w1, or_self, decide_false, bz_t, bz_f, i01]
    · have e : (decide (0 ≤ y) && decide (y ≤ nI (S.2.2.2.2.length - 1))) = false := by
        by_cases z : 0 ≤ y
        · have : ¬ y ≤ nI (S.2.2.2.2.length - 1) := fun q => by
            obtain ⟨i, hi0, rfl⟩ := nI_of (Int32.not_lt.mpr z)
            rw [nI_leE hi0 (by omega)] at q
            exact c ⟨z, by rw [nI_ltE hi0 (by omega)]; omega⟩
          simp [this]
        · simp [z]
      rw [if_neg c]
      simp (disch := (first | assumption | omega | decide)) only [sX11_log_0, sX11_log_1, sX11_log_2, sX11_log_5, sX11_log_6, sX11_log_7, sX11_log_8, sX11_log_9, sX11_log_12, sX11_log_14, sX11_log_15, sX11_log_16, sX11_log_17, sX11_log_18, sX11_log_21, sX11_log_24, sX11_log_25, sX11_log_26, sX11_log_27, sX11_log_28, sX11_log_31, sX11_log_34, sX11_log_35, sX11_log_38, sX11_log_40, sX11_log_41, sX11_log_42, sX11_log_45, sX11_log_47, sX11_log_48, sX11_log_49, sX11_log_50, sX11_log_51, sX11_log_52, sX11_log_53, sX11_log_54, sX11_log_55, sX11_log_56, sX11_log_57, sX11_log_60, sX11_log_61, kI_i, kL_l, kV_v, am_rv_s, am_kl_i, am_kl_r, am_kl_n, am_kl_l, true_and, and_true, and_self, true_or, or_true, implies_true, forall_const, not_true_eq_false, not_false_eq_true, false_implies, true_implies, if_true, if_false, Bool.true_eq_false, Bool.false_eq_true, ob_457, hM0, r_457_27, n43, in_465, nI_clamp, h9, em, c64_0, m_isIn, e, bz_f]
/-- the makings told -/
def PlC (M : am_M) (PL : List (List Dd)) : Prop := gI M 0 9 = nI PL.length ∧ PL.length ≤ 4 ∧ ∀ i (h : i < PL.length), LH M (441 + 4 * i) PL[i]
def PlM (M : am_M) (PL : List (List Dd)) : Prop := gI M 457 25 = nI PL.length ∧ PL.length ≤ 4 ∧ ∀ i (h : i < PL.length), gI M 464 i = nI PL[i].length ∧ PL[i].length ≤ 16 ∧ plh (gI M 463) (48 * i) PL[i]
def plnA (PL : List (List Dd)) (k y w : Int32) : Int32 := if 0 ≤ k ∧ k < nI PL.length then deedA (PL.getD k.toNatClampNeg []) y w else -1
theorem c_isMaking {k : Int32} {PL : List (List Dd)} (h : PlC M PL) : am_big (d + 1) mX10_isMaking [.ref 0, .int k] 488 M Q = Q (some (.int (bz (decide (0 ≤ k ∧ k < nI PL.length))))) M := by
  rw [eX10_isMaking]
  simp (disch := (first | assumption | omega | decide)) only [sX10_isMaking_0, sX10_isMaking_1, sX10_isMaking_4, sX10_isMaking_5, sX10_isMaking_6, sX10_isMaking_9, sX10_isMaking_12, sX10_isMaking_13, sX10_isMaking_16, sX10_isMaking_17, kI_i, kL_l, kV_v, am_rv_s, am_kl_i, am_kl_r, am_kl_n, am_kl_l, true_and, and_true, and_self, true_or, or_true, implies_true, forall_const, not_true_eq_false, not_false_eq_true, false_implies, true_implies, if_true, if_false, Bool.true_eq_false, Bool.false_eq_true, ob_0, h.1, ← Int32.not_lt]
  by_cases q1 : k < 0 <;> by_cases q2 : k < nI PL.length <;> simp [q1, q2, bz]
theorem m_isPlan {k : Int32} {PL : List (List Dd)} (h : PlM M PL) : am_big (d + 1) mX11_isPlan [.ref 457, .int k] 488 M Q = Q (some (.int (bz (decide (0 ≤ k ∧ k < nI PL.length))))) M := by
  rw [eX11_isPlan]
  simp (disch := (first | assumption | omega | decide)) only [sX11_isPlan_0, sX11_isPlan_1, sX11_isPlan_4, sX11_isPlan_5, sX11_isPlan_6, sX11_isPlan_9, sX11_isPlan_12, sX11_isPlan_13, sX11_isPlan_16, sX11_isPlan_17, kI_i, kL_l, kV_v, am_rv_s, am_kl_i, am_kl_r, am_kl_n, am_kl_l, true_and, and_true, and_self, true_or, or_true, implies_true, forall_const, not_true_eq_false, not_false_eq_true, false_implies, true_implies, if_true, if_false, Bool.true_eq_false, Bool.false_eq_true, ob_457, h.1, ← Int32.not_lt]
  by_cases q1 : k < 0 <;> by_cases q2 : k < nI PL.length <;> simp [q1, q2, bz]
theorem pl_get {PL : List (List Dd)} {i : Nat} (h : i < PL.length) : PL.getD i [] = PL[i] := by rw [List.getD_eq_getElem?_getD, List.getElem?_eq_getElem h]; rfl
theorem pl_x {k : Int32} {PL : List (List Dd)} (hl : PL.length ≤ 4) (h : 0 ≤ k ∧ k < nI PL.length) : ∃ i, i < PL.length ∧ k = nI i := by
  obtain ⟨j, hj, ej⟩ := nI_of (Int32.not_lt.mpr h.1)
  have := h.2
  rw [ej, nI_ltE hj (by omega)] at this
  exact ⟨j, this, ej⟩
theorem c_step {k y w : Int32} {PL : List (List Dd)} (hW : WR M) (h : PlC M PL) : am_big (d + 3) mX10_step [.ref 0, .int k, .int y, .int w] 488 M Q = Q (some (.int (plnA PL k y w))) M := by
  have hl := h.2.1
  rw [eX10_step]
  unfold plnA
  by_cases c : 0 ≤ k ∧ k < nI PL.length
  · obtain ⟨i, hi, rfl⟩ := pl_x hl c
    have hL := h.2.2 i hi
    have iz : (am_iw 488 411 5 (nI i) ∨ am_iw 488 411 6 (nI i) ∨ am_iw 488 411 7 (nI i)) = True := by rw [iw_411 (by omega)]; simp
    have oo := ob (a := 441 + 4 * i) (c := 0) (by omega) hL.1.1.2.1
    rw [if_pos c, nI_clamp (by omega), pl_get hi]
    simp (disch := (first | assumption | omega | decide)) only [sX10_step_0, sX10_step_1, sX10_step_2, sX10_step_5, sX10_step_8, sX10_step_9, sX10_step_12, sX10_step_13, sX10_step_14, sX10_step_15, sX10_step_16, sX10_step_19, sX10_step_22, sX10_step_23, kI_i, kL_l, kV_v, am_rv_s, am_kl_i, am_kl_r, am_kl_n, am_kl_l, true_and, and_true, and_self, true_or, or_true, implies_true, forall_const, not_true_eq_false, not_false_eq_true, false_implies, true_implies, if_true, if_false, Bool.true_eq_false, Bool.false_eq_true, ob_0, c_isMaking h, c, decide_true, bz_t, i01, r_0_8, iz, nI_clamp, r_411, oo, c_tellL hL]
  · rw [if_neg c]
    simp (disch := (first | assumption | omega | decide)) only [sX10_step_0, sX10_step_1, sX10_step_2, sX10_step_5, sX10_step_8, sX10_step_9, sX10_step_12, sX10_step_13, sX10_step_14, sX10_step_15, sX10_step_16, sX10_step_19, sX10_step_22, sX10_step_23, kI_i, kL_l, kV_v, am_rv_s, am_kl_i, am_kl_r, am_kl_n, am_kl_l, true_and, and_true, and_self, true_or, or_true, implies_true, forall_const, not_true_eq_false, not_false_eq_true, false_implies, true_implies, if_true, if_false, Bool.true_eq_false, Bool.false_eq_true, ob_0, c_isMaking h, c, decide_false, bz_f]
theorem nI_m16 (k : Nat) : 16 * nI k = nI (16 * k) := by rw [show (16 : Int32) = nI 16 from rfl, pk_mul]
theorem plh_g {g : Nat → Int32} {r : Nat} (h : plh g r l) {k : Nat} (hk : k < l.length) : g (r + 3 * k) = sf l k ∧ g (r + 3 * k + 1) = pf l k ∧ g (r + 3 * k + 2) = xf l k := by
  have := h k l[k] (List.getElem?_eq_getElem hk)
  obtain ⟨e1, e2, e3⟩ := sf_get hk
  rw [e1, e2, e3]
  exact this
theorem m_step {k y w : Int32} {PL : List (List Dd)} (hW : WR M) (h : PlM (sI M 457 0 0) PL) : am_big (d + 2) mX11_step [.ref 457, .int k, .int y, .int w] 488 M Q = Q (some (.int (plnA PL k y w))) (sI M 457 0 0) := by
  have hW0 : WR (sI M 457 0 0) := hW
  generalize hM0 : sI M 457 0 0 = M0 at *
  have hl := h.2.1
  rw [eX11_step]
  unfold plnA
  by_cases c : 0 ≤ k ∧ k < nI PL.length
  · obtain ⟨i, hi, rfl⟩ := pl_x hl c
    obtain ⟨g1, g2, g3⟩ := h.2.2 i hi
    rw [if_pos c, nI_clamp (by omega), pl_get hi]
    unfold deedA
    by_cases c2 : 0 ≤ y ∧ y < nI PL[i].length
    · obtain ⟨e, he, rfl⟩ := deed_x g2 c2
      have ec : (decide (0 ≤ nI e) && decide (nI e ≤ nI PL[i].length - 1)) = true := by
        rw [nI_sub1 (by omega), decide_eq_true c2.1, decide_eq_true (by rw [nI_leE (by omega) (by omega)]; omega)]; rfl
      obtain ⟨k1, k2, k3⟩ := plh_g g3 he
      have ex : 3 * (16 * i + e) = 48 * i + 3 * e := by omega
      rw [if_pos c2, nI_clamp (by omega)]
      by_cases w0 : w = 0
      · subst w0
        simp (disch := (first | assumption | omega | decide)) only [sX11_step_0, sX11_step_1, sX11_step_2, sX11_step_5, sX11_step_6, sX11_step_7, sX11_step_10, sX11_step_13, sX11_step_14, sX11_step_15, sX11_step_16, sX11_step_17, sX11_step_20, sX11_step_21, sX11_step_22, sX11_step_23, sX11_step_24, sX11_step_25, sX11_step_28, sX11_step_31, sX11_step_32, sX11_step_33, sX11_step_34, sX11_step_37, sX11_step_40, sX11_step_43, sX11_step_44, sX11_step_47, sX11_step_48, sX11_step_50, sX11_step_51, sX11_step_52, sX11_step_53, sX11_step_54, sX11_step_55, sX11_step_56, sX11_step_57, sX11_step_58, sX11_step_61, sX11_step_62, kI_i, kL_l, kV_v, am_rv_s, am_kl_i, am_kl_r, am_kl_n, am_kl_l, true_and, and_true, and_self, true_or, or_true, implies_true, forall_const, not_true_eq_false, not_false_eq_true, false_implies, true_implies, if_true, if_false, Bool.true_eq_false, Bool.false_eq_true, ob_457, hM0, m_isPlan h, c, decide_true, bz_t, i01, r_457_20, in_464, nI_clamp, g1, c64_0, c64_2, m_isIn, in02, ec, true_or, r_457_19, nI_m16, nI_add, nI_m3, ex, Int32.add_zero, in_463, k1]
      · by_cases w1 : w = 1
        · subst w1
          simp (disch := (first | assumption | omega | decide)) only [sX11_step_0, sX11_step_1, sX11_step_2, sX11_step_5, sX11_step_6, sX11_step_7, sX11_step_10, sX11_step_13, sX11_step_14, sX11_step_15, sX11_step_16, sX11_step_17, sX11_step_20, sX11_step_21, sX11_step_22, sX11_step_23, sX11_step_24, sX11_step_25, sX11_step_28, sX11_step_31, sX11_step_32, sX11_step_33, sX11_step_34, sX11_step_37, sX11_step_40, sX11_step_43, sX11_step_44, sX11_step_47, sX11_step_48, sX11_step_50, sX11_step_51, sX11_step_52, sX11_step_53, sX11_step_54, sX11_step_55, sX11_step_56, sX11_step_57, sX11_step_58, sX11_step_61, sX11_step_62, kI_i, kL_l, kV_v, am_rv_s, am_kl_i, am_kl_r, am_kl_n, am_kl_l, true_and, and_true, and_self, true_or, or_true, implies_true, forall_const, not_true_eq_false, not_false_eq_true, false_implies, true_implies, if_true, if_false, Bool.true_eq_false, Bool.false_eq_true, ob_457, hM0, m_isPlan h, c, decide_true, bz_t, i01, r_457_20, in_464, nI_clamp, g1, c64_0, c64_2, m_isIn, in02, ec, true_or, or_true, r_457_19, nI_m16, nI_add, nI_m3, ex, nI_1, in_463, k2, nq10]
        · by_cases w2 : w = 2
          · subst w2
            simp (disch := (first | assumption | omega | decide)) only [sX11_step_0, sX11_step_1, sX11_step_2, sX11_step_5, sX11_step_6, sX11_step_7, sX11_step_10, sX11_step_13, sX11_step_14, sX11_step_15, sX11_step_16, sX11_step_17, sX11_step_20, sX11_step_21, sX11_step_22, sX11_step_23, sX11_step_24, sX11_step_25, sX11_step_28, sX11_step_31, sX11_step_32, sX11_step_33, sX11_step_34, sX11_step_37, sX11_step_40, sX11_step_43, sX11_step_44, sX11_step_47, sX11_step_48, sX11_step_50, sX11_step_51, sX11_step_52, sX11_step_53, sX11_step_54, sX11_step_55, sX11_step_56, sX11_step_57, sX11_step_58, sX11_step_61, sX11_step_62, kI_i, kL_l, kV_v, am_rv_s, am_kl_i, am_kl_r, am_kl_n, am_kl_l, true_and, and_true, and_self, true_or, or_true, implies_true, forall_const, not_true_eq_false, not_false_eq_true, false_implies, true_implies, if_true, if_false, Bool.true_eq_false, Bool.false_eq_true, ob_457, hM0, m_isPlan h, c, decide_true, bz_t, i01, r_457_20, in_464, nI_clamp, g1, c64_0, c64_2, m_isIn, in02, ec, or_true, r_457_19, nI_m16, nI_add, nI_m3, ex, nI_2, in_463, k3, nq20, nq21]
          · simp (disch := (first | assumption | omega | decide)) only [sX11_step_0, sX11_step_1, sX11_step_2, sX11_step_5, sX11_step_6, sX11_step_7, sX11_step_10, sX11_step_13, sX11_step_14, sX11_step_15, sX11_step_16, sX11_step_17, sX11_step_20, sX11_step_21, sX11_step_22, sX11_step_23, sX11_step_24, sX11_step_25, sX11_step_28, sX11_step_31, sX11_step_32, sX11_step_33, sX11_step_34, sX11_step_37, sX11_step_40, sX11_step_43, sX11_step_44, sX11_step_47, sX11_step_48, sX11_step_50, sX11_step_51, sX11_step_52, sX11_step_53, sX11_step_54, sX11_step_55, sX11_step_56, sX11_step_57, sX11_step_58, sX11_step_61, sX11_step_62, kI_i, kL_l, kV_v, am_rv_s, am_kl_i, am_kl_r, am_kl_n, am_kl_l, true_and, and_true, and_self, true_or, or_true, implies_true, forall_const, not_true_eq_false, not_false_eq_true, false_implies, true_implies, if_true, if_false, Bool.true_eq_false, Bool.false_eq_true, ob_457, hM0, m_isPlan h, c, decide_true, bz_t, i01, r_457_20, in_464, nI_clamp, g1, c64_0, c64_2, m_isIn, in02, ec, w0, w1, w2, or_self, decide_false, bz_f]
    · have ec : (decide (0 ≤ y) && decide (y ≤ nI PL[i].length - 1)) = false := by
        by_cases z : 0 ≤ y
        · have : ¬ y ≤ nI PL[i].length - 1 := fun q => by
            obtain ⟨j, hj, rfl⟩ := nI_of (Int32.not_lt.mpr z)
            by_cases hz : PL[i].length = 0
            · rw [hz, show nI 0 - 1 = -1 from by decide] at q
              exact absurd (Int32.le_trans z q) (by decide)
            · rw [nI_sub1 (by omega), nI_leE hj (by omega)] at q
              exact c2 ⟨z, by rw [nI_ltE hj (by omega)]; omega⟩
          simp [this]
        · simp [z]
      rw [if_neg c2]
      simp (disch := (first | assumption | omega | decide)) only [sX11_step_0, sX11_step_1, sX11_step_2, sX11_step_5, sX11_step_6, sX11_step_7, sX11_step_10, sX11_step_13, sX11_step_14, sX11_step_15, sX11_step_16, sX11_step_17, sX11_step_20, sX11_step_21, sX11_step_22, sX11_step_23, sX11_step_24, sX11_step_25, sX11_step_28, sX11_step_31, sX11_step_32, sX11_step_33, sX11_step_34, sX11_step_37, sX11_step_40, sX11_step_43, sX11_step_44, sX11_step_47, sX11_step_48, sX11_step_50, sX11_step_51, sX11_step_52, sX11_step_53, sX11_step_54, sX11_step_55, sX11_step_56, sX11_step_57, sX11_step_58, sX11_step_61, sX11_step_62, kI_i, kL_l, kV_v, am_rv_s, am_kl_i, am_kl_r, am_kl_n, am_kl_l, true_and, and_true, and_self, true_or, or_true, implies_true, forall_const, not_true_eq_false, not_false_eq_true, false_implies, true_implies, if_true, if_false, Bool.true_eq_false, Bool.false_eq_true, ob_457, hM0, m_isPlan h, c, decide_true, bz_t, bz_f, i01, r_457_20, in_464, nI_clamp, g1, c64_0, m_isIn, ec]
  · rw [if_neg c]
    simp (disch := (first | assumption | omega | decide)) only [sX11_step_0, sX11_step_1, sX11_step_2, sX11_step_5, sX11_step_6, sX11_step_7, sX11_step_10, sX11_step_13, sX11_step_14, sX11_step_15, sX11_step_16, sX11_step_17, sX11_step_20, sX11_step_21, sX11_step_22, sX11_step_23, sX11_step_24, sX11_step_25, sX11_step_28, sX11_step_31, sX11_step_32, sX11_step_33, sX11_step_34, sX11_step_37, sX11_step_40, sX11_step_43, sX11_step_44, sX11_step_47, sX11_step_48, sX11_step_50, sX11_step_51, sX11_step_52, sX11_step_53, sX11_step_54, sX11_step_55, sX11_step_56, sX11_step_57, sX11_step_58, sX11_step_61, sX11_step_62, kI_i, kL_l, kV_v, am_rv_s, am_kl_i, am_kl_r, am_kl_n, am_kl_l, true_and, and_true, and_self, true_or, or_true, implies_true, forall_const, not_true_eq_false, not_false_eq_true, false_implies, true_implies, if_true, if_false, Bool.true_eq_false, Bool.false_eq_true, ob_457, hM0, m_isPlan h, c, decide_false, bz_f]
end
