/-- two pieces look alike at a part -/
def lke (l1 l2 : List Dd) (q : Nat) : Bool := decide (kdF l1 l1.length q = kdF l2 l2.length q) && (decide (tnF l1 l1.length q = tnF l2 l2.length q) && (decide (cdF l1 l1.length q = cdF l2 l2.length q) && (decide (unL l1 (nI q) = unL l2 (nI q)) && decide (hiL l1 (nI q) = hiL l2 (nI q)))))
/-- what the reference lays of a piece -/
def mV (l : List Dd) (i : Nat) : Int32 := if i % 5 = 0 then kdF l l.length (i / 5) else if i % 5 = 1 then tnF l l.length (i / 5) else if i % 5 = 2 then cdF l l.length (i / 5) else if i % 5 = 3 then onF l l.length (i / 5) else hiF l l.length (i / 5)
theorem mV_0 {l : List Dd} {q : Nat} : mV l (5 * q) = kdF l l.length q := by
  unfold mV
  rw [if_pos (by omega), show 5 * q / 5 = q by omega]
theorem mV_1 {l : List Dd} {q : Nat} : mV l (5 * q + 1) = tnF l l.length q := by
  unfold mV
  rw [if_neg (by omega), if_pos (by omega), show (5 * q + 1) / 5 = q by omega]
theorem mV_2 {l : List Dd} {q : Nat} : mV l (5 * q + 2) = cdF l l.length q := by
  unfold mV
  rw [if_neg (by omega), if_neg (by omega), if_pos (by omega), show (5 * q + 2) / 5 = q by omega]
theorem mV_3 {l : List Dd} {q : Nat} : mV l (5 * q + 3) = onF l l.length q := by
  unfold mV
  rw [if_neg (by omega), if_neg (by omega), if_neg (by omega), if_pos (by omega), show (5 * q + 3) / 5 = q by omega]
theorem mV_4 {l : List Dd} {q : Nat} : mV l (5 * q + 4) = hiF l l.length q := by
  unfold mV
  rw [if_neg (by omega), if_neg (by omega), if_neg (by omega), if_neg (by omega), show (5 * q + 4) / 5 = q by omega]
theorem un_m1 {l : List Dd} (h : WFl l) (q : Int32) : ¬ unL l q = -1 := fun e => by
  by_cases z : unL l q = 9
  · rw [z] at e; exact absurd e (by decide)
  · obtain ⟨i, j, _, hj, _, e2⟩ := un_part h z
    rw [e2] at e
    have := nI_m1 (k := j) (by omega)
    rw [e] at this
    simp at this
theorem on_eq {l1 l2 : List Dd} (h1 : WFl l1) (h2 : WFl l2) (q : Nat) : (onF l1 l1.length q = onF l2 l2.length q) ↔ unL l1 (nI q) = unL l2 (nI q) := by
  rw [on_un h1, on_un h2]
  have a1 := un_m1 h1 (nI q)
  have a2 := un_m1 h2 (nI q)
  by_cases z1 : unL l1 (nI q) = 9
  · rw [if_pos z1]
    by_cases z2 : unL l2 (nI q) = 9
    · rw [if_pos z2, z1, z2]; simp
    · rw [if_neg z2, z1]
      exact ⟨fun e => absurd e.symm a2, fun e => absurd e.symm z2⟩
  · rw [if_neg z1]
    by_cases z2 : unL l2 (nI q) = 9
    · rw [if_pos z2, z2]
      exact ⟨fun e => absurd e a1, fun e => absurd e z1⟩
    · rw [if_neg z2]
theorem alk_eq {l1 l2 : List Dd} (h1 : WFl l1) (h2 : WFl l2) : alf (fun i => decide (mV l1 i = mV l2 i)) 0 30 = alf (lke l1 l2) 0 6 := by
  rw [Bool.eq_iff_iff, alf_iff, alf_iff]
  have hb : ∀ q, (hiF l1 l1.length q = hiF l2 l2.length q) ↔ hiL l1 (nI q) = hiL l2 (nI q) := fun q => ⟨fun e => bz_inj e, fun e => congrArg bz e⟩
  constructor
  · intro h q _ hq
    have a0 := of_decide_eq_true (h (5 * q) (by omega) (by omega))
    have a1 := of_decide_eq_true (h (5 * q + 1) (by omega) (by omega))
    have a2 := of_decide_eq_true (h (5 * q + 2) (by omega) (by omega))
    have a3 := of_decide_eq_true (h (5 * q + 3) (by omega) (by omega))
    have a4 := of_decide_eq_true (h (5 * q + 4) (by omega) (by omega))
    rw [mV_0, mV_0] at a0
    rw [mV_1, mV_1] at a1
    rw [mV_2, mV_2] at a2
    rw [mV_3, mV_3, on_eq h1 h2] at a3
    rw [mV_4, mV_4, hb] at a4
    unfold lke
    rw [decide_eq_true a0, decide_eq_true a1, decide_eq_true a2, decide_eq_true a3, decide_eq_true a4]
    rfl
  · intro h i _ hi
    have := h (i / 5) (by omega) (by omega)
    unfold lke at this
    simp only [Bool.and_eq_true, decide_eq_true_eq] at this
    obtain ⟨a0, a1, a2, a3, a4⟩ := this
    apply decide_eq_true
    unfold mV
    rw [a0, a1, a2, (on_eq h1 h2 (i / 5)).mpr a3, (hb (i / 5)).mpr a4]
def alikeA (ap lim : Nat) (PL : List (List Dd)) (k o : Int32) : Int32 := if opn ap = true ∧ (0 ≤ k ∧ k < nI PL.length) ∧ (0 ≤ o ∧ o < nI PL.length) then bz (alf (lke (fow lim (PL.getD k.toNatClampNeg []) (PL.getD k.toNatClampNeg []).length 0 []).2 (fow lim (PL.getD o.toNatClampNeg []) (PL.getD o.toNatClampNeg []).length 0 []).2) 0 6) else -1
section
variable {M N : am_M} {ap lim : Nat} {S : Sg} {P : List Sg} {pl l l1 l2 : List Dd} {PL : List (List Dd)} {a b : Nat} {d : Nat} {Q : am_Q}
theorem c_looks (h1 : LH M a l1) (h2 : LH M b l2) : am_big (d + 3) mX0_looksLike [.ref a, .ref b] 488 M Q = Q (some (.int (bz (alf (lke l1 l2) 0 6)))) M := by
  have oa := ob (a := a) (c := 0) (by have := h1.1.1.1; omega) h1.1.1.2.1
  have obb := ob (a := b) (c := 0) (by have := h2.1.1.1; omega) h2.1.1.2.1
  have k1 : ∀ q d (Q : am_Q), am_big (d + 2) mX0_kind [.ref a, .int (nI q)] 488 M Q = Q (some (.int (kdF l1 l1.length q))) M := fun q d Q => by rw [c_kind h1.1, lx_congr (LH_s h1) (LH_x h1)]; rfl
  have k2 : ∀ q d (Q : am_Q), am_big (d + 2) mX0_kind [.ref b, .int (nI q)] 488 M Q = Q (some (.int (kdF l2 l2.length q))) M := fun q d Q => by rw [c_kind h2.1, lx_congr (LH_s h2) (LH_x h2)]; rfl
  have t1 : ∀ q d (Q : am_Q), am_big (d + 1) mX0_timesOf [.ref a, .int 1, .int (nI q)] 488 M Q = Q (some (.int (tnF l1 l1.length q))) M := fun q d Q => by rw [c_timesOf h1.1, tms_congr (LH_s h1)]; rfl
  have t2 : ∀ q d (Q : am_Q), am_big (d + 1) mX0_timesOf [.ref b, .int 1, .int (nI q)] 488 M Q = Q (some (.int (tnF l2 l2.length q))) M := fun q d Q => by rw [c_timesOf h2.1, tms_congr (LH_s h2)]; rfl
  have c1 : ∀ q d (Q : am_Q), am_big (d + 1) mX0_coatsAsNumber [.ref a, .int (nI q)] 488 M Q = Q (some (.int (cdF l1 l1.length q))) M := fun q d Q => by rw [c_coats h1.1, cnm_congr (LH_s h1) (LH_x h1)]; rfl
  have c2 : ∀ q d (Q : am_Q), am_big (d + 1) mX0_coatsAsNumber [.ref b, .int (nI q)] 488 M Q = Q (some (.int (cdF l2 l2.length q))) M := fun q d Q => by rw [c_coats h2.1, cnm_congr (LH_s h2) (LH_x h2)]; rfl
  have u1 : ∀ q d (Q : am_Q), am_big (d + 2) mX0_under [.ref a, .int (nI q)] 488 M Q = Q (some (.int (unL l1 (nI q)))) M := fun q d Q => by rw [c_under h1.1, lx_congr (LH_s h1) (LH_x h1)]; rfl
  have u2 : ∀ q d (Q : am_Q), am_big (d + 2) mX0_under [.ref b, .int (nI q)] 488 M Q = Q (some (.int (unL l2 (nI q)))) M := fun q d Q => by rw [c_under h2.1, lx_congr (LH_s h2) (LH_x h2)]; rfl
  have i1 : ∀ q d (Q : am_Q), am_big (d + 2) mX0_isHidden [.ref a, .int (nI q)] 488 M Q = Q (some (.int (bz (hiL l1 (nI q))))) M := fun q d Q => by rw [c_isHidden h1.1, hid_L h1]
  have i2 : ∀ q d (Q : am_Q), am_big (d + 2) mX0_isHidden [.ref b, .int (nI q)] 488 M Q = Q (some (.int (bz (hiL l2 (nI q))))) M := fun q d Q => by rw [c_isHidden h2.1, hid_L h2]
  have key : ∀ j q, q + j = 6 → ∀ l3 : Option Value, ok (d + 2) mX0_looksLike 488 Q 488 0 0 2 [some (.ref a), some (.ref b), some (.int (nI q)), l3] [] M = Q (some (.int (bz (alf (lke l1 l2) q j)))) M := by
    intro j
    induction j with
    | zero =>
      intro q hq l3
      have e0 : ((6 : Int32) ≤ nI q) = True := by rw [show (6 : Int32) = nI 6 from rfl, nI_leE (by omega) (by omega)]; exact eq_true (by omega)
      rw [sX0_looksLike_2]
      simp (disch := (first | assumption | omega | decide)) only [sX0_looksLike_0, sX0_looksLike_1, sX0_looksLike_3, sX0_looksLike_5, sX0_looksLike_8, sX0_looksLike_9, sX0_looksLike_10, sX0_looksLike_13, sX0_looksLike_14, sX0_looksLike_15, sX0_looksLike_18, sX0_looksLike_21, sX0_looksLike_22, sX0_looksLike_23, sX0_looksLike_24, sX0_looksLike_27, sX0_looksLike_28, sX0_looksLike_29, sX0_looksLike_30, sX0_looksLike_33, sX0_looksLike_36, sX0_looksLike_37, sX0_looksLike_38, sX0_looksLike_41, sX0_looksLike_42, sX0_looksLike_43, sX0_looksLike_46, sX0_looksLike_49, sX0_looksLike_50, sX0_looksLike_51, sX0_looksLike_54, sX0_looksLike_55, sX0_looksLike_56, sX0_looksLike_59, sX0_looksLike_62, sX0_looksLike_63, sX0_looksLike_64, sX0_looksLike_67, sX0_looksLike_68, sX0_looksLike_69, sX0_looksLike_72, sX0_looksLike_75, sX0_looksLike_76, sX0_looksLike_79, sX0_looksLike_80, sX0_looksLike_81, sX0_looksLike_82, sX0_looksLike_85, sX0_looksLike_86, sX0_looksLike_87, sX0_looksLike_90, sX0_looksLike_93, sX0_looksLike_94, kI_i, kL_l, kV_v, am_rv_s, am_kl_i, am_kl_r, am_kl_n, am_kl_l, true_and, and_true, and_self, true_or, or_true, implies_true, forall_const, not_true_eq_false, not_false_eq_true, false_implies, true_implies, if_true, if_false, Bool.true_eq_false, Bool.false_eq_true, e0]
      rfl
    | succ j ih =>
      intro q hq l3
      have e0 : ((6 : Int32) ≤ nI q) = False := by rw [show (6 : Int32) = nI 6 from rfl, nI_leE (by omega) (by omega)]; exact eq_false (by omega)
      have ih' := ih (q + 1) (by omega)
      have hb : (bz (hiL l1 (nI q)) = bz (hiL l2 (nI q))) = (hiL l1 (nI q) = hiL l2 (nI q)) := propext ⟨fun e => bz_inj e, fun e => congrArg bz e⟩
      show _ = Q (some (.int (bz (lke l1 l2 q && alf (lke l1 l2) (q + 1) j)))) M
      rw [sX0_looksLike_2]
      unfold lke
      by_cases z1 : kdF l1 l1.length q = kdF l2 l2.length q
      · by_cases z2 : tnF l1 l1.length q = tnF l2 l2.length q
        · by_cases z3 : cdF l1 l1.length q = cdF l2 l2.length q
          · by_cases z4 : unL l1 (nI q) = unL l2 (nI q)
            · by_cases z5 : hiL l1 (nI q) = hiL l2 (nI q)
              · simp (disch := (first | assumption | omega | decide)) only [sX0_looksLike_0, sX0_looksLike_1, sX0_looksLike_3, sX0_looksLike_5, sX0_looksLike_8, sX0_looksLike_9, sX0_looksLike_10, sX0_looksLike_13, sX0_looksLike_14, sX0_looksLike_15, sX0_looksLike_18, sX0_looksLike_21, sX0_looksLike_22, sX0_looksLike_23, sX0_looksLike_24, sX0_looksLike_27, sX0_looksLike_28, sX0_looksLike_29, sX0_looksLike_30, sX0_looksLike_33, sX0_looksLike_36, sX0_looksLike_37, sX0_looksLike_38, sX0_looksLike_41, sX0_looksLike_42, sX0_looksLike_43, sX0_looksLike_46, sX0_looksLike_49, sX0_looksLike_50, sX0_looksLike_51, sX0_looksLike_54, sX0_looksLike_55, sX0_looksLike_56, sX0_looksLike_59, sX0_looksLike_62, sX0_looksLike_63, sX0_looksLike_64, sX0_looksLike_67, sX0_looksLike_68, sX0_looksLike_69, sX0_looksLike_72, sX0_looksLike_75, sX0_looksLike_76, sX0_looksLike_79, sX0_looksLike_80, sX0_looksLike_81, sX0_looksLike_82, sX0_looksLike_85, sX0_looksLike_86, sX0_looksLike_87, sX0_looksLike_90, sX0_looksLike_93, sX0_looksLike_94, kI_i, kL_l, kV_v, am_rv_s, am_kl_i, am_kl_r, am_kl_n, am_kl_l, true_and, and_true, and_self, true_or, or_true, implies_true, forall_const, not_true_eq_false, not_false_eq_true, false_implies, true_implies, if_true, if_false, Bool.true_eq_false, Bool.false_eq_true, e0, oa, obb, k1, k2, z1, t1, t2, z2, c1, c2, z3, u1, u2, z4, i1, i2, hb, z5, i01, nI_1, ih', decide_true, Bool.and_self, Bool.true_and]
                rfl
              · simp (disch := (first | assumption | omega | decide)) only [sX0_looksLike_0, sX0_looksLike_1, sX0_looksLike_3, sX0_looksLike_5, sX0_looksLike_8, sX0_looksLike_9, sX0_looksLike_10, sX0_looksLike_13, sX0_looksLike_14, sX0_looksLike_15, sX0_looksLike_18, sX0_looksLike_21, sX0_looksLike_22, sX0_looksLike_23, sX0_looksLike_24, sX0_looksLike_27, sX0_looksLike_28, sX0_looksLike_29, sX0_looksLike_30, sX0_looksLike_33, sX0_looksLike_36, sX0_looksLike_37, sX0_looksLike_38, sX0_looksLike_41, sX0_looksLike_42, sX0_looksLike_43, sX0_looksLike_46, sX0_looksLike_49, sX0_looksLike_50, sX0_looksLike_51, sX0_looksLike_54, sX0_looksLike_55, sX0_looksLike_56, sX0_looksLike_59, sX0_looksLike_62, sX0_looksLike_63, sX0_looksLike_64, sX0_looksLike_67, sX0_looksLike_68, sX0_looksLike_69, sX0_looksLike_72, sX0_looksLike_75, sX0_looksLike_76, sX0_looksLike_79, sX0_looksLike_80, sX0_looksLike_81, sX0_looksLike_82, sX0_looksLike_85, sX0_looksLike_86, sX0_looksLike_87, sX0_looksLike_90, sX0_looksLike_93, sX0_looksLike_94, kI_i, kL_l, kV_v, am_rv_s, am_kl_i, am_kl_r, am_kl_n, am_kl_l, true_and, and_true, and_self, true_or, or_true, implies_true, forall_const, not_true_eq_false, not_false_eq_true, false_implies, true_implies, if_true, if_false, Bool.true_eq_false, Bool.false_eq_true, e0, oa, obb, k1, k2, z1, t1, t2, z2, c1, c2, z3, u1, u2, z4, i1, i2, hb, z5, decide_true, decide_false, Bool.and_false, Bool.false_and, bz_f]
            · simp (disch := (first | assumption | omega | decide)) only [sX0_looksLike_0, sX0_looksLike_1, sX0_looksLike_3, sX0_looksLike_5, sX0_looksLike_8, sX0_looksLike_9, sX0_looksLike_10, sX0_looksLike_13, sX0_looksLike_14, sX0_looksLike_15, sX0_looksLike_18, sX0_looksLike_21, sX0_looksLike_22, sX0_looksLike_23, sX0_looksLike_24, sX0_looksLike_27, sX0_looksLike_28, sX0_looksLike_29, sX0_looksLike_30, sX0_looksLike_33, sX0_looksLike_36, sX0_looksLike_37, sX0_looksLike_38, sX0_looksLike_41, sX0_looksLike_42, sX0_looksLike_43, sX0_looksLike_46, sX0_looksLike_49, sX0_looksLike_50, sX0_looksLike_51, sX0_looksLike_54, sX0_looksLike_55, sX0_looksLike_56, sX0_looksLike_59, sX0_looksLike_62, sX0_looksLike_63, sX0_looksLike_64, sX0_looksLike_67, sX0_looksLike_68, sX0_looksLike_69, sX0_looksLike_72, sX0_looksLike_75, sX0_looksLike_76, sX0_looksLike_79, sX0_looksLike_80, sX0_looksLike_81, sX0_looksLike_82, sX0_looksLike_85, sX0_looksLike_86, sX0_looksLike_87, sX0_looksLike_90, sX0_looksLike_93, sX0_looksLike_94, kI_i, kL_l, kV_v, am_rv_s, am_kl_i, am_kl_r, am_kl_n, am_kl_l, true_and, and_true, and_self, true_or, or_true, implies_true, forall_const, not_true_eq_false, not_false_eq_true, false_implies, true_implies, if_true, if_false, Bool.true_eq_false, Bool.false_eq_true, e0, oa, obb, k1, k2, z1, t1, t2, z2, c1, c2, z3, u1, u2, z4, decide_true, decide_false, Bool.and_false, Bool.false_and, bz_f]
          · simp (disch := (first | assumption | omega | decide)) only [sX0_looksLike_0, sX0_looksLike_1, sX0_looksLike_3, sX0_looksLike_5, sX0_looksLike_8, sX0_looksLike_9, sX0_looksLike_10, sX0_looksLike_13, sX0_looksLike_14, sX0_looksLike_15, sX0_looksLike_18, sX0_looksLike_21, sX0_looksLike_22, sX0_looksLike_23, sX0_looksLike_24, sX0_looksLike_27, sX0_looksLike_28, sX0_looksLike_29, sX0_looksLike_30, sX0_looksLike_33, sX0_looksLike_36, sX0_looksLike_37, sX0_looksLike_38, sX0_looksLike_41, sX0_looksLike_42, sX0_looksLike_43, sX0_looksLike_46, sX0_looksLike_49, sX0_looksLike_50, sX0_looksLike_51, sX0_looksLike_54, sX0_looksLike_55, sX0_looksLike_56, sX0_looksLike_59, sX0_looksLike_62, sX0_looksLike_63, sX0_looksLike_64, sX0_looksLike_67, sX0_looksLike_68, sX0_looksLike_69, sX0_looksLike_72, sX0_looksLike_75, sX0_looksLike_76, sX0_looksLike_79, sX0_looksLike_80, sX0_looksLike_81, sX0_looksLike_82, sX0_looksLike_85, sX0_looksLike_86, sX0_looksLike_87, sX0_looksLike_90, sX0_looksLike_93, sX0_looksLike_94, kI_i, kL_l, kV_v, am_rv_s, am_kl_i, am_kl_r, am_kl_n, am_kl_l, true_and, and_true, and_self, true_or, or_true, implies_true, forall_const, not_true_eq_false, not_false_eq_true, false_implies, true_implies, if_true, if_false, Bool.true_eq_false, Bool.false_eq_true, e0, oa, obb, k1, k2, z1, t1, t2, z2, c1, c2, z3, decide_true, decide_false, Bool.and_false, Bool.false_and, bz_f]
        · simp (disch := (first | assumption | omega | decide)) only [sX0_looksLike_0, sX0_looksLike_1, sX0_looksLike_3, sX0_looksLike_5, sX0_looksLike_8, sX0_looksLike_9, sX0_looksLike_10, sX0_looksLike_13, sX0_looksLike_14, sX0_looksLike_15, sX0_looksLike_18, sX0_looksLike_21, sX0_looksLike_22, sX0_looksLike_23, sX0_looksLike_24, sX0_looksLike_27, sX0_looksLike_28, sX0_looksLike_29, sX0_looksLike_30, sX0_looksLike_33, sX0_looksLike_36, sX0_looksLike_37, sX0_looksLike_38, sX0_looksLike_41, sX0_looksLike_42, sX0_looksLike_43, sX0_looksLike_46, sX0_looksLike_49, sX0_looksLike_50, sX0_looksLike_51, sX0_looksLike_54, sX0_looksLike_55, sX0_looksLike_56, sX0_looksLike_59, sX0_looksLike_62, sX0_looksLike_63, sX0_looksLike_64, sX0_looksLike_67, sX0_looksLike_68, sX0_looksLike_69, sX0_looksLike_72, sX0_looksLike_75, sX0_looksLike_76, sX0_looksLike_79, sX0_looksLike_80, sX0_looksLike_81, sX0_looksLike_82, sX0_looksLike_85, sX0_looksLike_86, sX0_looksLike_87, sX0_looksLike_90, sX0_looksLike_93, sX0_looksLike_94, kI_i, kL_l, kV_v, am_rv_s, am_kl_i, am_kl_r, am_kl_n, am_kl_l, true_and, and_true, and_self, true_or, or_true, implies_true, forall_const, not_true_eq_false, not_false_eq_true, false_implies, true_implies, if_true, if_false, Bool.true_eq_false, Bool.false_eq_true, e0, oa, obb, k1, k2, z1, t1, t2, z2, decide_true, decide_false, Bool.and_false, Bool.false_and, bz_f]
      · simp (disch := (first | assumption | omega | decide)) only [sX0_looksLike_0, sX0_looksLike_1, sX0_looksLike_3, sX0_looksLike_5, sX0_looksLike_8, sX0_looksLike_9, sX0_looksLike_10, sX0_looksLike_13, sX0_looksLike_14, sX0_looksLike_15, sX0_looksLike_18, sX0_looksLike_21, sX0_looksLike_22, sX0_looksLike_23, sX0_looksLike_24, sX0_looksLike_27, sX0_looksLike_28, sX0_looksLike_29, sX0_looksLike_30, sX0_looksLike_33, sX0_looksLike_36, sX0_looksLike_37, sX0_looksLike_38, sX0_looksLike_41, sX0_looksLike_42, sX0_looksLike_43, sX0_looksLike_46, sX0_looksLike_49, sX0_looksLike_50, sX0_looksLike_51, sX0_looksLike_54, sX0_looksLike_55, sX0_looksLike_56, sX0_looksLike_59, sX0_looksLike_62, sX0_looksLike_63, sX0_looksLike_64, sX0_looksLike_67, sX0_looksLike_68, sX0_looksLike_69, sX0_looksLike_72, sX0_looksLike_75, sX0_looksLike_76, sX0_looksLike_79, sX0_looksLike_80, sX0_looksLike_81, sX0_looksLike_82, sX0_looksLike_85, sX0_looksLike_86, sX0_looksLike_87, sX0_looksLike_90, sX0_looksLike_93, sX0_looksLike_94, kI_i, kL_l, kV_v, am_rv_s, am_kl_i, am_kl_r, am_kl_n, am_kl_l, true_and, and_true, and_self, true_or, or_true, implies_true, forall_const, not_true_eq_false, not_false_eq_true, false_implies, true_implies, if_true, if_false, Bool.true_eq_false, Bool.false_eq_true, e0, oa, obb, k1, k2, z1, decide_false, Bool.false_and, bz_f]
  have k0 := key 6 0 (by omega) none
  rw [eX0_looksLike]
  simp (disch := (first | assumption | omega | decide)) only [sX0_looksLike_0, sX0_looksLike_1, sX0_looksLike_3, sX0_looksLike_5, sX0_looksLike_8, sX0_looksLike_9, sX0_looksLike_10, sX0_looksLike_13, sX0_looksLike_14, sX0_looksLike_15, sX0_looksLike_18, sX0_looksLike_21, sX0_looksLike_22, sX0_looksLike_23, sX0_looksLike_24, sX0_looksLike_27, sX0_looksLike_28, sX0_looksLike_29, sX0_looksLike_30, sX0_looksLike_33, sX0_looksLike_36, sX0_looksLike_37, sX0_looksLike_38, sX0_looksLike_41, sX0_looksLike_42, sX0_looksLike_43, sX0_looksLike_46, sX0_looksLike_49, sX0_looksLike_50, sX0_looksLike_51, sX0_looksLike_54, sX0_looksLike_55, sX0_looksLike_56, sX0_looksLike_59, sX0_looksLike_62, sX0_looksLike_63, sX0_looksLike_64, sX0_looksLike_67, sX0_looksLike_68, sX0_looksLike_69, sX0_looksLike_72, sX0_looksLike_75, sX0_looksLike_76, sX0_looksLike_79, sX0_looksLike_80, sX0_looksLike_81, sX0_looksLike_82, sX0_looksLike_85, sX0_looksLike_86, sX0_looksLike_87, sX0_looksLike_90, sX0_looksLike_93, sX0_looksLike_94, kI_i, kL_l, kV_v, am_rv_s, am_kl_i, am_kl_r, am_kl_n, am_kl_l, true_and, and_true, and_self, true_or, or_true, implies_true, forall_const, not_true_eq_false, not_false_eq_true, false_implies, true_implies, if_true, if_false, Bool.true_eq_false, Bool.false_eq_true]
  exact k0
theorem c_alike {k o : Int32} (hW : WR M) (hs : StC M 3 ap lim S) (hlim : lim ≤ 12) (hP : PlC M PL) : ∃ M', (∀ d (Q : am_Q), am_big (d + 6) mX10_alike [.ref 0, .int k, .int o] 488 M Q = Q (some (.int (alikeA ap lim PL k o))) M') ∧ Fw (fun c _ => 416 ≤ c ∧ c ≤ 423) M M' := by
  have io := fun d (Q : am_Q) => c_isOpen (d := d) (Q := Q) hW hs
  have im := fun d (Q : am_Q) (k : Int32) => c_isMaking (d := d) (Q := Q) (k := k) hP
  unfold alikeA
  cases c1 : opn ap with
  | false =>
    refine ⟨M, fun d Q => ?_, Fw.rf⟩
    rw [if_neg (fun z => by cases z.1), eX10_alike]
    simp (disch := (first | assumption | omega | decide)) only [sX10_alike_0, sX10_alike_1, sX10_alike_4, sX10_alike_7, sX10_alike_8, sX10_alike_9, sX10_alike_12, sX10_alike_15, sX10_alike_16, sX10_alike_17, sX10_alike_20, sX10_alike_23, sX10_alike_24, sX10_alike_25, sX10_alike_26, sX10_alike_29, sX10_alike_30, sX10_alike_33, sX10_alike_34, sX10_alike_37, sX10_alike_38, sX10_alike_41, sX10_alike_42, sX10_alike_43, sX10_alike_44, sX10_alike_47, sX10_alike_50, sX10_alike_53, sX10_alike_54, sX10_alike_55, sX10_alike_58, sX10_alike_59, sX10_alike_62, sX10_alike_63, sX10_alike_66, sX10_alike_67, sX10_alike_70, sX10_alike_71, sX10_alike_72, sX10_alike_73, sX10_alike_76, sX10_alike_79, sX10_alike_82, sX10_alike_83, sX10_alike_84, sX10_alike_87, sX10_alike_88, sX10_alike_91, sX10_alike_94, sX10_alike_97, sX10_alike_98, sX10_alike_101, sX10_alike_102, kI_i, kL_l, kV_v, am_rv_s, am_kl_i, am_kl_r, am_kl_n, am_kl_l, true_and, and_true, and_self, true_or, or_true, implies_true, forall_const, not_true_eq_false, not_false_eq_true, false_implies, true_implies, if_true, if_false, Bool.true_eq_false, Bool.false_eq_true, ob_0, io, c1, bz_f]
  | true =>
    by_cases c2 : 0 ≤ k ∧ k < nI PL.length
    · have cd := decide_eq_true c2
      by_cases c3 : 0 ≤ o ∧ o < nI PL.length
      · have cd3 := decide_eq_true c3
        obtain ⟨i, hi, rfl⟩ := pl_x hP.2.1 c2
        obtain ⟨i', hi', rfl⟩ := pl_x hP.2.1 c3
        have hp4 := hP.2.1
        have hB := hP.2.2 i hi
        have hB' := hP.2.2 i' hi'
        have ci : (nI i).toNatClampNeg = i := nI_clamp (by omega)
        have ci' : (nI i').toNatClampNeg = i' := nI_clamp (by omega)
        rw [if_pos ⟨rfl, c2, c3⟩, ci, ci', pl_get hi, pl_get hi']
        generalize hpl : PL[i] = pl at *
        generalize hpl' : PL[i'] = pl' at *
        have hA : LH (sI M 416 3 0) 416 [] := ⟨⟨DLs_416 hW, gI_e, by simp⟩, fun k t e => by simp at e⟩
        have fA : Fw (fun c _ => 416 ≤ c ∧ c ≤ 423) M (sI M 416 3 0) := Fw.s (by omega)
        have hB1 : LH (sI M 416 3 0) (441 + 4 * i) pl := LH_of (fun c j _ _ => gI_o (by omega)) (fun c j _ _ => rfl) hB
        obtain ⟨M1, e1, r1, f1⟩ := c_follow hlim (by omega) hA hB1 (by simp)
        have hW0 := fA.2 hW
        have hW1 := f1.2 hW0
        have hA2 : LH (sI M1 420 3 0) 420 [] := ⟨⟨DLs_420 hW1, gI_e, by simp⟩, fun k t e => by simp at e⟩
        have f2 : Fw (fun c _ => 420 ≤ c ∧ c ≤ 423) M1 (sI M1 420 3 0) := Fw.s (by omega)
        have hW2 := f2.2 hW1
        have hB2 : LH (sI M1 420 3 0) (441 + 4 * i') pl' := LH_of (fun c j _ _ => by rw [gI_o (by omega), f1.I (by omega), gI_o (by omega)]) (fun c j _ _ => by rw [gR_sI, f1.R (by omega), gR_sI]) hB'
        obtain ⟨M3, e3, r3, f3⟩ := c_follow hlim (by omega) hA2 hB2 (by simp)
        have hW3 := f3.2 hW2
        have r1' : LH M3 416 (fow lim pl pl.length 0 []).2 := LH_of (fun c j _ _ => by rw [f3.I (by omega), gI_o (by omega)]) (fun c j _ _ => by rw [f3.R (by omega), gR_sI]) r1
        have lk := fun d (Q : am_Q) => c_looks (d := d) (Q := Q) r1' r3
        have iz : (am_iw 488 411 5 (nI i) ∨ am_iw 488 411 6 (nI i) ∨ am_iw 488 411 7 (nI i)) = True := by rw [iw_411 (by omega)]; simp
        have iz' : (am_iw 488 411 5 (nI i') ∨ am_iw 488 411 6 (nI i') ∨ am_iw 488 411 7 (nI i')) = True := by rw [iw_411 (by omega)]; simp
        have q1 := r_411 hW0 (show i < 4 by omega)
        have q2 := r_411 hW2 (show i' < 4 by omega)
        have g4 : gI (sI M 416 3 0) 3 4 = nI lim := by rw [gI_o (by omega)]; exact hs.2.2.2.1
        have g4' : gI (sI M1 420 3 0) 3 4 = nI lim := by rw [gI_o (by omega), f1.I (by omega)]; exact g4
        refine ⟨M3, fun d Q => ?_, ((fA.tr (f1.mo (fun c j z => by omega))).tr (f2.mo (fun c j z => by omega))).tr (f3.mo (fun c j z => by omega))⟩
        rw [eX10_alike]
        cases ca : alf (lke (fow lim pl pl.length 0 []).2 (fow lim pl' pl'.length 0 []).2) 0 6 with
        | true => simp (disch := (first | assumption | omega | decide)) only [sX10_alike_0, sX10_alike_1, sX10_alike_4, sX10_alike_7, sX10_alike_8, sX10_alike_9, sX10_alike_12, sX10_alike_15, sX10_alike_16, sX10_alike_17, sX10_alike_20, sX10_alike_23, sX10_alike_24, sX10_alike_25, sX10_alike_26, sX10_alike_29, sX10_alike_30, sX10_alike_33, sX10_alike_34, sX10_alike_37, sX10_alike_38, sX10_alike_41, sX10_alike_42, sX10_alike_43, sX10_alike_44, sX10_alike_47, sX10_alike_50, sX10_alike_53, sX10_alike_54, sX10_alike_55, sX10_alike_58, sX10_alike_59, sX10_alike_62, sX10_alike_63, sX10_alike_66, sX10_alike_67, sX10_alike_70, sX10_alike_71, sX10_alike_72, sX10_alike_73, sX10_alike_76, sX10_alike_79, sX10_alike_82, sX10_alike_83, sX10_alike_84, sX10_alike_87, sX10_alike_88, sX10_alike_91, sX10_alike_94, sX10_alike_97, sX10_alike_98, sX10_alike_101, sX10_alike_102, kI_i, kL_l, kV_v, am_rv_s, am_kl_i, am_kl_r, am_kl_n, am_kl_l, true_and, and_true, and_self, true_or, or_true, implies_true, forall_const, not_true_eq_false, not_false_eq_true, false_implies, true_implies, if_true, if_false, Bool.true_eq_false, Bool.false_eq_true, ob_0, ob_3, ob_416, ob_420, io, c1, bz_t, i01, im, cd, cd3, r_0_11, r_0_12, r_0_8, r_0_1, iz, iz', ci, ci', q1, q2, g4, g4', e1, e3, lk, ca]
        | false => simp (disch := (first | assumption | omega | decide)) only [sX10_alike_0, sX10_alike_1, sX10_alike_4, sX10_alike_7, sX10_alike_8, sX10_alike_9, sX10_alike_12, sX10_alike_15, sX10_alike_16, sX10_alike_17, sX10_alike_20, sX10_alike_23, sX10_alike_24, sX10_alike_25, sX10_alike_26, sX10_alike_29, sX10_alike_30, sX10_alike_33, sX10_alike_34, sX10_alike_37, sX10_alike_38, sX10_alike_41, sX10_alike_42, sX10_alike_43, sX10_alike_44, sX10_alike_47, sX10_alike_50, sX10_alike_53, sX10_alike_54, sX10_alike_55, sX10_alike_58, sX10_alike_59, sX10_alike_62, sX10_alike_63, sX10_alike_66, sX10_alike_67, sX10_alike_70, sX10_alike_71, sX10_alike_72, sX10_alike_73, sX10_alike_76, sX10_alike_79, sX10_alike_82, sX10_alike_83, sX10_alike_84, sX10_alike_87, sX10_alike_88, sX10_alike_91, sX10_alike_94, sX10_alike_97, sX10_alike_98, sX10_alike_101, sX10_alike_102, kI_i, kL_l, kV_v, am_rv_s, am_kl_i, am_kl_r, am_kl_n, am_kl_l, true_and, and_true, and_self, true_or, or_true, implies_true, forall_const, not_true_eq_false, not_false_eq_true, false_implies, true_implies, if_true, if_false, Bool.true_eq_false, Bool.false_eq_true, ob_0, ob_3, ob_416, ob_420, io, c1, bz_t, bz_f, i01, im, cd, cd3, r_0_11, r_0_12, r_0_8, r_0_1, iz, iz', ci, ci', q1, q2, g4, g4', e1, e3, lk, ca]
      · have cd3 := decide_eq_false c3
        refine ⟨M, fun d Q => ?_, Fw.rf⟩
        rw [if_neg (fun z => c3 z.2.2), eX10_alike]
        simp (disch := (first | assumption | omega | decide)) only [sX10_alike_0, sX10_alike_1, sX10_alike_4, sX10_alike_7, sX10_alike_8, sX10_alike_9, sX10_alike_12, sX10_alike_15, sX10_alike_16, sX10_alike_17, sX10_alike_20, sX10_alike_23, sX10_alike_24, sX10_alike_25, sX10_alike_26, sX10_alike_29, sX10_alike_30, sX10_alike_33, sX10_alike_34, sX10_alike_37, sX10_alike_38, sX10_alike_41, sX10_alike_42, sX10_alike_43, sX10_alike_44, sX10_alike_47, sX10_alike_50, sX10_alike_53, sX10_alike_54, sX10_alike_55, sX10_alike_58, sX10_alike_59, sX10_alike_62, sX10_alike_63, sX10_alike_66, sX10_alike_67, sX10_alike_70, sX10_alike_71, sX10_alike_72, sX10_alike_73, sX10_alike_76, sX10_alike_79, sX10_alike_82, sX10_alike_83, sX10_alike_84, sX10_alike_87, sX10_alike_88, sX10_alike_91, sX10_alike_94, sX10_alike_97, sX10_alike_98, sX10_alike_101, sX10_alike_102, kI_i, kL_l, kV_v, am_rv_s, am_kl_i, am_kl_r, am_kl_n, am_kl_l, true_and, and_true, and_self, true_or, or_true, implies_true, forall_const, not_true_eq_false, not_false_eq_true, false_implies, true_implies, if_true, if_false, Bool.true_eq_false, Bool.false_eq_true, ob_0, io, c1, bz_t, bz_f, i01, im, cd, cd3]
    · have cd := decide_eq_false c2
      refine ⟨M, fun d Q => ?_, Fw.rf⟩
      rw [if_neg (fun z => c2 z.2.1), eX10_alike]
      simp (disch := (first | assumption | omega | decide)) only [sX10_alike_0, sX10_alike_1, sX10_alike_4, sX10_alike_7, sX10_alike_8, sX10_alike_9, sX10_alike_12, sX10_alike_15, sX10_alike_16, sX10_alike_17, sX10_alike_20, sX10_alike_23, sX10_alike_24, sX10_alike_25, sX10_alike_26, sX10_alike_29, sX10_alike_30, sX10_alike_33, sX10_alike_34, sX10_alike_37, sX10_alike_38, sX10_alike_41, sX10_alike_42, sX10_alike_43, sX10_alike_44, sX10_alike_47, sX10_alike_50, sX10_alike_53, sX10_alike_54, sX10_alike_55, sX10_alike_58, sX10_alike_59, sX10_alike_62, sX10_alike_63, sX10_alike_66, sX10_alike_67, sX10_alike_70, sX10_alike_71, sX10_alike_72, sX10_alike_73, sX10_alike_76, sX10_alike_79, sX10_alike_82, sX10_alike_83, sX10_alike_84, sX10_alike_87, sX10_alike_88, sX10_alike_91, sX10_alike_94, sX10_alike_97, sX10_alike_98, sX10_alike_101, sX10_alike_102, kI_i, kL_l, kV_v, am_rv_s, am_kl_i, am_kl_r, am_kl_n, am_kl_l, true_and, and_true, and_self, true_or, or_true, implies_true, forall_const, not_true_eq_false, not_false_eq_true, false_implies, true_implies, if_true, if_false, Bool.true_eq_false, Bool.false_eq_true, ob_0, io, c1, bz_t, bz_f, i01, im, cd]
theorem nI_m5 (k : Nat) : 5 * nI k = nI (5 * k) := by rw [show (5 : Int32) = nI 5 from rfl, pk_mul]
theorem nI_p4 (k : Nat) : nI k + 4 = nI (k + 4) := by rw [show (4 : Int32) = nI 4 from rfl, nI_add]
theorem m_laysMade {k o : Nat} (hk : k < 4) (ho : o = 477 ∨ o = 478) (hlim : lim ≤ 12) (hW : WR M) (hK : PkM M k pl) (hm : gI M 457 21 = nI lim) : ∃ M', (∀ d (Q : am_Q), am_big (d + 6) mX11_laysMade [.ref 457, .int (nI k), .ref o] 488 M Q = Q none M') ∧ (∀ i, i < 30 → gI M' o i = mV (fow lim pl pl.length 0 []).2 i) ∧ Fw (fun c j => XGo c j ∨ c = o) M M' := by
  have f0 : Fw XGo M (sI M 466 36 0) := Fw.s (Or.inr rfl)
  have hp0 : PcM (sI M 466 36 0) 466 0 [] := ⟨by simp, gI_e, fun k t e => by simp at e⟩
  have hK0 : PkM (sI M 466 36 0) k pl := PkM_Fw f0 (fun j => by unfold XGo XS; omega) hK
  have hm0 : gI (sI M 466 36 0) 457 21 = nI lim := (gI_o (by omega)).trans hm
  obtain ⟨M1, e1, r1, f1⟩ := m_goPlan hk hlim (f0.2 hW) hp0 WF_nil hK0 hm0
  have hW1 := f1.2 (f0.2 hW)
  obtain ⟨hw, _, _⟩ := fow_ok (pl := pl) hlim pl.length 0 [] WF_nil (by simp)
  generalize hl : (fow lim pl pl.length 0 []).2 = l at *
  have st := fun d (Q : am_Q) => m_stands (d := d) (Q := Q) hW1 (Or.inr rfl) r1 hw
  have fs : Fw XGo M1 (stL M1 l l.length) := Fw_stL.mo (fun c j z => Or.inl z)
  have hW2 := fs.2 hW1
  have f2 : Fw (fun c j => XGo c j ∨ c = o) M (stL M1 l l.length) := ((f0.tr f1).tr fs).mo (fun c j z => Or.inl z)
  have k0 : ∀ q, q < 6 → gI (stL M1 l l.length) 467 q = mV l (5 * q) := fun q hq => by rw [mV_0]; exact gI_st0 hq
  have k1 : ∀ q, q < 6 → gI (stL M1 l l.length) 468 q = mV l (5 * q + 1) := fun q hq => by rw [mV_1]; exact gI_st1 hq
  have k2 : ∀ q, q < 6 → gI (stL M1 l l.length) 470 q = mV l (5 * q + 2) := fun q hq => by rw [mV_2]; exact gI_st3 hq
  have k3 : ∀ q, q < 6 → gI (stL M1 l l.length) 471 q = mV l (5 * q + 3) := fun q hq => by rw [mV_3]; exact gI_st4 hq
  have k4 : ∀ q, q < 6 → gI (stL M1 l l.length) 472 q = mV l (5 * q + 4) := fun q hq => by rw [mV_4]; exact gI_st5 hq
  generalize hN : stL M1 l l.length = N at *
  refine ⟨fl N o 30 (mV l), fun d Q => ?_, fun i hi => gI_fl hi, f2.tr (Fw.f (fun k _ => Or.inr rfl))⟩
  have wo : ∀ k, k < 30 → am_iw 488 o 1 (nI k) = True := fun k hk => by rcases ho with rfl | rfl; exact iw_477 hk; exact iw_478 hk
  have l0 := loop0 (P := fun q => ok (d + 5) mX11_laysMade 488 Q 488 0 0 29 [some (.ref 457), some (.int (nI k)), some (.ref o), some (.int (nI (fow lim pl pl.length 0 []).1)), some (.int (nI q))] [] (fl N o (5 * q) (mV l))) (n := 6) (fun q hq => by
    have e0 : ((6 : Int32) ≤ nI q) = False := by rw [show (6 : Int32) = nI 6 from rfl, nI_leE (by omega) (by omega)]; exact eq_false (by omega)
    have cq : (nI q).toNatClampNeg = q := nI_clamp (by omega)
    have c0 : (nI (5 * q)).toNatClampNeg = 5 * q := nI_clamp (by omega)
    have c1 : (nI (5 * q + 1)).toNatClampNeg = 5 * q + 1 := nI_clamp (by omega)
    have c2 : (nI (5 * q + 2)).toNatClampNeg = 5 * q + 2 := nI_clamp (by omega)
    have c3 : (nI (5 * q + 3)).toNatClampNeg = 5 * q + 3 := nI_clamp (by omega)
    have c4 : (nI (5 * q + 4)).toNatClampNeg = 5 * q + 4 := nI_clamp (by omega)
    have w0 := wo (5 * q) (by omega)
    have w1 := wo (5 * q + 1) (by omega)
    have w2 := wo (5 * q + 2) (by omega)
    have w3 := wo (5 * q + 3) (by omega)
    have w4 := wo (5 * q + 4) (by omega)
    have g : ∀ b L j, 467 ≤ b → b ≤ 472 → gI (fl N o L (mV l)) b j = gI N b j := fun b L j hb hb2 => gI_fn (by omega)
    have g0 := fun L => (g 467 L q (by omega) (by omega)).trans (k0 q hq)
    have g1 := fun L => (g 468 L q (by omega) (by omega)).trans (k1 q hq)
    have g2 := fun L => (g 470 L q (by omega) (by omega)).trans (k2 q hq)
    have g3 := fun L => (g 471 L q (by omega) (by omega)).trans (k3 q hq)
    have g4 := fun L => (g 472 L q (by omega) (by omega)).trans (k4 q hq)
    have s0 : sI (fl N o (5 * q) (mV l)) o (5 * q) (mV l (5 * q)) = fl N o (5 * q + 1) (mV l) := fl_s rfl
    have s1 : sI (fl N o (5 * q + 1) (mV l)) o (5 * q + 1) (mV l (5 * q + 1)) = fl N o (5 * q + 2) (mV l) := fl_s rfl
    have s2 : sI (fl N o (5 * q + 2) (mV l)) o (5 * q + 2) (mV l (5 * q + 2)) = fl N o (5 * q + 3) (mV l) := fl_s rfl
    have s3 : sI (fl N o (5 * q + 3) (mV l)) o (5 * q + 3) (mV l (5 * q + 3)) = fl N o (5 * q + 4) (mV l) := fl_s rfl
    have s4 : sI (fl N o (5 * q + 4) (mV l)) o (5 * q + 4) (mV l (5 * q + 4)) = fl N o (5 * (q + 1)) (mV l) := fl_s rfl
    show ok (d + 5) mX11_laysMade 488 Q 488 0 0 29 _ [] _ = _
    rw [sX11_laysMade_29]
    simp (disch := (first | assumption | omega | decide)) only [sX11_laysMade_0, sX11_laysMade_1, sX11_laysMade_4, sX11_laysMade_6, sX11_laysMade_7, sX11_laysMade_8, sX11_laysMade_9, sX11_laysMade_10, sX11_laysMade_13, sX11_laysMade_14, sX11_laysMade_17, sX11_laysMade_18, sX11_laysMade_19, sX11_laysMade_20, sX11_laysMade_23, sX11_laysMade_26, sX11_laysMade_27, sX11_laysMade_31, sX11_laysMade_33, sX11_laysMade_36, sX11_laysMade_37, sX11_laysMade_38, sX11_laysMade_40, sX11_laysMade_41, sX11_laysMade_42, sX11_laysMade_45, sX11_laysMade_47, sX11_laysMade_48, sX11_laysMade_49, sX11_laysMade_50, sX11_laysMade_51, sX11_laysMade_53, sX11_laysMade_54, sX11_laysMade_55, sX11_laysMade_56, sX11_laysMade_57, sX11_laysMade_60, sX11_laysMade_62, sX11_laysMade_63, sX11_laysMade_64, sX11_laysMade_65, sX11_laysMade_66, sX11_laysMade_68, sX11_laysMade_69, sX11_laysMade_70, sX11_laysMade_71, sX11_laysMade_72, sX11_laysMade_75, sX11_laysMade_77, sX11_laysMade_78, sX11_laysMade_79, sX11_laysMade_80, sX11_laysMade_81, sX11_laysMade_83, sX11_laysMade_84, sX11_laysMade_85, sX11_laysMade_86, sX11_laysMade_87, sX11_laysMade_90, sX11_laysMade_92, sX11_laysMade_93, sX11_laysMade_94, sX11_laysMade_95, sX11_laysMade_96, sX11_laysMade_98, sX11_laysMade_99, sX11_laysMade_100, sX11_laysMade_101, sX11_laysMade_102, sX11_laysMade_105, sX11_laysMade_107, sX11_laysMade_108, sX11_laysMade_109, sX11_laysMade_112, sX11_laysMade_115, kI_i, kL_l, kV_v, am_rv_s, am_kl_i, am_kl_r, am_kl_n, am_kl_l, true_and, and_true, and_self, true_or, or_true, implies_true, forall_const, not_true_eq_false, not_false_eq_true, false_implies, true_implies, if_true, if_false, Bool.true_eq_false, Bool.false_eq_true, ob_457, e0, gR_fl, r_457_31, r_457_32, r_457_34, r_457_35, r_457_36, nI_m5, nI_1, nI_2, nI_3, nI_p4, in_467, in_468, in_470, in_471, in_472, cq, c0, c1, c2, c3, c4, w0, w1, w2, w3, w4, g0, g1, g2, g3, g4, s0, s1, s2, s3, s4])
  have ez : fl N o (5 * 0) (mV l) = N := fl_0
  rw [ez] at l0
  have l1 : ok (d + 5) mX11_laysMade 488 Q 488 0 0 29 [some (.ref 457), some (.int (nI k)), some (.ref o), some (.int (nI (fow lim pl pl.length 0 []).1)), some (.int 0)] [] N = _ := l0
  have e0 : ((6 : Int32) ≤ nI 6) = True := eq_true (by decide)
  have w36 := iw_466 (k := 36) (by omega)
  have hW0 := f0.2 hW
  rw [eX11_laysMade]
  simp (disch := (first | assumption | omega | decide)) only [sX11_laysMade_0, sX11_laysMade_1, sX11_laysMade_4, sX11_laysMade_6, sX11_laysMade_7, sX11_laysMade_8, sX11_laysMade_9, sX11_laysMade_10, sX11_laysMade_13, sX11_laysMade_14, sX11_laysMade_17, sX11_laysMade_18, sX11_laysMade_19, sX11_laysMade_20, sX11_laysMade_23, sX11_laysMade_26, sX11_laysMade_27, sX11_laysMade_31, sX11_laysMade_33, sX11_laysMade_36, sX11_laysMade_37, sX11_laysMade_38, sX11_laysMade_40, sX11_laysMade_41, sX11_laysMade_42, sX11_laysMade_45, sX11_laysMade_47, sX11_laysMade_48, sX11_laysMade_49, sX11_laysMade_50, sX11_laysMade_51, sX11_laysMade_53, sX11_laysMade_54, sX11_laysMade_55, sX11_laysMade_56, sX11_laysMade_57, sX11_laysMade_60, sX11_laysMade_62, sX11_laysMade_63, sX11_laysMade_64, sX11_laysMade_65, sX11_laysMade_66, sX11_laysMade_68, sX11_laysMade_69, sX11_laysMade_70, sX11_laysMade_71, sX11_laysMade_72, sX11_laysMade_75, sX11_laysMade_77, sX11_laysMade_78, sX11_laysMade_79, sX11_laysMade_80, sX11_laysMade_81, sX11_laysMade_83, sX11_laysMade_84, sX11_laysMade_85, sX11_laysMade_86, sX11_laysMade_87, sX11_laysMade_90, sX11_laysMade_92, sX11_laysMade_93, sX11_laysMade_94, sX11_laysMade_95, sX11_laysMade_96, sX11_laysMade_98, sX11_laysMade_99, sX11_laysMade_100, sX11_laysMade_101, sX11_laysMade_102, sX11_laysMade_105, sX11_laysMade_107, sX11_laysMade_108, sX11_laysMade_109, sX11_laysMade_112, sX11_laysMade_115, kI_i, kL_l, kV_v, am_rv_s, am_kl_i, am_kl_r, am_kl_n, am_kl_l, true_and, and_true, and_self, true_or, or_true, implies_true, forall_const, not_true_eq_false, not_false_eq_true, false_implies, true_implies, if_true, if_false, Bool.true_eq_false, Bool.false_eq_true, ob_457, r_457_28, n36, w36, nI_clamp (show 36 < 2147483648 by omega), e1, st, hN, l1]
  rw [sX11_laysMade_29]
  simp (disch := (first | assumption | omega | decide)) only [sX11_laysMade_0, sX11_laysMade_1, sX11_laysMade_4, sX11_laysMade_6, sX11_laysMade_7, sX11_laysMade_8, sX11_laysMade_9, sX11_laysMade_10, sX11_laysMade_13, sX11_laysMade_14, sX11_laysMade_17, sX11_laysMade_18, sX11_laysMade_19, sX11_laysMade_20, sX11_laysMade_23, sX11_laysMade_26, sX11_laysMade_27, sX11_laysMade_31, sX11_laysMade_33, sX11_laysMade_36, sX11_laysMade_37, sX11_laysMade_38, sX11_laysMade_40, sX11_laysMade_41, sX11_laysMade_42, sX11_laysMade_45, sX11_laysMade_47, sX11_laysMade_48, sX11_laysMade_49, sX11_laysMade_50, sX11_laysMade_51, sX11_laysMade_53, sX11_laysMade_54, sX11_laysMade_55, sX11_laysMade_56, sX11_laysMade_57, sX11_laysMade_60, sX11_laysMade_62, sX11_laysMade_63, sX11_laysMade_64, sX11_laysMade_65, sX11_laysMade_66, sX11_laysMade_68, sX11_laysMade_69, sX11_laysMade_70, sX11_laysMade_71, sX11_laysMade_72, sX11_laysMade_75, sX11_laysMade_77, sX11_laysMade_78, sX11_laysMade_79, sX11_laysMade_80, sX11_laysMade_81, sX11_laysMade_83, sX11_laysMade_84, sX11_laysMade_85, sX11_laysMade_86, sX11_laysMade_87, sX11_laysMade_90, sX11_laysMade_92, sX11_laysMade_93, sX11_laysMade_94, sX11_laysMade_95, sX11_laysMade_96, sX11_laysMade_98, sX11_laysMade_99, sX11_laysMade_100, sX11_laysMade_101, sX11_laysMade_102, sX11_laysMade_105, sX11_laysMade_107, sX11_laysMade_108, sX11_laysMade_109, sX11_laysMade_112, sX11_laysMade_115, kI_i, kL_l, kV_v, am_rv_s, am_kl_i, am_kl_r, am_kl_n, am_kl_l, true_and, and_true, and_self, true_or, or_true, implies_true, forall_const, not_true_eq_false, not_false_eq_true, false_implies, true_implies, if_true, if_false, Bool.true_eq_false, Bool.false_eq_true, e0]
theorem m_alike {k o : Int32} (hr : RS M ap lim S P) (hP : PlM M PL) : ∃ M', (∀ d (Q : am_Q), am_big (d + 7) mX11_alike [.ref 457, .int k, .int o] 488 M Q = Q (some (.int (alikeA ap lim PL k o))) M') ∧ Fw (fun c j => XGo c j ∨ c = 477 ∨ c = 478 ∨ (c = 457 ∧ j = 0)) M M' := by
  have f0 : Fw (fun c j => XGo c j ∨ c = 477 ∨ c = 478 ∨ (c = 457 ∧ j = 0)) M (sI M 457 0 0) := Fw.s (Or.inr (Or.inr (Or.inr ⟨rfl, rfl⟩)))
  obtain ⟨hW, hS, hPa, hf, hm, hw, hlim, ht⟩ := RS_th hr
  have hP0 : PlM (sI M 457 0 0) PL := ⟨by rw [gI_j (by omega)]; exact hP.1, hP.2.1, fun i hi => by
    have := hP.2.2 i hi
    exact ⟨by rw [gI_o (by omega)]; exact this.1, this.2.1, fun j t e => by rw [gI_o (by omega), gI_o (by omega), gI_o (by omega)]; exact this.2.2 j t e⟩⟩
  generalize hM0 : sI M 457 0 0 = M0 at *
  have hap := hS.2.2.2.2.1.2.2
  have ol := opn_0 hap
  have ip := fun d (Q : am_Q) (k : Int32) => m_isPlan (d := d) (Q := Q) (k := k) hP0
  unfold alikeA
  by_cases c2 : 0 ≤ k ∧ k < nI PL.length
  · have cd := decide_eq_true c2
    by_cases c3 : 0 ≤ o ∧ o < nI PL.length
    · have cd3 := decide_eq_true c3
      cases c1 : opn ap with
      | false =>
        refine ⟨M0, fun d Q => ?_, f0⟩
        rw [if_neg (fun z => by cases z.1), eX11_alike]
        simp (disch := (first | assumption | omega | decide)) only [sX11_alike_0, sX11_alike_1, sX11_alike_2, sX11_alike_5, sX11_alike_6, sX11_alike_7, sX11_alike_10, sX11_alike_13, sX11_alike_14, sX11_alike_15, sX11_alike_18, sX11_alike_21, sX11_alike_22, sX11_alike_25, sX11_alike_28, sX11_alike_29, sX11_alike_30, sX11_alike_31, sX11_alike_32, sX11_alike_33, sX11_alike_36, sX11_alike_39, sX11_alike_40, sX11_alike_41, sX11_alike_42, sX11_alike_45, sX11_alike_48, sX11_alike_49, sX11_alike_51, sX11_alike_53, sX11_alike_56, sX11_alike_57, sX11_alike_60, sX11_alike_61, sX11_alike_62, sX11_alike_63, sX11_alike_66, sX11_alike_67, sX11_alike_68, sX11_alike_71, sX11_alike_72, sX11_alike_73, sX11_alike_76, sX11_alike_79, sX11_alike_80, kI_i, kL_l, kV_v, am_rv_s, am_kl_i, am_kl_r, am_kl_n, am_kl_l, true_and, and_true, and_self, true_or, or_true, implies_true, forall_const, not_true_eq_false, not_false_eq_true, false_implies, true_implies, if_true, if_false, Bool.true_eq_false, Bool.false_eq_true, ob_457, hM0, ip, cd, cd3, bz_t, i01, hf, ol, c1]
      | true =>
        obtain ⟨i, hi, rfl⟩ := pl_x hP0.2.1 c2
        obtain ⟨i', hi', rfl⟩ := pl_x hP0.2.1 c3
        have hp4 := hP0.2.1
        have hK := PlM_k hP0 hi
        have hK' := PlM_k hP0 hi'
        have ci : (nI i).toNatClampNeg = i := nI_clamp (by omega)
        have ci' : (nI i').toNatClampNeg = i' := nI_clamp (by omega)
        rw [if_pos ⟨rfl, c2, c3⟩, ci, ci', pl_get hi, pl_get hi']
        generalize hpl : PL[i] = pl at *
        generalize hpl' : PL[i'] = pl' at *
        obtain ⟨M1, e1, r1, f1⟩ := m_laysMade (show i < 4 by omega) (Or.inl rfl) hlim hW hK hm
        have hW1 := f1.2 hW
        have hm1 : gI M1 457 21 = nI lim := (f1.I (by unfold XGo XS; omega)).trans hm
        obtain ⟨M2, e2, r2, f2⟩ := m_laysMade (show i' < 4 by omega) (Or.inr rfl) hlim hW1 (PkM_Fw f1 (fun j => by unfold XGo XS; omega) hK') hm1
        have hW2 := f2.2 hW1
        have r1' : ∀ j, j < 30 → gI M2 477 j = mV (fow lim pl pl.length 0 []).2 j := fun j hj => (f2.I (by unfold XGo XS; omega)).trans (r1 j hj)
        refine ⟨M2, fun d Q => ?_, (f0.tr (f1.mo (fun c j z => z.elim Or.inl (fun z => Or.inr (Or.inl z))))).tr (f2.mo (fun c j z => z.elim Or.inl (fun z => Or.inr (Or.inr (Or.inl z)))))⟩
        obtain ⟨w1, _, _⟩ := fow_ok (pl := pl) hlim pl.length 0 [] WF_nil (by simp)
        obtain ⟨w2, _, _⟩ := fow_ok (pl := pl') hlim pl'.length 0 [] WF_nil (by simp)
        rw [← alk_eq w1 w2]
        generalize (fow lim pl pl.length 0 []).2 = l1 at *
        generalize (fow lim pl' pl'.length 0 []).2 = l2 at *
        have key : ∀ j q, q + j = 30 → ok (d + 6) mX11_alike 488 Q 488 0 0 50 [some (.ref 457), some (.int (nI i)), some (.int (nI i')), some (.int (nI q))] [] M2 = Q (some (.int (bz (alf (fun i => decide (mV l1 i = mV l2 i)) q j)))) M2 := by
          intro j
          induction j with
          | zero =>
            intro q hq
            have e0 : ((30 : Int32) ≤ nI q) = True := by rw [show (30 : Int32) = nI 30 from rfl, nI_leE (by omega) (by omega)]; exact eq_true (by omega)
            rw [sX11_alike_50]
            simp (disch := (first | assumption | omega | decide)) only [sX11_alike_0, sX11_alike_1, sX11_alike_2, sX11_alike_5, sX11_alike_6, sX11_alike_7, sX11_alike_10, sX11_alike_13, sX11_alike_14, sX11_alike_15, sX11_alike_18, sX11_alike_21, sX11_alike_22, sX11_alike_25, sX11_alike_28, sX11_alike_29, sX11_alike_30, sX11_alike_31, sX11_alike_32, sX11_alike_33, sX11_alike_36, sX11_alike_39, sX11_alike_40, sX11_alike_41, sX11_alike_42, sX11_alike_45, sX11_alike_48, sX11_alike_49, sX11_alike_51, sX11_alike_53, sX11_alike_56, sX11_alike_57, sX11_alike_60, sX11_alike_61, sX11_alike_62, sX11_alike_63, sX11_alike_66, sX11_alike_67, sX11_alike_68, sX11_alike_71, sX11_alike_72, sX11_alike_73, sX11_alike_76, sX11_alike_79, sX11_alike_80, kI_i, kL_l, kV_v, am_rv_s, am_kl_i, am_kl_r, am_kl_n, am_kl_l, true_and, and_true, and_self, true_or, or_true, implies_true, forall_const, not_true_eq_false, not_false_eq_true, false_implies, true_implies, if_true, if_false, Bool.true_eq_false, Bool.false_eq_true, e0]
            rfl
          | succ j ih =>
            intro q hq
            have e0 : ((30 : Int32) ≤ nI q) = False := by rw [show (30 : Int32) = nI 30 from rfl, nI_leE (by omega) (by omega)]; exact eq_false (by omega)
            have cq : (nI q).toNatClampNeg = q := nI_clamp (by omega)
            have i7 := in_477 (M := M2) (k := q) (by omega)
            have i8 := in_478 (M := M2) (k := q) (by omega)
            have g1 := r1' q (by omega)
            have g2 := r2 q (by omega)
            have ih' := ih (q + 1) (by omega)
            show _ = Q (some (.int (bz (decide (mV l1 q = mV l2 q) && alf (fun i => decide (mV l1 i = mV l2 i)) (q + 1) j)))) M2
            rw [sX11_alike_50]
            by_cases z : mV l1 q = mV l2 q
            · simp (disch := (first | assumption | omega | decide)) only [sX11_alike_0, sX11_alike_1, sX11_alike_2, sX11_alike_5, sX11_alike_6, sX11_alike_7, sX11_alike_10, sX11_alike_13, sX11_alike_14, sX11_alike_15, sX11_alike_18, sX11_alike_21, sX11_alike_22, sX11_alike_25, sX11_alike_28, sX11_alike_29, sX11_alike_30, sX11_alike_31, sX11_alike_32, sX11_alike_33, sX11_alike_36, sX11_alike_39, sX11_alike_40, sX11_alike_41, sX11_alike_42, sX11_alike_45, sX11_alike_48, sX11_alike_49, sX11_alike_51, sX11_alike_53, sX11_alike_56, sX11_alike_57, sX11_alike_60, sX11_alike_61, sX11_alike_62, sX11_alike_63, sX11_alike_66, sX11_alike_67, sX11_alike_68, sX11_alike_71, sX11_alike_72, sX11_alike_73, sX11_alike_76, sX11_alike_79, sX11_alike_80, kI_i, kL_l, kV_v, am_rv_s, am_kl_i, am_kl_r, am_kl_n, am_kl_l, true_and, and_true, and_self, true_or, or_true, implies_true, forall_const, not_true_eq_false, not_false_eq_true, false_implies, true_implies, if_true, if_false, Bool.true_eq_false, Bool.false_eq_true, ob_457, e0, r_457_43, r_457_44, i7, i8, cq, g1, g2, z, nI_1, ih', decide_true, Bool.true_and]
            · simp (disch := (first | assumption | omega | decide)) only [sX11_alike_0, sX11_alike_1, sX11_alike_2, sX11_alike_5, sX11_alike_6, sX11_alike_7, sX11_alike_10, sX11_alike_13, sX11_alike_14, sX11_alike_15, sX11_alike_18, sX11_alike_21, sX11_alike_22, sX11_alike_25, sX11_alike_28, sX11_alike_29, sX11_alike_30, sX11_alike_31, sX11_alike_32, sX11_alike_33, sX11_alike_36, sX11_alike_39, sX11_alike_40, sX11_alike_41, sX11_alike_42, sX11_alike_45, sX11_alike_48, sX11_alike_49, sX11_alike_51, sX11_alike_53, sX11_alike_56, sX11_alike_57, sX11_alike_60, sX11_alike_61, sX11_alike_62, sX11_alike_63, sX11_alike_66, sX11_alike_67, sX11_alike_68, sX11_alike_71, sX11_alike_72, sX11_alike_73, sX11_alike_76, sX11_alike_79, sX11_alike_80, kI_i, kL_l, kV_v, am_rv_s, am_kl_i, am_kl_r, am_kl_n, am_kl_l, true_and, and_true, and_self, true_or, or_true, implies_true, forall_const, not_true_eq_false, not_false_eq_true, false_implies, true_implies, if_true, if_false, Bool.true_eq_false, Bool.false_eq_true, ob_457, e0, r_457_43, r_457_44, i7, i8, cq, g1, g2, z, decide_false, Bool.false_and, bz_f]
        have k0 : ok (d + 6) mX11_alike 488 Q 488 0 0 50 [some (.ref 457), some (.int (nI i)), some (.int (nI i')), some (.int 0)] [] M2 = _ := key 30 0 (by omega)
        rw [eX11_alike]
        simp (disch := (first | assumption | omega | decide)) only [sX11_alike_0, sX11_alike_1, sX11_alike_2, sX11_alike_5, sX11_alike_6, sX11_alike_7, sX11_alike_10, sX11_alike_13, sX11_alike_14, sX11_alike_15, sX11_alike_18, sX11_alike_21, sX11_alike_22, sX11_alike_25, sX11_alike_28, sX11_alike_29, sX11_alike_30, sX11_alike_31, sX11_alike_32, sX11_alike_33, sX11_alike_36, sX11_alike_39, sX11_alike_40, sX11_alike_41, sX11_alike_42, sX11_alike_45, sX11_alike_48, sX11_alike_49, sX11_alike_51, sX11_alike_53, sX11_alike_56, sX11_alike_57, sX11_alike_60, sX11_alike_61, sX11_alike_62, sX11_alike_63, sX11_alike_66, sX11_alike_67, sX11_alike_68, sX11_alike_71, sX11_alike_72, sX11_alike_73, sX11_alike_76, sX11_alike_79, sX11_alike_80, kI_i, kL_l, kV_v, am_rv_s, am_kl_i, am_kl_r, am_kl_n, am_kl_l, true_and, and_true, and_self, true_or, or_true, implies_true, forall_const, not_true_eq_false, not_false_eq_true, false_implies, true_implies, if_true, if_false, Bool.true_eq_false, Bool.false_eq_true, ob_457, hM0, ip, cd, cd3, bz_t, i01, hf, ol, c1, r_457_43, r_457_44, e1, e2, k0]
    · have cd3 := decide_eq_false c3
      refine ⟨M0, fun d Q => ?_, f0⟩
      rw [if_neg (fun z => c3 z.2.2), eX11_alike]
      simp (disch := (first | assumption | omega | decide)) only [sX11_alike_0, sX11_alike_1, sX11_alike_2, sX11_alike_5, sX11_alike_6, sX11_alike_7, sX11_alike_10, sX11_alike_13, sX11_alike_14, sX11_alike_15, sX11_alike_18, sX11_alike_21, sX11_alike_22, sX11_alike_25, sX11_alike_28, sX11_alike_29, sX11_alike_30, sX11_alike_31, sX11_alike_32, sX11_alike_33, sX11_alike_36, sX11_alike_39, sX11_alike_40, sX11_alike_41, sX11_alike_42, sX11_alike_45, sX11_alike_48, sX11_alike_49, sX11_alike_51, sX11_alike_53, sX11_alike_56, sX11_alike_57, sX11_alike_60, sX11_alike_61, sX11_alike_62, sX11_alike_63, sX11_alike_66, sX11_alike_67, sX11_alike_68, sX11_alike_71, sX11_alike_72, sX11_alike_73, sX11_alike_76, sX11_alike_79, sX11_alike_80, kI_i, kL_l, kV_v, am_rv_s, am_kl_i, am_kl_r, am_kl_n, am_kl_l, true_and, and_true, and_self, true_or, or_true, implies_true, forall_const, not_true_eq_false, not_false_eq_true, false_implies, true_implies, if_true, if_false, Bool.true_eq_false, Bool.false_eq_true, ob_457, hM0, ip, cd, cd3, bz_t, bz_f, i01]
  · have cd := decide_eq_false c2
    refine ⟨M0, fun d Q => ?_, f0⟩
    rw [if_neg (fun z => c2 z.2.1), eX11_alike]
    simp (disch := (first | assumption | omega | decide)) only [sX11_alike_0, sX11_alike_1, sX11_alike_2, sX11_alike_5, sX11_alike_6, sX11_alike_7, sX11_alike_10, sX11_alike_13, sX11_alike_14, sX11_alike_15, sX11_alike_18, sX11_alike_21, sX11_alike_22, sX11_alike_25, sX11_alike_28, sX11_alike_29, sX11_alike_30, sX11_alike_31, sX11_alike_32, sX11_alike_33, sX11_alike_36, sX11_alike_39, sX11_alike_40, sX11_alike_41, sX11_alike_42, sX11_alike_45, sX11_alike_48, sX11_alike_49, sX11_alike_51, sX11_alike_53, sX11_alike_56, sX11_alike_57, sX11_alike_60, sX11_alike_61, sX11_alike_62, sX11_alike_63, sX11_alike_66, sX11_alike_67, sX11_alike_68, sX11_alike_71, sX11_alike_72, sX11_alike_73, sX11_alike_76, sX11_alike_79, sX11_alike_80, kI_i, kL_l, kV_v, am_rv_s, am_kl_i, am_kl_r, am_kl_n, am_kl_l, true_and, and_true, and_self, true_or, or_true, implies_true, forall_const, not_true_eq_false, not_false_eq_true, false_implies, true_implies, if_true, if_false, Bool.true_eq_false, Bool.false_eq_true, ob_457, hM0, ip, cd, bz_f]
end
