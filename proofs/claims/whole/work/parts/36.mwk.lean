/-! the workshop's text: the reference -/
theorem dgt_n {x : Int32} (h : dgt x = true) : ∃ k, k < 10 ∧ x = nI (48 + k) := by
  unfold dgt at h
  simp only [Bool.and_eq_true, decide_eq_true_eq] at h
  obtain ⟨j, h1, h2⟩ := nI_of2 (x := x) (M := 57) (n := 57) (by decide) (fun q => absurd (Int32.lt_of_le_of_lt h.1 q) (by decide)) h.2
  rw [h2, show (48 : Int32) = nI 48 from rfl, nI_leE (by omega) (by omega)] at h
  exact ⟨j - 48, by omega, by rw [h2]; congr 1; omega⟩
theorem rnum2 {T : Nat → Int32} {len p : Nat} : rnum T len 2 p = if dgt (sg T len (skp T len p)) = true then (if dgt (sg T len (skp T len p + 1)) = true then (if dgt (sg T len (skp T len p + 2)) = true then (-1, skp T len p + 2) else ((sg T len (skp T len p) - 48) * 10 + sg T len (skp T len p + 1) - 48, skp T len p + 2)) else (sg T len (skp T len p) - 48, skp T len p + 1)) else (-1, skp T len p) := by
  unfold rnum
  split
  · rename_i c
    have hlt := sg_dg c
    generalize skp T len p = q at *
    cases hj : len - (q + 1) with
    | zero =>
      have e1 : sg T len (q + 1) = -1 := by unfold sg; rw [if_neg (by omega)]
      rw [e1]
      rfl
    | succ j =>
      have e1 : sg T len (q + 1) = T (q + 1) := by unfold sg; rw [if_pos (by omega)]
      rw [e1]
      unfold rn
      by_cases c1 : dgt (T (q + 1)) = true
      · simp only [c1, if_true, show ¬ (2 ≤ 1) from by omega, if_false]
        cases j with
        | zero =>
          have e2 : sg T len (q + 2) = -1 := by unfold sg; rw [if_neg (by omega)]
          rw [e2]
          rfl
        | succ j =>
          have e2 : sg T len (q + 2) = T (q + 2) := by unfold sg; rw [if_pos (by omega)]
          rw [e2]
          unfold rn
          by_cases c2 : dgt (T (q + 2)) = true
          · simp only [c2, if_true, Nat.le_refl]
          · simp only [c2, if_false]; rfl
      · simp only [c1, if_false]; rfl
  · rfl
theorem i64le (x y : Int32) : (x.toInt64 ≤ y.toInt64) = (x ≤ y) := propext Int32.toInt64_le
theorem i64lt (x y : Int32) : (x.toInt64 < y.toInt64) = (x < y) := propext Int32.toInt64_lt
section
variable {d : Nat} {M : am_M} {Q : am_Q} {b beg len p q : Nat} {T : Nat → Int32} {f : Int32}
theorem m_isInL {x lo hi : Int64} : am_big (d + 1) mX11_isIn [.long x, .long lo, .long hi] 488 M Q = Q (some (.int (bz (decide (lo ≤ x) && decide (x ≤ hi))))) M := by
  rw [eX11_isIn]
  have h1 : (lg_cmp x lo < 0) = (x < lo) := by rw [← Int32.not_le, ← Int64.not_le]; exact congrArg Not (propext (lg_cmp_ge x lo))
  have h2 : (0 < lg_cmp x hi) = (hi < x) := by rw [← Int32.not_le, ← Int64.not_le]; exact congrArg Not (propext (lg_cmp_le x hi))
  simp only [sX11_isIn_0, sX11_isIn_1, sX11_isIn_2, sX11_isIn_3, sX11_isIn_6, sX11_isIn_7, sX11_isIn_9, sX11_isIn_10, sX11_isIn_13, sX11_isIn_14, sX11_isIn_17, sX11_isIn_18, kI_i, kL_l, kV_v, am_rv_s, am_kl_i, am_kl_r, am_kl_n, am_kl_l, true_and, and_true, and_self, true_or, or_true, implies_true, forall_const, not_true_eq_false, not_false_eq_true, false_implies, true_implies, if_true, if_false, Bool.true_eq_false, Bool.false_eq_true, h1, h2]
  by_cases c1 : x < lo
  · have : ¬ lo ≤ x := Int64.not_le.mpr c1
    simp [c1, this, bz]
  · have c1' : lo ≤ x := Int64.not_lt.mp c1
    by_cases c2 : hi < x
    · have : ¬ x ≤ hi := Int64.not_le.mpr c2
      simp [c1, c1', c2, this, bz]
    · have : x ≤ hi := Int64.not_lt.mp c2
      simp [c1, c1', c2, this, bz]
theorem m_isIn {x lo hi : Int32} : am_big (d + 1) mX11_isIn [.long x.toInt64, .long lo.toInt64, .long hi.toInt64] 488 M Q = Q (some (.int (bz (decide (lo ≤ x) && decide (x ≤ hi))))) M := by
  rw [m_isInL]
  simp only [i64le]
theorem m_has {x k : Int32} : am_big (d + 1) mX11_has [.int x, .int k] 488 M Q = Q (some (.int (bz (decide ((x >>> (k &&& 31)) &&& 1 = 1))))) M := by
  rw [eX11_has]
  by_cases c : (x >>> (k &&& 31)) &&& 1 = 1
  · simp only [sX11_has_0, sX11_has_1, sX11_has_2, sX11_has_3, sX11_has_4, sX11_has_5, sX11_has_6, sX11_has_9, sX11_has_10, sX11_has_13, sX11_has_14, kI_i, kL_l, kV_v, am_rv_s, am_kl_i, am_kl_r, am_kl_n, am_kl_l, true_and, and_true, and_self, true_or, or_true, implies_true, forall_const, not_true_eq_false, not_false_eq_true, false_implies, true_implies, if_true, if_false, Bool.true_eq_false, Bool.false_eq_true, c, decide_true, bz_t]
  · simp only [sX11_has_0, sX11_has_1, sX11_has_2, sX11_has_3, sX11_has_4, sX11_has_5, sX11_has_6, sX11_has_9, sX11_has_10, sX11_has_13, sX11_has_14, kI_i, kL_l, kV_v, am_rv_s, am_kl_i, am_kl_r, am_kl_n, am_kl_l, true_and, and_true, and_self, true_or, or_true, implies_true, forall_const, not_true_eq_false, not_false_eq_true, false_implies, true_implies, if_true, if_false, Bool.true_eq_false, Bool.false_eq_true, c, decide_false, bz_f]
/-- what a number read leaves: the place, and a fault where there is one -/
def fx (ok : Bool) (q : Nat) : Int32 := if ok then -1 else nI q
def nok (T : Nat → Int32) (len p : Nat) (lo hi : Int32) : Bool := decide (¬ (rbd T len p lo hi).1 = -1)
theorem m_number {lo hi : Int32} (h : PB M b beg T len) (hp : p ≤ len) : ∃ v, (∀ d Q, am_big (d + 2) mX11_number [.ref 457, .int lo, .int hi] 488 (pm M p (-1)) Q = Q (some (.int v)) (pm M (rbd T len p lo hi).2 (fx (nok T len p lo hi) (rbd T len p lo hi).2))) ∧ (¬ (rbd T len p lo hi).1 = -1 → v = (rbd T len p lo hi).1) := by
  have hs := skp_le' (T := T) hp
  unfold nok rbd fx
  rw [rnum2]
  cases c1 : dgt (sg T len (skp T len p)) with
  | false =>
    refine ⟨0, fun d Q => ?_, by simp⟩
    rw [eX11_number]
    simp (disch := (first | assumption | omega | decide)) only [sX11_number_0, sX11_number_1, sX11_number_4, sX11_number_5, sX11_number_6, sX11_number_9, sX11_number_12, sX11_number_13, sX11_number_16, sX11_number_17, sX11_number_18, sX11_number_19, sX11_number_20, sX11_number_22, sX11_number_23, sX11_number_25, sX11_number_26, sX11_number_27, sX11_number_30, sX11_number_31, sX11_number_32, sX11_number_35, sX11_number_36, sX11_number_39, sX11_number_42, sX11_number_44, sX11_number_46, sX11_number_47, sX11_number_48, sX11_number_51, sX11_number_52, sX11_number_54, sX11_number_55, sX11_number_57, sX11_number_58, sX11_number_59, sX11_number_62, sX11_number_63, sX11_number_64, sX11_number_67, sX11_number_68, sX11_number_71, sX11_number_74, sX11_number_75, sX11_number_78, sX11_number_79, sX11_number_80, sX11_number_81, sX11_number_83, sX11_number_84, sX11_number_85, sX11_number_86, sX11_number_87, sX11_number_88, sX11_number_91, sX11_number_94, sX11_number_95, sX11_number_96, sX11_number_99, sX11_number_100, sX11_number_101, sX11_number_104, sX11_number_105, sX11_number_108, sX11_number_109, sX11_number_111, kI_i, kL_l, kV_v, am_rv_s, am_kl_i, am_kl_r, am_kl_n, am_kl_l, true_and, and_true, and_self, true_or, or_true, implies_true, forall_const, not_true_eq_false, not_false_eq_true, false_implies, true_implies, if_true, if_false, Bool.true_eq_false, Bool.false_eq_true, ob_457, m_look h, m_isDigit h, c1, bz_f, m_fails0, decide_false, decide_true]
  | true =>
    have hlt1 := sg_dg c1
    obtain ⟨k1, hk1, e1⟩ := dgt_n c1
    have v1 : sg T len (skp T len p) - 48 = nI k1 := by rw [e1, show (48 : Int32) = nI 48 from rfl, pk_sub (by omega)]; congr 1; omega
    cases c2 : dgt (sg T len (skp T len p + 1)) with
    | false =>
      have n1 : (nI k1 = -1) = False := nI_m1 (by omega)
      simp only [if_true, Bool.false_eq_true, if_false, v1, n1, not_false_eq_true]
      by_cases c4 : nI k1 < lo ∨ hi < nI k1
      · refine ⟨nI k1, fun d Q => ?_, by simp [c4]⟩
        have e4 : (decide (lo ≤ nI k1) && decide (nI k1 ≤ hi)) = false := by
          rcases c4 with z | z
          · simp [Int32.not_le.mpr z]
          · simp [Int32.not_le.mpr z]
        rw [eX11_number]
        have e5 : nI (skp T len p + 1) - 1 = nI (skp T len p) := nI_pred _
        simp (disch := (first | assumption | omega | decide)) only [sX11_number_0, sX11_number_1, sX11_number_4, sX11_number_5, sX11_number_6, sX11_number_9, sX11_number_12, sX11_number_13, sX11_number_16, sX11_number_17, sX11_number_18, sX11_number_19, sX11_number_20, sX11_number_22, sX11_number_23, sX11_number_25, sX11_number_26, sX11_number_27, sX11_number_30, sX11_number_31, sX11_number_32, sX11_number_35, sX11_number_36, sX11_number_39, sX11_number_42, sX11_number_44, sX11_number_46, sX11_number_47, sX11_number_48, sX11_number_51, sX11_number_52, sX11_number_54, sX11_number_55, sX11_number_57, sX11_number_58, sX11_number_59, sX11_number_62, sX11_number_63, sX11_number_64, sX11_number_67, sX11_number_68, sX11_number_71, sX11_number_74, sX11_number_75, sX11_number_78, sX11_number_79, sX11_number_80, sX11_number_81, sX11_number_83, sX11_number_84, sX11_number_85, sX11_number_86, sX11_number_87, sX11_number_88, sX11_number_91, sX11_number_94, sX11_number_95, sX11_number_96, sX11_number_99, sX11_number_100, sX11_number_101, sX11_number_104, sX11_number_105, sX11_number_108, sX11_number_109, sX11_number_111, kI_i, kL_l, kV_v, am_rv_s, am_kl_i, am_kl_r, am_kl_n, am_kl_l, true_and, and_true, and_self, true_or, or_true, implies_true, forall_const, not_true_eq_false, not_false_eq_true, false_implies, true_implies, if_true, if_false, Bool.true_eq_false, Bool.false_eq_true, ob_457, m_look h, m_isDigit h, c1, c2, bz_t, bz_f, i01, v1, gI_pm0, nI_1, pm_at, m_isIn, e4, e5, m_fails0, c4, decide_false, Nat.add_sub_cancel]
      · refine ⟨nI k1, fun d Q => ?_, by simp [c4]⟩
        have e4 : (decide (lo ≤ nI k1) && decide (nI k1 ≤ hi)) = true := by
          have z1 : lo ≤ nI k1 := Int32.not_lt.mp (fun z => c4 (Or.inl z))
          have z2 : nI k1 ≤ hi := Int32.not_lt.mp (fun z => c4 (Or.inr z))
          simp [z1, z2]
        rw [eX11_number]
        simp (disch := (first | assumption | omega | decide)) only [sX11_number_0, sX11_number_1, sX11_number_4, sX11_number_5, sX11_number_6, sX11_number_9, sX11_number_12, sX11_number_13, sX11_number_16, sX11_number_17, sX11_number_18, sX11_number_19, sX11_number_20, sX11_number_22, sX11_number_23, sX11_number_25, sX11_number_26, sX11_number_27, sX11_number_30, sX11_number_31, sX11_number_32, sX11_number_35, sX11_number_36, sX11_number_39, sX11_number_42, sX11_number_44, sX11_number_46, sX11_number_47, sX11_number_48, sX11_number_51, sX11_number_52, sX11_number_54, sX11_number_55, sX11_number_57, sX11_number_58, sX11_number_59, sX11_number_62, sX11_number_63, sX11_number_64, sX11_number_67, sX11_number_68, sX11_number_71, sX11_number_74, sX11_number_75, sX11_number_78, sX11_number_79, sX11_number_80, sX11_number_81, sX11_number_83, sX11_number_84, sX11_number_85, sX11_number_86, sX11_number_87, sX11_number_88, sX11_number_91, sX11_number_94, sX11_number_95, sX11_number_96, sX11_number_99, sX11_number_100, sX11_number_101, sX11_number_104, sX11_number_105, sX11_number_108, sX11_number_109, sX11_number_111, kI_i, kL_l, kV_v, am_rv_s, am_kl_i, am_kl_r, am_kl_n, am_kl_l, true_and, and_true, and_self, true_or, or_true, implies_true, forall_const, not_true_eq_false, not_false_eq_true, false_implies, true_implies, if_true, if_false, Bool.true_eq_false, Bool.false_eq_true, ob_457, m_look h, m_isDigit h, c1, c2, bz_t, bz_f, i01, v1, gI_pm0, nI_1, pm_at, m_isIn, e4, c4, n1, decide_true]
    | true =>
      have hlt2 := sg_dg c2
      obtain ⟨k2, hk2, e2⟩ := dgt_n c2
      have v2 : nI k1 * 10 + sg T len (skp T len p + 1) - 48 = nI (10 * k1 + k2) := by rw [e2, show (10 : Int32) = nI 10 from rfl, show (48 : Int32) = nI 48 from rfl, pk_mul, nI_add, pk_sub (by omega)]; congr 1; omega
      have v2' : 10 * nI k1 + sg T len (skp T len p + 1) - 48 = nI (10 * k1 + k2) := by rw [← v2, Int32.mul_comm]
      have n1 : (nI (10 * k1 + k2) = -1) = False := nI_m1 (by omega)
      have e22 : skp T len p + 1 + 1 = skp T len p + 2 := rfl
      cases c3 : dgt (sg T len (skp T len p + 2)) with
      | true =>
        refine ⟨0, fun d Q => ?_, by simp⟩
        rw [eX11_number]
        simp (disch := (first | assumption | omega | decide)) only [sX11_number_0, sX11_number_1, sX11_number_4, sX11_number_5, sX11_number_6, sX11_number_9, sX11_number_12, sX11_number_13, sX11_number_16, sX11_number_17, sX11_number_18, sX11_number_19, sX11_number_20, sX11_number_22, sX11_number_23, sX11_number_25, sX11_number_26, sX11_number_27, sX11_number_30, sX11_number_31, sX11_number_32, sX11_number_35, sX11_number_36, sX11_number_39, sX11_number_42, sX11_number_44, sX11_number_46, sX11_number_47, sX11_number_48, sX11_number_51, sX11_number_52, sX11_number_54, sX11_number_55, sX11_number_57, sX11_number_58, sX11_number_59, sX11_number_62, sX11_number_63, sX11_number_64, sX11_number_67, sX11_number_68, sX11_number_71, sX11_number_74, sX11_number_75, sX11_number_78, sX11_number_79, sX11_number_80, sX11_number_81, sX11_number_83, sX11_number_84, sX11_number_85, sX11_number_86, sX11_number_87, sX11_number_88, sX11_number_91, sX11_number_94, sX11_number_95, sX11_number_96, sX11_number_99, sX11_number_100, sX11_number_101, sX11_number_104, sX11_number_105, sX11_number_108, sX11_number_109, sX11_number_111, kI_i, kL_l, kV_v, am_rv_s, am_kl_i, am_kl_r, am_kl_n, am_kl_l, true_and, and_true, and_self, true_or, or_true, implies_true, forall_const, not_true_eq_false, not_false_eq_true, false_implies, true_implies, if_true, if_false, Bool.true_eq_false, Bool.false_eq_true, ob_457, m_look h, m_isDigit h, m_here h, c1, c2, c3, bz_t, bz_f, i01, v1, v2', gI_pm0, nI_1, pm_at, e22, m_fails0, decide_false]
      | false =>
        simp only [if_true, Bool.false_eq_true, if_false, v1, v2, n1, not_false_eq_true]
        by_cases c4 : nI (10 * k1 + k2) < lo ∨ hi < nI (10 * k1 + k2)
        · refine ⟨nI (10 * k1 + k2), fun d Q => ?_, by simp [c4]⟩
          have e4 : (decide (lo ≤ nI (10 * k1 + k2)) && decide (nI (10 * k1 + k2) ≤ hi)) = false := by
            rcases c4 with z | z
            · simp [Int32.not_le.mpr z]
            · simp [Int32.not_le.mpr z]
          rw [eX11_number]
          have e5 : nI (skp T len p + 2) - 1 = nI (skp T len p + 1) := nI_pred _
          have e6 : skp T len p + 2 - 1 = skp T len p + 1 := rfl
          simp (disch := (first | assumption | omega | decide)) only [sX11_number_0, sX11_number_1, sX11_number_4, sX11_number_5, sX11_number_6, sX11_number_9, sX11_number_12, sX11_number_13, sX11_number_16, sX11_number_17, sX11_number_18, sX11_number_19, sX11_number_20, sX11_number_22, sX11_number_23, sX11_number_25, sX11_number_26, sX11_number_27, sX11_number_30, sX11_number_31, sX11_number_32, sX11_number_35, sX11_number_36, sX11_number_39, sX11_number_42, sX11_number_44, sX11_number_46, sX11_number_47, sX11_number_48, sX11_number_51, sX11_number_52, sX11_number_54, sX11_number_55, sX11_number_57, sX11_number_58, sX11_number_59, sX11_number_62, sX11_number_63, sX11_number_64, sX11_number_67, sX11_number_68, sX11_number_71, sX11_number_74, sX11_number_75, sX11_number_78, sX11_number_79, sX11_number_80, sX11_number_81, sX11_number_83, sX11_number_84, sX11_number_85, sX11_number_86, sX11_number_87, sX11_number_88, sX11_number_91, sX11_number_94, sX11_number_95, sX11_number_96, sX11_number_99, sX11_number_100, sX11_number_101, sX11_number_104, sX11_number_105, sX11_number_108, sX11_number_109, sX11_number_111, kI_i, kL_l, kV_v, am_rv_s, am_kl_i, am_kl_r, am_kl_n, am_kl_l, true_and, and_true, and_self, true_or, or_true, implies_true, forall_const, not_true_eq_false, not_false_eq_true, false_implies, true_implies, if_true, if_false, Bool.true_eq_false, Bool.false_eq_true, ob_457, m_look h, m_isDigit h, m_here h, c1, c2, c3, bz_t, bz_f, i01, v1, v2', gI_pm0, nI_1, pm_at, e22, m_isIn, e4, e5, e6, m_fails0, c4, decide_false]
        · refine ⟨nI (10 * k1 + k2), fun d Q => ?_, by simp [c4]⟩
          have e4 : (decide (lo ≤ nI (10 * k1 + k2)) && decide (nI (10 * k1 + k2) ≤ hi)) = true := by
            have z1 : lo ≤ nI (10 * k1 + k2) := Int32.not_lt.mp (fun z => c4 (Or.inl z))
            have z2 : nI (10 * k1 + k2) ≤ hi := Int32.not_lt.mp (fun z => c4 (Or.inr z))
            simp [z1, z2]
          rw [eX11_number]
          simp (disch := (first | assumption | omega | decide)) only [sX11_number_0, sX11_number_1, sX11_number_4, sX11_number_5, sX11_number_6, sX11_number_9, sX11_number_12, sX11_number_13, sX11_number_16, sX11_number_17, sX11_number_18, sX11_number_19, sX11_number_20, sX11_number_22, sX11_number_23, sX11_number_25, sX11_number_26, sX11_number_27, sX11_number_30, sX11_number_31, sX11_number_32, sX11_number_35, sX11_number_36, sX11_number_39, sX11_number_42, sX11_number_44, sX11_number_46, sX11_number_47, sX11_number_48, sX11_number_51, sX11_number_52, sX11_number_54, sX11_number_55, sX11_number_57, sX11_number_58, sX11_number_59, sX11_number_62, sX11_number_63, sX11_number_64, sX11_number_67, sX11_number_68, sX11_number_71, sX11_number_74, sX11_number_75, sX11_number_78, sX11_number_79, sX11_number_80, sX11_number_81, sX11_number_83, sX11_number_84, sX11_number_85, sX11_number_86, sX11_number_87, sX11_number_88, sX11_number_91, sX11_number_94, sX11_number_95, sX11_number_96, sX11_number_99, sX11_number_100, sX11_number_101, sX11_number_104, sX11_number_105, sX11_number_108, sX11_number_109, sX11_number_111, kI_i, kL_l, kV_v, am_rv_s, am_kl_i, am_kl_r, am_kl_n, am_kl_l, true_and, and_true, and_self, true_or, or_true, implies_true, forall_const, not_true_eq_false, not_false_eq_true, false_implies, true_implies, if_true, if_false, Bool.true_eq_false, Bool.false_eq_true, ob_457, m_look h, m_isDigit h, m_here h, c1, c2, c3, bz_t, bz_f, i01, v1, v2', gI_pm0, nI_1, pm_at, e22, m_isIn, e4, c4, n1, decide_true]
end
