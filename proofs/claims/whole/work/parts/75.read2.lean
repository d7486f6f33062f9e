def lawA (n : Nat) (v : Int32) : Bool := decide (v = -1 ∨ (0 ≤ v ∧ v < nI n))
def hasteA (hv v : Int32) : Bool := decide (0 ≤ v ∧ v ≤ 9 ∧ ¬ v = hv)
abbrev Sn : Type := Int32 × Int32 × Bool
def SeC (M : am_M) (L : List Sn) : Prop := gI M 435 4 = nI L.length ∧ L.length ≤ 10 ∧ ∀ i (h : i < L.length), gI M 436 i = L[i].1 ∧ gI M 437 i = L[i].2.1 ∧ gI M 438 i = bz L[i].2.2
def SeM (M : am_M) (L : List Sn) : Prop := gI M 457 52 = nI L.length ∧ L.length ≤ 10 ∧ ∀ i (h : i < L.length), gI M 485 (3 * i) = L[i].1 ∧ gI M 485 (3 * i + 1) = L[i].2.1 ∧ gI M 485 (3 * i + 2) = bz L[i].2.2
theorem isin_hi {n : Nat} (hn : n ≤ 1000) (v : Int32) : (decide (0 ≤ v) && decide (v ≤ nI n - 1)) = decide (0 ≤ v ∧ v < nI n) := by
  by_cases z : 0 ≤ v
  · have e : (v ≤ nI n - 1) = (v < nI n) := by
      obtain ⟨j, hj, rfl⟩ := nI_of (Int32.not_lt.mpr z)
      by_cases hz : n = 0
      · subst hz
        rw [show nI 0 - 1 = -1 from by decide, nI_ltE hj (by omega)]
        refine propext ⟨fun q => absurd (Int32.le_trans z q) (by decide), fun q => by omega⟩
      · rw [nI_sub1 (by omega), nI_leE hj (by omega), nI_ltE hj (by omega)]
        exact propext (by omega)
    by_cases q : v < nI n
    · rw [decide_eq_true z, decide_eq_true (e ▸ q), decide_eq_true ⟨z, q⟩]; rfl
    · have q' : ¬ v ≤ nI n - 1 := fun w => q (e ▸ w)
      have q2 : ¬ (0 ≤ v ∧ v < nI n) := fun w => q w.2
      rw [decide_eq_false q', decide_eq_false q2, Bool.and_false]
  · have q2 : ¬ (0 ≤ v ∧ v < nI n) := fun w => z w.1
    rw [decide_eq_false z, decide_eq_false q2, Bool.false_and]
section
variable {M N : am_M} {ap lim n : Nat} {S : Sg} {P : List Sg} {l : List Dd} {d : Nat} {Q : am_Q}
theorem c_law {v : Int32} (hW : WR M) (h : gI M 392 2 = nI n) : am_big (d + 1) mX10_law [.ref 0, .int v] 488 M Q = Q (some (.int (bz (lawA n v)))) (if lawA n v = true then sI M 392 3 v else M) := by
  rw [eX10_law]
  unfold lawA
  by_cases c0 : v = -1
  · simp (disch := (first | assumption | omega | decide)) only [sX10_law_0, sX10_law_1, sX10_law_2, sX10_law_5, sX10_law_6, sX10_law_9, sX10_law_10, sX10_law_11, sX10_law_14, sX10_law_17, sX10_law_20, sX10_law_21, sX10_law_22, sX10_law_23, sX10_law_26, sX10_law_27, sX10_law_30, sX10_law_31, kI_i, kL_l, kV_v, am_rv_s, am_kl_i, am_kl_r, am_kl_n, am_kl_l, true_and, and_true, and_self, true_or, or_true, implies_true, forall_const, not_true_eq_false, not_false_eq_true, false_implies, true_implies, if_true, if_false, Bool.true_eq_false, Bool.false_eq_true, ob_0, ob_392, r_0_6, c0, true_or, decide_true, bz_t]
  · by_cases c1 : v < 0
    · have c : ¬ (v = -1 ∨ (0 ≤ v ∧ v < nI n)) := fun z => z.elim c0 (fun w => absurd c1 (Int32.not_lt.mpr w.1))
      rw [decide_eq_false c]
      simp (disch := (first | assumption | omega | decide)) only [sX10_law_0, sX10_law_1, sX10_law_2, sX10_law_5, sX10_law_6, sX10_law_9, sX10_law_10, sX10_law_11, sX10_law_14, sX10_law_17, sX10_law_20, sX10_law_21, sX10_law_22, sX10_law_23, sX10_law_26, sX10_law_27, sX10_law_30, sX10_law_31, kI_i, kL_l, kV_v, am_rv_s, am_kl_i, am_kl_r, am_kl_n, am_kl_l, true_and, and_true, and_self, true_or, or_true, implies_true, forall_const, not_true_eq_false, not_false_eq_true, false_implies, true_implies, if_true, if_false, Bool.true_eq_false, Bool.false_eq_true, c0, c1, bz_f]
    · by_cases c2 : v < nI n
      · have c : v = -1 ∨ (0 ≤ v ∧ v < nI n) := Or.inr ⟨Int32.not_lt.mp c1, c2⟩
        rw [decide_eq_true c]
        simp (disch := (first | assumption | omega | decide)) only [sX10_law_0, sX10_law_1, sX10_law_2, sX10_law_5, sX10_law_6, sX10_law_9, sX10_law_10, sX10_law_11, sX10_law_14, sX10_law_17, sX10_law_20, sX10_law_21, sX10_law_22, sX10_law_23, sX10_law_26, sX10_law_27, sX10_law_30, sX10_law_31, kI_i, kL_l, kV_v, am_rv_s, am_kl_i, am_kl_r, am_kl_n, am_kl_l, true_and, and_true, and_self, true_or, or_true, implies_true, forall_const, not_true_eq_false, not_false_eq_true, false_implies, true_implies, if_true, if_false, Bool.true_eq_false, Bool.false_eq_true, ob_0, ob_392, r_0_6, c0, c1, h, c2, bz_t]
      · have c : ¬ (v = -1 ∨ (0 ≤ v ∧ v < nI n)) := fun z => z.elim c0 (fun w => c2 w.2)
        rw [decide_eq_false c]
        simp (disch := (first | assumption | omega | decide)) only [sX10_law_0, sX10_law_1, sX10_law_2, sX10_law_5, sX10_law_6, sX10_law_9, sX10_law_10, sX10_law_11, sX10_law_14, sX10_law_17, sX10_law_20, sX10_law_21, sX10_law_22, sX10_law_23, sX10_law_26, sX10_law_27, sX10_law_30, sX10_law_31, kI_i, kL_l, kV_v, am_rv_s, am_kl_i, am_kl_r, am_kl_n, am_kl_l, true_and, and_true, and_self, true_or, or_true, implies_true, forall_const, not_true_eq_false, not_false_eq_true, false_implies, true_implies, if_true, if_false, Bool.true_eq_false, Bool.false_eq_true, ob_0, ob_392, r_0_6, c0, c1, h, c2, bz_f]
theorem m_law {v : Int32} (hn : n ≤ 4) (h : gI M 457 7 = nI n) : am_big (d + 2) mX11_law [.ref 457, .int v] 488 M Q = Q (some (.int (bz (lawA n v)))) (if lawA n v = true then sI (sI M 457 0 0) 457 29 v else sI M 457 0 0) := by
  have g : gI (sI M 457 0 0) 457 7 = nI n := by rw [gI_j (by omega)]; exact h
  rw [eX11_law]
  unfold lawA
  by_cases c0 : v = -1
  · simp (disch := (first | assumption | omega | decide)) only [sX11_law_0, sX11_law_1, sX11_law_2, sX11_law_5, sX11_law_6, sX11_law_7, sX11_law_10, sX11_law_11, sX11_law_12, sX11_law_13, sX11_law_14, sX11_law_17, sX11_law_18, sX11_law_19, sX11_law_20, sX11_law_23, sX11_law_26, sX11_law_27, sX11_law_28, sX11_law_29, sX11_law_30, sX11_law_33, sX11_law_34, kI_i, kL_l, kV_v, am_rv_s, am_kl_i, am_kl_r, am_kl_n, am_kl_l, true_and, and_true, and_self, true_or, or_true, implies_true, forall_const, not_true_eq_false, not_false_eq_true, false_implies, true_implies, if_true, if_false, Bool.true_eq_false, Bool.false_eq_true, ob_457, c0, true_or, decide_true, bz_t]
  · have e := isin_hi (n := n) (by omega) v
    have e2 : decide (v = -1 ∨ (0 ≤ v ∧ v < nI n)) = decide (0 ≤ v ∧ v < nI n) := by simp [c0]
    rw [e2]
    cases c : decide (0 ≤ v ∧ v < nI n) with
    | true =>
      rw [c] at e
      simp (disch := (first | assumption | omega | decide)) only [sX11_law_0, sX11_law_1, sX11_law_2, sX11_law_5, sX11_law_6, sX11_law_7, sX11_law_10, sX11_law_11, sX11_law_12, sX11_law_13, sX11_law_14, sX11_law_17, sX11_law_18, sX11_law_19, sX11_law_20, sX11_law_23, sX11_law_26, sX11_law_27, sX11_law_28, sX11_law_29, sX11_law_30, sX11_law_33, sX11_law_34, kI_i, kL_l, kV_v, am_rv_s, am_kl_i, am_kl_r, am_kl_n, am_kl_l, true_and, and_true, and_self, true_or, or_true, implies_true, forall_const, not_true_eq_false, not_false_eq_true, false_implies, true_implies, if_true, if_false, Bool.true_eq_false, Bool.false_eq_true, ob_457, c0, g, c64_0, m_isIn, e, bz_t, i01]
    | false =>
      rw [c] at e
      simp (disch := (first | assumption | omega | decide)) only [sX11_law_0, sX11_law_1, sX11_law_2, sX11_law_5, sX11_law_6, sX11_law_7, sX11_law_10, sX11_law_11, sX11_law_12, sX11_law_13, sX11_law_14, sX11_law_17, sX11_law_18, sX11_law_19, sX11_law_20, sX11_law_23, sX11_law_26, sX11_law_27, sX11_law_28, sX11_law_29, sX11_law_30, sX11_law_33, sX11_law_34, kI_i, kL_l, kV_v, am_rv_s, am_kl_i, am_kl_r, am_kl_n, am_kl_l, true_and, and_true, and_self, true_or, or_true, implies_true, forall_const, not_true_eq_false, not_false_eq_true, false_implies, true_implies, if_true, if_false, Bool.true_eq_false, Bool.false_eq_true, ob_457, c0, g, c64_0, m_isIn, e, bz_f]
theorem c_haste {v hv : Int32} (h : gI M 0 16 = hv) : am_big (d + 1) mX10_haste [.ref 0, .int v] 488 M Q = Q (some (.int (bz (hasteA hv v)))) (if hasteA hv v = true then sI M 0 16 v else M) := by
  rw [eX10_haste]
  unfold hasteA
  by_cases c1 : v < 0
  · rw [decide_eq_false (fun z => absurd c1 (Int32.not_lt.mpr z.1))]
    simp (disch := (first | assumption | omega | decide)) only [sX10_haste_0, sX10_haste_1, sX10_haste_4, sX10_haste_5, sX10_haste_7, sX10_haste_10, sX10_haste_11, sX10_haste_12, sX10_haste_15, sX10_haste_18, sX10_haste_19, sX10_haste_20, sX10_haste_21, sX10_haste_22, sX10_haste_25, sX10_haste_26, kI_i, kL_l, kV_v, am_rv_s, am_kl_i, am_kl_r, am_kl_n, am_kl_l, true_and, and_true, and_self, true_or, or_true, implies_true, forall_const, not_true_eq_false, not_false_eq_true, false_implies, true_implies, if_true, if_false, Bool.true_eq_false, Bool.false_eq_true, c1, bz_f]
  · by_cases c2 : 9 < v
    · rw [decide_eq_false (fun z => absurd c2 (Int32.not_lt.mpr z.2.1))]
      simp (disch := (first | assumption | omega | decide)) only [sX10_haste_0, sX10_haste_1, sX10_haste_4, sX10_haste_5, sX10_haste_7, sX10_haste_10, sX10_haste_11, sX10_haste_12, sX10_haste_15, sX10_haste_18, sX10_haste_19, sX10_haste_20, sX10_haste_21, sX10_haste_22, sX10_haste_25, sX10_haste_26, kI_i, kL_l, kV_v, am_rv_s, am_kl_i, am_kl_r, am_kl_n, am_kl_l, true_and, and_true, and_self, true_or, or_true, implies_true, forall_const, not_true_eq_false, not_false_eq_true, false_implies, true_implies, if_true, if_false, Bool.true_eq_false, Bool.false_eq_true, c1, c2, bz_f]
    · by_cases c3 : v = hv
      · rw [decide_eq_false (fun z => z.2.2 c3)]
        have c3' := eq_true c3
        simp (disch := (first | assumption | omega | decide)) only [sX10_haste_0, sX10_haste_1, sX10_haste_4, sX10_haste_5, sX10_haste_7, sX10_haste_10, sX10_haste_11, sX10_haste_12, sX10_haste_15, sX10_haste_18, sX10_haste_19, sX10_haste_20, sX10_haste_21, sX10_haste_22, sX10_haste_25, sX10_haste_26, kI_i, kL_l, kV_v, am_rv_s, am_kl_i, am_kl_r, am_kl_n, am_kl_l, true_and, and_true, and_self, true_or, or_true, implies_true, forall_const, not_true_eq_false, not_false_eq_true, false_implies, true_implies, if_true, if_false, Bool.true_eq_false, Bool.false_eq_true, ob_0, c1, c2, h, c3', bz_f]
      · rw [decide_eq_true ⟨Int32.not_lt.mp c1, Int32.not_lt.mp c2, c3⟩]
        simp (disch := (first | assumption | omega | decide)) only [sX10_haste_0, sX10_haste_1, sX10_haste_4, sX10_haste_5, sX10_haste_7, sX10_haste_10, sX10_haste_11, sX10_haste_12, sX10_haste_15, sX10_haste_18, sX10_haste_19, sX10_haste_20, sX10_haste_21, sX10_haste_22, sX10_haste_25, sX10_haste_26, kI_i, kL_l, kV_v, am_rv_s, am_kl_i, am_kl_r, am_kl_n, am_kl_l, true_and, and_true, and_self, true_or, or_true, implies_true, forall_const, not_true_eq_false, not_false_eq_true, false_implies, true_implies, if_true, if_false, Bool.true_eq_false, Bool.false_eq_true, ob_0, c1, c2, h, c3, bz_t]
theorem m_haste {v hv : Int32} (h : gI M 457 30 = hv) : am_big (d + 2) mX11_haste [.ref 457, .int v] 488 M Q = Q (some (.int (bz (hasteA hv v)))) (if hasteA hv v = true then sI (sI M 457 0 0) 457 30 v else sI M 457 0 0) := by
  have g : gI (sI M 457 0 0) 457 30 = hv := by rw [gI_j (by omega)]; exact h
  rw [eX11_haste]
  unfold hasteA
  by_cases c : 0 ≤ v ∧ v ≤ 9
  · have e : (decide (0 ≤ v) && decide (v ≤ 9)) = true := by simp [c.1, c.2]
    by_cases c3 : v = hv
    · rw [decide_eq_false (fun z => z.2.2 c3)]
      have c3' := eq_true c3
      simp (disch := (first | assumption | omega | decide)) only [sX11_haste_0, sX11_haste_1, sX11_haste_2, sX11_haste_5, sX11_haste_6, sX11_haste_7, sX11_haste_8, sX11_haste_11, sX11_haste_14, sX11_haste_17, sX11_haste_18, sX11_haste_19, sX11_haste_22, sX11_haste_25, sX11_haste_26, sX11_haste_27, sX11_haste_28, sX11_haste_29, sX11_haste_32, sX11_haste_33, kI_i, kL_l, kV_v, am_rv_s, am_kl_i, am_kl_r, am_kl_n, am_kl_l, true_and, and_true, and_self, true_or, or_true, implies_true, forall_const, not_true_eq_false, not_false_eq_true, false_implies, true_implies, if_true, if_false, Bool.true_eq_false, Bool.false_eq_true, ob_457, c64_0, c64_9, m_isIn, e, bz_t, bz_f, i01, g, c3']
    · rw [decide_eq_true ⟨c.1, c.2, c3⟩]
      simp (disch := (first | assumption | omega | decide)) only [sX11_haste_0, sX11_haste_1, sX11_haste_2, sX11_haste_5, sX11_haste_6, sX11_haste_7, sX11_haste_8, sX11_haste_11, sX11_haste_14, sX11_haste_17, sX11_haste_18, sX11_haste_19, sX11_haste_22, sX11_haste_25, sX11_haste_26, sX11_haste_27, sX11_haste_28, sX11_haste_29, sX11_haste_32, sX11_haste_33, kI_i, kL_l, kV_v, am_rv_s, am_kl_i, am_kl_r, am_kl_n, am_kl_l, true_and, and_true, and_self, true_or, or_true, implies_true, forall_const, not_true_eq_false, not_false_eq_true, false_implies, true_implies, if_true, if_false, Bool.true_eq_false, Bool.false_eq_true, ob_457, c64_0, c64_9, m_isIn, e, bz_t, i01, g, c3]
  · have e : (decide (0 ≤ v) && decide (v ≤ 9)) = false := by
      by_cases z : 0 ≤ v
      · have : ¬ v ≤ 9 := fun q => c ⟨z, q⟩
        simp [this]
      · simp [z]
    rw [decide_eq_false (fun z => c ⟨z.1, z.2.1⟩)]
    simp (disch := (first | assumption | omega | decide)) only [sX11_haste_0, sX11_haste_1, sX11_haste_2, sX11_haste_5, sX11_haste_6, sX11_haste_7, sX11_haste_8, sX11_haste_11, sX11_haste_14, sX11_haste_17, sX11_haste_18, sX11_haste_19, sX11_haste_22, sX11_haste_25, sX11_haste_26, sX11_haste_27, sX11_haste_28, sX11_haste_29, sX11_haste_32, sX11_haste_33, kI_i, kL_l, kV_v, am_rv_s, am_kl_i, am_kl_r, am_kl_n, am_kl_l, true_and, and_true, and_self, true_or, or_true, implies_true, forall_const, not_true_eq_false, not_false_eq_true, false_implies, true_implies, if_true, if_false, Bool.true_eq_false, Bool.false_eq_true, ob_457, c64_0, c64_9, m_isIn, e, bz_f]
def seenA (ap : Nat) (L : List Sn) (so v : Int32) : Bool := opn ap && (decide (0 ≤ so ∧ so ≤ 4) && (decide (0 ≤ v ∧ v ≤ 99) && decide (L.length < 10)))
theorem c_seen {so v : Int32} {b : Bool} {L : List Sn} (hW : WR M) (h : StC M 3 ap lim S) (hL : SeC M L) : ∃ M', (∀ d (Q : am_Q), am_big (d + 2) mX10_seen [.ref 0, .int so, .int v, .int (bz b)] 488 M Q = Q (some (.int (if seenA ap L so v = true then nI (L.length + 1) else -1))) M') ∧ SeC M' (if seenA ap L so v = true then L ++ [(so, v, b)] else L) ∧ Fw (fun c j => (c = 435 ∧ j = 4) ∨ c = 436 ∨ c = 437 ∨ c = 438) M M' := by
  obtain ⟨g1, g2, g3⟩ := hL
  have e10 := li_le 10 10 (k := L.length) rfl (by omega) (by omega)
  have e10' : (nI L.length < 10) = (L.length < 10) := by rw [show (10 : Int32) = nI 10 from rfl]; exact nI_ltE (by omega) (by omega)
  unfold seenA
  cases c1 : opn ap with
  | false =>
    refine ⟨M, fun d Q => ?_, by simpa using ⟨g1, g2, g3⟩, Fw.rf⟩
    rw [eX10_seen]
    simp (disch := (first | assumption | omega | decide)) only [sX10_seen_0, sX10_seen_1, sX10_seen_4, sX10_seen_7, sX10_seen_8, sX10_seen_11, sX10_seen_14, sX10_seen_15, sX10_seen_18, sX10_seen_19, sX10_seen_21, sX10_seen_24, sX10_seen_25, sX10_seen_28, sX10_seen_31, sX10_seen_33, sX10_seen_36, sX10_seen_37, sX10_seen_38, sX10_seen_39, sX10_seen_42, sX10_seen_43, sX10_seen_44, sX10_seen_45, sX10_seen_48, sX10_seen_49, sX10_seen_52, sX10_seen_55, kI_i, kL_l, kV_v, am_rv_s, am_kl_i, am_kl_r, am_kl_n, am_kl_l, true_and, and_true, and_self, true_or, or_true, implies_true, forall_const, not_true_eq_false, not_false_eq_true, false_implies, true_implies, if_true, if_false, Bool.true_eq_false, Bool.false_eq_true, ob_0, c_isOpen hW h, c1, bz_f, Bool.false_and]
  | true =>
    cases c2 : decide (0 ≤ so ∧ so ≤ 4) with
    | false =>
      refine ⟨M, fun d Q => ?_, by simpa using ⟨g1, g2, g3⟩, Fw.rf⟩
      rw [eX10_seen]
      simp (disch := (first | assumption | omega | decide)) only [sX10_seen_0, sX10_seen_1, sX10_seen_4, sX10_seen_7, sX10_seen_8, sX10_seen_11, sX10_seen_14, sX10_seen_15, sX10_seen_18, sX10_seen_19, sX10_seen_21, sX10_seen_24, sX10_seen_25, sX10_seen_28, sX10_seen_31, sX10_seen_33, sX10_seen_36, sX10_seen_37, sX10_seen_38, sX10_seen_39, sX10_seen_42, sX10_seen_43, sX10_seen_44, sX10_seen_45, sX10_seen_48, sX10_seen_49, sX10_seen_52, sX10_seen_55, kI_i, kL_l, kV_v, am_rv_s, am_kl_i, am_kl_r, am_kl_n, am_kl_l, true_and, and_true, and_self, true_or, or_true, implies_true, forall_const, not_true_eq_false, not_false_eq_true, false_implies, true_implies, if_true, if_false, Bool.true_eq_false, Bool.false_eq_true, ob_0, c_isOpen hW h, c1, bz_t, i01, c_isSort, c2, bz_f, Bool.false_and, Bool.and_false]
    | true =>
      by_cases c3 : v < 0
      · refine ⟨M, fun d Q => ?_, ?_, Fw.rf⟩
        · rw [eX10_seen, decide_eq_false (fun (z : 0 ≤ v ∧ v ≤ 99) => absurd c3 (Int32.not_lt.mpr z.1))]
          simp (disch := (first | assumption | omega | decide)) only [sX10_seen_0, sX10_seen_1, sX10_seen_4, sX10_seen_7, sX10_seen_8, sX10_seen_11, sX10_seen_14, sX10_seen_15, sX10_seen_18, sX10_seen_19, sX10_seen_21, sX10_seen_24, sX10_seen_25, sX10_seen_28, sX10_seen_31, sX10_seen_33, sX10_seen_36, sX10_seen_37, sX10_seen_38, sX10_seen_39, sX10_seen_42, sX10_seen_43, sX10_seen_44, sX10_seen_45, sX10_seen_48, sX10_seen_49, sX10_seen_52, sX10_seen_55, kI_i, kL_l, kV_v, am_rv_s, am_kl_i, am_kl_r, am_kl_n, am_kl_l, true_and, and_true, and_self, true_or, or_true, implies_true, forall_const, not_true_eq_false, not_false_eq_true, false_implies, true_implies, if_true, if_false, Bool.true_eq_false, Bool.false_eq_true, ob_0, c_isOpen hW h, c1, bz_t, i01, c_isSort, c2, c3, Bool.false_and, Bool.and_false]
        · rw [decide_eq_false (fun (z : 0 ≤ v ∧ v ≤ 99) => absurd c3 (Int32.not_lt.mpr z.1))]; exact ⟨g1, g2, g3⟩
      · by_cases c4 : 99 < v
        · refine ⟨M, fun d Q => ?_, ?_, Fw.rf⟩
          · rw [eX10_seen, decide_eq_false (fun (z : 0 ≤ v ∧ v ≤ 99) => absurd c4 (Int32.not_lt.mpr z.2))]
            simp (disch := (first | assumption | omega | decide)) only [sX10_seen_0, sX10_seen_1, sX10_seen_4, sX10_seen_7, sX10_seen_8, sX10_seen_11, sX10_seen_14, sX10_seen_15, sX10_seen_18, sX10_seen_19, sX10_seen_21, sX10_seen_24, sX10_seen_25, sX10_seen_28, sX10_seen_31, sX10_seen_33, sX10_seen_36, sX10_seen_37, sX10_seen_38, sX10_seen_39, sX10_seen_42, sX10_seen_43, sX10_seen_44, sX10_seen_45, sX10_seen_48, sX10_seen_49, sX10_seen_52, sX10_seen_55, kI_i, kL_l, kV_v, am_rv_s, am_kl_i, am_kl_r, am_kl_n, am_kl_l, true_and, and_true, and_self, true_or, or_true, implies_true, forall_const, not_true_eq_false, not_false_eq_true, false_implies, true_implies, if_true, if_false, Bool.true_eq_false, Bool.false_eq_true, ob_0, c_isOpen hW h, c1, bz_t, i01, c_isSort, c2, c3, c4, Bool.false_and, Bool.and_false]
          · rw [decide_eq_false (fun (z : 0 ≤ v ∧ v ≤ 99) => absurd c4 (Int32.not_lt.mpr z.2))]; exact ⟨g1, g2, g3⟩
        · have c34 : decide (0 ≤ v ∧ v ≤ 99) = true := decide_eq_true ⟨Int32.not_lt.mp c3, Int32.not_lt.mp c4⟩
          by_cases c5 : L.length < 10
          · have e1 : (10 ≤ L.length) = False := eq_false (by omega)
            have w8 := iw_438 (k := L.length) c5
            have wn : am_iw 488 438 2 (nI L.length) = False := iwn_438
            have ad : ∀ d (Q : am_Q), am_big (d + 1) mX7_add [.ref 435, .int so, .int v, .int (bz b)] 488 M Q = Q none (sI (sI (sI (sI M 436 L.length so) 437 L.length v) 438 L.length (bz b)) 435 4 (nI (L.length + 1))) := fun d Q => by
              rw [eX7_add]
              simp (disch := (first | assumption | omega | decide)) only [sX7_add_0, sX7_add_1, sX7_add_4, sX7_add_6, sX7_add_9, sX7_add_10, sX7_add_13, sX7_add_14, sX7_add_17, sX7_add_18, sX7_add_19, sX7_add_20, sX7_add_23, sX7_add_24, sX7_add_27, sX7_add_28, sX7_add_29, sX7_add_30, sX7_add_33, sX7_add_34, sX7_add_37, sX7_add_38, sX7_add_39, sX7_add_40, sX7_add_41, sX7_add_44, sX7_add_45, sX7_add_46, sX7_add_49, kI_i, kL_l, kV_v, am_rv_s, am_kl_i, am_kl_r, am_kl_n, am_kl_l, true_and, and_true, and_self, true_or, or_true, implies_true, forall_const, not_true_eq_false, not_false_eq_true, false_implies, true_implies, if_true, if_false, Bool.true_eq_false, Bool.false_eq_true, ob_435, g1, e10, e1, gR_sI, r_435_0, r_435_1, r_435_2, iw_436, iw_437, nI_clamp, gI_o, w8, wn, false_and, or_false, false_or, bz_01, nI_1]
            refine ⟨sI (sI (sI (sI M 436 L.length so) 437 L.length v) 438 L.length (bz b)) 435 4 (nI (L.length + 1)), fun d Q => ?_, ?_, (((Fw.s (by omega)).tr (Fw.s (by omega))).tr (Fw.s (by omega))).tr (Fw.s (by omega))⟩
            · rw [eX10_seen]
              simp (disch := (first | assumption | omega | decide)) only [sX10_seen_0, sX10_seen_1, sX10_seen_4, sX10_seen_7, sX10_seen_8, sX10_seen_11, sX10_seen_14, sX10_seen_15, sX10_seen_18, sX10_seen_19, sX10_seen_21, sX10_seen_24, sX10_seen_25, sX10_seen_28, sX10_seen_31, sX10_seen_33, sX10_seen_36, sX10_seen_37, sX10_seen_38, sX10_seen_39, sX10_seen_42, sX10_seen_43, sX10_seen_44, sX10_seen_45, sX10_seen_48, sX10_seen_49, sX10_seen_52, sX10_seen_55, kI_i, kL_l, kV_v, am_rv_s, am_kl_i, am_kl_r, am_kl_n, am_kl_l, true_and, and_true, and_self, true_or, or_true, implies_true, forall_const, not_true_eq_false, not_false_eq_true, false_implies, true_implies, if_true, if_false, Bool.true_eq_false, Bool.false_eq_true, ob_0, ob_435, c_isOpen hW h, c1, bz_t, i01, c_isSort, c2, c3, c4, c34, r_0_14, g1, e10', c5, ad, gR_sI, gI_e, decide_true, Bool.and_self]
            · rw [c34, decide_eq_true c5]
              simp only [Bool.and_self, if_true]
              refine ⟨by rw [gI_e]; simp, by simp; omega, fun i hi => ?_⟩
              by_cases hil : i < L.length
              · rw [List.getElem_append_left hil, gI_o (by omega), gI_o (by omega), gI_o (by omega), gI_j (by omega), gI_o (by omega), gI_o (by omega), gI_j (by omega), gI_o (by omega), gI_o (by omega), gI_j (by omega), gI_o (by omega), gI_o (by omega)]
                exact g3 i hil
              · have hie : i = L.length := by simp at hi; omega
                subst hie
                rw [List.getElem_append_right (Nat.le_refl _)]
                simp only [Nat.sub_self, List.getElem_cons_zero]
                exact ⟨by rw [gI_o (by omega), gI_o (by omega), gI_o (by omega), gI_e], by rw [gI_o (by omega), gI_o (by omega), gI_e], by rw [gI_o (by omega), gI_e]⟩
          · refine ⟨M, fun d Q => ?_, ?_, Fw.rf⟩
            · rw [eX10_seen, decide_eq_false c5]
              simp (disch := (first | assumption | omega | decide)) only [sX10_seen_0, sX10_seen_1, sX10_seen_4, sX10_seen_7, sX10_seen_8, sX10_seen_11, sX10_seen_14, sX10_seen_15, sX10_seen_18, sX10_seen_19, sX10_seen_21, sX10_seen_24, sX10_seen_25, sX10_seen_28, sX10_seen_31, sX10_seen_33, sX10_seen_36, sX10_seen_37, sX10_seen_38, sX10_seen_39, sX10_seen_42, sX10_seen_43, sX10_seen_44, sX10_seen_45, sX10_seen_48, sX10_seen_49, sX10_seen_52, sX10_seen_55, kI_i, kL_l, kV_v, am_rv_s, am_kl_i, am_kl_r, am_kl_n, am_kl_l, true_and, and_true, and_self, true_or, or_true, implies_true, forall_const, not_true_eq_false, not_false_eq_true, false_implies, true_implies, if_true, if_false, Bool.true_eq_false, Bool.false_eq_true, ob_0, ob_435, c_isOpen hW h, c1, bz_t, i01, c_isSort, c2, c3, c4, r_0_14, g1, e10', c5, Bool.and_false, Bool.false_eq_true]
            · rw [decide_eq_false c5]; simpa using ⟨g1, g2, g3⟩
end
