def arH (ap : Nat) (x : Int32) : Bool := opn ap && decide (0 ≤ x ∧ x < nI (2 ^ ap))
def lfS (ap : Nat) (S : Sg) (x : Int32) : Nat := lfN S.1 (kt S.2.1 x ap)
def stuckA (ap : Nat) (S : Sg) (x : Int32) : Int32 := if arH ap x = true then nI (lfS ap S x) else -1
def aloneA (ap : Nat) (S : Sg) (x : Int32) : Int32 := if arH ap x = true then nI S.1.length - bcI (nI (lfS ap S x)) else -1
/-- the best team among the first k sets -/
def tmA (ap : Nat) (S : Sg) : Nat → Nat
  | 0 => 0
  | k + 1 => if pcN 12 (lfS ap S (nI (k + 1))) < pcN 12 (lfS ap S (nI (tmA ap S k))) ∨ (pcN 12 (lfS ap S (nI (k + 1))) = pcN 12 (lfS ap S (nI (tmA ap S k))) ∧ ¬ bcI (nI (tmA ap S k)) ≤ bcI (nI (k + 1))) then k + 1 else tmA ap S k
def teamA (ap : Nat) (S : Sg) : Int32 := if opn ap = true then nI (tmA ap S (2 ^ ap - 1)) else -1
section
variable {M N : am_M} {ap lim n : Nat} {S : Sg} {P : List Sg} {l : List Dd} {d : Nat} {Q : am_Q} {K : Int32}
theorem lf_lt (hl : l.length ≤ 12) : lfN l K < 4096 := Nat.lt_of_lt_of_le (Nat.lt_pow_two_of_testBit _ (fun i hi => lf_char.2 i hi)) (Nat.le_trans (Nat.pow_le_pow_right (by omega) hl) (by omega : 2 ^ 12 ≤ 4096))
theorem XL_st (c j : Nat) (h1 : 3 ≤ c) (h2 : c ≤ 3 + 8) : ¬ XL c j := by unfold XL; omega
theorem c_lks (hW : WR M) (h : StC M 3 ap lim S) (hl : S.1.length ≤ 12) : WR (lkM M S.1) ∧ StC (lkM M S.1) 3 ap lim S ∧ (∀ d (Q : am_Q), am_big (d + 2) mX5_look [.ref 424, .ref 4] 488 M Q = Q none (lkM M S.1)) ∧ (∀ d (Q : am_Q) x, am_big (d + 1) mX8_knownTogether [.ref 3, .int x] 488 (lkM M S.1) Q = Q (some (.int (kt S.2.1 x ap))) (lkM M S.1)) ∧ ∀ d (Q : am_Q) K, am_big (d + 2) mX5_leftBy [.ref 424, .int K] 488 (lkM M S.1) Q = Q (some (.int (nI (lfN S.1 K)))) (lkM M S.1) := by
  have wl : WR (lkM M S.1) := Fw_lk.2 hW
  have hs : StC (lkM M S.1) 3 ap lim S := StC_Fw Fw_lk (fun c j a b => XL_st c j a b) h
  refine ⟨wl, hs, fun d Q => c_look hW (StC_LH h) hl, fun d Q x => ?_, fun d Q K => c_leftBy wl lk_r (StC_LH hs) lk_n (fun k hk => lk_b hk) hl⟩
  obtain ⟨h1, h2, h3, h4, h5, h6, h7, h10, h11⟩ := hs
  rw [c_knownT h1 h3 h10, kt_congr (fun i hi => (h6 i hi).1)]
theorem c_stuck {x : Int32} (hW : WR M) (h : StC M 3 ap lim S) (hl : S.1.length ≤ 12) : ∃ M', (∀ d (Q : am_Q), am_big (d + 3) mX10_stuck [.ref 0, .int x] 488 M Q = Q (some (.int (stuckA ap S x))) M') ∧ Fw XL M M' := by
  obtain ⟨wl, hs, lk, kn, lf⟩ := c_lks hW h hl
  have h3 : gI M 3 3 = nI ap := h.2.2.1
  have hap : ap ≤ 4 := h.2.2.2.2.2.2.2.1
  unfold stuckA arH
  cases c1 : opn ap with
  | false =>
    refine ⟨M, fun d Q => ?_, Fw.rf⟩
    rw [eX10_stuck]
    simp (disch := (first | assumption | omega | decide)) only [sX10_stuck_0, sX10_stuck_1, sX10_stuck_4, sX10_stuck_7, sX10_stuck_8, sX10_stuck_11, sX10_stuck_12, sX10_stuck_13, sX10_stuck_14, sX10_stuck_17, sX10_stuck_20, sX10_stuck_21, sX10_stuck_24, sX10_stuck_25, sX10_stuck_26, sX10_stuck_27, sX10_stuck_30, sX10_stuck_31, sX10_stuck_34, sX10_stuck_37, sX10_stuck_40, sX10_stuck_41, sX10_stuck_44, sX10_stuck_45, sX10_stuck_48, sX10_stuck_49, sX10_stuck_52, sX10_stuck_55, kI_i, kL_l, kV_v, am_rv_s, am_kl_i, am_kl_r, am_kl_n, am_kl_l, true_and, and_true, and_self, true_or, or_true, implies_true, forall_const, not_true_eq_false, not_false_eq_true, false_implies, true_implies, if_true, if_false, Bool.true_eq_false, Bool.false_eq_true, ob_0, c_isOpen hW h, c1, bz_f, Bool.false_and]
  | true =>
    by_cases c2 : x < 0
    · refine ⟨M, fun d Q => ?_, Fw.rf⟩
      have z : decide (0 ≤ x ∧ x < nI (2 ^ ap)) = false := decide_eq_false (fun z => absurd c2 (Int32.not_lt.mpr z.1))
      rw [z, eX10_stuck]
      simp (disch := (first | assumption | omega | decide)) only [sX10_stuck_0, sX10_stuck_1, sX10_stuck_4, sX10_stuck_7, sX10_stuck_8, sX10_stuck_11, sX10_stuck_12, sX10_stuck_13, sX10_stuck_14, sX10_stuck_17, sX10_stuck_20, sX10_stuck_21, sX10_stuck_24, sX10_stuck_25, sX10_stuck_26, sX10_stuck_27, sX10_stuck_30, sX10_stuck_31, sX10_stuck_34, sX10_stuck_37, sX10_stuck_40, sX10_stuck_41, sX10_stuck_44, sX10_stuck_45, sX10_stuck_48, sX10_stuck_49, sX10_stuck_52, sX10_stuck_55, kI_i, kL_l, kV_v, am_rv_s, am_kl_i, am_kl_r, am_kl_n, am_kl_l, true_and, and_true, and_self, true_or, or_true, implies_true, forall_const, not_true_eq_false, not_false_eq_true, false_implies, true_implies, if_true, if_false, Bool.true_eq_false, Bool.false_eq_true, ob_0, c_isOpen hW h, c1, bz_t, i01, c2, Bool.and_false]
    · by_cases c3 : x < nI (2 ^ ap)
      · refine ⟨lkM M S.1, fun d Q => ?_, Fw_lk⟩
        have z : decide (0 ≤ x ∧ x < nI (2 ^ ap)) = true := decide_eq_true ⟨Int32.not_lt.mp c2, c3⟩
        have c3' := eq_true c3
        rw [z, eX10_stuck]
        simp (disch := (first | assumption | omega | decide)) only [sX10_stuck_0, sX10_stuck_1, sX10_stuck_4, sX10_stuck_7, sX10_stuck_8, sX10_stuck_11, sX10_stuck_12, sX10_stuck_13, sX10_stuck_14, sX10_stuck_17, sX10_stuck_20, sX10_stuck_21, sX10_stuck_24, sX10_stuck_25, sX10_stuck_26, sX10_stuck_27, sX10_stuck_30, sX10_stuck_31, sX10_stuck_34, sX10_stuck_37, sX10_stuck_40, sX10_stuck_41, sX10_stuck_44, sX10_stuck_45, sX10_stuck_48, sX10_stuck_49, sX10_stuck_52, sX10_stuck_55, kI_i, kL_l, kV_v, am_rv_s, am_kl_i, am_kl_r, am_kl_n, am_kl_l, true_and, and_true, and_self, true_or, or_true, implies_true, forall_const, not_true_eq_false, not_false_eq_true, false_implies, true_implies, if_true, if_false, Bool.true_eq_false, Bool.false_eq_true, ob_0, ob_3, ob_424, c_isOpen hW h, c1, bz_t, i01, c2, r_0_1, r_3_0, r_0_13, h3, shl1 ap (by omega), c3', Bool.and_self, lk, kn, lf]
        rfl
      · refine ⟨M, fun d Q => ?_, Fw.rf⟩
        have z : decide (0 ≤ x ∧ x < nI (2 ^ ap)) = false := decide_eq_false (fun z => c3 z.2)
        rw [z, eX10_stuck]
        simp (disch := (first | assumption | omega | decide)) only [sX10_stuck_0, sX10_stuck_1, sX10_stuck_4, sX10_stuck_7, sX10_stuck_8, sX10_stuck_11, sX10_stuck_12, sX10_stuck_13, sX10_stuck_14, sX10_stuck_17, sX10_stuck_20, sX10_stuck_21, sX10_stuck_24, sX10_stuck_25, sX10_stuck_26, sX10_stuck_27, sX10_stuck_30, sX10_stuck_31, sX10_stuck_34, sX10_stuck_37, sX10_stuck_40, sX10_stuck_41, sX10_stuck_44, sX10_stuck_45, sX10_stuck_48, sX10_stuck_49, sX10_stuck_52, sX10_stuck_55, kI_i, kL_l, kV_v, am_rv_s, am_kl_i, am_kl_r, am_kl_n, am_kl_l, true_and, and_true, and_self, true_or, or_true, implies_true, forall_const, not_true_eq_false, not_false_eq_true, false_implies, true_implies, if_true, if_false, Bool.true_eq_false, Bool.false_eq_true, ob_0, ob_3, c_isOpen hW h, c1, bz_t, i01, c2, r_0_1, h3, shl1 ap (by omega), c3, Bool.and_false]
theorem c_alone {x : Int32} (hW : WR M) (h : StC M 3 ap lim S) (hl : S.1.length ≤ 12) : ∃ M', (∀ d (Q : am_Q), am_big (d + 4) mX10_alone [.ref 0, .int x] 488 M Q = Q (some (.int (aloneA ap S x))) M') ∧ Fw XL M M' := by
  obtain ⟨M', e1, f1⟩ := c_stuck (x := x) hW h hl
  have w1 := f1.2 hW
  have g43 : gI M' 4 3 = nI S.1.length := by rw [f1.I (by unfold XL; omega)]; exact (StC_LH h).1.2.1
  refine ⟨M', fun d Q => ?_, f1⟩
  rw [eX10_alone]
  unfold stuckA at e1
  unfold aloneA
  cases c : arH ap x with
  | false =>
    simp only [c, Bool.false_eq_true, if_false] at e1
    have z : ((-1 : Int32) = -1) = True := eq_true rfl
    simp (disch := (first | assumption | omega | decide)) only [sX10_alone_0, sX10_alone_1, sX10_alone_2, sX10_alone_5, sX10_alone_6, sX10_alone_7, sX10_alone_8, sX10_alone_11, sX10_alone_12, sX10_alone_15, sX10_alone_16, sX10_alone_19, sX10_alone_22, sX10_alone_25, sX10_alone_26, sX10_alone_29, sX10_alone_30, kI_i, kL_l, kV_v, am_rv_s, am_kl_i, am_kl_r, am_kl_n, am_kl_l, true_and, and_true, and_self, true_or, or_true, implies_true, forall_const, not_true_eq_false, not_false_eq_true, false_implies, true_implies, if_true, if_false, Bool.true_eq_false, Bool.false_eq_true, ob_0, e1, z]
  | true =>
    simp only [c, if_true] at e1
    have z : (nI (lfS ap S x) = -1) = False := nI_m1 (Nat.lt_trans (lf_lt hl) (by omega))
    simp (disch := (first | assumption | omega | decide)) only [sX10_alone_0, sX10_alone_1, sX10_alone_2, sX10_alone_5, sX10_alone_6, sX10_alone_7, sX10_alone_8, sX10_alone_11, sX10_alone_12, sX10_alone_15, sX10_alone_16, sX10_alone_19, sX10_alone_22, sX10_alone_25, sX10_alone_26, sX10_alone_29, sX10_alone_30, kI_i, kL_l, kV_v, am_rv_s, am_kl_i, am_kl_r, am_kl_n, am_kl_l, true_and, and_true, and_self, true_or, or_true, implies_true, forall_const, not_true_eq_false, not_false_eq_true, false_implies, true_implies, if_true, if_false, Bool.true_eq_false, Bool.false_eq_true, ob_0, ob_3, ob_4, r_0_1, r_3_0, e1, z, g43, c_bits]
theorem m_areHands {x : Int32} (hf : gI N 457 23 = nI ap) (hap : ap ≤ 4) : am_big (d + 2) mX11_areHands [.ref 457, .int x] 488 N Q = Q (some (.int (bz (arH ap x)))) N := by
  have p1 : (2 : Nat) ^ ap ≤ 16 := Nat.le_trans (Nat.pow_le_pow_right (by omega) hap) (by omega : 2 ^ 4 ≤ 16)
  have e := isin_hi (n := 2 ^ ap) (by omega) x
  have z0 : (nI ap ≤ 0) = (opn ap = false) := by
    rw [show (0 : Int32) = nI 0 from rfl, nI_leE (by omega) (by omega)]; unfold opn; simp
  rw [eX11_areHands]
  unfold arH
  cases c1 : opn ap with
  | false => simp (disch := (first | assumption | omega | decide)) only [sX11_areHands_0, sX11_areHands_1, sX11_areHands_4, sX11_areHands_7, sX11_areHands_8, sX11_areHands_9, sX11_areHands_10, sX11_areHands_11, sX11_areHands_12, sX11_areHands_15, sX11_areHands_16, sX11_areHands_17, sX11_areHands_18, sX11_areHands_19, sX11_areHands_22, sX11_areHands_25, sX11_areHands_26, sX11_areHands_29, sX11_areHands_30, kI_i, kL_l, kV_v, am_rv_s, am_kl_i, am_kl_r, am_kl_n, am_kl_l, true_and, and_true, and_self, true_or, or_true, implies_true, forall_const, not_true_eq_false, not_false_eq_true, false_implies, true_implies, if_true, if_false, Bool.true_eq_false, Bool.false_eq_true, ob_457, hf, z0, c1, Bool.false_and, bz_f]
  | true =>
    cases c2 : decide (0 ≤ x ∧ x < nI (2 ^ ap)) with
    | false =>
      rw [c2] at e
      simp (disch := (first | assumption | omega | decide)) only [sX11_areHands_0, sX11_areHands_1, sX11_areHands_4, sX11_areHands_7, sX11_areHands_8, sX11_areHands_9, sX11_areHands_10, sX11_areHands_11, sX11_areHands_12, sX11_areHands_15, sX11_areHands_16, sX11_areHands_17, sX11_areHands_18, sX11_areHands_19, sX11_areHands_22, sX11_areHands_25, sX11_areHands_26, sX11_areHands_29, sX11_areHands_30, kI_i, kL_l, kV_v, am_rv_s, am_kl_i, am_kl_r, am_kl_n, am_kl_l, true_and, and_true, and_self, true_or, or_true, implies_true, forall_const, not_true_eq_false, not_false_eq_true, false_implies, true_implies, if_true, if_false, Bool.true_eq_false, Bool.false_eq_true, ob_457, hf, z0, c1, c64_0, shl1 ap (by omega), m_isIn, e, bz_f, Bool.and_false]
    | true =>
      rw [c2] at e
      simp (disch := (first | assumption | omega | decide)) only [sX11_areHands_0, sX11_areHands_1, sX11_areHands_4, sX11_areHands_7, sX11_areHands_8, sX11_areHands_9, sX11_areHands_10, sX11_areHands_11, sX11_areHands_12, sX11_areHands_15, sX11_areHands_16, sX11_areHands_17, sX11_areHands_18, sX11_areHands_19, sX11_areHands_22, sX11_areHands_25, sX11_areHands_26, sX11_areHands_29, sX11_areHands_30, kI_i, kL_l, kV_v, am_rv_s, am_kl_i, am_kl_r, am_kl_n, am_kl_l, true_and, and_true, and_self, true_or, or_true, implies_true, forall_const, not_true_eq_false, not_false_eq_true, false_implies, true_implies, if_true, if_false, Bool.true_eq_false, Bool.false_eq_true, ob_457, hf, z0, c1, c64_0, shl1 ap (by omega), m_isIn, e, bz_t, i01, Bool.and_self]
theorem nd_nd : nd3 (nd3 M l) l = nd3 M l := M_ext (fun b k => by
  unfold nd3 f3
  simp only [gI_fl']
  by_cases z1 : b = 475 ∧ k < l.length
  · rw [if_pos z1, if_pos z1]
  · rw [if_neg z1, if_neg z1]
    by_cases z2 : b = 474 ∧ k < l.length
    · rw [if_pos z2, if_pos z2]
    · rw [if_neg z2, if_neg z2]
      by_cases z3 : b = 473 ∧ k < l.length
      · rw [if_pos z3, if_pos z3]
      · rw [if_neg z3, if_neg z3]) (fun _ _ => rfl) (fun _ _ => rfl)
theorem XN_st {j : Nat} : ¬ XN 465 j := by unfold XN; omega
theorem m_takenBy {x : Int32} (hW : WR M) (hS : StM M 465 0 ap S) (hf : gI M 457 23 = nI ap) (hw : WFl S.1) : am_big (d + 4) mX11_takenBy [.ref 457, .int x] 488 M Q = Q (some (.int (nI S.1.length - bcI (nI (lfS ap S x))))) (nd3 M S.1) := by
  have hap := hS.2.2.2.2.1.2.2
  have g36 : gI M 465 36 = nI S.1.length := by have := hS.2.1; rwa [Nat.zero_add] at this
  have kb := fun d (Q : am_Q) => m_knownBy (d := d) (Q := Q) (x := x) (f := S.2.1) hW hf (fun i hi => by have := hS.2.2.2.1 i hi; rwa [Nat.zero_add] at this) hap
  have lb := fun d (Q : am_Q) K => m_leftBy (d := d) (Q := Q) (K := K) hW hS.p hw
  rw [eX11_takenBy]
  simp (disch := (first | assumption | omega | decide)) only [sX11_takenBy_0, sX11_takenBy_1, sX11_takenBy_4, sX11_takenBy_6, sX11_takenBy_7, sX11_takenBy_8, sX11_takenBy_9, sX11_takenBy_10, sX11_takenBy_13, sX11_takenBy_16, sX11_takenBy_19, sX11_takenBy_20, kI_i, kL_l, kV_v, am_rv_s, am_kl_i, am_kl_r, am_kl_n, am_kl_l, true_and, and_true, and_self, true_or, or_true, implies_true, forall_const, not_true_eq_false, not_false_eq_true, false_implies, true_implies, if_true, if_false, Bool.true_eq_false, Bool.false_eq_true, ob_457, r_457_27, n36, in_465, nI_clamp, g36, kb, lb, c_bits]
  rfl
theorem m_stuck {x : Int32} (h : RS M ap lim S P) : ∃ M', (∀ d (Q : am_Q), am_big (d + 4) mX11_stuck [.ref 457, .int x] 488 M Q = Q (some (.int (stuckA ap S x))) M') ∧ Fw XMN M M' := by
  have f0 : Fw XMN M (sI M 457 0 0) := Fw_thr.mo (fun c j z => Or.inl z)
  obtain ⟨hW, hS, hP, hf, hm, hw, hlim, ht⟩ := RS_th h
  generalize hM0 : sI M 457 0 0 = M0 at *
  have hap := hS.2.2.2.2.1.2.2
  have ah := fun d (Q : am_Q) => m_areHands (d := d) (Q := Q) (x := x) hf hap
  unfold stuckA
  cases c : arH ap x with
  | false =>
    refine ⟨M0, fun d Q => ?_, f0⟩
    rw [eX11_stuck]
    simp (disch := (first | assumption | omega | decide)) only [sX11_stuck_0, sX11_stuck_1, sX11_stuck_2, sX11_stuck_5, sX11_stuck_6, sX11_stuck_7, sX11_stuck_10, sX11_stuck_13, sX11_stuck_14, sX11_stuck_15, sX11_stuck_16, sX11_stuck_19, sX11_stuck_22, sX11_stuck_25, sX11_stuck_26, kI_i, kL_l, kV_v, am_rv_s, am_kl_i, am_kl_r, am_kl_n, am_kl_l, true_and, and_true, and_self, true_or, or_true, implies_true, forall_const, not_true_eq_false, not_false_eq_true, false_implies, true_implies, if_true, if_false, Bool.true_eq_false, Bool.false_eq_true, ob_457, hM0, ah, c, bz_f]
  | true =>
    refine ⟨nd3 M0 S.1, fun d Q => ?_, f0.tr (Fw_nd.mo (fun c j z => Or.inr z))⟩
    have kb := fun d (Q : am_Q) => m_knownBy (d := d) (Q := Q) (x := x) (f := S.2.1) hW hf (fun i hi => by have := hS.2.2.2.1 i hi; rwa [Nat.zero_add] at this) hap
    have lb := fun d (Q : am_Q) K => m_leftBy (d := d) (Q := Q) (K := K) hW hS.p hw
    rw [eX11_stuck]
    simp (disch := (first | assumption | omega | decide)) only [sX11_stuck_0, sX11_stuck_1, sX11_stuck_2, sX11_stuck_5, sX11_stuck_6, sX11_stuck_7, sX11_stuck_10, sX11_stuck_13, sX11_stuck_14, sX11_stuck_15, sX11_stuck_16, sX11_stuck_19, sX11_stuck_22, sX11_stuck_25, sX11_stuck_26, kI_i, kL_l, kV_v, am_rv_s, am_kl_i, am_kl_r, am_kl_n, am_kl_l, true_and, and_true, and_self, true_or, or_true, implies_true, forall_const, not_true_eq_false, not_false_eq_true, false_implies, true_implies, if_true, if_false, Bool.true_eq_false, Bool.false_eq_true, ob_457, hM0, ah, c, bz_t, i01, kb, lb]
    rfl
theorem m_alone {x : Int32} (h : RS M ap lim S P) : ∃ M', (∀ d (Q : am_Q), am_big (d + 5) mX11_alone [.ref 457, .int x] 488 M Q = Q (some (.int (aloneA ap S x))) M') ∧ Fw XMN M M' := by
  have f0 : Fw XMN M (sI M 457 0 0) := Fw_thr.mo (fun c j z => Or.inl z)
  obtain ⟨hW, hS, hP, hf, hm, hw, hlim, ht⟩ := RS_th h
  generalize hM0 : sI M 457 0 0 = M0 at *
  have hap := hS.2.2.2.2.1.2.2
  have ah := fun d (Q : am_Q) => m_areHands (d := d) (Q := Q) (x := x) hf hap
  unfold aloneA
  cases c : arH ap x with
  | false =>
    refine ⟨M0, fun d Q => ?_, f0⟩
    rw [eX11_alone]
    simp (disch := (first | assumption | omega | decide)) only [sX11_alone_0, sX11_alone_1, sX11_alone_2, sX11_alone_5, sX11_alone_6, sX11_alone_7, sX11_alone_10, sX11_alone_13, sX11_alone_14, sX11_alone_15, sX11_alone_18, sX11_alone_21, sX11_alone_22, kI_i, kL_l, kV_v, am_rv_s, am_kl_i, am_kl_r, am_kl_n, am_kl_l, true_and, and_true, and_self, true_or, or_true, implies_true, forall_const, not_true_eq_false, not_false_eq_true, false_implies, true_implies, if_true, if_false, Bool.true_eq_false, Bool.false_eq_true, ob_457, hM0, ah, c, bz_f]
  | true =>
    refine ⟨nd3 M0 S.1, fun d Q => ?_, f0.tr (Fw_nd.mo (fun c j z => Or.inr z))⟩
    have tb := fun d (Q : am_Q) => m_takenBy (d := d) (Q := Q) (x := x) hW hS hf hw
    rw [eX11_alone]
    simp (disch := (first | assumption | omega | decide)) only [sX11_alone_0, sX11_alone_1, sX11_alone_2, sX11_alone_5, sX11_alone_6, sX11_alone_7, sX11_alone_10, sX11_alone_13, sX11_alone_14, sX11_alone_15, sX11_alone_18, sX11_alone_21, sX11_alone_22, kI_i, kL_l, kV_v, am_rv_s, am_kl_i, am_kl_r, am_kl_n, am_kl_l, true_and, and_true, and_self, true_or, or_true, implies_true, forall_const, not_true_eq_false, not_false_eq_true, false_implies, true_implies, if_true, if_false, Bool.true_eq_false, Bool.false_eq_true, ob_457, hM0, ah, c, bz_t, i01, tb]
end
