section
variable {M N : am_M} {ap lim n : Nat} {S : Sg} {P : List Sg} {l : List Dd} {d : Nat} {Q : am_Q} {LL : List (List Nat)} {h : Int32}
theorem wI_bd (x : Int64) : 0 ≤ (wI 0 x 99).toInt ∧ (wI 0 x 99).toInt ≤ 99 := by
  have t0 : (0 : Int32).toInt = 0 := by decide
  have t9 : (99 : Int32).toInt = 99 := by decide
  unfold wI
  rw [t0, t9]
  split
  · rw [t0]; omega
  · split
    · rw [t9]; omega
    · rw [Int64.toInt_toInt32, Int.bmod_eq_of_le (by omega) (by omega)]; omega
theorem prc_bd {s : Nat} (hs : s < 5) (pa x n b t : Int32) : 0 ≤ (prc LL h (nI s) pa x n b t).toInt ∧ (prc LL h (nI s) pa x n b t).toInt ≤ 99 := by
  unfold prc
  split
  · rw [show nI s + 1 = nI (s + 1) from nI_1 s, nI_toInt (by omega)]; omega
  · exact wI_bd _
/-- what a deed of a piece costs as the first -/
noncomputable def gcs (LL : List (List Nat)) (h : Int32) (S : Sg) (t : Nat) : Int32 := prc LL h (sf S.1 t) (pf S.1 t) (xf S.1 t) (nI 0) (nI 5) (nI S.2.2.2.1)
theorem gcs_bd (hw : WFl S.1) : pB (gcs LL h S) S.1.length := fun t ht => by
  obtain ⟨s, p, x, e1, e2, e3, b1, _⟩ := WF_at hw ht
  unfold gcs
  rw [e1]
  exact prc_bd b1 _ _ _ _ _
theorem m6e : (-1000000 : Int32) = m6K := rfl
theorem c_everything (hn : gI N 424 1 = nI l.length) (hl : l.length ≤ 12) : am_big (d + 1) mX5_everything [.ref 424] 488 N Q = Q (some (.int (nI (2 ^ l.length - 1)))) N := by
  have pp : 0 < (2 : Nat) ^ l.length := Nat.pow_pos (by omega)
  rw [eX5_everything]
  simp (disch := (first | assumption | omega | decide)) only [sX5_everything_0, sX5_everything_1, sX5_everything_2, sX5_everything_5, sX5_everything_6, sX5_everything_7, sX5_everything_8, kI_i, kL_l, kV_v, am_rv_s, am_kl_i, am_kl_r, am_kl_n, am_kl_l, true_and, and_true, and_self, true_or, or_true, implies_true, forall_const, not_true_eq_false, not_false_eq_true, false_implies, true_implies, if_true, if_false, Bool.true_eq_false, Bool.false_eq_true, ob_424, hn, shl1 l.length (by omega), nI_sub1 pp]
/-- the class's tables for the game: what a deed costs, what needs a deed, and the worths w of the sets to which a move leads -/
theorem c_moveWorth {p w : Nat → Int32} {s t : Nat} (hW : WR N) (hp : gI N 434 t = p t) (ht : t < 12) (hs : s < 4096) (hb : s.testBit t = true) (hw : gI N 432 (s ^^^ 2 ^ t) = w (s ^^^ 2 ^ t)) : am_big (d + 1) mX5_moveWorth [.ref 424, .int (nI s), .int (nI t)] 488 N Q = Q (some (.int (p t - w (s ^^^ 2 ^ t)))) N := by
  have xl := x_lt hb
  have ct : (nI t).toNatClampNeg = t := nI_clamp (by omega)
  have cx : (nI (s ^^^ 2 ^ t)).toNatClampNeg = s ^^^ 2 ^ t := nI_clamp (by omega)
  have i4 := in_434 (M := N) (k := t) (by omega)
  have i2 := in_432 (M := N) (k := s ^^^ 2 ^ t) (by omega)
  rw [eX5_moveWorth]
  simp (disch := (first | assumption | omega | decide)) only [sX5_moveWorth_0, sX5_moveWorth_1, sX5_moveWorth_4, sX5_moveWorth_5, sX5_moveWorth_6, sX5_moveWorth_7, sX5_moveWorth_10, sX5_moveWorth_11, sX5_moveWorth_12, sX5_moveWorth_13, sX5_moveWorth_14, sX5_moveWorth_15, sX5_moveWorth_16, sX5_moveWorth_17, sX5_moveWorth_18, sX5_moveWorth_19, kI_i, kL_l, kV_v, am_rv_s, am_kl_i, am_kl_r, am_kl_n, am_kl_l, true_and, and_true, and_self, true_or, or_true, implies_true, forall_const, not_true_eq_false, not_false_eq_true, false_implies, true_implies, if_true, if_false, Bool.true_eq_false, Bool.false_eq_true, ob_424, r_424_5, r_424_7, i4, ct, hp, shl1 t (by omega), nI_drop hb, i2, cx, hw]
theorem oi_m1 {o : Option Nat} (h : ∀ j, o = some j → j < 2 ^ 31) : (oi o = -1) = (o = none) := by
  cases o with
  | none => simp [oi]
  | some k => rw [oi_s, nI_m1 (h k rfl)]; simp
theorem c_bestMove {p w : Nat → Int32} {s : Nat} (hW : WR N) (hn : gI N 424 1 = nI l.length) (hl : l.length ≤ 12) (hp : ∀ t, t < l.length → gI N 434 t = p t) (hA : ∀ k, k < l.length → gI N 430 k = nI (ab l l.length k)) (hs : s < 2 ^ l.length) (hw : ∀ t, t < l.length → gcl l s t = true → gI N 432 (s ^^^ 2 ^ t) = w (s ^^^ 2 ^ t)) : am_big (d + 2) mX5_bestMove [.ref 424, .int (nI s)] 488 N Q = Q (some (.int (oi (bmF (gcl l s) (fun t => p t - w (s ^^^ 2 ^ t)) l.length)))) N := by
  have pw : (2 : Nat) ^ l.length ≤ 4096 := Nat.le_trans (Nat.pow_le_pow_right (by omega) hl) (by omega)
  have l0 := loop0 (P := fun k => ok (d + 1) mX5_bestMove 488 Q 488 0 0 4 [some (.ref 424), some (.int (nI s)), some (.int (oi (bmF (gcl l s) (fun t => p t - w (s ^^^ 2 ^ t)) k))), some (.int (nI k))] [] N) (n := l.length) (fun k hk => by
    have e0 : (nI l.length ≤ nI k) = False := by rw [nI_leE (by omega) (by omega)]; exact eq_false (by omega)
    have cv : ∀ d (Q : am_Q), am_big (d + 1) mX5_canLeave [.ref 424, .int (nI k), .int (nI s)] 488 N Q = Q (some (.int (bz (gcl l s k)))) N := fun d Q => c_canLeave hW (hA k hk) (by omega) (by omega)
    have mw : ∀ t, t < l.length → gcl l s t = true → ∀ d (Q : am_Q), am_big (d + 1) mX5_moveWorth [.ref 424, .int (nI s), .int (nI t)] 488 N Q = Q (some (.int (p t - w (s ^^^ 2 ^ t)))) N := fun t ht ct d Q => by
      have hb : s.testBit t = true := by unfold gcl at ct; rw [Bool.and_eq_true] at ct; exact ct.1
      exact c_moveWorth hW (hp t ht) (by omega) (by omega) hb (hw t ht ct)
    have hj := (bmF_c (c := gcl l s) (v := fun t => p t - w (s ^^^ 2 ^ t)) (w := fun t => p t - w (s ^^^ 2 ^ t)) (k := k) (fun _ _ _ => rfl)).2
    show ok (d + 1) mX5_bestMove 488 Q 488 0 0 4 _ [] _ = ok (d + 1) mX5_bestMove 488 Q 488 0 0 4 [some (.ref 424), some (.int (nI s)), some (.int (oi (bmF (gcl l s) (fun t => p t - w (s ^^^ 2 ^ t)) (k + 1)))), some (.int (nI (k + 1)))] [] _
    rw [bmF, sX5_bestMove_4]
    cases e : bmF (gcl l s) (fun t => p t - w (s ^^^ 2 ^ t)) k with
    | none =>
      cases c : gcl l s k with
      | false => simp (disch := (first | assumption | omega | decide)) only [sX5_bestMove_0, sX5_bestMove_1, sX5_bestMove_2, sX5_bestMove_3, sX5_bestMove_5, sX5_bestMove_6, sX5_bestMove_9, sX5_bestMove_12, sX5_bestMove_13, sX5_bestMove_14, sX5_bestMove_15, sX5_bestMove_18, sX5_bestMove_21, sX5_bestMove_22, sX5_bestMove_23, sX5_bestMove_26, sX5_bestMove_27, sX5_bestMove_28, sX5_bestMove_29, sX5_bestMove_32, sX5_bestMove_33, sX5_bestMove_34, sX5_bestMove_35, sX5_bestMove_38, sX5_bestMove_41, sX5_bestMove_42, sX5_bestMove_43, sX5_bestMove_46, sX5_bestMove_49, sX5_bestMove_50, kI_i, kL_l, kV_v, am_rv_s, am_kl_i, am_kl_r, am_kl_n, am_kl_l, true_and, and_true, and_self, true_or, or_true, implies_true, forall_const, not_true_eq_false, not_false_eq_true, false_implies, true_implies, if_true, if_false, Bool.true_eq_false, Bool.false_eq_true, ob_424, hn, e0, cv, c, bz_f, nI_1]
      | true => simp (disch := (first | assumption | omega | decide)) only [sX5_bestMove_0, sX5_bestMove_1, sX5_bestMove_2, sX5_bestMove_3, sX5_bestMove_5, sX5_bestMove_6, sX5_bestMove_9, sX5_bestMove_12, sX5_bestMove_13, sX5_bestMove_14, sX5_bestMove_15, sX5_bestMove_18, sX5_bestMove_21, sX5_bestMove_22, sX5_bestMove_23, sX5_bestMove_26, sX5_bestMove_27, sX5_bestMove_28, sX5_bestMove_29, sX5_bestMove_32, sX5_bestMove_33, sX5_bestMove_34, sX5_bestMove_35, sX5_bestMove_38, sX5_bestMove_41, sX5_bestMove_42, sX5_bestMove_43, sX5_bestMove_46, sX5_bestMove_49, sX5_bestMove_50, kI_i, kL_l, kV_v, am_rv_s, am_kl_i, am_kl_r, am_kl_n, am_kl_l, true_and, and_true, and_self, true_or, or_true, implies_true, forall_const, not_true_eq_false, not_false_eq_true, false_implies, true_implies, if_true, if_false, Bool.true_eq_false, Bool.false_eq_true, ob_424, hn, e0, cv, c, bz_t, i01, oi_n, oi_s, nI_1]
    | some j =>
      obtain ⟨j1, j2⟩ := hj j e
      have nm := nI_m1 (k := j) (by omega)
      cases c : gcl l s k with
      | false => simp (disch := (first | assumption | omega | decide)) only [sX5_bestMove_0, sX5_bestMove_1, sX5_bestMove_2, sX5_bestMove_3, sX5_bestMove_5, sX5_bestMove_6, sX5_bestMove_9, sX5_bestMove_12, sX5_bestMove_13, sX5_bestMove_14, sX5_bestMove_15, sX5_bestMove_18, sX5_bestMove_21, sX5_bestMove_22, sX5_bestMove_23, sX5_bestMove_26, sX5_bestMove_27, sX5_bestMove_28, sX5_bestMove_29, sX5_bestMove_32, sX5_bestMove_33, sX5_bestMove_34, sX5_bestMove_35, sX5_bestMove_38, sX5_bestMove_41, sX5_bestMove_42, sX5_bestMove_43, sX5_bestMove_46, sX5_bestMove_49, sX5_bestMove_50, kI_i, kL_l, kV_v, am_rv_s, am_kl_i, am_kl_r, am_kl_n, am_kl_l, true_and, and_true, and_self, true_or, or_true, implies_true, forall_const, not_true_eq_false, not_false_eq_true, false_implies, true_implies, if_true, if_false, Bool.true_eq_false, Bool.false_eq_true, ob_424, hn, e0, cv, c, bz_f, nI_1, false_and]
      | true =>
        have mk := mw k hk c
        have mj := mw j (by omega) j2
        by_cases q : p j - w (s ^^^ 2 ^ j) < p k - w (s ^^^ 2 ^ k)
        · have q' := Int32.not_le.mpr q
          simp (disch := (first | assumption | omega | decide)) only [sX5_bestMove_0, sX5_bestMove_1, sX5_bestMove_2, sX5_bestMove_3, sX5_bestMove_5, sX5_bestMove_6, sX5_bestMove_9, sX5_bestMove_12, sX5_bestMove_13, sX5_bestMove_14, sX5_bestMove_15, sX5_bestMove_18, sX5_bestMove_21, sX5_bestMove_22, sX5_bestMove_23, sX5_bestMove_26, sX5_bestMove_27, sX5_bestMove_28, sX5_bestMove_29, sX5_bestMove_32, sX5_bestMove_33, sX5_bestMove_34, sX5_bestMove_35, sX5_bestMove_38, sX5_bestMove_41, sX5_bestMove_42, sX5_bestMove_43, sX5_bestMove_46, sX5_bestMove_49, sX5_bestMove_50, kI_i, kL_l, kV_v, am_rv_s, am_kl_i, am_kl_r, am_kl_n, am_kl_l, true_and, and_true, and_self, true_or, or_true, implies_true, forall_const, not_true_eq_false, not_false_eq_true, false_implies, true_implies, if_true, if_false, Bool.true_eq_false, Bool.false_eq_true, ob_424, hn, e0, cv, c, bz_t, i01, oi_s, nm, mk, mj, q, q', nI_1]
        · have q' := Int32.not_lt.mp q
          simp (disch := (first | assumption | omega | decide)) only [sX5_bestMove_0, sX5_bestMove_1, sX5_bestMove_2, sX5_bestMove_3, sX5_bestMove_5, sX5_bestMove_6, sX5_bestMove_9, sX5_bestMove_12, sX5_bestMove_13, sX5_bestMove_14, sX5_bestMove_15, sX5_bestMove_18, sX5_bestMove_21, sX5_bestMove_22, sX5_bestMove_23, sX5_bestMove_26, sX5_bestMove_27, sX5_bestMove_28, sX5_bestMove_29, sX5_bestMove_32, sX5_bestMove_33, sX5_bestMove_34, sX5_bestMove_35, sX5_bestMove_38, sX5_bestMove_41, sX5_bestMove_42, sX5_bestMove_43, sX5_bestMove_46, sX5_bestMove_49, sX5_bestMove_50, kI_i, kL_l, kV_v, am_rv_s, am_kl_i, am_kl_r, am_kl_n, am_kl_l, true_and, and_true, and_self, true_or, or_true, implies_true, forall_const, not_true_eq_false, not_false_eq_true, false_implies, true_implies, if_true, if_false, Bool.true_eq_false, Bool.false_eq_true, ob_424, hn, e0, cv, c, bz_t, i01, oi_s, nm, mk, mj, q, q', nI_1, and_false])
  have l1 : ok (d + 1) mX5_bestMove 488 Q 488 0 0 4 [some (.ref 424), some (.int (nI s)), some (.int (-1)), some (.int 0)] [] N = _ := l0
  rw [eX5_bestMove]
  simp (disch := (first | assumption | omega | decide)) only [sX5_bestMove_0, sX5_bestMove_1, sX5_bestMove_2, sX5_bestMove_3, sX5_bestMove_5, sX5_bestMove_6, sX5_bestMove_9, sX5_bestMove_12, sX5_bestMove_13, sX5_bestMove_14, sX5_bestMove_15, sX5_bestMove_18, sX5_bestMove_21, sX5_bestMove_22, sX5_bestMove_23, sX5_bestMove_26, sX5_bestMove_27, sX5_bestMove_28, sX5_bestMove_29, sX5_bestMove_32, sX5_bestMove_33, sX5_bestMove_34, sX5_bestMove_35, sX5_bestMove_38, sX5_bestMove_41, sX5_bestMove_42, sX5_bestMove_43, sX5_bestMove_46, sX5_bestMove_49, sX5_bestMove_50, kI_i, kL_l, kV_v, am_rv_s, am_kl_i, am_kl_r, am_kl_n, am_kl_l, true_and, and_true, and_self, true_or, or_true, implies_true, forall_const, not_true_eq_false, not_false_eq_true, false_implies, true_implies, if_true, if_false, Bool.true_eq_false, Bool.false_eq_true, l1]
  rw [sX5_bestMove_4]
  simp (disch := (first | assumption | omega | decide)) only [sX5_bestMove_0, sX5_bestMove_1, sX5_bestMove_2, sX5_bestMove_3, sX5_bestMove_5, sX5_bestMove_6, sX5_bestMove_9, sX5_bestMove_12, sX5_bestMove_13, sX5_bestMove_14, sX5_bestMove_15, sX5_bestMove_18, sX5_bestMove_21, sX5_bestMove_22, sX5_bestMove_23, sX5_bestMove_26, sX5_bestMove_27, sX5_bestMove_28, sX5_bestMove_29, sX5_bestMove_32, sX5_bestMove_33, sX5_bestMove_34, sX5_bestMove_35, sX5_bestMove_38, sX5_bestMove_41, sX5_bestMove_42, sX5_bestMove_43, sX5_bestMove_46, sX5_bestMove_49, sX5_bestMove_50, kI_i, kL_l, kV_v, am_rv_s, am_kl_i, am_kl_r, am_kl_n, am_kl_l, true_and, and_true, and_self, true_or, or_true, implies_true, forall_const, not_true_eq_false, not_false_eq_true, false_implies, true_implies, if_true, if_false, Bool.true_eq_false, Bool.false_eq_true, ob_424, hn, Int32.le_refl]
def XGm (c j : Nat) : Prop := XPr c j ∨ c = 431 ∨ c = 432 ∨ c = 434
theorem c_prices (hW : WR N) (h0 : gR N 424 0 = some 4) (hL : LH N 4 S.1) (hn : gI N 424 1 = nI S.1.length) (hl : S.1.length ≤ 12) (ht : S.2.2.2.1 ≤ 9999) (hw : WFl S.1) (hb : LbC N LL h) : ∀ k, k ≤ S.1.length → ∃ M', (∀ d (Q : am_Q), ok (d + 4) mX5_playGame 488 Q 488 0 0 2 [some (.ref 424), some (.ref 392), some (.int (nI S.2.2.2.1)), some (.int 0), none] [] N = ok (d + 4) mX5_playGame 488 Q 488 0 0 2 [some (.ref 424), some (.ref 392), some (.int (nI S.2.2.2.1)), some (.int (nI k)), none] [] M') ∧ (∀ t, t < k → gI M' 434 t = gcs LL h S t) ∧ Fw XGm N M' := by
  intro k
  induction k with
  | zero => exact fun _ => ⟨N, fun d Q => rfl, fun t ht => by omega, Fw.rf⟩
  | succ k ih =>
    intro hk
    obtain ⟨M1, e1, p1, f1⟩ := ih (by omega)
    have hW1 := f1.2 hW
    have hb1 : LbC M1 LL h := LbC_Fw f1 (fun c j hc => by unfold XGm XPr; omega) hb
    have hL1 : LH M1 4 S.1 := LH_of (fun c j _ _ => f1.I (by unfold XGm XPr; omega)) (fun c j _ _ => f1.R (by unfold XGm XPr; omega)) hL
    have r0 : gR M1 424 0 = some 4 := (f1.R (by unfold XGm XPr; omega)).trans h0
    have n1 : gI M1 424 1 = nI S.1.length := (f1.I (by unfold XGm XPr; omega)).trans hn
    have hkl : k < S.1.length := by omega
    obtain ⟨s, p, x, q1, q2, q3, b1, b2, b3, _⟩ := WF_at hw hkl
    obtain ⟨u1, u2⟩ := LH_s hL1 k hkl
    have u3 := LH_x hL1 k hkl
    simp only [Nat.reduceAdd] at u1 u2 u3
    obtain ⟨M2, e2, f2⟩ := c_priceOf (so := s) (pa := p) (x := x) (n := 0) (b := 5) (t := S.2.2.2.1) hW1 hb1 ⟨by omega, by omega, by omega, by omega, by omega, by omega⟩
    have hW2 := f2.2 hW1
    have eg : prc LL h (nI s) (nI p) (nI x) (nI 0) (nI 5) (nI S.2.2.2.1) = gcs LL h S k := by unfold gcs; rw [q1, q2, q3]
    rw [eg, ← q1, ← q2, ← q3] at e2
    refine ⟨sI M2 434 k (gcs LL h S k), fun d Q => ?_, fun t ht' => ?_, (f1.tr (f2.mo (fun c j z => Or.inl z))).tr (Fw.s (Or.inr (Or.inr (Or.inr rfl))))⟩
    · have e0 : (nI S.1.length ≤ nI k) = False := by rw [nI_leE (by omega) (by omega)]; exact eq_false (by omega)
      have ck : (nI k).toNatClampNeg = k := nI_clamp (by omega)
      have w4 := iw_434 (k := k) (by omega)
      have z0 : nI 0 = 0 := rfl
      have z5 : nI 5 = 5 := rfl
      have e2' := e2 d
      rw [z0, z5] at e2'
      rw [e1, sX5_playGame_2]
      simp (disch := (first | assumption | omega | decide)) only [sX5_playGame_0, sX5_playGame_1, sX5_playGame_3, sX5_playGame_4, sX5_playGame_7, sX5_playGame_10, sX5_playGame_11, sX5_playGame_14, sX5_playGame_15, sX5_playGame_16, sX5_playGame_17, sX5_playGame_20, sX5_playGame_23, sX5_playGame_24, sX5_playGame_25, sX5_playGame_26, sX5_playGame_29, sX5_playGame_32, sX5_playGame_33, sX5_playGame_34, sX5_playGame_35, sX5_playGame_38, sX5_playGame_41, sX5_playGame_42, sX5_playGame_43, sX5_playGame_44, sX5_playGame_45, sX5_playGame_46, sX5_playGame_49, sX5_playGame_50, sX5_playGame_53, sX5_playGame_56, sX5_playGame_57, sX5_playGame_60, sX5_playGame_61, sX5_playGame_64, sX5_playGame_65, sX5_playGame_66, sX5_playGame_67, sX5_playGame_68, sX5_playGame_70, sX5_playGame_71, sX5_playGame_74, sX5_playGame_77, sX5_playGame_78, sX5_playGame_81, sX5_playGame_82, sX5_playGame_83, sX5_playGame_86, sX5_playGame_87, sX5_playGame_88, sX5_playGame_91, sX5_playGame_93, sX5_playGame_94, sX5_playGame_97, sX5_playGame_98, sX5_playGame_100, sX5_playGame_101, sX5_playGame_104, sX5_playGame_105, sX5_playGame_108, sX5_playGame_109, sX5_playGame_110, sX5_playGame_112, sX5_playGame_115, sX5_playGame_116, sX5_playGame_119, sX5_playGame_122, sX5_playGame_123, sX5_playGame_126, sX5_playGame_127, sX5_playGame_130, sX5_playGame_131, kI_i, kL_l, kV_v, am_rv_s, am_kl_i, am_kl_r, am_kl_n, am_kl_l, true_and, and_true, and_self, true_or, or_true, implies_true, forall_const, not_true_eq_false, not_false_eq_true, false_implies, true_implies, if_true, if_false, Bool.true_eq_false, Bool.false_eq_true, ob_424, ob_392, ob_4, n1, e0, r_424_7, r0, r_4_0, r_4_1, r_4_2, in_5, in_6, in_7, ck, u1, u2, u3, e2', w4, nI_1]
    · by_cases ek : t = k
      · subst ek; exact gI_e
      · rw [gI_j ek, f2.I (by unfold XPr; omega)]
        exact p1 t (by omega)
/-- the class's table of the game: only on sets that hold what their deeds need -/
noncomputable def gkF (V : am_M) (l : List Dd) (p : Nat → Int32) (s : Nat) : Int32 := if whB l s = true then gW l p s else gI V 432 s
theorem c_playGame (hW : WR N) (h0 : gR N 424 0 = some 4) (hL : LH N 4 S.1) (hn : gI N 424 1 = nI S.1.length) (hB : ∀ k, k < S.1.length → gI N 429 k = nI (bl S.1 k)) (hA : ∀ k, k < S.1.length → gI N 430 k = nI (ab S.1 S.1.length k)) (hl : S.1.length ≤ 12) (ht : S.2.2.2.1 ≤ 9999) (hw : WFl S.1) (hb : LbC N LL h) : ∃ M', (∀ d (Q : am_Q), am_big (d + 5) mX5_playGame [.ref 424, .ref 392, .int (nI S.2.2.2.1)] 488 N Q = Q (some (.int (gW S.1 (gcs LL h S) (2 ^ S.1.length - 1)))) M') ∧ (∀ d (Q : am_Q), am_big (d + 3) mX5_firstMove [.ref 424] 488 M' Q = Q (some (.int (oi (gbm S.1 (gcs LL h S) (2 ^ S.1.length - 1))))) M') ∧ Fw XGm N M' := by
  obtain ⟨M1, e1, p1, f1⟩ := c_prices hW h0 hL hn hl ht hw hb S.1.length (Nat.le_refl _)
  have hW1 := f1.2 hW
  have n1 : gI M1 424 1 = nI S.1.length := (f1.I (by unfold XGm XPr; omega)).trans hn
  have b1 : ∀ k, k < S.1.length → gI M1 429 k = nI (bl S.1 k) := fun k hk => (f1.I (by unfold XGm XPr; omega)).trans (hB k hk)
  have a1 : ∀ k, k < S.1.length → gI M1 430 k = nI (ab S.1 S.1.length k) := fun k hk => (f1.I (by unfold XGm XPr; omega)).trans (hA k hk)
  have hpB := gcs_bd (LL := LL) (h := h) hw
  generalize hl' : S.1 = l at *
  generalize hpp : gcs LL h S = p at *
  have pl : (2 : Nat) ^ l.length ≤ 4096 := Nat.le_trans (Nat.pow_le_pow_right (by omega) hl) (by omega)
  have pp : 0 < (2 : Nat) ^ l.length := Nat.pow_pos (by omega)
  have mw := fun d (Q : am_Q) => c_markWhole (d := d) (Q := Q) hW1 n1 b1 hl
  have fV : Fw XGm M1 (fl M1 431 (2 ^ l.length) (whI l)) := Fw.f (fun k _ => Or.inr (Or.inl rfl))
  have wV : WR (fl M1 431 (2 ^ l.length) (whI l)) := hW1
  have nV : gI (fl M1 431 (2 ^ l.length) (whI l)) 424 1 = nI l.length := by rw [gI_fn (by omega)]; exact n1
  have aV : ∀ k, k < l.length → gI (fl M1 431 (2 ^ l.length) (whI l)) 430 k = nI (ab l l.length k) := fun k hk => by rw [gI_fn (by omega)]; exact a1 k hk
  have pV : ∀ k, k < l.length → gI (fl M1 431 (2 ^ l.length) (whI l)) 434 k = p k := fun k hk => by rw [gI_fn (by omega)]; exact p1 k hk
  have gV' : ∀ s, s < 2 ^ l.length → gI (fl M1 431 (2 ^ l.length) (whI l)) 431 s = whI l s := fun s hs => gI_fl hs
  generalize hV : fl M1 431 (2 ^ l.length) (whI l) = V at *
  have hf : ∀ k, Fw XGm V (fl V 432 k (gkF V l p)) := fun k => Fw.f (fun k _ => Or.inr (Or.inr (Or.inl rfl)))
  have nF : ∀ k, gI (fl V 432 k (gkF V l p)) 424 1 = nI l.length := fun k => by rw [gI_fn (by omega)]; exact nV
  have bm : ∀ s k, s ≤ k → s < 2 ^ l.length → whB l s = true → ∀ d (Q : am_Q), am_big (d + 2) mX5_bestMove [.ref 424, .int (nI s)] 488 (fl V 432 k (gkF V l p)) Q = Q (some (.int (oi (gbm l p s)))) (fl V 432 k (gkF V l p)) := fun s k hsk hs hwh d Q => by
    refine c_bestMove (w := gW l p) wV (nF k) hl (fun t ht => by rw [gI_fn (by omega)]; exact pV t ht) (fun t ht => by rw [gI_fn (by omega)]; exact aV t ht) hs (fun t ht ct => ?_)
    have hb : s.testBit t = true := by unfold gcl at ct; rw [Bool.and_eq_true] at ct; exact ct.1
    have xl := x_lt hb
    rw [gI_fl (by omega)]
    unfold gkF
    rw [if_pos (whB_iff.mpr (WH_del (whB_iff.mp hwh) ct))]
  have w0 : sI V 432 0 0 = fl V 432 1 (gkF V l p) := by
    have e : gkF V l p 0 = 0 := by unfold gkF; rw [if_pos wh_0]; rfl
    have := fl_s (M := V) (a := 432) (L := 0) (f := gkF V l p) e
    rwa [fl_0] at this
  have key : ∀ k, 1 ≤ k → k ≤ 2 ^ l.length → ∀ l4 : Option Value, ∃ l4', ∀ d (Q : am_Q), ok (d + 4) mX5_playGame 488 Q 488 0 0 69 [some (.ref 424), some (.ref 392), some (.int (nI S.2.2.2.1)), some (.int 1), l4] [] (fl V 432 1 (gkF V l p)) = ok (d + 4) mX5_playGame 488 Q 488 0 0 69 [some (.ref 424), some (.ref 392), some (.int (nI S.2.2.2.1)), some (.int (nI k)), l4'] [] (fl V 432 k (gkF V l p)) := by
    intro k
    induction k with
    | zero => intro h1; omega
    | succ k ih =>
      intro _ hk l4
      by_cases z : k = 0
      · subst z; exact ⟨l4, fun d Q => rfl⟩
      · obtain ⟨l4', ei⟩ := ih (by omega) (by omega) l4
        have ck : (nI k).toNatClampNeg = k := nI_clamp (by omega)
        have e0 : (nI (2 ^ l.length - 1) < nI k) = False := by rw [nI_ltE (by omega) (by omega)]; exact eq_false (by omega)
        have ev := fun d (Q : am_Q) => c_everything (d := d) (Q := Q) (l := l) (nF k) hl
        have gw : gI (fl V 432 k (gkF V l p)) 431 k = whI l k := by rw [gI_fn (by omega)]; exact gV' k (by omega)
        have i1 := iw_431 (k := k) (by omega)
        cases c : whB l k with
        | false =>
          have gw' : gI (fl V 432 k (gkF V l p)) 431 k = 0 := by rw [gw]; unfold whI; rw [c]; rfl
          have sw : fl V 432 (k + 1) (gkF V l p) = fl V 432 k (gkF V l p) := by
            rw [← fl_s (M := V) (a := 432) (L := k) (f := gkF V l p) rfl]
            refine sI_id ?_
            rw [gI_fl_ge (Nat.le_refl _)]
            unfold gkF
            rw [c]; rfl
          refine ⟨l4', fun d Q => ?_⟩
          rw [ei, sw, sX5_playGame_69]
          simp (disch := (first | assumption | omega | decide)) only [sX5_playGame_0, sX5_playGame_1, sX5_playGame_3, sX5_playGame_4, sX5_playGame_7, sX5_playGame_10, sX5_playGame_11, sX5_playGame_14, sX5_playGame_15, sX5_playGame_16, sX5_playGame_17, sX5_playGame_20, sX5_playGame_23, sX5_playGame_24, sX5_playGame_25, sX5_playGame_26, sX5_playGame_29, sX5_playGame_32, sX5_playGame_33, sX5_playGame_34, sX5_playGame_35, sX5_playGame_38, sX5_playGame_41, sX5_playGame_42, sX5_playGame_43, sX5_playGame_44, sX5_playGame_45, sX5_playGame_46, sX5_playGame_49, sX5_playGame_50, sX5_playGame_53, sX5_playGame_56, sX5_playGame_57, sX5_playGame_60, sX5_playGame_61, sX5_playGame_64, sX5_playGame_65, sX5_playGame_66, sX5_playGame_67, sX5_playGame_68, sX5_playGame_70, sX5_playGame_71, sX5_playGame_74, sX5_playGame_77, sX5_playGame_78, sX5_playGame_81, sX5_playGame_82, sX5_playGame_83, sX5_playGame_86, sX5_playGame_87, sX5_playGame_88, sX5_playGame_91, sX5_playGame_93, sX5_playGame_94, sX5_playGame_97, sX5_playGame_98, sX5_playGame_100, sX5_playGame_101, sX5_playGame_104, sX5_playGame_105, sX5_playGame_108, sX5_playGame_109, sX5_playGame_110, sX5_playGame_112, sX5_playGame_115, sX5_playGame_116, sX5_playGame_119, sX5_playGame_122, sX5_playGame_123, sX5_playGame_126, sX5_playGame_127, sX5_playGame_130, sX5_playGame_131, kI_i, kL_l, kV_v, am_rv_s, am_kl_i, am_kl_r, am_kl_n, am_kl_l, true_and, and_true, and_self, true_or, or_true, implies_true, forall_const, not_true_eq_false, not_false_eq_true, false_implies, true_implies, if_true, if_false, Bool.true_eq_false, Bool.false_eq_true, ob_424, gR_fl, r_424_4, ev, e0, i1, iwn_431, false_or, ck, gw', nI_1]
        | true =>
          have gw' : gI (fl V 432 k (gkF V l p)) 431 k = 1 := by rw [gw]; unfold whI; rw [c]; rfl
          obtain ⟨j, hj, j1, j2, j3, j4⟩ := gbm_ok hpB hl (show k < 2 ^ l.length by omega) z
          have bk := bm k k (Nat.le_refl _) (by omega) c
          rw [hj, oi_s] at bk
          have hb : k.testBit j = true := by unfold gcl at j2; rw [Bool.and_eq_true] at j2; exact j2.1
          have xl := x_lt hb
          have mv := fun d (Q : am_Q) => c_moveWorth (d := d) (Q := Q) (p := p) (w := gW l p) (s := k) (t := j) (N := fl V 432 k (gkF V l p)) wV (by rw [gI_fn (by omega)]; exact pV j j1) (by omega) (by omega) hb (by
            rw [gI_fl (by omega)]
            unfold gkF
            rw [if_pos (whB_iff.mpr (WH_del (whB_iff.mp c) j2))])
          rw [← j3] at mv
          have nm := nI_m1 (k := j) (by omega)
          have sw : sI (fl V 432 k (gkF V l p)) 432 k (gW l p k) = fl V 432 (k + 1) (gkF V l p) := fl_s (by unfold gkF; rw [if_pos c])
          have w2 := iw_432 (k := k) (by omega)
          refine ⟨some (.int (nI j)), fun d Q => ?_⟩
          rw [ei, sX5_playGame_69]
          simp (disch := (first | assumption | omega | decide)) only [sX5_playGame_0, sX5_playGame_1, sX5_playGame_3, sX5_playGame_4, sX5_playGame_7, sX5_playGame_10, sX5_playGame_11, sX5_playGame_14, sX5_playGame_15, sX5_playGame_16, sX5_playGame_17, sX5_playGame_20, sX5_playGame_23, sX5_playGame_24, sX5_playGame_25, sX5_playGame_26, sX5_playGame_29, sX5_playGame_32, sX5_playGame_33, sX5_playGame_34, sX5_playGame_35, sX5_playGame_38, sX5_playGame_41, sX5_playGame_42, sX5_playGame_43, sX5_playGame_44, sX5_playGame_45, sX5_playGame_46, sX5_playGame_49, sX5_playGame_50, sX5_playGame_53, sX5_playGame_56, sX5_playGame_57, sX5_playGame_60, sX5_playGame_61, sX5_playGame_64, sX5_playGame_65, sX5_playGame_66, sX5_playGame_67, sX5_playGame_68, sX5_playGame_70, sX5_playGame_71, sX5_playGame_74, sX5_playGame_77, sX5_playGame_78, sX5_playGame_81, sX5_playGame_82, sX5_playGame_83, sX5_playGame_86, sX5_playGame_87, sX5_playGame_88, sX5_playGame_91, sX5_playGame_93, sX5_playGame_94, sX5_playGame_97, sX5_playGame_98, sX5_playGame_100, sX5_playGame_101, sX5_playGame_104, sX5_playGame_105, sX5_playGame_108, sX5_playGame_109, sX5_playGame_110, sX5_playGame_112, sX5_playGame_115, sX5_playGame_116, sX5_playGame_119, sX5_playGame_122, sX5_playGame_123, sX5_playGame_126, sX5_playGame_127, sX5_playGame_130, sX5_playGame_131, kI_i, kL_l, kV_v, am_rv_s, am_kl_i, am_kl_r, am_kl_n, am_kl_l, true_and, and_true, and_self, true_or, or_true, implies_true, forall_const, not_true_eq_false, not_false_eq_true, false_implies, true_implies, if_true, if_false, Bool.true_eq_false, Bool.false_eq_true, ob_424, gR_fl, r_424_4, r_424_5, ev, e0, i1, iwn_431, false_or, ck, gw', i01, bk, nm, mv, w2, sw, nI_1]
  have gF : gI (fl V 432 (2 ^ l.length) (gkF V l p)) 432 (2 ^ l.length - 1) = gW l p (2 ^ l.length - 1) := by
    rw [gI_fl (by omega)]
    unfold gkF
    rw [if_pos wh_full]
  refine ⟨fl V 432 (2 ^ l.length) (gkF V l p), fun d Q => ?_, fun d Q => ?_, (f1.tr fV).tr (hf _)⟩
  · obtain ⟨l4', ek⟩ := key (2 ^ l.length) (by omega) (Nat.le_refl _) none
    have e1' := e1 d Q
    have ek' := ek d Q
    have fc : (nI (2 ^ l.length - 1)).toNatClampNeg = 2 ^ l.length - 1 := nI_clamp (by omega)
    have ev := fun d (Q : am_Q) => c_everything (d := d) (Q := Q) (l := l) (nF (2 ^ l.length)) hl
    have e0 : (nI (2 ^ l.length - 1) < nI (2 ^ l.length)) = True := by rw [nI_ltE (by omega) (by omega)]; exact eq_true (by omega)
    have w20 : am_iw 488 432 1 0 = True := iw_432 (k := 0) (by omega)
    have c0 : (0 : Int32).toNatClampNeg = 0 := rfl
    have i2 := fun (M : am_M) => in_432 (M := M) (k := 2 ^ l.length - 1) (by omega)
    rw [eX5_playGame]
    simp (disch := (first | assumption | omega | decide)) only [sX5_playGame_0, sX5_playGame_1, sX5_playGame_3, sX5_playGame_4, sX5_playGame_7, sX5_playGame_10, sX5_playGame_11, sX5_playGame_14, sX5_playGame_15, sX5_playGame_16, sX5_playGame_17, sX5_playGame_20, sX5_playGame_23, sX5_playGame_24, sX5_playGame_25, sX5_playGame_26, sX5_playGame_29, sX5_playGame_32, sX5_playGame_33, sX5_playGame_34, sX5_playGame_35, sX5_playGame_38, sX5_playGame_41, sX5_playGame_42, sX5_playGame_43, sX5_playGame_44, sX5_playGame_45, sX5_playGame_46, sX5_playGame_49, sX5_playGame_50, sX5_playGame_53, sX5_playGame_56, sX5_playGame_57, sX5_playGame_60, sX5_playGame_61, sX5_playGame_64, sX5_playGame_65, sX5_playGame_66, sX5_playGame_67, sX5_playGame_68, sX5_playGame_70, sX5_playGame_71, sX5_playGame_74, sX5_playGame_77, sX5_playGame_78, sX5_playGame_81, sX5_playGame_82, sX5_playGame_83, sX5_playGame_86, sX5_playGame_87, sX5_playGame_88, sX5_playGame_91, sX5_playGame_93, sX5_playGame_94, sX5_playGame_97, sX5_playGame_98, sX5_playGame_100, sX5_playGame_101, sX5_playGame_104, sX5_playGame_105, sX5_playGame_108, sX5_playGame_109, sX5_playGame_110, sX5_playGame_112, sX5_playGame_115, sX5_playGame_116, sX5_playGame_119, sX5_playGame_122, sX5_playGame_123, sX5_playGame_126, sX5_playGame_127, sX5_playGame_130, sX5_playGame_131, kI_i, kL_l, kV_v, am_rv_s, am_kl_i, am_kl_r, am_kl_n, am_kl_l, true_and, and_true, and_self, true_or, or_true, implies_true, forall_const, not_true_eq_false, not_false_eq_true, false_implies, true_implies, if_true, if_false, Bool.true_eq_false, Bool.false_eq_true, e1']
    rw [sX5_playGame_2]
    simp (disch := (first | assumption | omega | decide)) only [sX5_playGame_0, sX5_playGame_1, sX5_playGame_3, sX5_playGame_4, sX5_playGame_7, sX5_playGame_10, sX5_playGame_11, sX5_playGame_14, sX5_playGame_15, sX5_playGame_16, sX5_playGame_17, sX5_playGame_20, sX5_playGame_23, sX5_playGame_24, sX5_playGame_25, sX5_playGame_26, sX5_playGame_29, sX5_playGame_32, sX5_playGame_33, sX5_playGame_34, sX5_playGame_35, sX5_playGame_38, sX5_playGame_41, sX5_playGame_42, sX5_playGame_43, sX5_playGame_44, sX5_playGame_45, sX5_playGame_46, sX5_playGame_49, sX5_playGame_50, sX5_playGame_53, sX5_playGame_56, sX5_playGame_57, sX5_playGame_60, sX5_playGame_61, sX5_playGame_64, sX5_playGame_65, sX5_playGame_66, sX5_playGame_67, sX5_playGame_68, sX5_playGame_70, sX5_playGame_71, sX5_playGame_74, sX5_playGame_77, sX5_playGame_78, sX5_playGame_81, sX5_playGame_82, sX5_playGame_83, sX5_playGame_86, sX5_playGame_87, sX5_playGame_88, sX5_playGame_91, sX5_playGame_93, sX5_playGame_94, sX5_playGame_97, sX5_playGame_98, sX5_playGame_100, sX5_playGame_101, sX5_playGame_104, sX5_playGame_105, sX5_playGame_108, sX5_playGame_109, sX5_playGame_110, sX5_playGame_112, sX5_playGame_115, sX5_playGame_116, sX5_playGame_119, sX5_playGame_122, sX5_playGame_123, sX5_playGame_126, sX5_playGame_127, sX5_playGame_130, sX5_playGame_131, kI_i, kL_l, kV_v, am_rv_s, am_kl_i, am_kl_r, am_kl_n, am_kl_l, true_and, and_true, and_self, true_or, or_true, implies_true, forall_const, not_true_eq_false, not_false_eq_true, false_implies, true_implies, if_true, if_false, Bool.true_eq_false, Bool.false_eq_true, ob_424, n1, Int32.le_refl, mw, r_424_5, w20, c0, w0, ek']
    rw [sX5_playGame_69]
    simp (disch := (first | assumption | omega | decide)) only [sX5_playGame_0, sX5_playGame_1, sX5_playGame_3, sX5_playGame_4, sX5_playGame_7, sX5_playGame_10, sX5_playGame_11, sX5_playGame_14, sX5_playGame_15, sX5_playGame_16, sX5_playGame_17, sX5_playGame_20, sX5_playGame_23, sX5_playGame_24, sX5_playGame_25, sX5_playGame_26, sX5_playGame_29, sX5_playGame_32, sX5_playGame_33, sX5_playGame_34, sX5_playGame_35, sX5_playGame_38, sX5_playGame_41, sX5_playGame_42, sX5_playGame_43, sX5_playGame_44, sX5_playGame_45, sX5_playGame_46, sX5_playGame_49, sX5_playGame_50, sX5_playGame_53, sX5_playGame_56, sX5_playGame_57, sX5_playGame_60, sX5_playGame_61, sX5_playGame_64, sX5_playGame_65, sX5_playGame_66, sX5_playGame_67, sX5_playGame_68, sX5_playGame_70, sX5_playGame_71, sX5_playGame_74, sX5_playGame_77, sX5_playGame_78, sX5_playGame_81, sX5_playGame_82, sX5_playGame_83, sX5_playGame_86, sX5_playGame_87, sX5_playGame_88, sX5_playGame_91, sX5_playGame_93, sX5_playGame_94, sX5_playGame_97, sX5_playGame_98, sX5_playGame_100, sX5_playGame_101, sX5_playGame_104, sX5_playGame_105, sX5_playGame_108, sX5_playGame_109, sX5_playGame_110, sX5_playGame_112, sX5_playGame_115, sX5_playGame_116, sX5_playGame_119, sX5_playGame_122, sX5_playGame_123, sX5_playGame_126, sX5_playGame_127, sX5_playGame_130, sX5_playGame_131, kI_i, kL_l, kV_v, am_rv_s, am_kl_i, am_kl_r, am_kl_n, am_kl_l, true_and, and_true, and_self, true_or, or_true, implies_true, forall_const, not_true_eq_false, not_false_eq_true, false_implies, true_implies, if_true, if_false, Bool.true_eq_false, Bool.false_eq_true, ob_424, gR_fl, ev, e0, r_424_5, i2, fc, gF]
  · have ev := fun d (Q : am_Q) => c_everything (d := d) (Q := Q) (l := l) (nF (2 ^ l.length)) hl
    have bk := bm (2 ^ l.length - 1) (2 ^ l.length) (by omega) (by omega) wh_full
    rw [eX5_firstMove]
    simp (disch := (first | assumption | omega | decide)) only [sX5_firstMove_0, sX5_firstMove_1, sX5_firstMove_2, sX5_firstMove_5, sX5_firstMove_8, kI_i, kL_l, kV_v, am_rv_s, am_kl_i, am_kl_r, am_kl_n, am_kl_l, true_and, and_true, and_self, true_or, or_true, implies_true, forall_const, not_true_eq_false, not_false_eq_true, false_implies, true_implies, if_true, if_false, Bool.true_eq_false, Bool.false_eq_true, ob_424, ev, bk]
noncomputable def gameA (ap : Nat) (LL : List (List Nat)) (h : Int32) (S : Sg) (w : Int32) : Int32 := if opn ap = true ∧ (w = 0 ∨ w = 1) then (if w = 0 then gW S.1 (gcs LL h S) (2 ^ S.1.length - 1) else oi (gbm S.1 (gcs LL h S) (2 ^ S.1.length - 1))) else -1000000
def XGa (c j : Nat) : Prop := XL c j ∨ XGm c j
theorem c_game {w : Int32} (hW : WR M) (hs : StC M 3 ap lim S) (hl : S.1.length ≤ 12) (hw : WFl S.1) (hb : LbC M LL h) : ∃ M', (∀ d (Q : am_Q), am_big (d + 6) mX10_game [.ref 0, .int w] 488 M Q = Q (some (.int (gameA ap LL h S w))) M') ∧ Fw XGa M M' := by
  have io := fun d (Q : am_Q) => c_isOpen (d := d) (Q := Q) hW hs
  have hL := StC_LH hs
  have ht := hs.2.2.2.2.2.2.2.2
  have g5 := hs.2.2.2.2.1
  unfold gameA
  cases c1 : opn ap with
  | false =>
    refine ⟨M, fun d Q => ?_, Fw.rf⟩
    rw [if_neg (fun z => by cases z.1), eX10_game]
    simp (disch := (first | assumption | omega | decide)) only [sX10_game_0, sX10_game_1, sX10_game_4, sX10_game_7, sX10_game_8, sX10_game_11, sX10_game_12, sX10_game_13, sX10_game_16, sX10_game_19, sX10_game_20, sX10_game_21, sX10_game_24, sX10_game_25, sX10_game_28, sX10_game_31, sX10_game_34, sX10_game_35, sX10_game_38, sX10_game_39, sX10_game_42, sX10_game_43, sX10_game_46, sX10_game_49, sX10_game_52, sX10_game_53, sX10_game_54, sX10_game_57, sX10_game_58, sX10_game_61, sX10_game_62, sX10_game_65, sX10_game_68, kI_i, kL_l, kV_v, am_rv_s, am_kl_i, am_kl_r, am_kl_n, am_kl_l, true_and, and_true, and_self, true_or, or_true, implies_true, forall_const, not_true_eq_false, not_false_eq_true, false_implies, true_implies, if_true, if_false, Bool.true_eq_false, Bool.false_eq_true, ob_0, io, c1, bz_f]
  | true =>
    by_cases c3 : w < 0
    · refine ⟨M, fun d Q => ?_, Fw.rf⟩
      have n : ¬ (w = 0 ∨ w = 1) := fun z => by rcases z with rfl | rfl <;> exact absurd c3 (by decide)
      rw [if_neg (fun z => n z.2), eX10_game]
      simp (disch := (first | assumption | omega | decide)) only [sX10_game_0, sX10_game_1, sX10_game_4, sX10_game_7, sX10_game_8, sX10_game_11, sX10_game_12, sX10_game_13, sX10_game_16, sX10_game_19, sX10_game_20, sX10_game_21, sX10_game_24, sX10_game_25, sX10_game_28, sX10_game_31, sX10_game_34, sX10_game_35, sX10_game_38, sX10_game_39, sX10_game_42, sX10_game_43, sX10_game_46, sX10_game_49, sX10_game_52, sX10_game_53, sX10_game_54, sX10_game_57, sX10_game_58, sX10_game_61, sX10_game_62, sX10_game_65, sX10_game_68, kI_i, kL_l, kV_v, am_rv_s, am_kl_i, am_kl_r, am_kl_n, am_kl_l, true_and, and_true, and_self, true_or, or_true, implies_true, forall_const, not_true_eq_false, not_false_eq_true, false_implies, true_implies, if_true, if_false, Bool.true_eq_false, Bool.false_eq_true, ob_0, io, c1, bz_t, i01, c3]
    · by_cases c4 : w ≤ 1
      · have hw01 := w01 c3 c4
        have lk := fun d (Q : am_Q) => c_look (d := d) (Q := Q) hW hL hl
        have fl := Fw_lk (M := M) (l := S.1)
        have hWl := fl.2 hW
        have hL1 : LH (lkM M S.1) 4 S.1 := LH_of (fun c j _ _ => fl.I (by unfold XL; omega)) (fun c j _ _ => fl.R (by unfold XL; omega)) hL
        have hb1 : LbC (lkM M S.1) LL h := LbC_Fw fl (fun c j hc => by unfold XL; omega) hb
        obtain ⟨M', e1, e2, f1⟩ := c_playGame hWl lk_r hL1 lk_n (fun k hk => lk_a hk) (fun k hk => lk_b hk) hl ht hw hb1
        have hW' := f1.2 hWl
        have g5' : gI (lkM M S.1) 3 5 = nI S.2.2.2.1 := (fl.I (by unfold XL; omega)).trans g5
        refine ⟨M', fun d Q => ?_, (fl.mo (fun c j z => Or.inl z)).tr (f1.mo (fun c j z => Or.inr z))⟩
        rw [if_pos ⟨rfl, hw01⟩, eX10_game]
        rcases hw01 with rfl | rfl
        · rw [if_pos rfl]
          simp (disch := (first | assumption | omega | decide)) only [sX10_game_0, sX10_game_1, sX10_game_4, sX10_game_7, sX10_game_8, sX10_game_11, sX10_game_12, sX10_game_13, sX10_game_16, sX10_game_19, sX10_game_20, sX10_game_21, sX10_game_24, sX10_game_25, sX10_game_28, sX10_game_31, sX10_game_34, sX10_game_35, sX10_game_38, sX10_game_39, sX10_game_42, sX10_game_43, sX10_game_46, sX10_game_49, sX10_game_52, sX10_game_53, sX10_game_54, sX10_game_57, sX10_game_58, sX10_game_61, sX10_game_62, sX10_game_65, sX10_game_68, kI_i, kL_l, kV_v, am_rv_s, am_kl_i, am_kl_r, am_kl_n, am_kl_l, true_and, and_true, and_self, true_or, or_true, implies_true, forall_const, not_true_eq_false, not_false_eq_true, false_implies, true_implies, if_true, if_false, Bool.true_eq_false, Bool.false_eq_true, ob_0, ob_3, ob_4, ob_424, ob_392, io, c1, bz_t, i01, c3, c4, r_0_13, r_0_1, r_3_0, r_0_6, lk, g5', e1]
        · rw [if_neg (by decide)]
          simp (disch := (first | assumption | omega | decide)) only [sX10_game_0, sX10_game_1, sX10_game_4, sX10_game_7, sX10_game_8, sX10_game_11, sX10_game_12, sX10_game_13, sX10_game_16, sX10_game_19, sX10_game_20, sX10_game_21, sX10_game_24, sX10_game_25, sX10_game_28, sX10_game_31, sX10_game_34, sX10_game_35, sX10_game_38, sX10_game_39, sX10_game_42, sX10_game_43, sX10_game_46, sX10_game_49, sX10_game_52, sX10_game_53, sX10_game_54, sX10_game_57, sX10_game_58, sX10_game_61, sX10_game_62, sX10_game_65, sX10_game_68, kI_i, kL_l, kV_v, am_rv_s, am_kl_i, am_kl_r, am_kl_n, am_kl_l, true_and, and_true, and_self, true_or, or_true, implies_true, forall_const, not_true_eq_false, not_false_eq_true, false_implies, true_implies, if_true, if_false, Bool.true_eq_false, Bool.false_eq_true, ob_0, ob_3, ob_4, ob_424, ob_392, io, c1, bz_t, i01, c3, c4, r_0_13, r_0_1, r_3_0, r_0_6, lk, g5', e1, e2]
      · refine ⟨M, fun d Q => ?_, Fw.rf⟩
        have n : ¬ (w = 0 ∨ w = 1) := fun z => by rcases z with rfl | rfl <;> exact absurd (by decide) c4
        rw [if_neg (fun z => n z.2), eX10_game]
        simp (disch := (first | assumption | omega | decide)) only [sX10_game_0, sX10_game_1, sX10_game_4, sX10_game_7, sX10_game_8, sX10_game_11, sX10_game_12, sX10_game_13, sX10_game_16, sX10_game_19, sX10_game_20, sX10_game_21, sX10_game_24, sX10_game_25, sX10_game_28, sX10_game_31, sX10_game_34, sX10_game_35, sX10_game_38, sX10_game_39, sX10_game_42, sX10_game_43, sX10_game_46, sX10_game_49, sX10_game_52, sX10_game_53, sX10_game_54, sX10_game_57, sX10_game_58, sX10_game_61, sX10_game_62, sX10_game_65, sX10_game_68, kI_i, kL_l, kV_v, am_rv_s, am_kl_i, am_kl_r, am_kl_n, am_kl_l, true_and, and_true, and_self, true_or, or_true, implies_true, forall_const, not_true_eq_false, not_false_eq_true, false_implies, true_implies, if_true, if_false, Bool.true_eq_false, Bool.false_eq_true, ob_0, io, c1, bz_t, i01, c3, c4]
end
