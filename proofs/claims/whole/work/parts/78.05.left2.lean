section
variable {M N : am_M} {ap lim n : Nat} {S : Sg} {P : List Sg} {l : List Dd} {d : Nat} {Q : am_Q} {K : Int32}
theorem nI_z0 {k : Nat} (h : k < 2 ^ 31) : (nI k = 0) = (k = 0) := by rw [show (0 : Int32) = nI 0 from rfl]; exact nI_eqE h (by omega)
theorem c_canLeave {s k : Nat} (hW : WR N) (hA : gI N 430 k = nI (ab l l.length k)) (hk : k < 12) (hs : s < 4096) : am_big (d + 1) mX5_canLeave [.ref 424, .int (nI k), .int (nI s)] 488 N Q = Q (some (.int (bz (s.testBit k && decide (ab l l.length k &&& s = 0))))) N := by
  have bt := nI_bit (b := s) (e := k) (by omega) (by omega)
  have kc : (nI k).toNatClampNeg = k := nI_clamp (by omega)
  have le : ab l l.length k &&& s < 2 ^ 31 := Nat.lt_of_le_of_lt Nat.and_le_right (by omega)
  have z0 := nI_z0 le
  rw [eX5_canLeave]
  cases c : s.testBit k with
  | false =>
    rw [c] at bt
    simp (disch := (first | assumption | omega | decide)) only [sX5_canLeave_0, sX5_canLeave_1, sX5_canLeave_2, sX5_canLeave_3, sX5_canLeave_4, sX5_canLeave_5, sX5_canLeave_8, sX5_canLeave_9, sX5_canLeave_12, sX5_canLeave_13, sX5_canLeave_14, sX5_canLeave_15, sX5_canLeave_16, sX5_canLeave_19, sX5_canLeave_20, sX5_canLeave_23, sX5_canLeave_24, kI_i, kL_l, kV_v, am_rv_s, am_kl_i, am_kl_r, am_kl_n, am_kl_l, true_and, and_true, and_self, true_or, or_true, implies_true, forall_const, not_true_eq_false, not_false_eq_true, false_implies, true_implies, if_true, if_false, Bool.true_eq_false, Bool.false_eq_true, bt, bz_f, Bool.false_and]
  | true =>
    rw [c] at bt
    by_cases z : ab l l.length k &&& s = 0
    · have z' := eq_true z
      simp (disch := (first | assumption | omega | decide)) only [sX5_canLeave_0, sX5_canLeave_1, sX5_canLeave_2, sX5_canLeave_3, sX5_canLeave_4, sX5_canLeave_5, sX5_canLeave_8, sX5_canLeave_9, sX5_canLeave_12, sX5_canLeave_13, sX5_canLeave_14, sX5_canLeave_15, sX5_canLeave_16, sX5_canLeave_19, sX5_canLeave_20, sX5_canLeave_23, sX5_canLeave_24, kI_i, kL_l, kV_v, am_rv_s, am_kl_i, am_kl_r, am_kl_n, am_kl_l, true_and, and_true, and_self, true_or, or_true, implies_true, forall_const, not_true_eq_false, not_false_eq_true, false_implies, true_implies, if_true, if_false, Bool.true_eq_false, Bool.false_eq_true, ob_424, r_424_3, in_430 hk, kc, hA, bt, bz_t, i01, nI_and, z0, z', decide_true, Bool.and_self]
    · simp (disch := (first | assumption | omega | decide)) only [sX5_canLeave_0, sX5_canLeave_1, sX5_canLeave_2, sX5_canLeave_3, sX5_canLeave_4, sX5_canLeave_5, sX5_canLeave_8, sX5_canLeave_9, sX5_canLeave_12, sX5_canLeave_13, sX5_canLeave_14, sX5_canLeave_15, sX5_canLeave_16, sX5_canLeave_19, sX5_canLeave_20, sX5_canLeave_23, sX5_canLeave_24, kI_i, kL_l, kV_v, am_rv_s, am_kl_i, am_kl_r, am_kl_n, am_kl_l, true_and, and_true, and_self, true_or, or_true, implies_true, forall_const, not_true_eq_false, not_false_eq_true, false_implies, true_implies, if_true, if_false, Bool.true_eq_false, Bool.false_eq_true, ob_424, r_424_3, in_430 hk, kc, hA, bt, bz_t, bz_f, i01, nI_and, z0, z, decide_false, Bool.and_false]
theorem stp_n {s k : Nat} (h : ¬ (s.testBit k = true ∧ CL l K s k)) : stp l K s k = s := by unfold stp; rw [if_neg h]
theorem stp_y {s k : Nat} (h : s.testBit k = true ∧ CL l K s k) : stp l K s k = s ^^^ 2 ^ k := by unfold stp; rw [if_pos h]
theorem c_leftBy (hW : WR N) (h0 : gR N 424 0 = some 4) (hL : LH N 4 l) (hn : gI N 424 1 = nI l.length) (hA : ∀ k, k < l.length → gI N 430 k = nI (ab l l.length k)) (hl : l.length ≤ 12) : am_big (d + 2) mX5_leftBy [.ref 424, .int K] 488 N Q = Q (some (.int (nI (lfN l K)))) N := by
  have key : ∀ k s (x : Int32), k ≤ l.length → s < 4096 → x = nI k - 1 → ok (d + 1) mX5_leftBy 488 Q 488 0 0 12 [some (.ref 424), some (.int K), some (.int (nI s)), some (.int x)] [] N = Q (some (.int (nI (dn l K s k)))) N := by
    intro k
    induction k with
    | zero =>
      intro s x _ _ hx
      have e2 : (nI 0 - 1 < 0) = True := eq_true (by decide)
      subst hx
      rw [sX5_leftBy_12]
      simp (disch := (first | assumption | omega | decide)) only [sX5_leftBy_0, sX5_leftBy_1, sX5_leftBy_4, sX5_leftBy_5, sX5_leftBy_6, sX5_leftBy_9, sX5_leftBy_10, sX5_leftBy_11, sX5_leftBy_13, sX5_leftBy_16, sX5_leftBy_17, sX5_leftBy_18, sX5_leftBy_21, sX5_leftBy_24, sX5_leftBy_25, sX5_leftBy_26, sX5_leftBy_27, sX5_leftBy_28, sX5_leftBy_29, sX5_leftBy_32, sX5_leftBy_33, sX5_leftBy_34, sX5_leftBy_35, sX5_leftBy_38, sX5_leftBy_41, sX5_leftBy_42, sX5_leftBy_43, sX5_leftBy_44, sX5_leftBy_45, sX5_leftBy_46, sX5_leftBy_47, sX5_leftBy_48, sX5_leftBy_49, sX5_leftBy_52, sX5_leftBy_55, sX5_leftBy_56, kI_i, kL_l, kV_v, am_rv_s, am_kl_i, am_kl_r, am_kl_n, am_kl_l, true_and, and_true, and_self, true_or, or_true, implies_true, forall_const, not_true_eq_false, not_false_eq_true, false_implies, true_implies, if_true, if_false, Bool.true_eq_false, Bool.false_eq_true, e2]
      rfl
    | succ k ih =>
      intro s x hk hs hx
      rw [nI_pred] at hx
      subst hx
      have kc : (nI k).toNatClampNeg = k := nI_clamp (by omega)
      have e0 := nI_lt0 (k := k) (by omega)
      have g5 : gI N 5 k = sf l k := (LH_s hL k (by omega)).1
      have cv := fun d (Q : am_Q) => c_canLeave (d := d) (Q := Q) (l := l) (s := s) (k := k) hW (hA k (by omega)) (by omega) hs
      have b01 := bits01 K (sf l k)
      show _ = Q (some (.int (nI (dn l K (stp l K s k) k)))) N
      have ih := fun s' (h : s' < 4096) => ih s' (nI k + -1) (by omega) h (by rw [Int32.sub_eq_add_neg])
      rw [sX5_leftBy_12]
      by_cases c1 : (K >>> (sf l k &&& 31)) &&& 1 = 1
      · have c1' := eq_true c1
        have kw : knw K (sf l k) = true := decide_eq_true c1
        cases c2 : s.testBit k && decide (ab l l.length k &&& s = 0) with
        | false =>
          have st : stp l K s k = s := stp_n (fun z => by rw [z.1, decide_eq_true z.2.2] at c2; cases c2)
          rw [st]
          simp (disch := (first | assumption | omega | decide)) only [sX5_leftBy_0, sX5_leftBy_1, sX5_leftBy_4, sX5_leftBy_5, sX5_leftBy_6, sX5_leftBy_9, sX5_leftBy_10, sX5_leftBy_11, sX5_leftBy_13, sX5_leftBy_16, sX5_leftBy_17, sX5_leftBy_18, sX5_leftBy_21, sX5_leftBy_24, sX5_leftBy_25, sX5_leftBy_26, sX5_leftBy_27, sX5_leftBy_28, sX5_leftBy_29, sX5_leftBy_32, sX5_leftBy_33, sX5_leftBy_34, sX5_leftBy_35, sX5_leftBy_38, sX5_leftBy_41, sX5_leftBy_42, sX5_leftBy_43, sX5_leftBy_44, sX5_leftBy_45, sX5_leftBy_46, sX5_leftBy_47, sX5_leftBy_48, sX5_leftBy_49, sX5_leftBy_52, sX5_leftBy_55, sX5_leftBy_56, kI_i, kL_l, kV_v, am_rv_s, am_kl_i, am_kl_r, am_kl_n, am_kl_l, true_and, and_true, and_self, true_or, or_true, implies_true, forall_const, not_true_eq_false, not_false_eq_true, false_implies, true_implies, if_true, if_false, Bool.true_eq_false, Bool.false_eq_true, ob_424, ob_4, h0, r_4_0, in_5 (show k < 16 by omega), kc, g5, e0, b01, c1', cv, c2, bz_f, ih s hs]
        | true =>
          rw [Bool.and_eq_true] at c2
          have c3 : s.testBit k = true ∧ CL l K s k := ⟨c2.1, kw, of_decide_eq_true c2.2⟩
          have st := stp_y c3
          have hs' : stp l K s k < 4096 := Nat.lt_of_le_of_lt stp_le hs
          rw [st] at hs'
          rw [st]
          simp (disch := (first | assumption | omega | decide)) only [sX5_leftBy_0, sX5_leftBy_1, sX5_leftBy_4, sX5_leftBy_5, sX5_leftBy_6, sX5_leftBy_9, sX5_leftBy_10, sX5_leftBy_11, sX5_leftBy_13, sX5_leftBy_16, sX5_leftBy_17, sX5_leftBy_18, sX5_leftBy_21, sX5_leftBy_24, sX5_leftBy_25, sX5_leftBy_26, sX5_leftBy_27, sX5_leftBy_28, sX5_leftBy_29, sX5_leftBy_32, sX5_leftBy_33, sX5_leftBy_34, sX5_leftBy_35, sX5_leftBy_38, sX5_leftBy_41, sX5_leftBy_42, sX5_leftBy_43, sX5_leftBy_44, sX5_leftBy_45, sX5_leftBy_46, sX5_leftBy_47, sX5_leftBy_48, sX5_leftBy_49, sX5_leftBy_52, sX5_leftBy_55, sX5_leftBy_56, kI_i, kL_l, kV_v, am_rv_s, am_kl_i, am_kl_r, am_kl_n, am_kl_l, true_and, and_true, and_self, true_or, or_true, implies_true, forall_const, not_true_eq_false, not_false_eq_true, false_implies, true_implies, if_true, if_false, Bool.true_eq_false, Bool.false_eq_true, ob_424, ob_4, h0, r_4_0, in_5 (show k < 16 by omega), kc, g5, e0, b01, c1', cv, c2.1, c2.2, Bool.and_self, bz_t, i01, shl1 k (by omega), nI_drop c2.1, ih _ hs']
      · have c1' := eq_false c1
        have st : stp l K s k = s := stp_n (fun z => c1 (of_decide_eq_true z.2.1))
        rw [st]
        simp (disch := (first | assumption | omega | decide)) only [sX5_leftBy_0, sX5_leftBy_1, sX5_leftBy_4, sX5_leftBy_5, sX5_leftBy_6, sX5_leftBy_9, sX5_leftBy_10, sX5_leftBy_11, sX5_leftBy_13, sX5_leftBy_16, sX5_leftBy_17, sX5_leftBy_18, sX5_leftBy_21, sX5_leftBy_24, sX5_leftBy_25, sX5_leftBy_26, sX5_leftBy_27, sX5_leftBy_28, sX5_leftBy_29, sX5_leftBy_32, sX5_leftBy_33, sX5_leftBy_34, sX5_leftBy_35, sX5_leftBy_38, sX5_leftBy_41, sX5_leftBy_42, sX5_leftBy_43, sX5_leftBy_44, sX5_leftBy_45, sX5_leftBy_46, sX5_leftBy_47, sX5_leftBy_48, sX5_leftBy_49, sX5_leftBy_52, sX5_leftBy_55, sX5_leftBy_56, kI_i, kL_l, kV_v, am_rv_s, am_kl_i, am_kl_r, am_kl_n, am_kl_l, true_and, and_true, and_self, true_or, or_true, implies_true, forall_const, not_true_eq_false, not_false_eq_true, false_implies, true_implies, if_true, if_false, Bool.true_eq_false, Bool.false_eq_true, ob_424, ob_4, h0, r_4_0, in_5 (show k < 16 by omega), kc, g5, e0, b01, c1', ih s hs]
  have pl : (2 : Nat) ^ l.length ≤ 4096 := Nat.le_trans (Nat.pow_le_pow_right (by omega) hl) (by omega)
  have pp : 0 < (2 : Nat) ^ l.length := Nat.pow_pos (by omega)
  have ev : ∀ d (Q : am_Q), am_big (d + 1) mX5_everything [.ref 424] 488 N Q = Q (some (.int (nI (2 ^ l.length - 1)))) N := fun d Q => by
    rw [eX5_everything]
    simp (disch := (first | assumption | omega | decide)) only [sX5_everything_0, sX5_everything_1, sX5_everything_2, sX5_everything_5, sX5_everything_6, sX5_everything_7, sX5_everything_8, kI_i, kL_l, kV_v, am_rv_s, am_kl_i, am_kl_r, am_kl_n, am_kl_l, true_and, and_true, and_self, true_or, or_true, implies_true, forall_const, not_true_eq_false, not_false_eq_true, false_implies, true_implies, if_true, if_false, Bool.true_eq_false, Bool.false_eq_true, ob_424, hn, shl1 l.length (by omega), nI_sub1 pp]
  have k0 := key l.length (2 ^ l.length - 1) (nI l.length - 1) (Nat.le_refl _) (by omega) rfl
  rw [eX5_leftBy]
  simp (disch := (first | assumption | omega | decide)) only [sX5_leftBy_0, sX5_leftBy_1, sX5_leftBy_4, sX5_leftBy_5, sX5_leftBy_6, sX5_leftBy_9, sX5_leftBy_10, sX5_leftBy_11, sX5_leftBy_13, sX5_leftBy_16, sX5_leftBy_17, sX5_leftBy_18, sX5_leftBy_21, sX5_leftBy_24, sX5_leftBy_25, sX5_leftBy_26, sX5_leftBy_27, sX5_leftBy_28, sX5_leftBy_29, sX5_leftBy_32, sX5_leftBy_33, sX5_leftBy_34, sX5_leftBy_35, sX5_leftBy_38, sX5_leftBy_41, sX5_leftBy_42, sX5_leftBy_43, sX5_leftBy_44, sX5_leftBy_45, sX5_leftBy_46, sX5_leftBy_47, sX5_leftBy_48, sX5_leftBy_49, sX5_leftBy_52, sX5_leftBy_55, sX5_leftBy_56, kI_i, kL_l, kV_v, am_rv_s, am_kl_i, am_kl_r, am_kl_n, am_kl_l, true_and, and_true, and_self, true_or, or_true, implies_true, forall_const, not_true_eq_false, not_false_eq_true, false_implies, true_implies, if_true, if_false, Bool.true_eq_false, Bool.false_eq_true, ob_424, ev, hn, k0]
  rfl
theorem m_knownBy {x : Int32} {f : Nat → Int32} (hW : WR N) (hf : gI N 457 23 = nI ap) (hk : ∀ i, i < ap → gI N 465 (37 + i) = f i) (hap : ap ≤ 4) : am_big (d + 2) mX11_knownBy [.ref 457, .int x] 488 N Q = Q (some (.int (kt f x ap))) N := by
  have l0 := loop0 (P := fun k => ok (d + 1) mX11_knownBy 488 Q 488 0 0 4 [some (.ref 457), some (.int x), some (.int (kt f x k)), some (.int (nI k))] [] N) (n := ap) (fun k hk' => by
    have e0 : (nI ap ≤ nI k) = False := by rw [nI_leE (by omega) (by omega)]; exact eq_false (by omega)
    show ok (d + 1) mX11_knownBy 488 Q 488 0 0 4 _ [] N = ok (d + 1) mX11_knownBy 488 Q 488 0 0 4 [some (.ref 457), some (.int x), some (.int (kt f x k ||| (if (x >>> (nI k &&& 31)) &&& 1 = 0 then 0 else f k))), some (.int (nI (k + 1)))] [] N
    have b01 := bits01 x (nI k)
    rw [sX11_knownBy_4]
    by_cases c : (x >>> (nI k &&& 31)) &&& 1 = 1
    · have c' := eq_true c
      simp (disch := (first | assumption | omega | decide)) only [sX11_knownBy_0, sX11_knownBy_1, sX11_knownBy_2, sX11_knownBy_3, sX11_knownBy_5, sX11_knownBy_6, sX11_knownBy_9, sX11_knownBy_12, sX11_knownBy_13, sX11_knownBy_14, sX11_knownBy_15, sX11_knownBy_18, sX11_knownBy_21, sX11_knownBy_22, sX11_knownBy_25, sX11_knownBy_27, sX11_knownBy_28, sX11_knownBy_29, sX11_knownBy_30, sX11_knownBy_33, sX11_knownBy_34, sX11_knownBy_35, sX11_knownBy_36, sX11_knownBy_39, sX11_knownBy_42, sX11_knownBy_43, kI_i, kL_l, kV_v, am_rv_s, am_kl_i, am_kl_r, am_kl_n, am_kl_l, true_and, and_true, and_self, true_or, or_true, implies_true, forall_const, not_true_eq_false, not_false_eq_true, false_implies, true_implies, if_true, if_false, Bool.true_eq_false, Bool.false_eq_true, ob_457, hf, e0, m_has, b01, c', decide_true, bz_t, i01, r_457_27, n37, nI_add, in_465, nI_clamp, hk k hk', nI_1]
    · simp (disch := (first | assumption | omega | decide)) only [sX11_knownBy_0, sX11_knownBy_1, sX11_knownBy_2, sX11_knownBy_3, sX11_knownBy_5, sX11_knownBy_6, sX11_knownBy_9, sX11_knownBy_12, sX11_knownBy_13, sX11_knownBy_14, sX11_knownBy_15, sX11_knownBy_18, sX11_knownBy_21, sX11_knownBy_22, sX11_knownBy_25, sX11_knownBy_27, sX11_knownBy_28, sX11_knownBy_29, sX11_knownBy_30, sX11_knownBy_33, sX11_knownBy_34, sX11_knownBy_35, sX11_knownBy_36, sX11_knownBy_39, sX11_knownBy_42, sX11_knownBy_43, kI_i, kL_l, kV_v, am_rv_s, am_kl_i, am_kl_r, am_kl_n, am_kl_l, true_and, and_true, and_self, true_or, or_true, implies_true, forall_const, not_true_eq_false, not_false_eq_true, false_implies, true_implies, if_true, if_false, Bool.true_eq_false, Bool.false_eq_true, ob_457, hf, e0, m_has, b01, c, decide_false, bz_f, nI_1])
  have l1 : ok (d + 1) mX11_knownBy 488 Q 488 0 0 4 [some (.ref 457), some (.int x), some (.int 0), some (.int 0)] [] N = _ := l0
  rw [eX11_knownBy]
  simp (disch := (first | assumption | omega | decide)) only [sX11_knownBy_0, sX11_knownBy_1, sX11_knownBy_2, sX11_knownBy_3, sX11_knownBy_5, sX11_knownBy_6, sX11_knownBy_9, sX11_knownBy_12, sX11_knownBy_13, sX11_knownBy_14, sX11_knownBy_15, sX11_knownBy_18, sX11_knownBy_21, sX11_knownBy_22, sX11_knownBy_25, sX11_knownBy_27, sX11_knownBy_28, sX11_knownBy_29, sX11_knownBy_30, sX11_knownBy_33, sX11_knownBy_34, sX11_knownBy_35, sX11_knownBy_36, sX11_knownBy_39, sX11_knownBy_42, sX11_knownBy_43, kI_i, kL_l, kV_v, am_rv_s, am_kl_i, am_kl_r, am_kl_n, am_kl_l, true_and, and_true, and_self, true_or, or_true, implies_true, forall_const, not_true_eq_false, not_false_eq_true, false_implies, true_implies, if_true, if_false, Bool.true_eq_false, Bool.false_eq_true, l1]
  rw [sX11_knownBy_4]
  simp (disch := (first | assumption | omega | decide)) only [sX11_knownBy_0, sX11_knownBy_1, sX11_knownBy_2, sX11_knownBy_3, sX11_knownBy_5, sX11_knownBy_6, sX11_knownBy_9, sX11_knownBy_12, sX11_knownBy_13, sX11_knownBy_14, sX11_knownBy_15, sX11_knownBy_18, sX11_knownBy_21, sX11_knownBy_22, sX11_knownBy_25, sX11_knownBy_27, sX11_knownBy_28, sX11_knownBy_29, sX11_knownBy_30, sX11_knownBy_33, sX11_knownBy_34, sX11_knownBy_35, sX11_knownBy_36, sX11_knownBy_39, sX11_knownBy_42, sX11_knownBy_43, kI_i, kL_l, kV_v, am_rv_s, am_kl_i, am_kl_r, am_kl_n, am_kl_l, true_and, and_true, and_self, true_or, or_true, implies_true, forall_const, not_true_eq_false, not_false_eq_true, false_implies, true_implies, if_true, if_false, Bool.true_eq_false, Bool.false_eq_true, ob_457, hf, Int32.le_refl]
theorem m_leftBy (hW : WR M) (hp : PcM M 465 0 l) (hw : WFl l) : am_big (d + 3) mX11_leftBy [.ref 457, .int K] 488 M Q = Q (some (.int (nI (lfN l K)))) (nd3 M l) := by
  have hl : l.length ≤ 12 := hp.1
  have ln := fun d (Q : am_Q) => m_laysNeeds (d := d) (Q := Q) hW hp hw
  have wn : WR (nd3 M l) := Fw_nd.2 hW
  have g36 : gI (nd3 M l) 465 36 = nI l.length := by rw [nd_o (by omega)]; have := hp.2.1; rwa [Nat.zero_add] at this
  have gs : ∀ k, k < l.length → gI (nd3 M l) 465 (3 * k) = sf l k := fun k hk => by
    rw [nd_o (by omega), (sf_get hk).1]
    have := (hp.2.2 k _ (List.getElem?_eq_getElem hk)).1
    rwa [Nat.zero_add] at this
  have gd : ∀ k, k < l.length → gI (nd3 M l) 475 k = nI (ab l l.length k) := fun k hk => nd_d hk
  generalize nd3 M l = N at *
  have pl : (2 : Nat) ^ l.length ≤ 4096 := Nat.le_trans (Nat.pow_le_pow_right (by omega) hl) (by omega)
  have pp : 0 < (2 : Nat) ^ l.length := Nat.pow_pos (by omega)
  have inner : ∀ s, Sup l K s → ok (d + 2) mX11_leftBy 488 Q 488 0 0 27 [some (.ref 457), some (.int K), some (.int (nI s)), some (.int 0), some (.int (nI 0))] [] N = ok (d + 2) mX11_leftBy 488 Q 488 0 0 27 [some (.ref 457), some (.int K), some (.int (nI (psF l K s l.length))), some (.int (bz (decide (¬ psF l K s l.length = s)))), some (.int (nI l.length))] [] N := fun s hS => by
    have l0 := loop0 (P := fun k => ok (d + 2) mX11_leftBy 488 Q 488 0 0 27 [some (.ref 457), some (.int K), some (.int (nI (psF l K s k))), some (.int (bz (decide (¬ psF l K s k = s)))), some (.int (nI k))] [] N) (n := l.length) (fun k hk => by
      have e0 : (nI l.length ≤ nI k) = False := by rw [nI_leE (by omega) (by omega)]; exact eq_false (by omega)
      have hq := Sup_p hS k (by omega)
      have le := ps_le (l := l) (K := K) (s := s) k
      have hlt := Sup_lt hq
      show ok (d + 2) mX11_leftBy 488 Q 488 0 0 27 _ [] N = ok (d + 2) mX11_leftBy 488 Q 488 0 0 27 [some (.ref 457), some (.int K), some (.int (nI (stp l K (psF l K s k) k))), some (.int (bz (decide (¬ stp l K (psF l K s k) k = s)))), some (.int (nI (k + 1)))] [] N
      generalize psF l K s k = q at *
      have bt := nI_bit (b := q) (e := k) (by omega) (by omega)
      have kc : (nI k).toNatClampNeg = k := nI_clamp (by omega)
      have la : ab l l.length k &&& q < 2 ^ 31 := Nat.lt_of_le_of_lt Nat.and_le_right (by omega)
      have z0 := nI_z0 la
      rw [sX11_leftBy_27]
      cases c : q.testBit k with
      | false =>
        have st : stp l K q k = q := stp_n (fun z => by rw [c] at z; cases z.1)
        have z1 : ((0 : Int32) = 1) = False := eq_false (by decide)
        rw [c] at bt
        rw [st]
        simp (disch := (first | assumption | omega | decide)) only [sX11_leftBy_0, sX11_leftBy_1, sX11_leftBy_4, sX11_leftBy_5, sX11_leftBy_6, sX11_leftBy_9, sX11_leftBy_11, sX11_leftBy_12, sX11_leftBy_13, sX11_leftBy_14, sX11_leftBy_15, sX11_leftBy_16, sX11_leftBy_17, sX11_leftBy_19, sX11_leftBy_22, sX11_leftBy_23, sX11_leftBy_24, sX11_leftBy_25, sX11_leftBy_29, sX11_leftBy_30, sX11_leftBy_33, sX11_leftBy_35, sX11_leftBy_36, sX11_leftBy_39, sX11_leftBy_40, sX11_leftBy_42, sX11_leftBy_45, sX11_leftBy_48, sX11_leftBy_49, sX11_leftBy_50, sX11_leftBy_53, sX11_leftBy_54, sX11_leftBy_56, sX11_leftBy_57, sX11_leftBy_58, sX11_leftBy_61, sX11_leftBy_64, sX11_leftBy_65, sX11_leftBy_68, sX11_leftBy_70, sX11_leftBy_71, sX11_leftBy_72, sX11_leftBy_73, sX11_leftBy_76, sX11_leftBy_79, sX11_leftBy_80, sX11_leftBy_81, sX11_leftBy_83, sX11_leftBy_84, sX11_leftBy_85, sX11_leftBy_86, sX11_leftBy_87, sX11_leftBy_88, sX11_leftBy_89, sX11_leftBy_90, sX11_leftBy_93, sX11_leftBy_96, sX11_leftBy_99, sX11_leftBy_100, kI_i, kL_l, kV_v, am_rv_s, am_kl_i, am_kl_r, am_kl_n, am_kl_l, true_and, and_true, and_self, true_or, or_true, implies_true, forall_const, not_true_eq_false, not_false_eq_true, false_implies, true_implies, if_true, if_false, Bool.true_eq_false, Bool.false_eq_true, ob_457, r_457_27, n36, in_465, nI_clamp, g36, e0, m_has, bt, bz_f, z1, decide_false, nI_1]
      | true =>
        rw [c] at bt
        have z1 : ((1 : Int32) = 1) = True := eq_true rfl
        by_cases c1 : (K >>> (sf l k &&& 31)) &&& 1 = 1
        · have c1' := eq_true c1
          by_cases c2 : ab l l.length k &&& q = 0
          · have c2' := eq_true c2
            have c3 : q.testBit k = true ∧ CL l K q k := ⟨c, decide_eq_true c1, c2⟩
            have st := stp_y c3
            have ne : ¬ stp l K q k = s := fun z => by
              have a1 := stp_le (l := l) (K := K) (s := q) (k := k)
              have a2 : stp l K q k = q := by omega
              have a3 := (stp_k (l := l) (K := K) (s := q) (k := k)).mp (by rw [a2]; exact c)
              exact a3.2 c3.2
            rw [decide_eq_true ne, st]
            simp (disch := (first | assumption | omega | decide)) only [sX11_leftBy_0, sX11_leftBy_1, sX11_leftBy_4, sX11_leftBy_5, sX11_leftBy_6, sX11_leftBy_9, sX11_leftBy_11, sX11_leftBy_12, sX11_leftBy_13, sX11_leftBy_14, sX11_leftBy_15, sX11_leftBy_16, sX11_leftBy_17, sX11_leftBy_19, sX11_leftBy_22, sX11_leftBy_23, sX11_leftBy_24, sX11_leftBy_25, sX11_leftBy_29, sX11_leftBy_30, sX11_leftBy_33, sX11_leftBy_35, sX11_leftBy_36, sX11_leftBy_39, sX11_leftBy_40, sX11_leftBy_42, sX11_leftBy_45, sX11_leftBy_48, sX11_leftBy_49, sX11_leftBy_50, sX11_leftBy_53, sX11_leftBy_54, sX11_leftBy_56, sX11_leftBy_57, sX11_leftBy_58, sX11_leftBy_61, sX11_leftBy_64, sX11_leftBy_65, sX11_leftBy_68, sX11_leftBy_70, sX11_leftBy_71, sX11_leftBy_72, sX11_leftBy_73, sX11_leftBy_76, sX11_leftBy_79, sX11_leftBy_80, sX11_leftBy_81, sX11_leftBy_83, sX11_leftBy_84, sX11_leftBy_85, sX11_leftBy_86, sX11_leftBy_87, sX11_leftBy_88, sX11_leftBy_89, sX11_leftBy_90, sX11_leftBy_93, sX11_leftBy_96, sX11_leftBy_99, sX11_leftBy_100, kI_i, kL_l, kV_v, am_rv_s, am_kl_i, am_kl_r, am_kl_n, am_kl_l, true_and, and_true, and_self, true_or, or_true, implies_true, forall_const, not_true_eq_false, not_false_eq_true, false_implies, true_implies, if_true, if_false, Bool.true_eq_false, Bool.false_eq_true, ob_457, r_457_27, r_457_39, n36, in_465, nI_clamp, g36, e0, m_has, bt, bz_t, z1, decide_true, i01, nI_m3, gs k hk, c1', in_475 (show k < 12 by omega), gd k hk, nI_and, z0, c2', shl1 k (by omega), nI_drop c, nI_1]
          · have st : stp l K q k = q := stp_n (fun z => c2 z.2.2)
            rw [st]
            simp (disch := (first | assumption | omega | decide)) only [sX11_leftBy_0, sX11_leftBy_1, sX11_leftBy_4, sX11_leftBy_5, sX11_leftBy_6, sX11_leftBy_9, sX11_leftBy_11, sX11_leftBy_12, sX11_leftBy_13, sX11_leftBy_14, sX11_leftBy_15, sX11_leftBy_16, sX11_leftBy_17, sX11_leftBy_19, sX11_leftBy_22, sX11_leftBy_23, sX11_leftBy_24, sX11_leftBy_25, sX11_leftBy_29, sX11_leftBy_30, sX11_leftBy_33, sX11_leftBy_35, sX11_leftBy_36, sX11_leftBy_39, sX11_leftBy_40, sX11_leftBy_42, sX11_leftBy_45, sX11_leftBy_48, sX11_leftBy_49, sX11_leftBy_50, sX11_leftBy_53, sX11_leftBy_54, sX11_leftBy_56, sX11_leftBy_57, sX11_leftBy_58, sX11_leftBy_61, sX11_leftBy_64, sX11_leftBy_65, sX11_leftBy_68, sX11_leftBy_70, sX11_leftBy_71, sX11_leftBy_72, sX11_leftBy_73, sX11_leftBy_76, sX11_leftBy_79, sX11_leftBy_80, sX11_leftBy_81, sX11_leftBy_83, sX11_leftBy_84, sX11_leftBy_85, sX11_leftBy_86, sX11_leftBy_87, sX11_leftBy_88, sX11_leftBy_89, sX11_leftBy_90, sX11_leftBy_93, sX11_leftBy_96, sX11_leftBy_99, sX11_leftBy_100, kI_i, kL_l, kV_v, am_rv_s, am_kl_i, am_kl_r, am_kl_n, am_kl_l, true_and, and_true, and_self, true_or, or_true, implies_true, forall_const, not_true_eq_false, not_false_eq_true, false_implies, true_implies, if_true, if_false, Bool.true_eq_false, Bool.false_eq_true, ob_457, r_457_27, r_457_39, n36, in_465, nI_clamp, g36, e0, m_has, bt, bz_t, z1, decide_true, i01, nI_m3, gs k hk, c1', in_475 (show k < 12 by omega), gd k hk, nI_and, z0, c2, nI_1]
        · have c1' := eq_false c1
          have st : stp l K q k = q := stp_n (fun z => c1 (of_decide_eq_true z.2.1))
          rw [st]
          simp (disch := (first | assumption | omega | decide)) only [sX11_leftBy_0, sX11_leftBy_1, sX11_leftBy_4, sX11_leftBy_5, sX11_leftBy_6, sX11_leftBy_9, sX11_leftBy_11, sX11_leftBy_12, sX11_leftBy_13, sX11_leftBy_14, sX11_leftBy_15, sX11_leftBy_16, sX11_leftBy_17, sX11_leftBy_19, sX11_leftBy_22, sX11_leftBy_23, sX11_leftBy_24, sX11_leftBy_25, sX11_leftBy_29, sX11_leftBy_30, sX11_leftBy_33, sX11_leftBy_35, sX11_leftBy_36, sX11_leftBy_39, sX11_leftBy_40, sX11_leftBy_42, sX11_leftBy_45, sX11_leftBy_48, sX11_leftBy_49, sX11_leftBy_50, sX11_leftBy_53, sX11_leftBy_54, sX11_leftBy_56, sX11_leftBy_57, sX11_leftBy_58, sX11_leftBy_61, sX11_leftBy_64, sX11_leftBy_65, sX11_leftBy_68, sX11_leftBy_70, sX11_leftBy_71, sX11_leftBy_72, sX11_leftBy_73, sX11_leftBy_76, sX11_leftBy_79, sX11_leftBy_80, sX11_leftBy_81, sX11_leftBy_83, sX11_leftBy_84, sX11_leftBy_85, sX11_leftBy_86, sX11_leftBy_87, sX11_leftBy_88, sX11_leftBy_89, sX11_leftBy_90, sX11_leftBy_93, sX11_leftBy_96, sX11_leftBy_99, sX11_leftBy_100, kI_i, kL_l, kV_v, am_rv_s, am_kl_i, am_kl_r, am_kl_n, am_kl_l, true_and, and_true, and_self, true_or, or_true, implies_true, forall_const, not_true_eq_false, not_false_eq_true, false_implies, true_implies, if_true, if_false, Bool.true_eq_false, Bool.false_eq_true, ob_457, r_457_27, n36, in_465, nI_clamp, g36, e0, m_has, bt, bz_t, bz_f, z1, decide_true, i01, nI_m3, gs k hk, c1', decide_false, nI_1])
    have e : bz (decide (¬ psF l K s 0 = s)) = 0 := by
      have : psF l K s 0 = s := rfl
      rw [this]; simp [bz]
    have l1 := l0
    simp only [e] at l1
    exact l1
  have outer : ∀ s, Sup l K s → ∀ x4, ok (d + 2) mX11_leftBy 488 Q 488 0 0 18 [some (.ref 457), some (.int K), some (.int (nI s)), some (.int 1), x4] [] N = Q (some (.int (nI (lfN l K)))) N := by
    intro s
    induction s using Nat.strongRecOn with
    | ind s ih =>
      intro hS x4
      have i1 : ok (d + 2) mX11_leftBy 488 Q 488 0 0 27 [some (.ref 457), some (.int K), some (.int (nI s)), some (.int 0), some (.int 0)] [] N = _ := inner s hS
      rw [sX11_leftBy_18]
      simp (disch := (first | assumption | omega | decide)) only [sX11_leftBy_0, sX11_leftBy_1, sX11_leftBy_4, sX11_leftBy_5, sX11_leftBy_6, sX11_leftBy_9, sX11_leftBy_11, sX11_leftBy_12, sX11_leftBy_13, sX11_leftBy_14, sX11_leftBy_15, sX11_leftBy_16, sX11_leftBy_17, sX11_leftBy_19, sX11_leftBy_22, sX11_leftBy_23, sX11_leftBy_24, sX11_leftBy_25, sX11_leftBy_29, sX11_leftBy_30, sX11_leftBy_33, sX11_leftBy_35, sX11_leftBy_36, sX11_leftBy_39, sX11_leftBy_40, sX11_leftBy_42, sX11_leftBy_45, sX11_leftBy_48, sX11_leftBy_49, sX11_leftBy_50, sX11_leftBy_53, sX11_leftBy_54, sX11_leftBy_56, sX11_leftBy_57, sX11_leftBy_58, sX11_leftBy_61, sX11_leftBy_64, sX11_leftBy_65, sX11_leftBy_68, sX11_leftBy_70, sX11_leftBy_71, sX11_leftBy_72, sX11_leftBy_73, sX11_leftBy_76, sX11_leftBy_79, sX11_leftBy_80, sX11_leftBy_81, sX11_leftBy_83, sX11_leftBy_84, sX11_leftBy_85, sX11_leftBy_86, sX11_leftBy_87, sX11_leftBy_88, sX11_leftBy_89, sX11_leftBy_90, sX11_leftBy_93, sX11_leftBy_96, sX11_leftBy_99, sX11_leftBy_100, kI_i, kL_l, kV_v, am_rv_s, am_kl_i, am_kl_r, am_kl_n, am_kl_l, true_and, and_true, and_self, true_or, or_true, implies_true, forall_const, not_true_eq_false, not_false_eq_true, false_implies, true_implies, if_true, if_false, Bool.true_eq_false, Bool.false_eq_true, i01, i1]
      rw [sX11_leftBy_27]
      simp (disch := (first | assumption | omega | decide)) only [sX11_leftBy_0, sX11_leftBy_1, sX11_leftBy_4, sX11_leftBy_5, sX11_leftBy_6, sX11_leftBy_9, sX11_leftBy_11, sX11_leftBy_12, sX11_leftBy_13, sX11_leftBy_14, sX11_leftBy_15, sX11_leftBy_16, sX11_leftBy_17, sX11_leftBy_19, sX11_leftBy_22, sX11_leftBy_23, sX11_leftBy_24, sX11_leftBy_25, sX11_leftBy_29, sX11_leftBy_30, sX11_leftBy_33, sX11_leftBy_35, sX11_leftBy_36, sX11_leftBy_39, sX11_leftBy_40, sX11_leftBy_42, sX11_leftBy_45, sX11_leftBy_48, sX11_leftBy_49, sX11_leftBy_50, sX11_leftBy_53, sX11_leftBy_54, sX11_leftBy_56, sX11_leftBy_57, sX11_leftBy_58, sX11_leftBy_61, sX11_leftBy_64, sX11_leftBy_65, sX11_leftBy_68, sX11_leftBy_70, sX11_leftBy_71, sX11_leftBy_72, sX11_leftBy_73, sX11_leftBy_76, sX11_leftBy_79, sX11_leftBy_80, sX11_leftBy_81, sX11_leftBy_83, sX11_leftBy_84, sX11_leftBy_85, sX11_leftBy_86, sX11_leftBy_87, sX11_leftBy_88, sX11_leftBy_89, sX11_leftBy_90, sX11_leftBy_93, sX11_leftBy_96, sX11_leftBy_99, sX11_leftBy_100, kI_i, kL_l, kV_v, am_rv_s, am_kl_i, am_kl_r, am_kl_n, am_kl_l, true_and, and_true, and_self, true_or, or_true, implies_true, forall_const, not_true_eq_false, not_false_eq_true, false_implies, true_implies, if_true, if_false, Bool.true_eq_false, Bool.false_eq_true, ob_457, r_457_27, n36, in_465, nI_clamp, g36, Int32.le_refl]
      by_cases z : psF l K s l.length = s
      · have z2 := lf_eq hS z
        have z3 : decide (¬ psF l K s l.length = s) = false := decide_eq_false (fun w => w z)
        rw [z3, sX11_leftBy_18]
        simp (disch := (first | assumption | omega | decide)) only [sX11_leftBy_0, sX11_leftBy_1, sX11_leftBy_4, sX11_leftBy_5, sX11_leftBy_6, sX11_leftBy_9, sX11_leftBy_11, sX11_leftBy_12, sX11_leftBy_13, sX11_leftBy_14, sX11_leftBy_15, sX11_leftBy_16, sX11_leftBy_17, sX11_leftBy_19, sX11_leftBy_22, sX11_leftBy_23, sX11_leftBy_24, sX11_leftBy_25, sX11_leftBy_29, sX11_leftBy_30, sX11_leftBy_33, sX11_leftBy_35, sX11_leftBy_36, sX11_leftBy_39, sX11_leftBy_40, sX11_leftBy_42, sX11_leftBy_45, sX11_leftBy_48, sX11_leftBy_49, sX11_leftBy_50, sX11_leftBy_53, sX11_leftBy_54, sX11_leftBy_56, sX11_leftBy_57, sX11_leftBy_58, sX11_leftBy_61, sX11_leftBy_64, sX11_leftBy_65, sX11_leftBy_68, sX11_leftBy_70, sX11_leftBy_71, sX11_leftBy_72, sX11_leftBy_73, sX11_leftBy_76, sX11_leftBy_79, sX11_leftBy_80, sX11_leftBy_81, sX11_leftBy_83, sX11_leftBy_84, sX11_leftBy_85, sX11_leftBy_86, sX11_leftBy_87, sX11_leftBy_88, sX11_leftBy_89, sX11_leftBy_90, sX11_leftBy_93, sX11_leftBy_96, sX11_leftBy_99, sX11_leftBy_100, kI_i, kL_l, kV_v, am_rv_s, am_kl_i, am_kl_r, am_kl_n, am_kl_l, true_and, and_true, and_self, true_or, or_true, implies_true, forall_const, not_true_eq_false, not_false_eq_true, false_implies, true_implies, if_true, if_false, Bool.true_eq_false, Bool.false_eq_true, bz_f]
        rw [z, ← z2]
      · rw [decide_eq_true z, bz_t]
        have le := ps_le (l := l) (K := K) (s := s) l.length
        exact ih _ (by omega) (Sup_p hS _ (Nat.le_refl _)) _
  have k0 := fun x4 => outer (2 ^ l.length - 1) Sup_0 x4
  rw [eX11_leftBy]
  simp (disch := (first | assumption | omega | decide)) only [sX11_leftBy_0, sX11_leftBy_1, sX11_leftBy_4, sX11_leftBy_5, sX11_leftBy_6, sX11_leftBy_9, sX11_leftBy_11, sX11_leftBy_12, sX11_leftBy_13, sX11_leftBy_14, sX11_leftBy_15, sX11_leftBy_16, sX11_leftBy_17, sX11_leftBy_19, sX11_leftBy_22, sX11_leftBy_23, sX11_leftBy_24, sX11_leftBy_25, sX11_leftBy_29, sX11_leftBy_30, sX11_leftBy_33, sX11_leftBy_35, sX11_leftBy_36, sX11_leftBy_39, sX11_leftBy_40, sX11_leftBy_42, sX11_leftBy_45, sX11_leftBy_48, sX11_leftBy_49, sX11_leftBy_50, sX11_leftBy_53, sX11_leftBy_54, sX11_leftBy_56, sX11_leftBy_57, sX11_leftBy_58, sX11_leftBy_61, sX11_leftBy_64, sX11_leftBy_65, sX11_leftBy_68, sX11_leftBy_70, sX11_leftBy_71, sX11_leftBy_72, sX11_leftBy_73, sX11_leftBy_76, sX11_leftBy_79, sX11_leftBy_80, sX11_leftBy_81, sX11_leftBy_83, sX11_leftBy_84, sX11_leftBy_85, sX11_leftBy_86, sX11_leftBy_87, sX11_leftBy_88, sX11_leftBy_89, sX11_leftBy_90, sX11_leftBy_93, sX11_leftBy_96, sX11_leftBy_99, sX11_leftBy_100, kI_i, kL_l, kV_v, am_rv_s, am_kl_i, am_kl_r, am_kl_n, am_kl_l, true_and, and_true, and_self, true_or, or_true, implies_true, forall_const, not_true_eq_false, not_false_eq_true, false_implies, true_implies, if_true, if_false, Bool.true_eq_false, Bool.false_eq_true, ob_457, ln, r_457_27, n36, in_465, nI_clamp, g36, shl1 l.length (by omega), nI_sub1 pp, k0]
end
