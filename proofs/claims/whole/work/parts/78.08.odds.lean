theorem kl_n : am_kl none = none := rfl
theorem pc_bd {s n : Nat} (h : ∀ i, n ≤ i → s.testBit i = false) : ∀ k, pcN k s ≤ n
  | 0 => Nat.zero_le _
  | k + 1 => by
    by_cases z : k < n
    · have := pcN_le s (k + 1); omega
    · have := pc_bd h k
      unfold pcN
      rw [h k (by omega)]
      simpa using this
theorem od_div {p c : Nat} (hp : p ≤ 1000000000) (hc : c ≤ 100) : (nI p).toInt64 * (nI c).toInt64 / 100 = (nI (p * c / 100)).toInt64 := by
  have hm : p * c ≤ 1000000000 * 100 := Nat.mul_le_mul hp hc
  have hq : p * c / 100 ≤ 1000000000 := by omega
  apply Int64.toInt_inj.mp
  rw [Int64.toInt_div, Int64.toInt_mul, Int32.toInt_toInt64, Int32.toInt_toInt64, Int32.toInt_toInt64, nI_toInt (by omega), nI_toInt (by omega), nI_toInt (by omega)]
  have e : ((p : Int) * (c : Int)) = ((p * c : Nat) : Int) := by rw [Int.natCast_mul]
  rw [e, show (100 : Int64).toInt = 100 from by decide]
  generalize p * c = m at *
  rw [show ((m : Int).bmod (2 ^ 64)) = (m : Int) from Int.bmod_eq_of_le (by omega) (by omega)]
  rw [Int.tdiv_eq_ediv_of_nonneg (by omega)]
  rw [Int.bmod_eq_of_le (by omega) (by omega)]
  omega
theorem od_sub {p q : Nat} (hp : p ≤ 1000000000) (hq : q ≤ p) : (nI p).toInt64 - (nI q).toInt64 = (nI (p - q)).toInt64 := by
  apply Int64.toInt_inj.mp
  rw [Int64.toInt_sub, Int32.toInt_toInt64, Int32.toInt_toInt64, Int32.toInt_toInt64, nI_toInt (by omega), nI_toInt (by omega), nI_toInt (by omega)]
  rw [Int.bmod_eq_of_le (by omega) (by omega)]
  omega
def odN (c : Nat) : Nat → Nat
  | 0 => 1000000000
  | k + 1 => odN c k - odN c k * c / 100
theorem odN_le (c : Nat) : ∀ k, odN c k ≤ 1000000000
  | 0 => Nat.le_refl _
  | k + 1 => by have := odN_le c k; unfold odN; omega
theorem od_q {c : Nat} (hc : c ≤ 100) (p : Nat) : p * c / 100 ≤ p := by
  have : p * c ≤ p * 100 := Nat.mul_le_mul_left p hc
  omega
def tkN (ap : Nat) (S : Sg) (y : Nat) : Nat := S.1.length - pcN 12 (lfS ap S (nI (2 ^ y)))
def oddsA (ap : Nat) (S : Sg) (y v : Int32) : Int32 := if (hasA ap y && decide (0 ≤ v ∧ v ≤ 100)) = true then nI (odN v.toNatClampNeg (tkN ap S y.toNatClampNeg)) else -1
section
variable {M N : am_M} {ap lim n : Nat} {S : Sg} {P : List Sg} {l : List Dd} {d : Nat} {Q : am_Q} {K : Int32}
theorem alone_y {y : Nat} (hap : ap ≤ 4) (hl : S.1.length ≤ 12) (hy : y < ap) : nI S.1.length - bcI (nI (lfS ap S (nI (2 ^ y)))) = nI (tkN ap S y) ∧ aloneA ap S (nI (2 ^ y)) = nI (tkN ap S y) := by
  have e : nI S.1.length - bcI (nI (lfS ap S (nI (2 ^ y)))) = nI (tkN ap S y) := by
    have b := pc_bd (s := lfS ap S (nI (2 ^ y))) (n := S.1.length) (fun i hi => lf_char.2 i hi) 12
    rw [bc_lf hl]
    exact pk_sub b
  refine ⟨e, ?_⟩
  unfold aloneA
  have p1 : (2 : Nat) ^ y < 2 ^ ap := Nat.pow_lt_pow_right (by omega) hy
  have p2 : (2 : Nat) ^ ap ≤ 16 := Nat.le_trans (Nat.pow_le_pow_right (by omega) hap) (by omega : 2 ^ 4 ≤ 16)
  have a : arH ap (nI (2 ^ y)) = true := by
    unfold arH opn
    rw [decide_eq_true (by omega : 0 < ap), Bool.true_and]
    refine decide_eq_true ⟨?_, ?_⟩
    · rw [nI_le0 (by omega)]; trivial
    · rw [nI_ltE (by omega) (by omega)]; exact p1
  rw [if_pos a, e]
theorem c_odds {y v : Int32} (hW : WR M) (h : StC M 3 ap lim S) (hl : S.1.length ≤ 12) : ∃ M', (∀ d (Q : am_Q), am_big (d + 5) mX10_odds [.ref 0, .int y, .int v] 488 M Q = Q (some (.int (oddsA ap S y v))) M') ∧ Fw XL M M' := by
  obtain ⟨h1, h2, h3, h4, h5, h6, h7, hap, h11⟩ := id h
  have ha := fun d (Q : am_Q) => c_hasApp (d := d) (Q := Q) (x := y) h1 h3
  have z100 : ((100 : Int64) = 0) = False := eq_false (by decide)
  unfold oddsA
  cases c1 : hasA ap y with
  | false =>
    refine ⟨M, fun d Q => ?_, Fw.rf⟩
    unfold hasA at c1
    rw [eX10_odds]
    simp (disch := (first | assumption | omega | decide)) only [sX10_odds_0, sX10_odds_1, sX10_odds_4, sX10_odds_5, sX10_odds_8, sX10_odds_11, sX10_odds_12, sX10_odds_15, sX10_odds_16, sX10_odds_18, sX10_odds_21, sX10_odds_22, sX10_odds_23, sX10_odds_24, sX10_odds_25, sX10_odds_26, sX10_odds_27, sX10_odds_30, sX10_odds_31, sX10_odds_34, sX10_odds_36, sX10_odds_37, sX10_odds_41, sX10_odds_42, sX10_odds_45, sX10_odds_47, sX10_odds_49, sX10_odds_50, sX10_odds_51, sX10_odds_52, sX10_odds_55, sX10_odds_56, sX10_odds_57, sX10_odds_59, sX10_odds_62, sX10_odds_65, sX10_odds_67, sX10_odds_68, kI_i, kL_l, kV_v, am_rv_s, am_kl_i, am_kl_r, am_kl_n, am_kl_l, true_and, and_true, and_self, true_or, or_true, implies_true, forall_const, not_true_eq_false, not_false_eq_true, false_implies, true_implies, if_true, if_false, Bool.true_eq_false, Bool.false_eq_true, ob_0, ob_3, r_0_1, ha, c1, bz_f, Bool.false_and]
  | true =>
    obtain ⟨i, hi, rfl⟩ := hasA_x hap c1
    unfold hasA at c1
    by_cases c2 : v < 0
    · refine ⟨M, fun d Q => ?_, Fw.rf⟩
      have z : decide (0 ≤ v ∧ v ≤ 100) = false := decide_eq_false (fun z => absurd c2 (Int32.not_lt.mpr z.1))
      rw [z, eX10_odds]
      simp (disch := (first | assumption | omega | decide)) only [sX10_odds_0, sX10_odds_1, sX10_odds_4, sX10_odds_5, sX10_odds_8, sX10_odds_11, sX10_odds_12, sX10_odds_15, sX10_odds_16, sX10_odds_18, sX10_odds_21, sX10_odds_22, sX10_odds_23, sX10_odds_24, sX10_odds_25, sX10_odds_26, sX10_odds_27, sX10_odds_30, sX10_odds_31, sX10_odds_34, sX10_odds_36, sX10_odds_37, sX10_odds_41, sX10_odds_42, sX10_odds_45, sX10_odds_47, sX10_odds_49, sX10_odds_50, sX10_odds_51, sX10_odds_52, sX10_odds_55, sX10_odds_56, sX10_odds_57, sX10_odds_59, sX10_odds_62, sX10_odds_65, sX10_odds_67, sX10_odds_68, kI_i, kL_l, kV_v, am_rv_s, am_kl_i, am_kl_r, am_kl_n, am_kl_l, true_and, and_true, and_self, true_or, or_true, implies_true, forall_const, not_true_eq_false, not_false_eq_true, false_implies, true_implies, if_true, if_false, Bool.true_eq_false, Bool.false_eq_true, ob_0, ob_3, r_0_1, ha, c1, bz_t, i01, c2, Bool.and_false]
    · by_cases c3 : v ≤ 100
      · have z : decide (0 ≤ v ∧ v ≤ 100) = true := decide_eq_true ⟨Int32.not_lt.mp c2, c3⟩
        have c3' := eq_true c3
        obtain ⟨c, hc0, rfl⟩ := nI_of c2
        have hc : c ≤ 100 := by rwa [show (100 : Int32) = nI 100 from rfl, nI_leE hc0 (by omega)] at c3
        obtain ⟨M', e1, f1⟩ := c_alone (x := nI (2 ^ i)) hW h hl
        rw [(alone_y hap hl hi).2] at e1
        refine ⟨M', fun d Q => ?_, f1⟩
        rw [z, nI_clamp (by omega), nI_clamp (by omega)]
        have ht : tkN ap S i ≤ 12 := by unfold tkN; omega
        generalize tkN ap S i = t at *
        have l0 := loop0 (P := fun k => ok (d + 4) mX10_odds 488 Q 488 0 0 39 [some (.ref 0), some (.int (nI i)), some (.int (nI c)), some (.int (nI t)), some (.long (nI (odN c k)).toInt64), none, some (.int (nI k))] [] M') (n := t) (fun k hk => by
          have e0 : (nI t ≤ nI k) = False := by rw [nI_leE (by omega) (by omega)]; exact eq_false (by omega)
          have dv := od_div (odN_le c k) hc
          have ds := od_sub (odN_le c k) (od_q hc (odN c k))
          show ok (d + 4) mX10_odds 488 Q 488 0 0 39 _ [] _ = ok (d + 4) mX10_odds 488 Q 488 0 0 39 [some (.ref 0), some (.int (nI i)), some (.int (nI c)), some (.int (nI t)), some (.long (nI (odN c k - odN c k * c / 100)).toInt64), none, some (.int (nI (k + 1)))] [] _
          rw [sX10_odds_39]
          simp (disch := (first | assumption | omega | decide)) only [sX10_odds_0, sX10_odds_1, sX10_odds_4, sX10_odds_5, sX10_odds_8, sX10_odds_11, sX10_odds_12, sX10_odds_15, sX10_odds_16, sX10_odds_18, sX10_odds_21, sX10_odds_22, sX10_odds_23, sX10_odds_24, sX10_odds_25, sX10_odds_26, sX10_odds_27, sX10_odds_30, sX10_odds_31, sX10_odds_34, sX10_odds_36, sX10_odds_37, sX10_odds_41, sX10_odds_42, sX10_odds_45, sX10_odds_47, sX10_odds_49, sX10_odds_50, sX10_odds_51, sX10_odds_52, sX10_odds_55, sX10_odds_56, sX10_odds_57, sX10_odds_59, sX10_odds_62, sX10_odds_65, sX10_odds_67, sX10_odds_68, kI_i, kL_l, kV_v, am_rv_s, am_kl_i, am_kl_r, am_kl_n, am_kl_l, true_and, and_true, and_self, true_or, or_true, implies_true, forall_const, not_true_eq_false, not_false_eq_true, false_implies, true_implies, if_true, if_false, Bool.true_eq_false, Bool.false_eq_true, e0, dv, ds, z100, kl_n, nI_1])
        have l1 : ok (d + 4) mX10_odds 488 Q 488 0 0 39 [some (.ref 0), some (.int (nI i)), some (.int (nI c)), some (.int (nI t)), some (.long 1000000000), none, some (.int 0)] [] M' = _ := l0
        rw [eX10_odds]
        simp (disch := (first | assumption | omega | decide)) only [sX10_odds_0, sX10_odds_1, sX10_odds_4, sX10_odds_5, sX10_odds_8, sX10_odds_11, sX10_odds_12, sX10_odds_15, sX10_odds_16, sX10_odds_18, sX10_odds_21, sX10_odds_22, sX10_odds_23, sX10_odds_24, sX10_odds_25, sX10_odds_26, sX10_odds_27, sX10_odds_30, sX10_odds_31, sX10_odds_34, sX10_odds_36, sX10_odds_37, sX10_odds_41, sX10_odds_42, sX10_odds_45, sX10_odds_47, sX10_odds_49, sX10_odds_50, sX10_odds_51, sX10_odds_52, sX10_odds_55, sX10_odds_56, sX10_odds_57, sX10_odds_59, sX10_odds_62, sX10_odds_65, sX10_odds_67, sX10_odds_68, kI_i, kL_l, kV_v, am_rv_s, am_kl_i, am_kl_r, am_kl_n, am_kl_l, true_and, and_true, and_self, true_or, or_true, implies_true, forall_const, not_true_eq_false, not_false_eq_true, false_implies, true_implies, if_true, if_false, Bool.true_eq_false, Bool.false_eq_true, ob_0, ob_3, r_0_1, ha, c1, bz_t, i01, c2, c3', shl1 i (by omega), e1, kl_n, l1]
        rw [sX10_odds_39]
        simp (disch := (first | assumption | omega | decide)) only [sX10_odds_0, sX10_odds_1, sX10_odds_4, sX10_odds_5, sX10_odds_8, sX10_odds_11, sX10_odds_12, sX10_odds_15, sX10_odds_16, sX10_odds_18, sX10_odds_21, sX10_odds_22, sX10_odds_23, sX10_odds_24, sX10_odds_25, sX10_odds_26, sX10_odds_27, sX10_odds_30, sX10_odds_31, sX10_odds_34, sX10_odds_36, sX10_odds_37, sX10_odds_41, sX10_odds_42, sX10_odds_45, sX10_odds_47, sX10_odds_49, sX10_odds_50, sX10_odds_51, sX10_odds_52, sX10_odds_55, sX10_odds_56, sX10_odds_57, sX10_odds_59, sX10_odds_62, sX10_odds_65, sX10_odds_67, sX10_odds_68, kI_i, kL_l, kV_v, am_rv_s, am_kl_i, am_kl_r, am_kl_n, am_kl_l, true_and, and_true, and_self, true_or, or_true, implies_true, forall_const, not_true_eq_false, not_false_eq_true, false_implies, true_implies, if_true, if_false, Bool.true_eq_false, Bool.false_eq_true, Int32.le_refl, Int32.toInt32_toInt64, Bool.and_self]
      · refine ⟨M, fun d Q => ?_, Fw.rf⟩
        have z : decide (0 ≤ v ∧ v ≤ 100) = false := decide_eq_false (fun z => c3 z.2)
        rw [z, eX10_odds]
        simp (disch := (first | assumption | omega | decide)) only [sX10_odds_0, sX10_odds_1, sX10_odds_4, sX10_odds_5, sX10_odds_8, sX10_odds_11, sX10_odds_12, sX10_odds_15, sX10_odds_16, sX10_odds_18, sX10_odds_21, sX10_odds_22, sX10_odds_23, sX10_odds_24, sX10_odds_25, sX10_odds_26, sX10_odds_27, sX10_odds_30, sX10_odds_31, sX10_odds_34, sX10_odds_36, sX10_odds_37, sX10_odds_41, sX10_odds_42, sX10_odds_45, sX10_odds_47, sX10_odds_49, sX10_odds_50, sX10_odds_51, sX10_odds_52, sX10_odds_55, sX10_odds_56, sX10_odds_57, sX10_odds_59, sX10_odds_62, sX10_odds_65, sX10_odds_67, sX10_odds_68, kI_i, kL_l, kV_v, am_rv_s, am_kl_i, am_kl_r, am_kl_n, am_kl_l, true_and, and_true, and_self, true_or, or_true, implies_true, forall_const, not_true_eq_false, not_false_eq_true, false_implies, true_implies, if_true, if_false, Bool.true_eq_false, Bool.false_eq_true, ob_0, ob_3, r_0_1, ha, c1, bz_t, i01, c2, c3, Bool.and_false]
theorem m_odds {y v : Int32} (h : RS M ap lim S P) : ∃ M', (∀ d (Q : am_Q), am_big (d + 5) mX11_odds [.ref 457, .int y, .int v] 488 M Q = Q (some (.int (oddsA ap S y v))) M') ∧ Fw XMN M M' := by
  have f0 : Fw XMN M (sI M 457 0 0) := Fw_thr.mo (fun c j z => Or.inl z)
  obtain ⟨hW, hS, hP, hf, hm, hw, hlim, ht⟩ := RS_th h
  generalize hM0 : sI M 457 0 0 = M0 at *
  have hap := hS.2.2.2.2.1.2.2
  have hl := hS.1
  have ha := fun d (Q : am_Q) => m_isHand (d := d) (Q := Q) (y := y) hf
  have e100 : (decide (0 ≤ v) && decide (v ≤ 100)) = decide (0 ≤ v ∧ v ≤ 100) := by by_cases a : 0 ≤ v <;> by_cases b : v ≤ 100 <;> simp [a, b]
  have z100 : ((100 : Int64) = 0) = False := eq_false (by decide)
  have z32 : (100 : Int64) = (100 : Int32).toInt64 := by decide
  unfold oddsA
  cases c1 : hasA ap y with
  | false =>
    refine ⟨M0, fun d Q => ?_, f0⟩
    rw [eX11_odds]
    simp (disch := (first | assumption | omega | decide)) only [sX11_odds_0, sX11_odds_1, sX11_odds_2, sX11_odds_5, sX11_odds_6, sX11_odds_7, sX11_odds_10, sX11_odds_13, sX11_odds_14, sX11_odds_15, sX11_odds_16, sX11_odds_19, sX11_odds_22, sX11_odds_25, sX11_odds_26, sX11_odds_27, sX11_odds_30, sX11_odds_31, sX11_odds_32, sX11_odds_33, sX11_odds_34, sX11_odds_35, sX11_odds_38, sX11_odds_42, sX11_odds_45, sX11_odds_46, sX11_odds_47, sX11_odds_48, sX11_odds_49, sX11_odds_50, sX11_odds_51, sX11_odds_54, sX11_odds_55, sX11_odds_56, sX11_odds_57, sX11_odds_58, sX11_odds_61, sX11_odds_64, sX11_odds_65, kI_i, kL_l, kV_v, am_rv_s, am_kl_i, am_kl_r, am_kl_n, am_kl_l, true_and, and_true, and_self, true_or, or_true, implies_true, forall_const, not_true_eq_false, not_false_eq_true, false_implies, true_implies, if_true, if_false, Bool.true_eq_false, Bool.false_eq_true, ob_457, hM0, ha, c1, bz_f, Bool.false_and]
  | true =>
    obtain ⟨i, hi, rfl⟩ := hasA_x hap c1
    cases c2 : decide (0 ≤ v ∧ v ≤ 100) with
    | false =>
      have ii : ∀ d (Q : am_Q) N, am_big (d + 1) mX11_isIn [.long v.toInt64, .long 0, .long 100] 488 N Q = Q (some (.int 0)) N := fun d Q N => by
        rw [show (0 : Int64) = (0 : Int32).toInt64 from by decide, z32, m_isIn, e100, c2]; rfl
      refine ⟨M0, fun d Q => ?_, f0⟩
      rw [eX11_odds]
      simp (disch := (first | assumption | omega | decide)) only [sX11_odds_0, sX11_odds_1, sX11_odds_2, sX11_odds_5, sX11_odds_6, sX11_odds_7, sX11_odds_10, sX11_odds_13, sX11_odds_14, sX11_odds_15, sX11_odds_16, sX11_odds_19, sX11_odds_22, sX11_odds_25, sX11_odds_26, sX11_odds_27, sX11_odds_30, sX11_odds_31, sX11_odds_32, sX11_odds_33, sX11_odds_34, sX11_odds_35, sX11_odds_38, sX11_odds_42, sX11_odds_45, sX11_odds_46, sX11_odds_47, sX11_odds_48, sX11_odds_49, sX11_odds_50, sX11_odds_51, sX11_odds_54, sX11_odds_55, sX11_odds_56, sX11_odds_57, sX11_odds_58, sX11_odds_61, sX11_odds_64, sX11_odds_65, kI_i, kL_l, kV_v, am_rv_s, am_kl_i, am_kl_r, am_kl_n, am_kl_l, true_and, and_true, and_self, true_or, or_true, implies_true, forall_const, not_true_eq_false, not_false_eq_true, false_implies, true_implies, if_true, if_false, Bool.true_eq_false, Bool.false_eq_true, ob_457, hM0, ha, c1, bz_t, i01, ii, Bool.and_false]
    | true =>
      have ii : ∀ d (Q : am_Q) N, am_big (d + 1) mX11_isIn [.long v.toInt64, .long 0, .long 100] 488 N Q = Q (some (.int 1)) N := fun d Q N => by
        rw [show (0 : Int64) = (0 : Int32).toInt64 from by decide, z32, m_isIn, e100, c2]; rfl
      have c3 := of_decide_eq_true c2
      obtain ⟨c, hc0, rfl⟩ := nI_of (Int32.not_lt.mpr c3.1)
      have hc : c ≤ 100 := by have := c3.2; rwa [show (100 : Int32) = nI 100 from rfl, nI_leE hc0 (by omega)] at this
      have tb := fun d (Q : am_Q) => m_takenBy (d := d) (Q := Q) (x := nI (2 ^ i)) hW hS hf hw
      rw [(alone_y hap hl hi).1] at tb
      refine ⟨nd3 M0 S.1, fun d Q => ?_, f0.tr (Fw_nd.mo (fun c j z => Or.inr z))⟩
      rw [nI_clamp (by omega), nI_clamp (by omega)]
      have ht : tkN ap S i ≤ 12 := by unfold tkN; omega
      generalize tkN ap S i = t at *
      have l0 := loop0 (P := fun k => ok (d + 4) mX11_odds 488 Q 488 0 0 40 [some (.ref 457), some (.int (nI i)), some (.int (nI c)), some (.int (nI (odN c k))), some (.int (nI (t - k)))] [] (nd3 M0 S.1)) (n := t) (fun k hk => by
        have e0 : (nI (t - k) ≤ 0) = False := by rw [show (0 : Int32) = nI 0 from rfl, nI_leE (by omega) (by omega)]; exact eq_false (by omega)
        have dv := od_div (odN_le c k) hc
        have ds : nI (odN c k) - nI (odN c k * c / 100) = nI (odN c k - odN c k * c / 100) := pk_sub (od_q hc (odN c k))
        have dd : nI (t - k) + -1 = nI (t - (k + 1)) := by rw [← Int32.sub_eq_add_neg, nI_sub1 (by omega)]; congr 1
        show ok (d + 4) mX11_odds 488 Q 488 0 0 40 _ [] _ = ok (d + 4) mX11_odds 488 Q 488 0 0 40 [some (.ref 457), some (.int (nI i)), some (.int (nI c)), some (.int (nI (odN c k - odN c k * c / 100))), some (.int (nI (t - (k + 1))))] [] _
        rw [sX11_odds_40]
        simp (disch := (first | assumption | omega | decide)) only [sX11_odds_0, sX11_odds_1, sX11_odds_2, sX11_odds_5, sX11_odds_6, sX11_odds_7, sX11_odds_10, sX11_odds_13, sX11_odds_14, sX11_odds_15, sX11_odds_16, sX11_odds_19, sX11_odds_22, sX11_odds_25, sX11_odds_26, sX11_odds_27, sX11_odds_30, sX11_odds_31, sX11_odds_32, sX11_odds_33, sX11_odds_34, sX11_odds_35, sX11_odds_38, sX11_odds_42, sX11_odds_45, sX11_odds_46, sX11_odds_47, sX11_odds_48, sX11_odds_49, sX11_odds_50, sX11_odds_51, sX11_odds_54, sX11_odds_55, sX11_odds_56, sX11_odds_57, sX11_odds_58, sX11_odds_61, sX11_odds_64, sX11_odds_65, kI_i, kL_l, kV_v, am_rv_s, am_kl_i, am_kl_r, am_kl_n, am_kl_l, true_and, and_true, and_self, true_or, or_true, implies_true, forall_const, not_true_eq_false, not_false_eq_true, false_implies, true_implies, if_true, if_false, Bool.true_eq_false, Bool.false_eq_true, e0, dv, Int32.toInt32_toInt64, ds, z100, dd])
      have l1 : ok (d + 4) mX11_odds 488 Q 488 0 0 40 [some (.ref 457), some (.int (nI i)), some (.int (nI c)), some (.int 1000000000), some (.int (nI t))] [] (nd3 M0 S.1) = _ := l0
      have zz : (nI (t - t) ≤ 0) = True := by rw [Nat.sub_self]; exact eq_true (by decide)
      rw [eX11_odds]
      simp (disch := (first | assumption | omega | decide)) only [sX11_odds_0, sX11_odds_1, sX11_odds_2, sX11_odds_5, sX11_odds_6, sX11_odds_7, sX11_odds_10, sX11_odds_13, sX11_odds_14, sX11_odds_15, sX11_odds_16, sX11_odds_19, sX11_odds_22, sX11_odds_25, sX11_odds_26, sX11_odds_27, sX11_odds_30, sX11_odds_31, sX11_odds_32, sX11_odds_33, sX11_odds_34, sX11_odds_35, sX11_odds_38, sX11_odds_42, sX11_odds_45, sX11_odds_46, sX11_odds_47, sX11_odds_48, sX11_odds_49, sX11_odds_50, sX11_odds_51, sX11_odds_54, sX11_odds_55, sX11_odds_56, sX11_odds_57, sX11_odds_58, sX11_odds_61, sX11_odds_64, sX11_odds_65, kI_i, kL_l, kV_v, am_rv_s, am_kl_i, am_kl_r, am_kl_n, am_kl_l, true_and, and_true, and_self, true_or, or_true, implies_true, forall_const, not_true_eq_false, not_false_eq_true, false_implies, true_implies, if_true, if_false, Bool.true_eq_false, Bool.false_eq_true, ob_457, hM0, ha, c1, bz_t, i01, ii, shl1 i (by omega), tb, l1]
      rw [sX11_odds_40]
      simp (disch := (first | assumption | omega | decide)) only [sX11_odds_0, sX11_odds_1, sX11_odds_2, sX11_odds_5, sX11_odds_6, sX11_odds_7, sX11_odds_10, sX11_odds_13, sX11_odds_14, sX11_odds_15, sX11_odds_16, sX11_odds_19, sX11_odds_22, sX11_odds_25, sX11_odds_26, sX11_odds_27, sX11_odds_30, sX11_odds_31, sX11_odds_32, sX11_odds_33, sX11_odds_34, sX11_odds_35, sX11_odds_38, sX11_odds_42, sX11_odds_45, sX11_odds_46, sX11_odds_47, sX11_odds_48, sX11_odds_49, sX11_odds_50, sX11_odds_51, sX11_odds_54, sX11_odds_55, sX11_odds_56, sX11_odds_57, sX11_odds_58, sX11_odds_61, sX11_odds_64, sX11_odds_65, kI_i, kL_l, kV_v, am_rv_s, am_kl_i, am_kl_r, am_kl_n, am_kl_l, true_and, and_true, and_self, true_or, or_true, implies_true, forall_const, not_true_eq_false, not_false_eq_true, false_implies, true_implies, if_true, if_false, Bool.true_eq_false, Bool.false_eq_true, zz, Bool.and_self]
end
