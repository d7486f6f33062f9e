/-! the row of least cost: the class -/
def pix (t n b : Nat) : Nat := (t * 12 + n) * 6 + b
def XTb (c j : Nat) : Prop := XPr c j ∨ (431 ≤ c ∧ c ≤ 434)
def XPn (t n c j : Nat) : Prop := XPr c j ∨ (c = 434 ∧ (t * 12 + n) * 6 ≤ j ∧ j < (t * 12 + n) * 6 + 6)
def XPt (t c j : Nat) : Prop := XPr c j ∨ (c = 434 ∧ 72 * t ≤ j ∧ j < 72 * t + 72)
def OrC (N : am_M) (LL : List (List Nat)) (h : Int32) (S : Sg) : Prop := WR N ∧ gR N 424 0 = some 4 ∧ LH N 4 S.1 ∧ gI N 424 1 = nI S.1.length ∧ (∀ k, k < S.1.length → gI N 429 k = nI (bl S.1 k)) ∧ (∀ k, k < S.1.length → gI N 430 k = nI (ab S.1 S.1.length k)) ∧ LbC N LL h
section
variable {M N : am_M} {ap lim n : Nat} {S : Sg} {P : List Sg} {l : List Dd} {d : Nat} {Q : am_Q} {LL : List (List Nat)} {h : Int32}
theorem OrC_F (hF : Fw XTb N M) (g : OrC N LL h S) : OrC M LL h S := by
  obtain ⟨g1, g2, g3, g4, g5, g6, g7⟩ := g
  exact ⟨hF.2 g1, (hF.R (by unfold XTb XPr; omega)).trans g2, LH_of (fun c j _ _ => hF.I (by unfold XTb XPr; omega)) (fun c j _ _ => hF.R (by unfold XTb XPr; omega)) g3, (hF.I (by unfold XTb XPr; omega)).trans g4, fun k hk => (hF.I (by unfold XTb XPr; omega)).trans (g5 k hk), fun k hk => (hF.I (by unfold XTb XPr; omega)).trans (g6 k hk), LbC_Fw hF (fun c j hc => by unfold XTb XPr; omega) g7⟩
theorem nI_x12 (k : Nat) : nI k * 12 = nI (k * 12) := by rw [show (12 : Int32) = nI 12 from rfl, pk_mul]
theorem nI_x6 (k : Nat) : nI k * 6 = nI (k * 6) := by rw [show (6 : Int32) = nI 6 from rfl, pk_mul]
theorem c_priceAt {t n b : Nat} : am_big (d + 1) mX5_priceAt [.int (nI t), .int (nI n), .int (nI b)] 488 N Q = Q (some (.int (nI (pix t n b)))) N := by
  rw [eX5_priceAt]
  simp (disch := (first | assumption | omega | decide)) only [sX5_priceAt_0, sX5_priceAt_1, sX5_priceAt_3, sX5_priceAt_4, sX5_priceAt_5, sX5_priceAt_6, sX5_priceAt_8, sX5_priceAt_9, sX5_priceAt_10, sX5_priceAt_11, kI_i, kL_l, kV_v, am_rv_s, am_kl_i, am_kl_r, am_kl_n, am_kl_l, true_and, and_true, and_self, true_or, or_true, implies_true, forall_const, not_true_eq_false, not_false_eq_true, false_implies, true_implies, if_true, if_false, Bool.true_eq_false, Bool.false_eq_true, nI_x12, nI_x6, nI_add]
  rfl
theorem c_earlyN {t : Nat} (g : OrC N LL h S) (hl : S.1.length ≤ 12) (ht : t < S.1.length) : am_big (d + 2) mX5_earliest [.ref 424, .int (nI t)] 488 N Q = Q (some (.int (nI (pcN 12 (bl S.1 t))))) N := by
  have hW := g.1
  have gb := g.2.2.2.2.1 t ht
  have lt : bl S.1 t < 4096 := Nat.lt_of_lt_of_le (bl_lt t) (Nat.le_trans (Nat.pow_le_pow_right (by omega) (show t ≤ 12 by omega)) (by omega))
  rw [eX5_earliest]
  simp (disch := (first | assumption | omega | decide)) only [sX5_earliest_0, sX5_earliest_1, sX5_earliest_4, sX5_earliest_5, sX5_earliest_6, sX5_earliest_9, kI_i, kL_l, kV_v, am_rv_s, am_kl_i, am_kl_r, am_kl_n, am_kl_l, true_and, and_true, and_self, true_or, or_true, implies_true, forall_const, not_true_eq_false, not_false_eq_true, false_implies, true_implies, if_true, if_false, Bool.true_eq_false, Bool.false_eq_true, ob_424, r_424_2, in_429 (show t < 12 by omega), nI_clamp (show t < 2147483648 by omega), gb, c_bits, bcN lt]
theorem c_lateN {t : Nat} (g : OrC N LL h S) (hl : S.1.length ≤ 12) (ht : t < S.1.length) : am_big (d + 2) mX5_latest [.ref 424, .int (nI t)] 488 N Q = Q (some (.int (nI (S.1.length - 1 - pcN 12 (ab S.1 S.1.length t))))) N := by
  have hW := g.1
  have gn := g.2.2.2.1
  have gb := g.2.2.2.2.2.1 t ht
  have ap := ab_pc (l := S.1) hl ht
  have lt : ab S.1 S.1.length t < 4096 := Nat.lt_of_lt_of_le ab_lt (Nat.le_trans (Nat.pow_le_pow_right (by omega) hl) (by omega))
  have sb : nI (S.1.length - 1) - nI (pcN 12 (ab S.1 S.1.length t)) = nI (S.1.length - 1 - pcN 12 (ab S.1 S.1.length t)) := pk_sub (by omega)
  rw [eX5_latest]
  simp (disch := (first | assumption | omega | decide)) only [sX5_latest_0, sX5_latest_1, sX5_latest_4, sX5_latest_5, sX5_latest_6, sX5_latest_7, sX5_latest_10, sX5_latest_11, sX5_latest_12, sX5_latest_15, sX5_latest_16, kI_i, kL_l, kV_v, am_rv_s, am_kl_i, am_kl_r, am_kl_n, am_kl_l, true_and, and_true, and_self, true_or, or_true, implies_true, forall_const, not_true_eq_false, not_false_eq_true, false_implies, true_implies, if_true, if_false, Bool.true_eq_false, Bool.false_eq_true, ob_424, gn, r_424_3, in_430 (show t < 12 by omega), nI_clamp (show t < 2147483648 by omega), gb, c_bits, bcN lt, nI_sub1 (show 0 < S.1.length by omega), sb]
theorem cp_in {t : Nat} (g : OrC N LL h S) (ht : S.2.2.2.1 ≤ 9999) (hw : WFl S.1) (hl : S.1.length ≤ 12) (hk : t < S.1.length) (hn : n < 12) : ∀ k, k ≤ 6 → ∃ M', (∀ d (Q : am_Q), ok (d + 4) mX5_setPrices 488 Q 488 0 0 20 [some (.ref 424), some (.ref 392), some (.int (nI t)), some (.int (nI S.2.2.2.1)), some (.int (nI n)), some (.int 0)] [] N = ok (d + 4) mX5_setPrices 488 Q 488 0 0 20 [some (.ref 424), some (.ref 392), some (.int (nI t)), some (.int (nI S.2.2.2.1)), some (.int (nI n)), some (.int (nI k))] [] M') ∧ (∀ b, b < k → (n = 0 ↔ b = 5) → gI M' 434 (pix t n b) = lpr LL h S t n (nI b)) ∧ Fw (XPn t n) N M' := by
  intro k
  induction k with
  | zero => exact fun _ => ⟨N, fun d Q => rfl, fun b hb => by omega, Fw.rf⟩
  | succ k ih =>
    intro hk6
    obtain ⟨M1, e1, p1, f1⟩ := ih (by omega)
    have g1 := OrC_F (f1.mo (fun c j z => by unfold XPn XPr at z; unfold XTb XPr; omega)) g
    obtain ⟨hW1, r0, hL1, n1, _, _, hb1⟩ := id g1
    have e0 : ((6 : Int32) ≤ nI k) = False := by rw [show (6 : Int32) = nI 6 from rfl, nI_leE (by omega) (by omega)]; exact eq_false (by omega)
    have zn : (nI n = 0) = (n = 0) := by rw [show (0 : Int32) = nI 0 from rfl, nI_eqE (by omega) (by omega)]
    have z5 : (nI k = 5) = (k = 5) := by rw [show (5 : Int32) = nI 5 from rfl, nI_eqE (by omega) (by omega)]
    have z00 : ((0 : Int32) = 0) = True := eq_true rfl
    have z11 : ((1 : Int32) = 1) = True := eq_true rfl
    have i10 : ((0 : Int32) = 1) = False := by simp
    by_cases q : (n = 0 ↔ k = 5)
    · obtain ⟨s, p, x, q1, q2, q3, b1, b2, b3, _⟩ := WF_at hw hk
      obtain ⟨u1, u2⟩ := LH_s hL1 t hk
      have u3 := LH_x hL1 t hk
      simp only [Nat.reduceAdd] at u1 u2 u3
      obtain ⟨M2, e2, f2⟩ := c_priceOf (so := s) (pa := p) (x := x) (n := n) (b := k) (t := S.2.2.2.1) hW1 hb1 ⟨by omega, by omega, by omega, by omega, by omega, by omega⟩
      have hW2 := f2.2 hW1
      have eg : prc LL h (nI s) (nI p) (nI x) (nI n) (nI k) (nI S.2.2.2.1) = lpr LL h S t n (nI k) := by unfold lpr; rw [q1, q2, q3]
      rw [eg, ← q1, ← q2, ← q3] at e2
      refine ⟨sI M2 434 (pix t n k) (lpr LL h S t n (nI k)), fun d Q => ?_, fun b hb hq => ?_, (f1.tr (f2.mo (fun c j z => Or.inl z))).tr (Fw.s (Or.inr ⟨rfl, by unfold pix; omega, by unfold pix; omega⟩))⟩
      · have ck : (nI t).toNatClampNeg = t := nI_clamp (by omega)
        have cp : (nI (pix t n k)).toNatClampNeg = pix t n k := nI_clamp (by unfold pix; omega)
        have w4 := iw_434 (k := pix t n k) (by unfold pix; omega)
        have e2' := e2 d
        have pa := fun d (Q : am_Q) => c_priceAt (d := d) (Q := Q) (N := M1) (t := t) (n := n) (b := k)
        rw [e1, sX5_setPrices_20]
        by_cases qn : n = 0
        · have qk := q.mp qn
          have zn' := zn.trans (eq_true qn)
          have z5' := z5.trans (eq_true qk)
          simp (disch := (first | assumption | omega | decide)) only [sX5_setPrices_0, sX5_setPrices_1, sX5_setPrices_2, sX5_setPrices_5, sX5_setPrices_9, sX5_setPrices_10, sX5_setPrices_11, sX5_setPrices_14, sX5_setPrices_17, sX5_setPrices_18, sX5_setPrices_22, sX5_setPrices_24, sX5_setPrices_27, sX5_setPrices_29, sX5_setPrices_32, sX5_setPrices_33, sX5_setPrices_36, sX5_setPrices_37, sX5_setPrices_39, sX5_setPrices_40, sX5_setPrices_43, sX5_setPrices_44, sX5_setPrices_47, sX5_setPrices_48, sX5_setPrices_51, sX5_setPrices_52, sX5_setPrices_55, sX5_setPrices_56, sX5_setPrices_58, sX5_setPrices_60, sX5_setPrices_63, sX5_setPrices_64, sX5_setPrices_65, sX5_setPrices_68, sX5_setPrices_71, sX5_setPrices_72, sX5_setPrices_73, sX5_setPrices_74, sX5_setPrices_77, sX5_setPrices_80, sX5_setPrices_81, sX5_setPrices_82, sX5_setPrices_83, sX5_setPrices_86, sX5_setPrices_89, sX5_setPrices_90, sX5_setPrices_91, sX5_setPrices_93, sX5_setPrices_95, sX5_setPrices_96, sX5_setPrices_99, sX5_setPrices_100, sX5_setPrices_103, sX5_setPrices_106, sX5_setPrices_109, sX5_setPrices_112, kI_i, kL_l, kV_v, am_rv_s, am_kl_i, am_kl_r, am_kl_n, am_kl_l, true_and, and_true, and_self, true_or, or_true, implies_true, forall_const, not_true_eq_false, not_false_eq_true, false_implies, true_implies, if_true, if_false, Bool.true_eq_false, Bool.false_eq_true, e0, zn', z5', z11, ob_424, ob_392, ob_4, r_424_7, pa, r0, r_4_0, r_4_1, r_4_2, in_5, in_6, in_7, ck, u1, u2, u3, e2', w4, cp, nI_1]
        · have qk : ¬ k = 5 := fun z => qn (q.mpr z)
          have zn' := zn.trans (eq_false qn)
          have z5' := z5.trans (eq_false qk)
          simp (disch := (first | assumption | omega | decide)) only [sX5_setPrices_0, sX5_setPrices_1, sX5_setPrices_2, sX5_setPrices_5, sX5_setPrices_9, sX5_setPrices_10, sX5_setPrices_11, sX5_setPrices_14, sX5_setPrices_17, sX5_setPrices_18, sX5_setPrices_22, sX5_setPrices_24, sX5_setPrices_27, sX5_setPrices_29, sX5_setPrices_32, sX5_setPrices_33, sX5_setPrices_36, sX5_setPrices_37, sX5_setPrices_39, sX5_setPrices_40, sX5_setPrices_43, sX5_setPrices_44, sX5_setPrices_47, sX5_setPrices_48, sX5_setPrices_51, sX5_setPrices_52, sX5_setPrices_55, sX5_setPrices_56, sX5_setPrices_58, sX5_setPrices_60, sX5_setPrices_63, sX5_setPrices_64, sX5_setPrices_65, sX5_setPrices_68, sX5_setPrices_71, sX5_setPrices_72, sX5_setPrices_73, sX5_setPrices_74, sX5_setPrices_77, sX5_setPrices_80, sX5_setPrices_81, sX5_setPrices_82, sX5_setPrices_83, sX5_setPrices_86, sX5_setPrices_89, sX5_setPrices_90, sX5_setPrices_91, sX5_setPrices_93, sX5_setPrices_95, sX5_setPrices_96, sX5_setPrices_99, sX5_setPrices_100, sX5_setPrices_103, sX5_setPrices_106, sX5_setPrices_109, sX5_setPrices_112, kI_i, kL_l, kV_v, am_rv_s, am_kl_i, am_kl_r, am_kl_n, am_kl_l, true_and, and_true, and_self, true_or, or_true, implies_true, forall_const, not_true_eq_false, not_false_eq_true, false_implies, true_implies, if_true, if_false, Bool.true_eq_false, Bool.false_eq_true, e0, zn', z5', z00, ob_424, ob_392, ob_4, r_424_7, pa, r0, r_4_0, r_4_1, r_4_2, in_5, in_6, in_7, ck, u1, u2, u3, e2', w4, cp, nI_1]
      · by_cases ek : b = k
        · subst ek; exact gI_e
        · rw [gI_j (by unfold pix; omega), f2.I (by unfold XPr; omega)]
          exact p1 b (by omega) hq
    · refine ⟨M1, fun d Q => ?_, fun b hb hq => ?_, f1⟩
      · rw [e1, sX5_setPrices_20]
        by_cases qn : n = 0
        · have qk : ¬ k = 5 := fun z => q ⟨fun _ => z, fun _ => qn⟩
          have zn' := zn.trans (eq_true qn)
          have z5' := z5.trans (eq_false qk)
          simp (disch := (first | assumption | omega | decide)) only [sX5_setPrices_0, sX5_setPrices_1, sX5_setPrices_2, sX5_setPrices_5, sX5_setPrices_9, sX5_setPrices_10, sX5_setPrices_11, sX5_setPrices_14, sX5_setPrices_17, sX5_setPrices_18, sX5_setPrices_22, sX5_setPrices_24, sX5_setPrices_27, sX5_setPrices_29, sX5_setPrices_32, sX5_setPrices_33, sX5_setPrices_36, sX5_setPrices_37, sX5_setPrices_39, sX5_setPrices_40, sX5_setPrices_43, sX5_setPrices_44, sX5_setPrices_47, sX5_setPrices_48, sX5_setPrices_51, sX5_setPrices_52, sX5_setPrices_55, sX5_setPrices_56, sX5_setPrices_58, sX5_setPrices_60, sX5_setPrices_63, sX5_setPrices_64, sX5_setPrices_65, sX5_setPrices_68, sX5_setPrices_71, sX5_setPrices_72, sX5_setPrices_73, sX5_setPrices_74, sX5_setPrices_77, sX5_setPrices_80, sX5_setPrices_81, sX5_setPrices_82, sX5_setPrices_83, sX5_setPrices_86, sX5_setPrices_89, sX5_setPrices_90, sX5_setPrices_91, sX5_setPrices_93, sX5_setPrices_95, sX5_setPrices_96, sX5_setPrices_99, sX5_setPrices_100, sX5_setPrices_103, sX5_setPrices_106, sX5_setPrices_109, sX5_setPrices_112, kI_i, kL_l, kV_v, am_rv_s, am_kl_i, am_kl_r, am_kl_n, am_kl_l, true_and, and_true, and_self, true_or, or_true, implies_true, forall_const, not_true_eq_false, not_false_eq_true, false_implies, true_implies, if_true, if_false, Bool.true_eq_false, Bool.false_eq_true, e0, zn', z5', i01, nI_1]
        · have qk : k = 5 := by
            by_cases z : k = 5
            · exact z
            · exact absurd ⟨fun w => absurd w qn, fun w => absurd w z⟩ q
          have zn' := zn.trans (eq_false qn)
          have z5' := z5.trans (eq_true qk)
          simp (disch := (first | assumption | omega | decide)) only [sX5_setPrices_0, sX5_setPrices_1, sX5_setPrices_2, sX5_setPrices_5, sX5_setPrices_9, sX5_setPrices_10, sX5_setPrices_11, sX5_setPrices_14, sX5_setPrices_17, sX5_setPrices_18, sX5_setPrices_22, sX5_setPrices_24, sX5_setPrices_27, sX5_setPrices_29, sX5_setPrices_32, sX5_setPrices_33, sX5_setPrices_36, sX5_setPrices_37, sX5_setPrices_39, sX5_setPrices_40, sX5_setPrices_43, sX5_setPrices_44, sX5_setPrices_47, sX5_setPrices_48, sX5_setPrices_51, sX5_setPrices_52, sX5_setPrices_55, sX5_setPrices_56, sX5_setPrices_58, sX5_setPrices_60, sX5_setPrices_63, sX5_setPrices_64, sX5_setPrices_65, sX5_setPrices_68, sX5_setPrices_71, sX5_setPrices_72, sX5_setPrices_73, sX5_setPrices_74, sX5_setPrices_77, sX5_setPrices_80, sX5_setPrices_81, sX5_setPrices_82, sX5_setPrices_83, sX5_setPrices_86, sX5_setPrices_89, sX5_setPrices_90, sX5_setPrices_91, sX5_setPrices_93, sX5_setPrices_95, sX5_setPrices_96, sX5_setPrices_99, sX5_setPrices_100, sX5_setPrices_103, sX5_setPrices_106, sX5_setPrices_109, sX5_setPrices_112, kI_i, kL_l, kV_v, am_rv_s, am_kl_i, am_kl_r, am_kl_n, am_kl_l, true_and, and_true, and_self, true_or, or_true, implies_true, forall_const, not_true_eq_false, not_false_eq_true, false_implies, true_implies, if_true, if_false, Bool.true_eq_false, Bool.false_eq_true, e0, zn', z5', i10, nI_1]
      · by_cases ek : b = k
        · subst ek; exact absurd hq q
        · exact p1 b (by omega) hq
/-- what the deeds below k cost at the places that they can have -/
def PT (M : am_M) (LL : List (List Nat)) (h : Int32) (S : Sg) (t : Nat) : Prop := ∀ n b, pcN 12 (bl S.1 t) ≤ n → n + pcN 12 (ab S.1 S.1.length t) + 1 ≤ S.1.length → b < 6 → (n = 0 ↔ b = 5) → gI M 434 (pix t n b) = lpr LL h S t n (nI b)
theorem cp_out {t : Nat} (g : OrC N LL h S) (ht : S.2.2.2.1 ≤ 9999) (hw : WFl S.1) (hl : S.1.length ≤ 12) (hk : t < S.1.length) : ∀ j, pcN 12 (bl S.1 t) + j + pcN 12 (ab S.1 S.1.length t) ≤ S.1.length → ∀ l5 : Option Value, ∃ M' l5', (∀ d (Q : am_Q), ok (d + 4) mX5_setPrices 488 Q 488 0 0 7 [some (.ref 424), some (.ref 392), some (.int (nI t)), some (.int (nI S.2.2.2.1)), some (.int (nI (pcN 12 (bl S.1 t)))), l5] [] N = ok (d + 4) mX5_setPrices 488 Q 488 0 0 7 [some (.ref 424), some (.ref 392), some (.int (nI t)), some (.int (nI S.2.2.2.1)), some (.int (nI (pcN 12 (bl S.1 t) + j))), l5'] [] M') ∧ (∀ n b, pcN 12 (bl S.1 t) ≤ n → n < pcN 12 (bl S.1 t) + j → b < 6 → (n = 0 ↔ b = 5) → gI M' 434 (pix t n b) = lpr LL h S t n (nI b)) ∧ Fw (XPt t) N M' := by
  intro j
  induction j with
  | zero => exact fun _ l5 => ⟨N, l5, fun d Q => rfl, fun n b h1 h2 => by omega, Fw.rf⟩
  | succ j ih =>
    intro hj l5
    obtain ⟨M1, l5', e1, p1, f1⟩ := ih (by omega) l5
    have g1 := OrC_F (f1.mo (fun c j z => by unfold XPt XPr at z; unfold XTb XPr; omega)) g
    obtain ⟨M2, e2, p2, f2⟩ := cp_in (n := pcN 12 (bl S.1 t) + j) g1 ht hw hl hk (by omega) 6 (by omega)
    have la := fun d (Q : am_Q) => c_lateN (d := d) (Q := Q) g1 hl hk
    have e0 : (nI (S.1.length - 1 - pcN 12 (ab S.1 S.1.length t)) < nI (pcN 12 (bl S.1 t) + j)) = False := by rw [nI_ltE (by omega) (by omega)]; exact eq_false (by omega)
    have e6 : ((6 : Int32) ≤ nI 6) = True := eq_true (by decide)
    refine ⟨M2, some (.int (nI 6)), fun d Q => ?_, fun n b h1 h2 hb hq => ?_, f1.tr (f2.mo (fun c j z => by unfold XPn XPr at z; unfold XPt XPr; omega))⟩
    · rw [e1, sX5_setPrices_7]
      simp (disch := (first | assumption | omega | decide)) only [sX5_setPrices_0, sX5_setPrices_1, sX5_setPrices_2, sX5_setPrices_5, sX5_setPrices_9, sX5_setPrices_10, sX5_setPrices_11, sX5_setPrices_14, sX5_setPrices_17, sX5_setPrices_18, sX5_setPrices_22, sX5_setPrices_24, sX5_setPrices_27, sX5_setPrices_29, sX5_setPrices_32, sX5_setPrices_33, sX5_setPrices_36, sX5_setPrices_37, sX5_setPrices_39, sX5_setPrices_40, sX5_setPrices_43, sX5_setPrices_44, sX5_setPrices_47, sX5_setPrices_48, sX5_setPrices_51, sX5_setPrices_52, sX5_setPrices_55, sX5_setPrices_56, sX5_setPrices_58, sX5_setPrices_60, sX5_setPrices_63, sX5_setPrices_64, sX5_setPrices_65, sX5_setPrices_68, sX5_setPrices_71, sX5_setPrices_72, sX5_setPrices_73, sX5_setPrices_74, sX5_setPrices_77, sX5_setPrices_80, sX5_setPrices_81, sX5_setPrices_82, sX5_setPrices_83, sX5_setPrices_86, sX5_setPrices_89, sX5_setPrices_90, sX5_setPrices_91, sX5_setPrices_93, sX5_setPrices_95, sX5_setPrices_96, sX5_setPrices_99, sX5_setPrices_100, sX5_setPrices_103, sX5_setPrices_106, sX5_setPrices_109, sX5_setPrices_112, kI_i, kL_l, kV_v, am_rv_s, am_kl_i, am_kl_r, am_kl_n, am_kl_l, true_and, and_true, and_self, true_or, or_true, implies_true, forall_const, not_true_eq_false, not_false_eq_true, false_implies, true_implies, if_true, if_false, Bool.true_eq_false, Bool.false_eq_true, ob_424, la, e0, e2]
      rw [sX5_setPrices_20]
      simp (disch := (first | assumption | omega | decide)) only [sX5_setPrices_0, sX5_setPrices_1, sX5_setPrices_2, sX5_setPrices_5, sX5_setPrices_9, sX5_setPrices_10, sX5_setPrices_11, sX5_setPrices_14, sX5_setPrices_17, sX5_setPrices_18, sX5_setPrices_22, sX5_setPrices_24, sX5_setPrices_27, sX5_setPrices_29, sX5_setPrices_32, sX5_setPrices_33, sX5_setPrices_36, sX5_setPrices_37, sX5_setPrices_39, sX5_setPrices_40, sX5_setPrices_43, sX5_setPrices_44, sX5_setPrices_47, sX5_setPrices_48, sX5_setPrices_51, sX5_setPrices_52, sX5_setPrices_55, sX5_setPrices_56, sX5_setPrices_58, sX5_setPrices_60, sX5_setPrices_63, sX5_setPrices_64, sX5_setPrices_65, sX5_setPrices_68, sX5_setPrices_71, sX5_setPrices_72, sX5_setPrices_73, sX5_setPrices_74, sX5_setPrices_77, sX5_setPrices_80, sX5_setPrices_81, sX5_setPrices_82, sX5_setPrices_83, sX5_setPrices_86, sX5_setPrices_89, sX5_setPrices_90, sX5_setPrices_91, sX5_setPrices_93, sX5_setPrices_95, sX5_setPrices_96, sX5_setPrices_99, sX5_setPrices_100, sX5_setPrices_103, sX5_setPrices_106, sX5_setPrices_109, sX5_setPrices_112, kI_i, kL_l, kV_v, am_rv_s, am_kl_i, am_kl_r, am_kl_n, am_kl_l, true_and, and_true, and_self, true_or, or_true, implies_true, forall_const, not_true_eq_false, not_false_eq_true, false_implies, true_implies, if_true, if_false, Bool.true_eq_false, Bool.false_eq_true, e6, nI_1]
      rfl
    · by_cases en : n = pcN 12 (bl S.1 t) + j
      · subst en; exact p2 b hb hq
      · rw [f2.I (by unfold XPn XPr pix; omega)]
        exact p1 n b h1 (by omega) hb hq
theorem c_setPrices {t : Nat} (g : OrC N LL h S) (ht : S.2.2.2.1 ≤ 9999) (hw : WFl S.1) (hl : S.1.length ≤ 12) (hk : t < S.1.length) : ∃ M', (∀ d (Q : am_Q), am_big (d + 5) mX5_setPrices [.ref 424, .ref 392, .int (nI t), .int (nI S.2.2.2.1)] 488 N Q = Q none M') ∧ PT M' LL h S t ∧ Fw (XPt t) N M' := by
  have pa := ab_pc (l := S.1) hl hk
  have pb := pcN_le (bl S.1 t) 12
  have ea := fun d (Q : am_Q) => c_earlyN (d := d) (Q := Q) g hl hk
  by_cases z : pcN 12 (bl S.1 t) + pcN 12 (ab S.1 S.1.length t) ≤ S.1.length
  · obtain ⟨M', l5', e1, p1, f1⟩ := cp_out g ht hw hl hk (S.1.length - pcN 12 (bl S.1 t) - pcN 12 (ab S.1 S.1.length t)) (by omega) none
    have g1 := OrC_F (f1.mo (fun c j z => by unfold XPt XPr at z; unfold XTb XPr; omega)) g
    have la := fun d (Q : am_Q) => c_lateN (d := d) (Q := Q) g1 hl hk
    have e0 : (nI (S.1.length - 1 - pcN 12 (ab S.1 S.1.length t)) < nI (pcN 12 (bl S.1 t) + (S.1.length - pcN 12 (bl S.1 t) - pcN 12 (ab S.1 S.1.length t)))) = True := by rw [nI_ltE (by omega) (by omega)]; exact eq_true (by omega)
    refine ⟨M', fun d Q => ?_, fun n b h1 h2 hb hq => p1 n b h1 (by omega) hb hq, f1⟩
    rw [eX5_setPrices]
    simp (disch := (first | assumption | omega | decide)) only [sX5_setPrices_0, sX5_setPrices_1, sX5_setPrices_2, sX5_setPrices_5, sX5_setPrices_9, sX5_setPrices_10, sX5_setPrices_11, sX5_setPrices_14, sX5_setPrices_17, sX5_setPrices_18, sX5_setPrices_22, sX5_setPrices_24, sX5_setPrices_27, sX5_setPrices_29, sX5_setPrices_32, sX5_setPrices_33, sX5_setPrices_36, sX5_setPrices_37, sX5_setPrices_39, sX5_setPrices_40, sX5_setPrices_43, sX5_setPrices_44, sX5_setPrices_47, sX5_setPrices_48, sX5_setPrices_51, sX5_setPrices_52, sX5_setPrices_55, sX5_setPrices_56, sX5_setPrices_58, sX5_setPrices_60, sX5_setPrices_63, sX5_setPrices_64, sX5_setPrices_65, sX5_setPrices_68, sX5_setPrices_71, sX5_setPrices_72, sX5_setPrices_73, sX5_setPrices_74, sX5_setPrices_77, sX5_setPrices_80, sX5_setPrices_81, sX5_setPrices_82, sX5_setPrices_83, sX5_setPrices_86, sX5_setPrices_89, sX5_setPrices_90, sX5_setPrices_91, sX5_setPrices_93, sX5_setPrices_95, sX5_setPrices_96, sX5_setPrices_99, sX5_setPrices_100, sX5_setPrices_103, sX5_setPrices_106, sX5_setPrices_109, sX5_setPrices_112, kI_i, kL_l, kV_v, am_rv_s, am_kl_i, am_kl_r, am_kl_n, am_kl_l, true_and, and_true, and_self, true_or, or_true, implies_true, forall_const, not_true_eq_false, not_false_eq_true, false_implies, true_implies, if_true, if_false, Bool.true_eq_false, Bool.false_eq_true, ob_424, ea, e1]
    rw [sX5_setPrices_7]
    simp (disch := (first | assumption | omega | decide)) only [sX5_setPrices_0, sX5_setPrices_1, sX5_setPrices_2, sX5_setPrices_5, sX5_setPrices_9, sX5_setPrices_10, sX5_setPrices_11, sX5_setPrices_14, sX5_setPrices_17, sX5_setPrices_18, sX5_setPrices_22, sX5_setPrices_24, sX5_setPrices_27, sX5_setPrices_29, sX5_setPrices_32, sX5_setPrices_33, sX5_setPrices_36, sX5_setPrices_37, sX5_setPrices_39, sX5_setPrices_40, sX5_setPrices_43, sX5_setPrices_44, sX5_setPrices_47, sX5_setPrices_48, sX5_setPrices_51, sX5_setPrices_52, sX5_setPrices_55, sX5_setPrices_56, sX5_setPrices_58, sX5_setPrices_60, sX5_setPrices_63, sX5_setPrices_64, sX5_setPrices_65, sX5_setPrices_68, sX5_setPrices_71, sX5_setPrices_72, sX5_setPrices_73, sX5_setPrices_74, sX5_setPrices_77, sX5_setPrices_80, sX5_setPrices_81, sX5_setPrices_82, sX5_setPrices_83, sX5_setPrices_86, sX5_setPrices_89, sX5_setPrices_90, sX5_setPrices_91, sX5_setPrices_93, sX5_setPrices_95, sX5_setPrices_96, sX5_setPrices_99, sX5_setPrices_100, sX5_setPrices_103, sX5_setPrices_106, sX5_setPrices_109, sX5_setPrices_112, kI_i, kL_l, kV_v, am_rv_s, am_kl_i, am_kl_r, am_kl_n, am_kl_l, true_and, and_true, and_self, true_or, or_true, implies_true, forall_const, not_true_eq_false, not_false_eq_true, false_implies, true_implies, if_true, if_false, Bool.true_eq_false, Bool.false_eq_true, ob_424, la, e0]
  · have la := fun d (Q : am_Q) => c_lateN (d := d) (Q := Q) g hl hk
    have e0 : (nI (S.1.length - 1 - pcN 12 (ab S.1 S.1.length t)) < nI (pcN 12 (bl S.1 t))) = True := by rw [nI_ltE (by omega) (by omega)]; exact eq_true (by omega)
    refine ⟨N, fun d Q => ?_, fun n b h1 h2 => by omega, Fw.rf⟩
    rw [eX5_setPrices]
    simp (disch := (first | assumption | omega | decide)) only [sX5_setPrices_0, sX5_setPrices_1, sX5_setPrices_2, sX5_setPrices_5, sX5_setPrices_9, sX5_setPrices_10, sX5_setPrices_11, sX5_setPrices_14, sX5_setPrices_17, sX5_setPrices_18, sX5_setPrices_22, sX5_setPrices_24, sX5_setPrices_27, sX5_setPrices_29, sX5_setPrices_32, sX5_setPrices_33, sX5_setPrices_36, sX5_setPrices_37, sX5_setPrices_39, sX5_setPrices_40, sX5_setPrices_43, sX5_setPrices_44, sX5_setPrices_47, sX5_setPrices_48, sX5_setPrices_51, sX5_setPrices_52, sX5_setPrices_55, sX5_setPrices_56, sX5_setPrices_58, sX5_setPrices_60, sX5_setPrices_63, sX5_setPrices_64, sX5_setPrices_65, sX5_setPrices_68, sX5_setPrices_71, sX5_setPrices_72, sX5_setPrices_73, sX5_setPrices_74, sX5_setPrices_77, sX5_setPrices_80, sX5_setPrices_81, sX5_setPrices_82, sX5_setPrices_83, sX5_setPrices_86, sX5_setPrices_89, sX5_setPrices_90, sX5_setPrices_91, sX5_setPrices_93, sX5_setPrices_95, sX5_setPrices_96, sX5_setPrices_99, sX5_setPrices_100, sX5_setPrices_103, sX5_setPrices_106, sX5_setPrices_109, sX5_setPrices_112, kI_i, kL_l, kV_v, am_rv_s, am_kl_i, am_kl_r, am_kl_n, am_kl_l, true_and, and_true, and_self, true_or, or_true, implies_true, forall_const, not_true_eq_false, not_false_eq_true, false_implies, true_implies, if_true, if_false, Bool.true_eq_false, Bool.false_eq_true, ob_424, ea]
    rw [sX5_setPrices_7]
    simp (disch := (first | assumption | omega | decide)) only [sX5_setPrices_0, sX5_setPrices_1, sX5_setPrices_2, sX5_setPrices_5, sX5_setPrices_9, sX5_setPrices_10, sX5_setPrices_11, sX5_setPrices_14, sX5_setPrices_17, sX5_setPrices_18, sX5_setPrices_22, sX5_setPrices_24, sX5_setPrices_27, sX5_setPrices_29, sX5_setPrices_32, sX5_setPrices_33, sX5_setPrices_36, sX5_setPrices_37, sX5_setPrices_39, sX5_setPrices_40, sX5_setPrices_43, sX5_setPrices_44, sX5_setPrices_47, sX5_setPrices_48, sX5_setPrices_51, sX5_setPrices_52, sX5_setPrices_55, sX5_setPrices_56, sX5_setPrices_58, sX5_setPrices_60, sX5_setPrices_63, sX5_setPrices_64, sX5_setPrices_65, sX5_setPrices_68, sX5_setPrices_71, sX5_setPrices_72, sX5_setPrices_73, sX5_setPrices_74, sX5_setPrices_77, sX5_setPrices_80, sX5_setPrices_81, sX5_setPrices_82, sX5_setPrices_83, sX5_setPrices_86, sX5_setPrices_89, sX5_setPrices_90, sX5_setPrices_91, sX5_setPrices_93, sX5_setPrices_95, sX5_setPrices_96, sX5_setPrices_99, sX5_setPrices_100, sX5_setPrices_103, sX5_setPrices_106, sX5_setPrices_109, sX5_setPrices_112, kI_i, kL_l, kV_v, am_rv_s, am_kl_i, am_kl_r, am_kl_n, am_kl_l, true_and, and_true, and_self, true_or, or_true, implies_true, forall_const, not_true_eq_false, not_false_eq_true, false_implies, true_implies, if_true, if_false, Bool.true_eq_false, Bool.false_eq_true, ob_424, la, e0]
end
