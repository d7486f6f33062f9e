section
variable {M : am_M} {len p0 K : Nat}
theorem io_MD {s : Int32} : isMD s = decide (s = 42 ∨ s = 47) := by unfold isMD; by_cases h1 : s = 42 <;> by_cases h2 : s = 47 <;> simp [h1, h2]
theorem io_PM {s : Int32} : isPM s = decide (s = 43 ∨ s = 45) := by unfold isPM; by_cases h1 : s = 43 <;> by_cases h2 : s = 45 <;> simp [h1, h2]
theorem l_readTerm {dep : Int32} {A : Nat → PR} {l : List Int32} {d : Nat} {Q : am_Q} (hW : WR M) (h : TP M len p0) (hA : gd len A) (hP : PSK M len K mX4_readAtom [.int dep] A) (hK : K ≤ d) (hd : 2 ≤ d) : ∀ (j p : Nat) (c : List Int32), j ≤ 240 → 0 < p → p ≤ len → len - p < j → l.length + c.length ≤ p → ok d mX4_readTerm 488 Q 488 0 0 19 [some (.ref 407), some (.ref 1), some (.int dep), some (.int (sg (gI M 2) len (skp (gI M 2) len p))), some (.int (nI (240 - j)))] [] (PS M (skp (gI M 2) len p) (l ++ c)) = Q (some (.int (bz (opL (gI M 2) len isMD A j p c).1))) (PS M (opL (gI M 2) len isMD A j p c).2.1 (l ++ (opL (gI M 2) len isMD A j p c).2.2)) := by
  have hlen := h.2.2.2.1
  intro j
  induction j with
  | zero => intro p c _ _ _ hj; omega
  | succ j ih =>
    intro p c hj hp0 hp hjp hl
    have hs := skp_le' (T := gI M 2) hp
    have hg := skp_ge (T := gI M 2) (len := len) (p := p)
    obtain ⟨d', rfl⟩ : ∃ d', d = d' + 2 := ⟨d - 2, by omega⟩
    have e0 : ((240 : Int32) ≤ nI (240 - (j + 1))) = False := by rw [show (240 : Int32) = nI 240 from rfl, nI_leE (by omega) (by omega)]; exact eq_false (by omega)
    have en : 240 - (j + 1) + 1 = 240 - j := by omega
    rw [sX4_readTerm_19]
    unfold opL
    cases c1 : isMD (sg (gI M 2) len (skp (gI M 2) len p)) with
    | false =>
      have c1' : ¬ sg (gI M 2) len (skp (gI M 2) len p) = 42 ∧ ¬ sg (gI M 2) len (skp (gI M 2) len p) = 47 := by
        unfold isMD at c1
        simpa using c1
      simp (disch := (first | assumption | omega | decide)) only [sX4_readTerm_0, sX4_readTerm_1, sX4_readTerm_2, sX4_readTerm_3, sX4_readTerm_6, sX4_readTerm_9, sX4_readTerm_10, sX4_readTerm_11, sX4_readTerm_12, sX4_readTerm_15, sX4_readTerm_16, sX4_readTerm_17, sX4_readTerm_21, sX4_readTerm_24, sX4_readTerm_27, sX4_readTerm_28, sX4_readTerm_30, sX4_readTerm_33, sX4_readTerm_34, sX4_readTerm_36, sX4_readTerm_39, sX4_readTerm_40, sX4_readTerm_41, sX4_readTerm_44, sX4_readTerm_45, sX4_readTerm_46, sX4_readTerm_49, sX4_readTerm_50, sX4_readTerm_51, sX4_readTerm_52, sX4_readTerm_55, sX4_readTerm_58, sX4_readTerm_59, sX4_readTerm_60, sX4_readTerm_61, sX4_readTerm_64, sX4_readTerm_65, sX4_readTerm_68, sX4_readTerm_69, sX4_readTerm_72, sX4_readTerm_73, sX4_readTerm_76, sX4_readTerm_79, sX4_readTerm_80, kI_i, kL_l, kV_v, am_rv_s, am_kl_i, am_kl_r, am_kl_n, am_kl_l, true_and, and_true, and_self, true_or, or_true, implies_true, forall_const, not_true_eq_false, not_false_eq_true, false_implies, true_implies, if_true, if_false, Bool.true_eq_false, Bool.false_eq_true, e0, c1'.1, c1'.2, bz_t]
    | true =>
      have hlt := sg_ne (by decide) c1
      have hq := hA (skp (gI M 2) len p + 1) (by omega)
      have cs : ∀ (Q : am_Q), am_big (d' + 2) mX4_readAtom [.ref 407, .ref 1, .int dep] 488 (PS M (skp (gI M 2) len p + 1) (l ++ c)) Q = _ := fun Q => hP (d' + 2) (by omega) Q (skp (gI M 2) len p + 1) (l ++ c) (by omega) (by omega) (by simp only [List.length_append]; omega)
      have c1' : (sg (gI M 2) len (skp (gI M 2) len p) = 42 ∨ sg (gI M 2) len (skp (gI M 2) len p) = 47) := by
        unfold isMD at c1
        simpa using c1
      generalize hr : A (skp (gI M 2) len p + 1) = r at cs hq
      obtain ⟨ok1, q1, cc⟩ := r
      simp only at cs hq
      generalize hsg : sg (gI M 2) len (skp (gI M 2) len p) = s0 at c1 c1'
      have step : ∀ (Q : am_Q), ok (d' + 2) mX4_readTerm 488 Q 488 0 0 39 [some (.ref 407), some (.ref 1), some (.int dep), some (.int s0), some (.int (nI (240 - (j + 1))))] [] (PS M (skp (gI M 2) len p) (l ++ c)) = (if ok1 = true then ok (d' + 2) mX4_readTerm 488 Q 488 0 0 19 [some (.ref 407), some (.ref 1), some (.int dep), some (.int (sg (gI M 2) len (skp (gI M 2) len q1))), some (.int (nI (240 - j)))] [] (PS M (skp (gI M 2) len q1) (l ++ (c ++ cc ++ [20000 + s0]))) else Q (some (.int 0)) (PS M q1 (l ++ (c ++ cc)))) := fun Q => by
        have ca : ∀ (Q : am_Q), am_big (d' + 2) mX2_addSign [.ref 408, .int s0] 488 (PS M q1 (l ++ c ++ cc)) Q = _ := fun Q => c_addSign hW (by simp only [List.length_append]; omega)
        cases ok1 with
        | false => simp (disch := (first | assumption | omega | decide)) only [sX4_readTerm_0, sX4_readTerm_1, sX4_readTerm_2, sX4_readTerm_3, sX4_readTerm_6, sX4_readTerm_9, sX4_readTerm_10, sX4_readTerm_11, sX4_readTerm_12, sX4_readTerm_15, sX4_readTerm_16, sX4_readTerm_17, sX4_readTerm_21, sX4_readTerm_24, sX4_readTerm_27, sX4_readTerm_28, sX4_readTerm_30, sX4_readTerm_33, sX4_readTerm_34, sX4_readTerm_36, sX4_readTerm_39, sX4_readTerm_40, sX4_readTerm_41, sX4_readTerm_44, sX4_readTerm_45, sX4_readTerm_46, sX4_readTerm_49, sX4_readTerm_50, sX4_readTerm_51, sX4_readTerm_52, sX4_readTerm_55, sX4_readTerm_58, sX4_readTerm_59, sX4_readTerm_60, sX4_readTerm_61, sX4_readTerm_64, sX4_readTerm_65, sX4_readTerm_68, sX4_readTerm_69, sX4_readTerm_72, sX4_readTerm_73, sX4_readTerm_76, sX4_readTerm_79, sX4_readTerm_80, kI_i, kL_l, kV_v, am_rv_s, am_kl_i, am_kl_r, am_kl_n, am_kl_l, true_and, and_true, and_self, true_or, or_true, implies_true, forall_const, not_true_eq_false, not_false_eq_true, false_implies, true_implies, if_true, if_false, Bool.true_eq_false, Bool.false_eq_true, ob_407, ob_1, gI_PSp, nI_1, PS_at, cs, bz_f, List.append_assoc]
        | true =>
          simp (disch := (first | assumption | omega | decide)) only [sX4_readTerm_0, sX4_readTerm_1, sX4_readTerm_2, sX4_readTerm_3, sX4_readTerm_6, sX4_readTerm_9, sX4_readTerm_10, sX4_readTerm_11, sX4_readTerm_12, sX4_readTerm_15, sX4_readTerm_16, sX4_readTerm_17, sX4_readTerm_21, sX4_readTerm_24, sX4_readTerm_27, sX4_readTerm_28, sX4_readTerm_30, sX4_readTerm_33, sX4_readTerm_34, sX4_readTerm_36, sX4_readTerm_39, sX4_readTerm_40, sX4_readTerm_41, sX4_readTerm_44, sX4_readTerm_45, sX4_readTerm_46, sX4_readTerm_49, sX4_readTerm_50, sX4_readTerm_51, sX4_readTerm_52, sX4_readTerm_55, sX4_readTerm_58, sX4_readTerm_59, sX4_readTerm_60, sX4_readTerm_61, sX4_readTerm_64, sX4_readTerm_65, sX4_readTerm_68, sX4_readTerm_69, sX4_readTerm_72, sX4_readTerm_73, sX4_readTerm_76, sX4_readTerm_79, sX4_readTerm_80, kI_i, kL_l, kV_v, am_rv_s, am_kl_i, am_kl_r, am_kl_n, am_kl_l, true_and, and_true, and_self, true_or, or_true, implies_true, forall_const, not_true_eq_false, not_false_eq_true, false_implies, true_implies, if_true, if_false, Bool.true_eq_false, Bool.false_eq_true, ob_407, ob_1, gI_PSp, nI_1, PS_at, cs, bz_t, i01, gR_PS, r_407_0, ob_408, ca, PS_peek h, en]
          simp only [List.append_assoc]
      have go : ok (d' + 2) mX4_readTerm 488 Q 488 0 0 21 [some (.ref 407), some (.ref 1), some (.int dep), some (.int s0), some (.int (nI (240 - (j + 1))))] [.int (nI (240 - (j + 1)))] (PS M (skp (gI M 2) len p) (l ++ c)) = ok (d' + 2) mX4_readTerm 488 Q 488 0 0 39 [some (.ref 407), some (.ref 1), some (.int dep), some (.int s0), some (.int (nI (240 - (j + 1))))] [] (PS M (skp (gI M 2) len p) (l ++ c)) := by
        rcases c1' with rfl | rfl
        · simp (disch := (first | assumption | omega | decide)) only [sX4_readTerm_0, sX4_readTerm_1, sX4_readTerm_2, sX4_readTerm_3, sX4_readTerm_6, sX4_readTerm_9, sX4_readTerm_10, sX4_readTerm_11, sX4_readTerm_12, sX4_readTerm_15, sX4_readTerm_16, sX4_readTerm_17, sX4_readTerm_21, sX4_readTerm_24, sX4_readTerm_27, sX4_readTerm_28, sX4_readTerm_30, sX4_readTerm_33, sX4_readTerm_34, sX4_readTerm_36, sX4_readTerm_40, sX4_readTerm_41, sX4_readTerm_44, sX4_readTerm_45, sX4_readTerm_46, sX4_readTerm_49, sX4_readTerm_50, sX4_readTerm_51, sX4_readTerm_52, sX4_readTerm_55, sX4_readTerm_58, sX4_readTerm_59, sX4_readTerm_60, sX4_readTerm_61, sX4_readTerm_64, sX4_readTerm_65, sX4_readTerm_68, sX4_readTerm_69, sX4_readTerm_72, sX4_readTerm_73, sX4_readTerm_76, sX4_readTerm_79, sX4_readTerm_80, kI_i, kL_l, kV_v, am_rv_s, am_kl_i, am_kl_r, am_kl_n, am_kl_l, true_and, and_true, and_self, true_or, or_true, implies_true, forall_const, not_true_eq_false, not_false_eq_true, false_implies, true_implies, if_true, if_false, Bool.true_eq_false, Bool.false_eq_true, e0]
        · have n0 : ((47 : Int32) = 42) = False := eq_false (by decide)
          simp (disch := (first | assumption | omega | decide)) only [sX4_readTerm_0, sX4_readTerm_1, sX4_readTerm_2, sX4_readTerm_3, sX4_readTerm_6, sX4_readTerm_9, sX4_readTerm_10, sX4_readTerm_11, sX4_readTerm_12, sX4_readTerm_15, sX4_readTerm_16, sX4_readTerm_17, sX4_readTerm_21, sX4_readTerm_24, sX4_readTerm_27, sX4_readTerm_28, sX4_readTerm_30, sX4_readTerm_33, sX4_readTerm_34, sX4_readTerm_36, sX4_readTerm_40, sX4_readTerm_41, sX4_readTerm_44, sX4_readTerm_45, sX4_readTerm_46, sX4_readTerm_49, sX4_readTerm_50, sX4_readTerm_51, sX4_readTerm_52, sX4_readTerm_55, sX4_readTerm_58, sX4_readTerm_59, sX4_readTerm_60, sX4_readTerm_61, sX4_readTerm_64, sX4_readTerm_65, sX4_readTerm_68, sX4_readTerm_69, sX4_readTerm_72, sX4_readTerm_73, sX4_readTerm_76, sX4_readTerm_79, sX4_readTerm_80, kI_i, kL_l, kV_v, am_rv_s, am_kl_i, am_kl_r, am_kl_n, am_kl_l, true_and, and_true, and_self, true_or, or_true, implies_true, forall_const, not_true_eq_false, not_false_eq_true, false_implies, true_implies, if_true, if_false, Bool.true_eq_false, Bool.false_eq_true, e0, n0]
      rw [go, step]
      cases ok1 with
      | false => simp only [kI_i, kL_l, kV_v, am_rv_s, am_kl_i, am_kl_r, am_kl_n, am_kl_l, true_and, and_true, and_self, true_or, or_true, implies_true, forall_const, not_true_eq_false, not_false_eq_true, false_implies, true_implies, if_true, if_false, Bool.true_eq_false, Bool.false_eq_true, bz_f]
      | true =>
        simp only [kI_i, kL_l, kV_v, am_rv_s, am_kl_i, am_kl_r, am_kl_n, am_kl_l, true_and, and_true, and_self, true_or, or_true, implies_true, forall_const, not_true_eq_false, not_false_eq_true, false_implies, true_implies, if_true, if_false, Bool.true_eq_false, Bool.false_eq_true]
        exact ih q1 (c ++ cc ++ [20000 + s0]) (by omega) (by omega) hq.2 (by omega) (by simp only [List.length_append, List.length_cons, List.length_nil]; omega)
theorem PSK_readTerm {dep : Int32} {A : Nat → PR} (hW : WR M) (h : TP M len p0) (hA : gd len A) (hP : PSK M len K mX4_readAtom [.int dep] A) (hK2 : 2 ≤ K) : PSK M len (K + 1) mX4_readTerm [.int dep] (seqQ (gI M 2) len A isMD A) := by
  intro D hD Q p l hp0 hp hl
  have hlen := h.2.2.2.1
  obtain ⟨d, rfl⟩ : ∃ d, D = d + 3 := ⟨D - 3, by omega⟩
  have cs : ∀ (Q : am_Q), am_big (d + 2) mX4_readAtom [.ref 407, .ref 1, .int dep] 488 (PS M p l) Q = _ := fun Q => hP (d + 2) (by omega) Q p l hp0 hp hl
  have hq := hA p hp
  show am_big (d + 2 + 1) mX4_readTerm [.ref 407, .ref 1, .int dep] 488 (PS M p l) Q = _
  rw [eX4_readTerm]
  unfold seqQ
  generalize hr : A p = r at cs hq
  obtain ⟨ok1, q1, cc⟩ := r
  simp only at cs hq
  cases ok1 with
  | false => simp (disch := (first | assumption | omega | decide)) only [sX4_readTerm_0, sX4_readTerm_1, sX4_readTerm_2, sX4_readTerm_3, sX4_readTerm_6, sX4_readTerm_9, sX4_readTerm_10, sX4_readTerm_11, sX4_readTerm_12, sX4_readTerm_15, sX4_readTerm_16, sX4_readTerm_17, sX4_readTerm_21, sX4_readTerm_24, sX4_readTerm_27, sX4_readTerm_28, sX4_readTerm_30, sX4_readTerm_33, sX4_readTerm_34, sX4_readTerm_36, sX4_readTerm_39, sX4_readTerm_40, sX4_readTerm_41, sX4_readTerm_44, sX4_readTerm_45, sX4_readTerm_46, sX4_readTerm_49, sX4_readTerm_50, sX4_readTerm_51, sX4_readTerm_52, sX4_readTerm_55, sX4_readTerm_58, sX4_readTerm_59, sX4_readTerm_60, sX4_readTerm_61, sX4_readTerm_64, sX4_readTerm_65, sX4_readTerm_68, sX4_readTerm_69, sX4_readTerm_72, sX4_readTerm_73, sX4_readTerm_76, sX4_readTerm_79, sX4_readTerm_80, kI_i, kL_l, kV_v, am_rv_s, am_kl_i, am_kl_r, am_kl_n, am_kl_l, true_and, and_true, and_self, true_or, or_true, implies_true, forall_const, not_true_eq_false, not_false_eq_true, false_implies, true_implies, if_true, if_false, Bool.true_eq_false, Bool.false_eq_true, ob_407, cs, bz_f]
  | true =>
    have ll := l_readTerm (l := l) (d := d + 2) (Q := Q) (dep := dep) hW h hA hP (by omega) (by omega) 240 q1 cc (by omega) (by omega) hq.2 (by omega) (by omega)
    simp (disch := (first | assumption | omega | decide)) only [sX4_readTerm_0, sX4_readTerm_1, sX4_readTerm_2, sX4_readTerm_3, sX4_readTerm_6, sX4_readTerm_9, sX4_readTerm_10, sX4_readTerm_11, sX4_readTerm_12, sX4_readTerm_15, sX4_readTerm_16, sX4_readTerm_17, sX4_readTerm_21, sX4_readTerm_24, sX4_readTerm_27, sX4_readTerm_28, sX4_readTerm_30, sX4_readTerm_33, sX4_readTerm_34, sX4_readTerm_36, sX4_readTerm_39, sX4_readTerm_40, sX4_readTerm_41, sX4_readTerm_44, sX4_readTerm_45, sX4_readTerm_46, sX4_readTerm_49, sX4_readTerm_50, sX4_readTerm_51, sX4_readTerm_52, sX4_readTerm_55, sX4_readTerm_58, sX4_readTerm_59, sX4_readTerm_60, sX4_readTerm_61, sX4_readTerm_64, sX4_readTerm_65, sX4_readTerm_68, sX4_readTerm_69, sX4_readTerm_72, sX4_readTerm_73, sX4_readTerm_76, sX4_readTerm_79, sX4_readTerm_80, kI_i, kL_l, kV_v, am_rv_s, am_kl_i, am_kl_r, am_kl_n, am_kl_l, true_and, and_true, and_self, true_or, or_true, implies_true, forall_const, not_true_eq_false, not_false_eq_true, false_implies, true_implies, if_true, if_false, Bool.true_eq_false, Bool.false_eq_true, ob_407, ob_1, cs, bz_t, i01, PS_peek h]
    exact ll
theorem l_readSum {dep : Int32} {A : Nat → PR} {l : List Int32} {d : Nat} {Q : am_Q} (hW : WR M) (h : TP M len p0) (hA : gd len A) (hP : PSK M len K mX4_readTerm [.int dep] A) (hK : K ≤ d) (hd : 2 ≤ d) : ∀ (j p : Nat) (c : List Int32), j ≤ 240 → 0 < p → p ≤ len → len - p < j → l.length + c.length ≤ p → ok d mX4_readSum 488 Q 488 0 0 19 [some (.ref 407), some (.ref 1), some (.int dep), some (.int (sg (gI M 2) len (skp (gI M 2) len p))), some (.int (nI (240 - j)))] [] (PS M (skp (gI M 2) len p) (l ++ c)) = Q (some (.int (bz (opL (gI M 2) len isPM A j p c).1))) (PS M (opL (gI M 2) len isPM A j p c).2.1 (l ++ (opL (gI M 2) len isPM A j p c).2.2)) := by
  have hlen := h.2.2.2.1
  intro j
  induction j with
  | zero => intro p c _ _ _ hj; omega
  | succ j ih =>
    intro p c hj hp0 hp hjp hl
    have hs := skp_le' (T := gI M 2) hp
    have hg := skp_ge (T := gI M 2) (len := len) (p := p)
    obtain ⟨d', rfl⟩ : ∃ d', d = d' + 2 := ⟨d - 2, by omega⟩
    have e0 : ((240 : Int32) ≤ nI (240 - (j + 1))) = False := by rw [show (240 : Int32) = nI 240 from rfl, nI_leE (by omega) (by omega)]; exact eq_false (by omega)
    have en : 240 - (j + 1) + 1 = 240 - j := by omega
    rw [sX4_readSum_19]
    unfold opL
    cases c1 : isPM (sg (gI M 2) len (skp (gI M 2) len p)) with
    | false =>
      have c1' : ¬ sg (gI M 2) len (skp (gI M 2) len p) = 43 ∧ ¬ sg (gI M 2) len (skp (gI M 2) len p) = 45 := by
        unfold isPM at c1
        simpa using c1
      simp (disch := (first | assumption | omega | decide)) only [sX4_readSum_0, sX4_readSum_1, sX4_readSum_2, sX4_readSum_3, sX4_readSum_6, sX4_readSum_9, sX4_readSum_10, sX4_readSum_11, sX4_readSum_12, sX4_readSum_15, sX4_readSum_16, sX4_readSum_17, sX4_readSum_21, sX4_readSum_24, sX4_readSum_27, sX4_readSum_28, sX4_readSum_30, sX4_readSum_33, sX4_readSum_34, sX4_readSum_36, sX4_readSum_39, sX4_readSum_40, sX4_readSum_41, sX4_readSum_44, sX4_readSum_45, sX4_readSum_46, sX4_readSum_49, sX4_readSum_50, sX4_readSum_51, sX4_readSum_52, sX4_readSum_55, sX4_readSum_58, sX4_readSum_59, sX4_readSum_60, sX4_readSum_61, sX4_readSum_64, sX4_readSum_65, sX4_readSum_68, sX4_readSum_69, sX4_readSum_72, sX4_readSum_73, sX4_readSum_76, sX4_readSum_79, sX4_readSum_80, kI_i, kL_l, kV_v, am_rv_s, am_kl_i, am_kl_r, am_kl_n, am_kl_l, true_and, and_true, and_self, true_or, or_true, implies_true, forall_const, not_true_eq_false, not_false_eq_true, false_implies, true_implies, if_true, if_false, Bool.true_eq_false, Bool.false_eq_true, e0, c1'.1, c1'.2, bz_t]
    | true =>
      have hlt := sg_ne (by decide) c1
      have hq := hA (skp (gI M 2) len p + 1) (by omega)
      have cs : ∀ (Q : am_Q), am_big (d' + 2) mX4_readTerm [.ref 407, .ref 1, .int dep] 488 (PS M (skp (gI M 2) len p + 1) (l ++ c)) Q = _ := fun Q => hP (d' + 2) (by omega) Q (skp (gI M 2) len p + 1) (l ++ c) (by omega) (by omega) (by simp only [List.length_append]; omega)
      have c1' : (sg (gI M 2) len (skp (gI M 2) len p) = 43 ∨ sg (gI M 2) len (skp (gI M 2) len p) = 45) := by
        unfold isPM at c1
        simpa using c1
      generalize hr : A (skp (gI M 2) len p + 1) = r at cs hq
      obtain ⟨ok1, q1, cc⟩ := r
      simp only at cs hq
      generalize hsg : sg (gI M 2) len (skp (gI M 2) len p) = s0 at c1 c1'
      have step : ∀ (Q : am_Q), ok (d' + 2) mX4_readSum 488 Q 488 0 0 39 [some (.ref 407), some (.ref 1), some (.int dep), some (.int s0), some (.int (nI (240 - (j + 1))))] [] (PS M (skp (gI M 2) len p) (l ++ c)) = (if ok1 = true then ok (d' + 2) mX4_readSum 488 Q 488 0 0 19 [some (.ref 407), some (.ref 1), some (.int dep), some (.int (sg (gI M 2) len (skp (gI M 2) len q1))), some (.int (nI (240 - j)))] [] (PS M (skp (gI M 2) len q1) (l ++ (c ++ cc ++ [20000 + s0]))) else Q (some (.int 0)) (PS M q1 (l ++ (c ++ cc)))) := fun Q => by
        have ca : ∀ (Q : am_Q), am_big (d' + 2) mX2_addSign [.ref 408, .int s0] 488 (PS M q1 (l ++ c ++ cc)) Q = _ := fun Q => c_addSign hW (by simp only [List.length_append]; omega)
        cases ok1 with
        | false => simp (disch := (first | assumption | omega | decide)) only [sX4_readSum_0, sX4_readSum_1, sX4_readSum_2, sX4_readSum_3, sX4_readSum_6, sX4_readSum_9, sX4_readSum_10, sX4_readSum_11, sX4_readSum_12, sX4_readSum_15, sX4_readSum_16, sX4_readSum_17, sX4_readSum_21, sX4_readSum_24, sX4_readSum_27, sX4_readSum_28, sX4_readSum_30, sX4_readSum_33, sX4_readSum_34, sX4_readSum_36, sX4_readSum_39, sX4_readSum_40, sX4_readSum_41, sX4_readSum_44, sX4_readSum_45, sX4_readSum_46, sX4_readSum_49, sX4_readSum_50, sX4_readSum_51, sX4_readSum_52, sX4_readSum_55, sX4_readSum_58, sX4_readSum_59, sX4_readSum_60, sX4_readSum_61, sX4_readSum_64, sX4_readSum_65, sX4_readSum_68, sX4_readSum_69, sX4_readSum_72, sX4_readSum_73, sX4_readSum_76, sX4_readSum_79, sX4_readSum_80, kI_i, kL_l, kV_v, am_rv_s, am_kl_i, am_kl_r, am_kl_n, am_kl_l, true_and, and_true, and_self, true_or, or_true, implies_true, forall_const, not_true_eq_false, not_false_eq_true, false_implies, true_implies, if_true, if_false, Bool.true_eq_false, Bool.false_eq_true, ob_407, ob_1, gI_PSp, nI_1, PS_at, cs, bz_f, List.append_assoc]
        | true =>
          simp (disch := (first | assumption | omega | decide)) only [sX4_readSum_0, sX4_readSum_1, sX4_readSum_2, sX4_readSum_3, sX4_readSum_6, sX4_readSum_9, sX4_readSum_10, sX4_readSum_11, sX4_readSum_12, sX4_readSum_15, sX4_readSum_16, sX4_readSum_17, sX4_readSum_21, sX4_readSum_24, sX4_readSum_27, sX4_readSum_28, sX4_readSum_30, sX4_readSum_33, sX4_readSum_34, sX4_readSum_36, sX4_readSum_39, sX4_readSum_40, sX4_readSum_41, sX4_readSum_44, sX4_readSum_45, sX4_readSum_46, sX4_readSum_49, sX4_readSum_50, sX4_readSum_51, sX4_readSum_52, sX4_readSum_55, sX4_readSum_58, sX4_readSum_59, sX4_readSum_60, sX4_readSum_61, sX4_readSum_64, sX4_readSum_65, sX4_readSum_68, sX4_readSum_69, sX4_readSum_72, sX4_readSum_73, sX4_readSum_76, sX4_readSum_79, sX4_readSum_80, kI_i, kL_l, kV_v, am_rv_s, am_kl_i, am_kl_r, am_kl_n, am_kl_l, true_and, and_true, and_self, true_or, or_true, implies_true, forall_const, not_true_eq_false, not_false_eq_true, false_implies, true_implies, if_true, if_false, Bool.true_eq_false, Bool.false_eq_true, ob_407, ob_1, gI_PSp, nI_1, PS_at, cs, bz_t, i01, gR_PS, r_407_0, ob_408, ca, PS_peek h, en]
          simp only [List.append_assoc]
      have go : ok (d' + 2) mX4_readSum 488 Q 488 0 0 21 [some (.ref 407), some (.ref 1), some (.int dep), some (.int s0), some (.int (nI (240 - (j + 1))))] [.int (nI (240 - (j + 1)))] (PS M (skp (gI M 2) len p) (l ++ c)) = ok (d' + 2) mX4_readSum 488 Q 488 0 0 39 [some (.ref 407), some (.ref 1), some (.int dep), some (.int s0), some (.int (nI (240 - (j + 1))))] [] (PS M (skp (gI M 2) len p) (l ++ c)) := by
        rcases c1' with rfl | rfl
        · simp (disch := (first | assumption | omega | decide)) only [sX4_readSum_0, sX4_readSum_1, sX4_readSum_2, sX4_readSum_3, sX4_readSum_6, sX4_readSum_9, sX4_readSum_10, sX4_readSum_11, sX4_readSum_12, sX4_readSum_15, sX4_readSum_16, sX4_readSum_17, sX4_readSum_21, sX4_readSum_24, sX4_readSum_27, sX4_readSum_28, sX4_readSum_30, sX4_readSum_33, sX4_readSum_34, sX4_readSum_36, sX4_readSum_40, sX4_readSum_41, sX4_readSum_44, sX4_readSum_45, sX4_readSum_46, sX4_readSum_49, sX4_readSum_50, sX4_readSum_51, sX4_readSum_52, sX4_readSum_55, sX4_readSum_58, sX4_readSum_59, sX4_readSum_60, sX4_readSum_61, sX4_readSum_64, sX4_readSum_65, sX4_readSum_68, sX4_readSum_69, sX4_readSum_72, sX4_readSum_73, sX4_readSum_76, sX4_readSum_79, sX4_readSum_80, kI_i, kL_l, kV_v, am_rv_s, am_kl_i, am_kl_r, am_kl_n, am_kl_l, true_and, and_true, and_self, true_or, or_true, implies_true, forall_const, not_true_eq_false, not_false_eq_true, false_implies, true_implies, if_true, if_false, Bool.true_eq_false, Bool.false_eq_true, e0]
        · have n0 : ((45 : Int32) = 43) = False := eq_false (by decide)
          simp (disch := (first | assumption | omega | decide)) only [sX4_readSum_0, sX4_readSum_1, sX4_readSum_2, sX4_readSum_3, sX4_readSum_6, sX4_readSum_9, sX4_readSum_10, sX4_readSum_11, sX4_readSum_12, sX4_readSum_15, sX4_readSum_16, sX4_readSum_17, sX4_readSum_21, sX4_readSum_24, sX4_readSum_27, sX4_readSum_28, sX4_readSum_30, sX4_readSum_33, sX4_readSum_34, sX4_readSum_36, sX4_readSum_40, sX4_readSum_41, sX4_readSum_44, sX4_readSum_45, sX4_readSum_46, sX4_readSum_49, sX4_readSum_50, sX4_readSum_51, sX4_readSum_52, sX4_readSum_55, sX4_readSum_58, sX4_readSum_59, sX4_readSum_60, sX4_readSum_61, sX4_readSum_64, sX4_readSum_65, sX4_readSum_68, sX4_readSum_69, sX4_readSum_72, sX4_readSum_73, sX4_readSum_76, sX4_readSum_79, sX4_readSum_80, kI_i, kL_l, kV_v, am_rv_s, am_kl_i, am_kl_r, am_kl_n, am_kl_l, true_and, and_true, and_self, true_or, or_true, implies_true, forall_const, not_true_eq_false, not_false_eq_true, false_implies, true_implies, if_true, if_false, Bool.true_eq_false, Bool.false_eq_true, e0, n0]
      rw [go, step]
      cases ok1 with
      | false => simp only [kI_i, kL_l, kV_v, am_rv_s, am_kl_i, am_kl_r, am_kl_n, am_kl_l, true_and, and_true, and_self, true_or, or_true, implies_true, forall_const, not_true_eq_false, not_false_eq_true, false_implies, true_implies, if_true, if_false, Bool.true_eq_false, Bool.false_eq_true, bz_f]
      | true =>
        simp only [kI_i, kL_l, kV_v, am_rv_s, am_kl_i, am_kl_r, am_kl_n, am_kl_l, true_and, and_true, and_self, true_or, or_true, implies_true, forall_const, not_true_eq_false, not_false_eq_true, false_implies, true_implies, if_true, if_false, Bool.true_eq_false, Bool.false_eq_true]
        exact ih q1 (c ++ cc ++ [20000 + s0]) (by omega) (by omega) hq.2 (by omega) (by simp only [List.length_append, List.length_cons, List.length_nil]; omega)
theorem PSK_readSum {dep : Int32} {A : Nat → PR} (hW : WR M) (h : TP M len p0) (hA : gd len A) (hP : PSK M len K mX4_readTerm [.int dep] A) (hK2 : 2 ≤ K) : PSK M len (K + 1) mX4_readSum [.int dep] (seqQ (gI M 2) len A isPM A) := by
  intro D hD Q p l hp0 hp hl
  have hlen := h.2.2.2.1
  obtain ⟨d, rfl⟩ : ∃ d, D = d + 3 := ⟨D - 3, by omega⟩
  have cs : ∀ (Q : am_Q), am_big (d + 2) mX4_readTerm [.ref 407, .ref 1, .int dep] 488 (PS M p l) Q = _ := fun Q => hP (d + 2) (by omega) Q p l hp0 hp hl
  have hq := hA p hp
  show am_big (d + 2 + 1) mX4_readSum [.ref 407, .ref 1, .int dep] 488 (PS M p l) Q = _
  rw [eX4_readSum]
  unfold seqQ
  generalize hr : A p = r at cs hq
  obtain ⟨ok1, q1, cc⟩ := r
  simp only at cs hq
  cases ok1 with
  | false => simp (disch := (first | assumption | omega | decide)) only [sX4_readSum_0, sX4_readSum_1, sX4_readSum_2, sX4_readSum_3, sX4_readSum_6, sX4_readSum_9, sX4_readSum_10, sX4_readSum_11, sX4_readSum_12, sX4_readSum_15, sX4_readSum_16, sX4_readSum_17, sX4_readSum_21, sX4_readSum_24, sX4_readSum_27, sX4_readSum_28, sX4_readSum_30, sX4_readSum_33, sX4_readSum_34, sX4_readSum_36, sX4_readSum_39, sX4_readSum_40, sX4_readSum_41, sX4_readSum_44, sX4_readSum_45, sX4_readSum_46, sX4_readSum_49, sX4_readSum_50, sX4_readSum_51, sX4_readSum_52, sX4_readSum_55, sX4_readSum_58, sX4_readSum_59, sX4_readSum_60, sX4_readSum_61, sX4_readSum_64, sX4_readSum_65, sX4_readSum_68, sX4_readSum_69, sX4_readSum_72, sX4_readSum_73, sX4_readSum_76, sX4_readSum_79, sX4_readSum_80, kI_i, kL_l, kV_v, am_rv_s, am_kl_i, am_kl_r, am_kl_n, am_kl_l, true_and, and_true, and_self, true_or, or_true, implies_true, forall_const, not_true_eq_false, not_false_eq_true, false_implies, true_implies, if_true, if_false, Bool.true_eq_false, Bool.false_eq_true, ob_407, cs, bz_f]
  | true =>
    have ll := l_readSum (l := l) (d := d + 2) (Q := Q) (dep := dep) hW h hA hP (by omega) (by omega) 240 q1 cc (by omega) (by omega) hq.2 (by omega) (by omega)
    simp (disch := (first | assumption | omega | decide)) only [sX4_readSum_0, sX4_readSum_1, sX4_readSum_2, sX4_readSum_3, sX4_readSum_6, sX4_readSum_9, sX4_readSum_10, sX4_readSum_11, sX4_readSum_12, sX4_readSum_15, sX4_readSum_16, sX4_readSum_17, sX4_readSum_21, sX4_readSum_24, sX4_readSum_27, sX4_readSum_28, sX4_readSum_30, sX4_readSum_33, sX4_readSum_34, sX4_readSum_36, sX4_readSum_39, sX4_readSum_40, sX4_readSum_41, sX4_readSum_44, sX4_readSum_45, sX4_readSum_46, sX4_readSum_49, sX4_readSum_50, sX4_readSum_51, sX4_readSum_52, sX4_readSum_55, sX4_readSum_58, sX4_readSum_59, sX4_readSum_60, sX4_readSum_61, sX4_readSum_64, sX4_readSum_65, sX4_readSum_68, sX4_readSum_69, sX4_readSum_72, sX4_readSum_73, sX4_readSum_76, sX4_readSum_79, sX4_readSum_80, kI_i, kL_l, kV_v, am_rv_s, am_kl_i, am_kl_r, am_kl_n, am_kl_l, true_and, and_true, and_self, true_or, or_true, implies_true, forall_const, not_true_eq_false, not_false_eq_true, false_implies, true_implies, if_true, if_false, Bool.true_eq_false, Bool.false_eq_true, ob_407, ob_1, cs, bz_t, i01, PS_peek h]
    exact ll
theorem l_readTruth {dep w : Int32} {A : Nat → PR} {l : List Int32} {d : Nat} {Q : am_Q} (hW : WR M) (h : TP M len p0) (hA : gd len A) (hP : PSK M len K mX4_readUnit [.int dep, .int 0] A) (hK : K ≤ d) (hd : 2 ≤ d) : ∀ (j p : Nat) (c : List Int32), j ≤ 240 → 0 < p → p ≤ len → len - p < j → l.length + c.length ≤ p → ok d mX4_readTruth 488 Q 488 0 0 15 [some (.ref 407), some (.ref 1), some (.int dep), some (.int w), some (.int (nI (240 - j)))] [] (PS M p (l ++ c)) = Q (some (.int (bz (opL (gI M 2) len isAn A j p c).1))) (PS M (opL (gI M 2) len isAn A j p c).2.1 (l ++ (opL (gI M 2) len isAn A j p c).2.2)) := by
  have hlen := h.2.2.2.1
  intro j
  induction j with
  | zero => intro p c _ _ _ hj; omega
  | succ j ih =>
    intro p c hj hp0 hp hjp hl
    have hs := skp_le' (T := gI M 2) hp
    have hg := skp_ge (T := gI M 2) (len := len) (p := p)
    obtain ⟨d', rfl⟩ : ∃ d', d = d' + 2 := ⟨d - 2, by omega⟩
    have e0 : ((240 : Int32) ≤ nI (240 - (j + 1))) = False := by rw [show (240 : Int32) = nI 240 from rfl, nI_leE (by omega) (by omega)]; exact eq_false (by omega)
    have en : 240 - (j + 1) + 1 = 240 - j := by omega
    rw [sX4_readTruth_15]
    unfold opL
    by_cases c1 : sg (gI M 2) len (skp (gI M 2) len p) = 38
    · have c1' : isAn (sg (gI M 2) len (skp (gI M 2) len p)) = true := by rw [c1]; decide
      have hlt := sg_lt c1 (by decide)
      have hq := hA (skp (gI M 2) len p + 1) (by omega)
      have cs : ∀ (Q : am_Q), am_big (d' + 2) mX4_readUnit [.ref 407, .ref 1, .int dep, .int 0] 488 (PS M (skp (gI M 2) len p + 1) (l ++ c)) Q = _ := fun Q => hP (d' + 2) (by omega) Q (skp (gI M 2) len p + 1) (l ++ c) (by omega) (by omega) (by simp only [List.length_append]; omega)
      rw [if_pos c1']
      generalize hr : A (skp (gI M 2) len p + 1) = r at cs hq
      obtain ⟨ok1, q1, cc⟩ := r
      simp only at cs hq
      have ca : ∀ (Q : am_Q), am_big (d' + 2) mX2_addSign [.ref 408, .int 38] 488 (PS M q1 (l ++ c ++ cc)) Q = _ := fun Q => c_addSign hW (by simp only [List.length_append]; omega)
      cases ok1 with
      | false => simp (disch := (first | assumption | omega | decide)) only [sX4_readTruth_0, sX4_readTruth_1, sX4_readTruth_2, sX4_readTruth_3, sX4_readTruth_4, sX4_readTruth_7, sX4_readTruth_10, sX4_readTruth_11, sX4_readTruth_12, sX4_readTruth_13, sX4_readTruth_17, sX4_readTruth_20, sX4_readTruth_23, sX4_readTruth_24, sX4_readTruth_26, sX4_readTruth_29, sX4_readTruth_32, sX4_readTruth_33, sX4_readTruth_34, sX4_readTruth_35, sX4_readTruth_36, sX4_readTruth_39, sX4_readTruth_42, sX4_readTruth_43, sX4_readTruth_44, sX4_readTruth_45, sX4_readTruth_48, sX4_readTruth_50, sX4_readTruth_53, sX4_readTruth_56, sX4_readTruth_59, sX4_readTruth_60, kI_i, kL_l, kV_v, am_rv_s, am_kl_i, am_kl_r, am_kl_n, am_kl_l, true_and, and_true, and_self, true_or, or_true, implies_true, forall_const, not_true_eq_false, not_false_eq_true, false_implies, true_implies, if_true, if_false, Bool.true_eq_false, Bool.false_eq_true, e0, ob_407, ob_1, PS_accept h, c1, i01, cs, bz_f, List.append_assoc]
      | true =>
        have ih := ih q1 (c ++ cc ++ [20000 + 38]) (by omega) (by omega) hq.2 (by omega) (by simp only [List.length_append, List.length_cons, List.length_nil]; omega)
        simp (disch := (first | assumption | omega | decide)) only [sX4_readTruth_0, sX4_readTruth_1, sX4_readTruth_2, sX4_readTruth_3, sX4_readTruth_4, sX4_readTruth_7, sX4_readTruth_10, sX4_readTruth_11, sX4_readTruth_12, sX4_readTruth_13, sX4_readTruth_17, sX4_readTruth_20, sX4_readTruth_23, sX4_readTruth_24, sX4_readTruth_26, sX4_readTruth_29, sX4_readTruth_32, sX4_readTruth_33, sX4_readTruth_34, sX4_readTruth_35, sX4_readTruth_36, sX4_readTruth_39, sX4_readTruth_42, sX4_readTruth_43, sX4_readTruth_44, sX4_readTruth_45, sX4_readTruth_48, sX4_readTruth_50, sX4_readTruth_53, sX4_readTruth_56, sX4_readTruth_59, sX4_readTruth_60, kI_i, kL_l, kV_v, am_rv_s, am_kl_i, am_kl_r, am_kl_n, am_kl_l, true_and, and_true, and_self, true_or, or_true, implies_true, forall_const, not_true_eq_false, not_false_eq_true, false_implies, true_implies, if_true, if_false, Bool.true_eq_false, Bool.false_eq_true, e0, ob_407, ob_1, PS_accept h, c1, i01, cs, bz_t, gR_PS, r_407_0, ob_408, ca, nI_1, en]
        simp only [List.append_assoc] at ih ⊢
        exact ih
    · have c1' : ¬ isAn (sg (gI M 2) len (skp (gI M 2) len p)) = true := by unfold isAn; simpa using c1
      rw [if_neg c1']
      simp (disch := (first | assumption | omega | decide)) only [sX4_readTruth_0, sX4_readTruth_1, sX4_readTruth_2, sX4_readTruth_3, sX4_readTruth_4, sX4_readTruth_7, sX4_readTruth_10, sX4_readTruth_11, sX4_readTruth_12, sX4_readTruth_13, sX4_readTruth_17, sX4_readTruth_20, sX4_readTruth_23, sX4_readTruth_24, sX4_readTruth_26, sX4_readTruth_29, sX4_readTruth_32, sX4_readTruth_33, sX4_readTruth_34, sX4_readTruth_35, sX4_readTruth_36, sX4_readTruth_39, sX4_readTruth_42, sX4_readTruth_43, sX4_readTruth_44, sX4_readTruth_45, sX4_readTruth_48, sX4_readTruth_50, sX4_readTruth_53, sX4_readTruth_56, sX4_readTruth_59, sX4_readTruth_60, kI_i, kL_l, kV_v, am_rv_s, am_kl_i, am_kl_r, am_kl_n, am_kl_l, true_and, and_true, and_self, true_or, or_true, implies_true, forall_const, not_true_eq_false, not_false_eq_true, false_implies, true_implies, if_true, if_false, Bool.true_eq_false, Bool.false_eq_true, e0, ob_1, PS_accept h, c1, bz_t]
theorem PSK_readTruth {dep w : Int32} {A0 A : Nat → PR} (hW : WR M) (h : TP M len p0) (hA0 : gd len A0) (hA : gd len A) (hP0 : PSK M len K mX4_readUnit [.int dep, .int w] A0) (hP : PSK M len K mX4_readUnit [.int dep, .int 0] A) (hK2 : 2 ≤ K) : PSK M len (K + 1) mX4_readTruth [.int dep, .int w] (seqQ (gI M 2) len A0 isAn A) := by
  intro D hD Q p l hp0 hp hl
  have hlen := h.2.2.2.1
  obtain ⟨d, rfl⟩ : ∃ d, D = d + 3 := ⟨D - 3, by omega⟩
  have cs : ∀ (Q : am_Q), am_big (d + 2) mX4_readUnit [.ref 407, .ref 1, .int dep, .int w] 488 (PS M p l) Q = _ := fun Q => hP0 (d + 2) (by omega) Q p l hp0 hp hl
  have hq := hA0 p hp
  show am_big (d + 2 + 1) mX4_readTruth [.ref 407, .ref 1, .int dep, .int w] 488 (PS M p l) Q = _
  rw [eX4_readTruth]
  unfold seqQ
  generalize hr : A0 p = r at cs hq
  obtain ⟨ok1, q1, cc⟩ := r
  simp only at cs hq
  cases ok1 with
  | false => simp (disch := (first | assumption | omega | decide)) only [sX4_readTruth_0, sX4_readTruth_1, sX4_readTruth_2, sX4_readTruth_3, sX4_readTruth_4, sX4_readTruth_7, sX4_readTruth_10, sX4_readTruth_11, sX4_readTruth_12, sX4_readTruth_13, sX4_readTruth_17, sX4_readTruth_20, sX4_readTruth_23, sX4_readTruth_24, sX4_readTruth_26, sX4_readTruth_29, sX4_readTruth_32, sX4_readTruth_33, sX4_readTruth_34, sX4_readTruth_35, sX4_readTruth_36, sX4_readTruth_39, sX4_readTruth_42, sX4_readTruth_43, sX4_readTruth_44, sX4_readTruth_45, sX4_readTruth_48, sX4_readTruth_50, sX4_readTruth_53, sX4_readTruth_56, sX4_readTruth_59, sX4_readTruth_60, kI_i, kL_l, kV_v, am_rv_s, am_kl_i, am_kl_r, am_kl_n, am_kl_l, true_and, and_true, and_self, true_or, or_true, implies_true, forall_const, not_true_eq_false, not_false_eq_true, false_implies, true_implies, if_true, if_false, Bool.true_eq_false, Bool.false_eq_true, ob_407, cs, bz_f]
  | true =>
    have ll := l_readTruth (l := l) (d := d + 2) (Q := Q) (dep := dep) (w := w) hW h hA hP (by omega) (by omega) 240 q1 cc (by omega) (by omega) hq.2 (by omega) (by omega)
    simp (disch := (first | assumption | omega | decide)) only [sX4_readTruth_0, sX4_readTruth_1, sX4_readTruth_2, sX4_readTruth_3, sX4_readTruth_4, sX4_readTruth_7, sX4_readTruth_10, sX4_readTruth_11, sX4_readTruth_12, sX4_readTruth_13, sX4_readTruth_17, sX4_readTruth_20, sX4_readTruth_23, sX4_readTruth_24, sX4_readTruth_26, sX4_readTruth_29, sX4_readTruth_32, sX4_readTruth_33, sX4_readTruth_34, sX4_readTruth_35, sX4_readTruth_36, sX4_readTruth_39, sX4_readTruth_42, sX4_readTruth_43, sX4_readTruth_44, sX4_readTruth_45, sX4_readTruth_48, sX4_readTruth_50, sX4_readTruth_53, sX4_readTruth_56, sX4_readTruth_59, sX4_readTruth_60, kI_i, kL_l, kV_v, am_rv_s, am_kl_i, am_kl_r, am_kl_n, am_kl_l, true_and, and_true, and_self, true_or, or_true, implies_true, forall_const, not_true_eq_false, not_false_eq_true, false_implies, true_implies, if_true, if_false, Bool.true_eq_false, Bool.false_eq_true, ob_407, ob_1, cs, bz_t, i01]
    exact ll
theorem l_readCondition {dep w : Int32} {A : Nat → PR} {l : List Int32} {d : Nat} {Q : am_Q} (hW : WR M) (h : TP M len p0) (hA : gd len A) (hP : PSK M len K mX4_readTruth [.int dep, .int 0] A) (hK : K ≤ d) (hd : 2 ≤ d) : ∀ (j p : Nat) (c : List Int32), j ≤ 240 → 0 < p → p ≤ len → len - p < j → l.length + c.length ≤ p → ok d mX4_readCondition 488 Q 488 0 0 15 [some (.ref 407), some (.ref 1), some (.int dep), some (.int w), some (.int (nI (240 - j)))] [] (PS M p (l ++ c)) = Q (some (.int (bz (opL (gI M 2) len isOr A j p c).1))) (PS M (opL (gI M 2) len isOr A j p c).2.1 (l ++ (opL (gI M 2) len isOr A j p c).2.2)) := by
  have hlen := h.2.2.2.1
  intro j
  induction j with
  | zero => intro p c _ _ _ hj; omega
  | succ j ih =>
    intro p c hj hp0 hp hjp hl
    have hs := skp_le' (T := gI M 2) hp
    have hg := skp_ge (T := gI M 2) (len := len) (p := p)
    obtain ⟨d', rfl⟩ : ∃ d', d = d' + 2 := ⟨d - 2, by omega⟩
    have e0 : ((240 : Int32) ≤ nI (240 - (j + 1))) = False := by rw [show (240 : Int32) = nI 240 from rfl, nI_leE (by omega) (by omega)]; exact eq_false (by omega)
    have en : 240 - (j + 1) + 1 = 240 - j := by omega
    rw [sX4_readCondition_15]
    unfold opL
    by_cases c1 : sg (gI M 2) len (skp (gI M 2) len p) = 124
    · have c1' : isOr (sg (gI M 2) len (skp (gI M 2) len p)) = true := by rw [c1]; decide
      have hlt := sg_lt c1 (by decide)
      have hq := hA (skp (gI M 2) len p + 1) (by omega)
      have cs : ∀ (Q : am_Q), am_big (d' + 2) mX4_readTruth [.ref 407, .ref 1, .int dep, .int 0] 488 (PS M (skp (gI M 2) len p + 1) (l ++ c)) Q = _ := fun Q => hP (d' + 2) (by omega) Q (skp (gI M 2) len p + 1) (l ++ c) (by omega) (by omega) (by simp only [List.length_append]; omega)
      rw [if_pos c1']
      generalize hr : A (skp (gI M 2) len p + 1) = r at cs hq
      obtain ⟨ok1, q1, cc⟩ := r
      simp only at cs hq
      have ca : ∀ (Q : am_Q), am_big (d' + 2) mX2_addSign [.ref 408, .int 124] 488 (PS M q1 (l ++ c ++ cc)) Q = _ := fun Q => c_addSign hW (by simp only [List.length_append]; omega)
      cases ok1 with
      | false => simp (disch := (first | assumption | omega | decide)) only [sX4_readCondition_0, sX4_readCondition_1, sX4_readCondition_2, sX4_readCondition_3, sX4_readCondition_4, sX4_readCondition_7, sX4_readCondition_10, sX4_readCondition_11, sX4_readCondition_12, sX4_readCondition_13, sX4_readCondition_17, sX4_readCondition_20, sX4_readCondition_23, sX4_readCondition_24, sX4_readCondition_26, sX4_readCondition_29, sX4_readCondition_32, sX4_readCondition_33, sX4_readCondition_34, sX4_readCondition_35, sX4_readCondition_36, sX4_readCondition_39, sX4_readCondition_42, sX4_readCondition_43, sX4_readCondition_44, sX4_readCondition_45, sX4_readCondition_48, sX4_readCondition_50, sX4_readCondition_53, sX4_readCondition_56, sX4_readCondition_59, sX4_readCondition_60, kI_i, kL_l, kV_v, am_rv_s, am_kl_i, am_kl_r, am_kl_n, am_kl_l, true_and, and_true, and_self, true_or, or_true, implies_true, forall_const, not_true_eq_false, not_false_eq_true, false_implies, true_implies, if_true, if_false, Bool.true_eq_false, Bool.false_eq_true, e0, ob_407, ob_1, PS_accept h, c1, i01, cs, bz_f, List.append_assoc]
      | true =>
        have ih := ih q1 (c ++ cc ++ [20000 + 124]) (by omega) (by omega) hq.2 (by omega) (by simp only [List.length_append, List.length_cons, List.length_nil]; omega)
        simp (disch := (first | assumption | omega | decide)) only [sX4_readCondition_0, sX4_readCondition_1, sX4_readCondition_2, sX4_readCondition_3, sX4_readCondition_4, sX4_readCondition_7, sX4_readCondition_10, sX4_readCondition_11, sX4_readCondition_12, sX4_readCondition_13, sX4_readCondition_17, sX4_readCondition_20, sX4_readCondition_23, sX4_readCondition_24, sX4_readCondition_26, sX4_readCondition_29, sX4_readCondition_32, sX4_readCondition_33, sX4_readCondition_34, sX4_readCondition_35, sX4_readCondition_36, sX4_readCondition_39, sX4_readCondition_42, sX4_readCondition_43, sX4_readCondition_44, sX4_readCondition_45, sX4_readCondition_48, sX4_readCondition_50, sX4_readCondition_53, sX4_readCondition_56, sX4_readCondition_59, sX4_readCondition_60, kI_i, kL_l, kV_v, am_rv_s, am_kl_i, am_kl_r, am_kl_n, am_kl_l, true_and, and_true, and_self, true_or, or_true, implies_true, forall_const, not_true_eq_false, not_false_eq_true, false_implies, true_implies, if_true, if_false, Bool.true_eq_false, Bool.false_eq_true, e0, ob_407, ob_1, PS_accept h, c1, i01, cs, bz_t, gR_PS, r_407_0, ob_408, ca, nI_1, en]
        simp only [List.append_assoc] at ih ⊢
        exact ih
    · have c1' : ¬ isOr (sg (gI M 2) len (skp (gI M 2) len p)) = true := by unfold isOr; simpa using c1
      rw [if_neg c1']
      simp (disch := (first | assumption | omega | decide)) only [sX4_readCondition_0, sX4_readCondition_1, sX4_readCondition_2, sX4_readCondition_3, sX4_readCondition_4, sX4_readCondition_7, sX4_readCondition_10, sX4_readCondition_11, sX4_readCondition_12, sX4_readCondition_13, sX4_readCondition_17, sX4_readCondition_20, sX4_readCondition_23, sX4_readCondition_24, sX4_readCondition_26, sX4_readCondition_29, sX4_readCondition_32, sX4_readCondition_33, sX4_readCondition_34, sX4_readCondition_35, sX4_readCondition_36, sX4_readCondition_39, sX4_readCondition_42, sX4_readCondition_43, sX4_readCondition_44, sX4_readCondition_45, sX4_readCondition_48, sX4_readCondition_50, sX4_readCondition_53, sX4_readCondition_56, sX4_readCondition_59, sX4_readCondition_60, kI_i, kL_l, kV_v, am_rv_s, am_kl_i, am_kl_r, am_kl_n, am_kl_l, true_and, and_true, and_self, true_or, or_true, implies_true, forall_const, not_true_eq_false, not_false_eq_true, false_implies, true_implies, if_true, if_false, Bool.true_eq_false, Bool.false_eq_true, e0, ob_1, PS_accept h, c1, bz_t]
theorem PSK_readCondition {dep w : Int32} {A0 A : Nat → PR} (hW : WR M) (h : TP M len p0) (hA0 : gd len A0) (hA : gd len A) (hP0 : PSK M len K mX4_readTruth [.int dep, .int w] A0) (hP : PSK M len K mX4_readTruth [.int dep, .int 0] A) (hK2 : 2 ≤ K) : PSK M len (K + 1) mX4_readCondition [.int dep, .int w] (seqQ (gI M 2) len A0 isOr A) := by
  intro D hD Q p l hp0 hp hl
  have hlen := h.2.2.2.1
  obtain ⟨d, rfl⟩ : ∃ d, D = d + 3 := ⟨D - 3, by omega⟩
  have cs : ∀ (Q : am_Q), am_big (d + 2) mX4_readTruth [.ref 407, .ref 1, .int dep, .int w] 488 (PS M p l) Q = _ := fun Q => hP0 (d + 2) (by omega) Q p l hp0 hp hl
  have hq := hA0 p hp
  show am_big (d + 2 + 1) mX4_readCondition [.ref 407, .ref 1, .int dep, .int w] 488 (PS M p l) Q = _
  rw [eX4_readCondition]
  unfold seqQ
  generalize hr : A0 p = r at cs hq
  obtain ⟨ok1, q1, cc⟩ := r
  simp only at cs hq
  cases ok1 with
  | false => simp (disch := (first | assumption | omega | decide)) only [sX4_readCondition_0, sX4_readCondition_1, sX4_readCondition_2, sX4_readCondition_3, sX4_readCondition_4, sX4_readCondition_7, sX4_readCondition_10, sX4_readCondition_11, sX4_readCondition_12, sX4_readCondition_13, sX4_readCondition_17, sX4_readCondition_20, sX4_readCondition_23, sX4_readCondition_24, sX4_readCondition_26, sX4_readCondition_29, sX4_readCondition_32, sX4_readCondition_33, sX4_readCondition_34, sX4_readCondition_35, sX4_readCondition_36, sX4_readCondition_39, sX4_readCondition_42, sX4_readCondition_43, sX4_readCondition_44, sX4_readCondition_45, sX4_readCondition_48, sX4_readCondition_50, sX4_readCondition_53, sX4_readCondition_56, sX4_readCondition_59, sX4_readCondition_60, kI_i, kL_l, kV_v, am_rv_s, am_kl_i, am_kl_r, am_kl_n, am_kl_l, true_and, and_true, and_self, true_or, or_true, implies_true, forall_const, not_true_eq_false, not_false_eq_true, false_implies, true_implies, if_true, if_false, Bool.true_eq_false, Bool.false_eq_true, ob_407, cs, bz_f]
  | true =>
    have ll := l_readCondition (l := l) (d := d + 2) (Q := Q) (dep := dep) (w := w) hW h hA hP (by omega) (by omega) 240 q1 cc (by omega) (by omega) hq.2 (by omega) (by omega)
    simp (disch := (first | assumption | omega | decide)) only [sX4_readCondition_0, sX4_readCondition_1, sX4_readCondition_2, sX4_readCondition_3, sX4_readCondition_4, sX4_readCondition_7, sX4_readCondition_10, sX4_readCondition_11, sX4_readCondition_12, sX4_readCondition_13, sX4_readCondition_17, sX4_readCondition_20, sX4_readCondition_23, sX4_readCondition_24, sX4_readCondition_26, sX4_readCondition_29, sX4_readCondition_32, sX4_readCondition_33, sX4_readCondition_34, sX4_readCondition_35, sX4_readCondition_36, sX4_readCondition_39, sX4_readCondition_42, sX4_readCondition_43, sX4_readCondition_44, sX4_readCondition_45, sX4_readCondition_48, sX4_readCondition_50, sX4_readCondition_53, sX4_readCondition_56, sX4_readCondition_59, sX4_readCondition_60, kI_i, kL_l, kV_v, am_rv_s, am_kl_i, am_kl_r, am_kl_n, am_kl_l, true_and, and_true, and_self, true_or, or_true, implies_true, forall_const, not_true_eq_false, not_false_eq_true, false_implies, true_implies, if_true, if_false, Bool.true_eq_false, Bool.false_eq_true, ob_407, ob_1, cs, bz_t, i01]
    exact ll
end
