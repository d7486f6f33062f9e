section
variable {M : am_M} {len p0 : Nat}
theorem l_readLaw (hW : WR M) (h : TP M len p0) : ∀ (j p : Nat) (cs : List Cl), j ≤ 240 → p ≤ len → len - p < 2 * j → (cod cs).length ≤ p → ∃ l', (∀ d (Q : am_Q), 29 ≤ d → ok d mX4_readFrom 488 Q 488 0 0 10 [some (.ref 407), some (.ref 1), some (.int (nI (240 - j)))] [] (PS M p (cod cs)) = Q (some (.int (bz (lawP (gI M 2) len j p cs).1))) (PS M (lawP (gI M 2) len j p cs).2.1 l')) ∧ ((lawP (gI M 2) len j p cs).1 = true → l' = cod (lawP (gI M 2) len j p cs).2.2 ∧ l'.length ≤ 240) := by
  have hlen := h.2.2.2.1
  intro j
  induction j with
  | zero => intro p cs _ _ hj; omega
  | succ j ih =>
    intro p cs hj hp hjp hl
    have e0 : ((240 : Int32) ≤ nI (240 - (j + 1))) = False := by rw [show (240 : Int32) = nI 240 from rfl, nI_leE (by omega) (by omega)]; exact eq_false (by omega)
    have en : 240 - (j + 1) + 1 = 240 - j := by omega
    obtain ⟨l1, e1, r1⟩ := c_readClause (l := cod cs) hW h hp hl
    have hq := cla_le (T := gI M 2) hp
    unfold lawP
    generalize cla (gI M 2) len p = r at e1 r1 hq
    obtain ⟨ok1, q1, c⟩ := r
    simp only at e1 r1 hq
    have hs := skp_le' (T := gI M 2) hq.1
    have hg := skp_ge (T := gI M 2) (len := len) (p := q1)
    cases ok1 with
    | false =>
      refine ⟨l1, fun d Q hd => ?_, fun z => by cases z⟩
      rw [sX4_readFrom_10]
      obtain ⟨d', rfl⟩ : ∃ d', d = d' + 3 := ⟨d - 3, by omega⟩
      simp (disch := (first | assumption | omega | decide)) only [sX4_readFrom_0, sX4_readFrom_1, sX4_readFrom_4, sX4_readFrom_5, sX4_readFrom_8, sX4_readFrom_9, sX4_readFrom_11, sX4_readFrom_14, sX4_readFrom_17, sX4_readFrom_18, sX4_readFrom_19, sX4_readFrom_22, sX4_readFrom_25, sX4_readFrom_26, sX4_readFrom_27, sX4_readFrom_28, sX4_readFrom_31, sX4_readFrom_32, sX4_readFrom_35, sX4_readFrom_36, sX4_readFrom_37, sX4_readFrom_38, sX4_readFrom_40, sX4_readFrom_43, sX4_readFrom_46, sX4_readFrom_47, sX4_readFrom_48, sX4_readFrom_51, sX4_readFrom_54, sX4_readFrom_55, kI_i, kL_l, kV_v, am_rv_s, am_kl_i, am_kl_r, am_kl_n, am_kl_l, true_and, and_true, and_self, true_or, or_true, implies_true, forall_const, not_true_eq_false, not_false_eq_true, false_implies, true_implies, if_true, if_false, Bool.true_eq_false, Bool.false_eq_true, e0, ob_407, ob_1, e1, bz_f]
    | true =>
      obtain ⟨hq2, hq3⟩ := hq.2.2 rfl
      have r1 := r1 rfl
      subst r1
      have hcl := hq3 (cod cs).length
      simp only [if_true]
      by_cases c1 : sg (gI M 2) len (skp (gI M 2) len q1) = -1
      · rw [if_pos c1]
        refine ⟨_, fun d Q hd => ?_, fun _ => ⟨(cod_s cs c).symm, by simp only [List.length_append]; omega⟩⟩
        rw [sX4_readFrom_10]
        obtain ⟨d', rfl⟩ : ∃ d', d = d' + 3 := ⟨d - 3, by omega⟩
        simp (disch := (first | assumption | omega | decide)) only [sX4_readFrom_0, sX4_readFrom_1, sX4_readFrom_4, sX4_readFrom_5, sX4_readFrom_8, sX4_readFrom_9, sX4_readFrom_11, sX4_readFrom_14, sX4_readFrom_17, sX4_readFrom_18, sX4_readFrom_19, sX4_readFrom_22, sX4_readFrom_25, sX4_readFrom_26, sX4_readFrom_27, sX4_readFrom_28, sX4_readFrom_31, sX4_readFrom_32, sX4_readFrom_35, sX4_readFrom_36, sX4_readFrom_37, sX4_readFrom_38, sX4_readFrom_40, sX4_readFrom_43, sX4_readFrom_46, sX4_readFrom_47, sX4_readFrom_48, sX4_readFrom_51, sX4_readFrom_54, sX4_readFrom_55, kI_i, kL_l, kV_v, am_rv_s, am_kl_i, am_kl_r, am_kl_n, am_kl_l, true_and, and_true, and_self, true_or, or_true, implies_true, forall_const, not_true_eq_false, not_false_eq_true, false_implies, true_implies, if_true, if_false, Bool.true_eq_false, Bool.false_eq_true, e0, ob_407, ob_1, e1, bz_t, i01, PS_peek h, c1]
      · rw [if_neg c1]
        by_cases c2 : sg (gI M 2) len (skp (gI M 2) len q1) = 59
        · have hlt := sg_lt c2 (by decide)
          rw [if_pos c2]
          have c3 : ((59 : Int32) = -1) = False := eq_false (by decide)
          obtain ⟨l2, e2, r2⟩ := ih (skp (gI M 2) len q1 + 1) (cs ++ [c]) (by omega) (by omega) (by omega) (by rw [cod_s]; simp only [List.length_append]; omega)
          rw [cod_s] at e2
          refine ⟨l2, fun d Q hd => ?_, r2⟩
          rw [sX4_readFrom_10, ← e2 d Q hd]
          obtain ⟨d', rfl⟩ : ∃ d', d = d' + 3 := ⟨d - 3, by omega⟩
          simp (disch := (first | assumption | omega | decide)) only [sX4_readFrom_0, sX4_readFrom_1, sX4_readFrom_4, sX4_readFrom_5, sX4_readFrom_8, sX4_readFrom_9, sX4_readFrom_11, sX4_readFrom_14, sX4_readFrom_17, sX4_readFrom_18, sX4_readFrom_19, sX4_readFrom_22, sX4_readFrom_25, sX4_readFrom_26, sX4_readFrom_27, sX4_readFrom_28, sX4_readFrom_31, sX4_readFrom_32, sX4_readFrom_35, sX4_readFrom_36, sX4_readFrom_37, sX4_readFrom_38, sX4_readFrom_40, sX4_readFrom_43, sX4_readFrom_46, sX4_readFrom_47, sX4_readFrom_48, sX4_readFrom_51, sX4_readFrom_54, sX4_readFrom_55, kI_i, kL_l, kV_v, am_rv_s, am_kl_i, am_kl_r, am_kl_n, am_kl_l, true_and, and_true, and_self, true_or, or_true, implies_true, forall_const, not_true_eq_false, not_false_eq_true, false_implies, true_implies, if_true, if_false, Bool.true_eq_false, Bool.false_eq_true, e0, ob_407, ob_1, e1, bz_t, i01, PS_peek h, c2, c3, PS_accept h, skp_idem, nI_1, en]
        · rw [if_neg c2]
          refine ⟨cod cs ++ cco (cod cs).length c, fun d Q hd => ?_, fun z => by cases z⟩
          rw [sX4_readFrom_10]
          obtain ⟨d', rfl⟩ : ∃ d', d = d' + 3 := ⟨d - 3, by omega⟩
          simp (disch := (first | assumption | omega | decide)) only [sX4_readFrom_0, sX4_readFrom_1, sX4_readFrom_4, sX4_readFrom_5, sX4_readFrom_8, sX4_readFrom_9, sX4_readFrom_11, sX4_readFrom_14, sX4_readFrom_17, sX4_readFrom_18, sX4_readFrom_19, sX4_readFrom_22, sX4_readFrom_25, sX4_readFrom_26, sX4_readFrom_27, sX4_readFrom_28, sX4_readFrom_31, sX4_readFrom_32, sX4_readFrom_35, sX4_readFrom_36, sX4_readFrom_37, sX4_readFrom_38, sX4_readFrom_40, sX4_readFrom_43, sX4_readFrom_46, sX4_readFrom_47, sX4_readFrom_48, sX4_readFrom_51, sX4_readFrom_54, sX4_readFrom_55, kI_i, kL_l, kV_v, am_rv_s, am_kl_i, am_kl_r, am_kl_n, am_kl_l, true_and, and_true, and_self, true_or, or_true, implies_true, forall_const, not_true_eq_false, not_false_eq_true, false_implies, true_implies, if_true, if_false, Bool.true_eq_false, Bool.false_eq_true, e0, ob_407, ob_1, e1, bz_t, bz_f, i01, PS_peek h, c1, c2, PS_accept h, skp_idem]
theorem PS_0 {p : Nat} (h : gI M 1 2 = nI p) : PS M p [] = sI M 408 2 0 := by
  unfold PS
  rw [fl_id (fun k _ => by unfold cfn; rw [dif_neg (by simp)])]
  exact sI_id (by rw [gI_o (by omega)]; exact h)
theorem c_readLaw (hW : WR M) (h : TP M len 0) : ∃ l', (∀ d (Q : am_Q), 30 ≤ d → am_big d mX4_readFrom [.ref 407, .ref 1] 488 M Q = Q (some (.int (bz (lawP (gI M 2) len 240 0 []).1))) (PS M (lawP (gI M 2) len 240 0 []).2.1 l')) ∧ ((lawP (gI M 2) len 240 0 []).1 = true → l' = cod (lawP (gI M 2) len 240 0 []).2.2 ∧ l'.length ≤ 240) := by
  have hlen := h.2.2.2.1
  obtain ⟨l', e, r⟩ := l_readLaw hW h 240 0 [] (by omega) (by omega) (by omega) (by simp [cod])
  refine ⟨l', fun d Q hd => ?_, r⟩
  obtain ⟨d', rfl⟩ : ∃ d', d = d' + 1 := ⟨d - 1, by omega⟩
  rw [eX4_readFrom, ← e d' Q (by omega), show cod [] = [] from rfl, PS_0 h.2.2.1]
  simp (disch := (first | assumption | omega | decide)) only [sX4_readFrom_0, sX4_readFrom_1, sX4_readFrom_4, sX4_readFrom_5, sX4_readFrom_8, sX4_readFrom_9, sX4_readFrom_11, sX4_readFrom_14, sX4_readFrom_17, sX4_readFrom_18, sX4_readFrom_19, sX4_readFrom_22, sX4_readFrom_25, sX4_readFrom_26, sX4_readFrom_27, sX4_readFrom_28, sX4_readFrom_31, sX4_readFrom_32, sX4_readFrom_35, sX4_readFrom_36, sX4_readFrom_37, sX4_readFrom_38, sX4_readFrom_40, sX4_readFrom_43, sX4_readFrom_46, sX4_readFrom_47, sX4_readFrom_48, sX4_readFrom_51, sX4_readFrom_54, sX4_readFrom_55, kI_i, kL_l, kV_v, am_rv_s, am_kl_i, am_kl_r, am_kl_n, am_kl_l, true_and, and_true, and_self, true_or, or_true, implies_true, forall_const, not_true_eq_false, not_false_eq_true, false_implies, true_implies, if_true, if_false, Bool.true_eq_false, Bool.false_eq_true, ob_407, r_407_0, ob_408]
  rfl
end
