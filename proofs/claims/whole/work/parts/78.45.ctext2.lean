/-- a text's fault -/
def faultA (tp : List Nat) (so : Int32) : Int32 := if so = 0 then (if (wkT tp).1 = true then -1 else nI (wkT tp).2.2.2) else if so = 1 then (if (lwT tp).1 = true then -1 else nI (lwT tp).2.1) else if so = 2 then (if (plT tp).1 = true then -1 else nI (plT tp).2.2) else -2
/-- the draft's own places that no text writes -/
def DrC (M : am_M) : Prop := gI M 13 3 = 0 ∧ gI M 12 5 = 0 ∧ gI M 12 8 = 0
theorem s012 {so : Int32} (h0 : ¬ so < 0) (h2 : so ≤ 2) : so = 0 ∨ so = 1 ∨ so = 2 := by
  obtain ⟨k, hk, rfl⟩ := nI_of h0
  rw [show (2 : Int32) = nI 2 from rfl, nI_leE hk (by omega)] at h2
  rcases (show k = 0 ∨ k = 1 ∨ k = 2 by omega) with rfl | rfl | rfl
  · exact Or.inl rfl
  · exact Or.inr (Or.inl rfl)
  · exact Or.inr (Or.inr rfl)
section
variable {M N : am_M} {ap lim : Nat} {S : Sg} {P : List Sg} {im : Option Sg} {tp : List Nat} {d : Nat} {Q : am_Q} {LL : List (List Nat)} {h : Int32} {PL : List (List Dd)}
theorem TC_Rd (hF : Fw XRd M N) (h : TC M tp) : TC N tp := ⟨(hF.I (by unfold XRd; omega)).trans h.1, h.2.1, fun k hk => (hF.I (by unfold XRd; omega)).trans (h.2.2 k hk)⟩
theorem c_fault {so : Int32} (hd : 32 ≤ d) (hW : WR M) (h : TC M tp) : ∃ M', (∀ (Q : am_Q), am_big d mX10_fault [.ref 0, .int so] 488 M Q = Q (some (.int (faultA tp so))) M') ∧ TC M' tp ∧ Fw XRd M M' := by
  obtain ⟨d', rfl⟩ : ∃ d', d = d' + 6 := ⟨d - 6, by omega⟩
  unfold faultA
  by_cases c0 : so < 0
  · refine ⟨M, fun Q => ?_, h, Fw.rf⟩
    have n0 : ¬ so = 0 := fun z => by subst z; exact absurd c0 (by decide)
    have n1 : ¬ so = 1 := fun z => by subst z; exact absurd c0 (by decide)
    have n2 : ¬ so = 2 := fun z => by subst z; exact absurd c0 (by decide)
    rw [if_neg n0, if_neg n1, if_neg n2, eX10_fault]
    simp (disch := (first | assumption | omega | decide)) only [sX10_fault_0, sX10_fault_1, sX10_fault_4, sX10_fault_5, sX10_fault_6, sX10_fault_9, sX10_fault_11, sX10_fault_12, sX10_fault_13, sX10_fault_14, sX10_fault_17, sX10_fault_20, sX10_fault_21, sX10_fault_24, sX10_fault_25, sX10_fault_28, sX10_fault_31, kI_i, kL_l, kV_v, am_rv_s, am_kl_i, am_kl_r, am_kl_n, am_kl_l, true_and, and_true, and_self, true_or, or_true, implies_true, forall_const, not_true_eq_false, not_false_eq_true, false_implies, true_implies, if_true, if_false, Bool.true_eq_false, Bool.false_eq_true, c0]
  · by_cases c2 : so ≤ 2
    · rcases s012 c0 c2 with rfl | rfl | rfl
      · obtain ⟨M', e, g, _, f⟩ := c_reads0 hW h
        have e' := fun (Q : am_Q) => e (d' + 5) Q (by omega)
        have hW' := f.2 hW
        refine ⟨M', fun Q => ?_, TC_Rd f h, f⟩
        rw [if_pos rfl, eX10_fault]
        cases z : (wkT tp).1 with
        | true => simp (disch := (first | assumption | omega | decide)) only [sX10_fault_0, sX10_fault_1, sX10_fault_4, sX10_fault_5, sX10_fault_6, sX10_fault_9, sX10_fault_11, sX10_fault_12, sX10_fault_13, sX10_fault_14, sX10_fault_17, sX10_fault_20, sX10_fault_21, sX10_fault_24, sX10_fault_25, sX10_fault_28, sX10_fault_31, kI_i, kL_l, kV_v, am_rv_s, am_kl_i, am_kl_r, am_kl_n, am_kl_l, true_and, and_true, and_self, true_or, or_true, implies_true, forall_const, not_true_eq_false, not_false_eq_true, false_implies, true_implies, if_true, if_false, Bool.true_eq_false, Bool.false_eq_true, c0, c2, ob_0, e', z, bz_t, i01]
        | false => simp (disch := (first | assumption | omega | decide)) only [sX10_fault_0, sX10_fault_1, sX10_fault_4, sX10_fault_5, sX10_fault_6, sX10_fault_9, sX10_fault_11, sX10_fault_12, sX10_fault_13, sX10_fault_14, sX10_fault_17, sX10_fault_20, sX10_fault_21, sX10_fault_24, sX10_fault_25, sX10_fault_28, sX10_fault_31, kI_i, kL_l, kV_v, am_rv_s, am_kl_i, am_kl_r, am_kl_n, am_kl_l, true_and, and_true, and_self, true_or, or_true, implies_true, forall_const, not_true_eq_false, not_false_eq_true, false_implies, true_implies, if_true, if_false, Bool.true_eq_false, Bool.false_eq_true, c0, c2, ob_0, ob_1, e', z, bz_f, r_0_0, g]
      · obtain ⟨M', e, g, _, f⟩ := c_reads1 hW h
        have e' := fun (Q : am_Q) => e (d' + 5) Q (by omega)
        have hW' := f.2 hW
        refine ⟨M', fun Q => ?_, TC_Rd f h, f⟩
        rw [if_neg (by decide), if_pos rfl, eX10_fault]
        cases z : (lwT tp).1 with
        | true => simp (disch := (first | assumption | omega | decide)) only [sX10_fault_0, sX10_fault_1, sX10_fault_4, sX10_fault_5, sX10_fault_6, sX10_fault_9, sX10_fault_11, sX10_fault_12, sX10_fault_13, sX10_fault_14, sX10_fault_17, sX10_fault_20, sX10_fault_21, sX10_fault_24, sX10_fault_25, sX10_fault_28, sX10_fault_31, kI_i, kL_l, kV_v, am_rv_s, am_kl_i, am_kl_r, am_kl_n, am_kl_l, true_and, and_true, and_self, true_or, or_true, implies_true, forall_const, not_true_eq_false, not_false_eq_true, false_implies, true_implies, if_true, if_false, Bool.true_eq_false, Bool.false_eq_true, c0, c2, ob_0, e', z, bz_t, i01]
        | false => simp (disch := (first | assumption | omega | decide)) only [sX10_fault_0, sX10_fault_1, sX10_fault_4, sX10_fault_5, sX10_fault_6, sX10_fault_9, sX10_fault_11, sX10_fault_12, sX10_fault_13, sX10_fault_14, sX10_fault_17, sX10_fault_20, sX10_fault_21, sX10_fault_24, sX10_fault_25, sX10_fault_28, sX10_fault_31, kI_i, kL_l, kV_v, am_rv_s, am_kl_i, am_kl_r, am_kl_n, am_kl_l, true_and, and_true, and_self, true_or, or_true, implies_true, forall_const, not_true_eq_false, not_false_eq_true, false_implies, true_implies, if_true, if_false, Bool.true_eq_false, Bool.false_eq_true, c0, c2, ob_0, ob_1, e', z, bz_f, r_0_0, g]
      · obtain ⟨M', e, g, _, f⟩ := c_reads2 (d := d') hW h
        have hW' := f.2 hW
        refine ⟨M', fun Q => ?_, TC_Rd f h, f⟩
        rw [if_neg (by decide), if_neg (by decide), if_pos rfl, eX10_fault]
        cases z : (plT tp).1 with
        | true => simp (disch := (first | assumption | omega | decide)) only [sX10_fault_0, sX10_fault_1, sX10_fault_4, sX10_fault_5, sX10_fault_6, sX10_fault_9, sX10_fault_11, sX10_fault_12, sX10_fault_13, sX10_fault_14, sX10_fault_17, sX10_fault_20, sX10_fault_21, sX10_fault_24, sX10_fault_25, sX10_fault_28, sX10_fault_31, kI_i, kL_l, kV_v, am_rv_s, am_kl_i, am_kl_r, am_kl_n, am_kl_l, true_and, and_true, and_self, true_or, or_true, implies_true, forall_const, not_true_eq_false, not_false_eq_true, false_implies, true_implies, if_true, if_false, Bool.true_eq_false, Bool.false_eq_true, c0, c2, ob_0, e, z, bz_t, i01]
        | false => simp (disch := (first | assumption | omega | decide)) only [sX10_fault_0, sX10_fault_1, sX10_fault_4, sX10_fault_5, sX10_fault_6, sX10_fault_9, sX10_fault_11, sX10_fault_12, sX10_fault_13, sX10_fault_14, sX10_fault_17, sX10_fault_20, sX10_fault_21, sX10_fault_24, sX10_fault_25, sX10_fault_28, sX10_fault_31, kI_i, kL_l, kV_v, am_rv_s, am_kl_i, am_kl_r, am_kl_n, am_kl_l, true_and, and_true, and_self, true_or, or_true, implies_true, forall_const, not_true_eq_false, not_false_eq_true, false_implies, true_implies, if_true, if_false, Bool.true_eq_false, Bool.false_eq_true, c0, c2, ob_0, ob_1, e, z, bz_f, r_0_0, g]
    · refine ⟨M, fun Q => ?_, h, Fw.rf⟩
      have n0 : ¬ so = 0 := fun z => by subst z; exact absurd (by decide) c2
      have n1 : ¬ so = 1 := fun z => by subst z; exact absurd (by decide) c2
      have n2 : ¬ so = 2 := fun z => by subst z; exact absurd (by decide) c2
      rw [if_neg n0, if_neg n1, if_neg n2, eX10_fault]
      simp (disch := (first | assumption | omega | decide)) only [sX10_fault_0, sX10_fault_1, sX10_fault_4, sX10_fault_5, sX10_fault_6, sX10_fault_9, sX10_fault_11, sX10_fault_12, sX10_fault_13, sX10_fault_14, sX10_fault_17, sX10_fault_20, sX10_fault_21, sX10_fault_24, sX10_fault_25, sX10_fault_28, sX10_fault_31, kI_i, kL_l, kV_v, am_rv_s, am_kl_i, am_kl_r, am_kl_n, am_kl_l, true_and, and_true, and_self, true_or, or_true, implies_true, forall_const, not_true_eq_false, not_false_eq_true, false_implies, true_implies, if_true, if_false, Bool.true_eq_false, Bool.false_eq_true, c0, c2]
/-- a text that isn't one, or no text of a sort -/
theorem c_textNo {so : Int32} (hd : 32 ≤ d) (hW : WR M) (h : TC M tp) (hn : ¬ (so = 0 ∧ (wkT tp).1 = true) ∧ ¬ (so = 1 ∧ (lwT tp).1 = true) ∧ ¬ (so = 2 ∧ (plT tp).1 = true)) : ∃ M', (∀ (Q : am_Q), am_big d mX10_text [.ref 0, .int so] 488 M Q = Q (some (.int (-1))) M') ∧ TC M' tp ∧ Fw XRd M M' := by
  obtain ⟨d', rfl⟩ : ∃ d', d = d' + 6 := ⟨d - 6, by omega⟩
  obtain ⟨q0, q1, q2⟩ := hn
  by_cases c0 : so < 0
  · refine ⟨M, fun Q => ?_, h, Fw.rf⟩
    rw [eX10_text]
    simp (disch := (first | assumption | omega | decide)) only [sX10_text_0, sX10_text_1, sX10_text_4, sX10_text_5, sX10_text_6, sX10_text_9, sX10_text_10, sX10_text_11, sX10_text_14, sX10_text_17, sX10_text_18, sX10_text_19, sX10_text_20, sX10_text_23, sX10_text_24, sX10_text_27, sX10_text_28, sX10_text_31, sX10_text_32, sX10_text_33, sX10_text_36, sX10_text_37, sX10_text_40, sX10_text_41, sX10_text_44, sX10_text_47, sX10_text_50, sX10_text_51, sX10_text_54, sX10_text_55, sX10_text_58, sX10_text_59, sX10_text_60, sX10_text_61, sX10_text_64, sX10_text_65, sX10_text_68, sX10_text_69, sX10_text_72, sX10_text_73, kI_i, kL_l, kV_v, am_rv_s, am_kl_i, am_kl_r, am_kl_n, am_kl_l, true_and, and_true, and_self, true_or, or_true, implies_true, forall_const, not_true_eq_false, not_false_eq_true, false_implies, true_implies, if_true, if_false, Bool.true_eq_false, Bool.false_eq_true, c0]
  · by_cases c2 : so ≤ 2
    · have c2' : ¬ 2 < so := Int32.not_lt.mpr c2
      rcases s012 c0 c2 with rfl | rfl | rfl
      · obtain ⟨M', e, g, _, f⟩ := c_reads0 hW h
        have e' := fun (Q : am_Q) => e (d' + 5) Q (by omega)
        have z : (wkT tp).1 = false := by simpa using q0
        refine ⟨M', fun Q => ?_, TC_Rd f h, f⟩
        rw [eX10_text]
        simp (disch := (first | assumption | omega | decide)) only [sX10_text_0, sX10_text_1, sX10_text_4, sX10_text_5, sX10_text_6, sX10_text_9, sX10_text_10, sX10_text_11, sX10_text_14, sX10_text_17, sX10_text_18, sX10_text_19, sX10_text_20, sX10_text_23, sX10_text_24, sX10_text_27, sX10_text_28, sX10_text_31, sX10_text_32, sX10_text_33, sX10_text_36, sX10_text_37, sX10_text_40, sX10_text_41, sX10_text_44, sX10_text_47, sX10_text_50, sX10_text_51, sX10_text_54, sX10_text_55, sX10_text_58, sX10_text_59, sX10_text_60, sX10_text_61, sX10_text_64, sX10_text_65, sX10_text_68, sX10_text_69, sX10_text_72, sX10_text_73, kI_i, kL_l, kV_v, am_rv_s, am_kl_i, am_kl_r, am_kl_n, am_kl_l, true_and, and_true, and_self, true_or, or_true, implies_true, forall_const, not_true_eq_false, not_false_eq_true, false_implies, true_implies, if_true, if_false, Bool.true_eq_false, Bool.false_eq_true, c0, c2', ob_0, e', z, bz_f]
      · obtain ⟨M', e, g, _, f⟩ := c_reads1 hW h
        have e' := fun (Q : am_Q) => e (d' + 5) Q (by omega)
        have z : (lwT tp).1 = false := by simpa using q1
        refine ⟨M', fun Q => ?_, TC_Rd f h, f⟩
        rw [eX10_text]
        simp (disch := (first | assumption | omega | decide)) only [sX10_text_0, sX10_text_1, sX10_text_4, sX10_text_5, sX10_text_6, sX10_text_9, sX10_text_10, sX10_text_11, sX10_text_14, sX10_text_17, sX10_text_18, sX10_text_19, sX10_text_20, sX10_text_23, sX10_text_24, sX10_text_27, sX10_text_28, sX10_text_31, sX10_text_32, sX10_text_33, sX10_text_36, sX10_text_37, sX10_text_40, sX10_text_41, sX10_text_44, sX10_text_47, sX10_text_50, sX10_text_51, sX10_text_54, sX10_text_55, sX10_text_58, sX10_text_59, sX10_text_60, sX10_text_61, sX10_text_64, sX10_text_65, sX10_text_68, sX10_text_69, sX10_text_72, sX10_text_73, kI_i, kL_l, kV_v, am_rv_s, am_kl_i, am_kl_r, am_kl_n, am_kl_l, true_and, and_true, and_self, true_or, or_true, implies_true, forall_const, not_true_eq_false, not_false_eq_true, false_implies, true_implies, if_true, if_false, Bool.true_eq_false, Bool.false_eq_true, c0, c2', ob_0, e', z, bz_f]
      · obtain ⟨M', e, g, _, f⟩ := c_reads2 (d := d') hW h
        have z : (plT tp).1 = false := by simpa using q2
        refine ⟨M', fun Q => ?_, TC_Rd f h, f⟩
        rw [eX10_text]
        simp (disch := (first | assumption | omega | decide)) only [sX10_text_0, sX10_text_1, sX10_text_4, sX10_text_5, sX10_text_6, sX10_text_9, sX10_text_10, sX10_text_11, sX10_text_14, sX10_text_17, sX10_text_18, sX10_text_19, sX10_text_20, sX10_text_23, sX10_text_24, sX10_text_27, sX10_text_28, sX10_text_31, sX10_text_32, sX10_text_33, sX10_text_36, sX10_text_37, sX10_text_40, sX10_text_41, sX10_text_44, sX10_text_47, sX10_text_50, sX10_text_51, sX10_text_54, sX10_text_55, sX10_text_58, sX10_text_59, sX10_text_60, sX10_text_61, sX10_text_64, sX10_text_65, sX10_text_68, sX10_text_69, sX10_text_72, sX10_text_73, kI_i, kL_l, kV_v, am_rv_s, am_kl_i, am_kl_r, am_kl_n, am_kl_l, true_and, and_true, and_self, true_or, or_true, implies_true, forall_const, not_true_eq_false, not_false_eq_true, false_implies, true_implies, if_true, if_false, Bool.true_eq_false, Bool.false_eq_true, c0, c2', ob_0, e, z, bz_f]
    · refine ⟨M, fun Q => ?_, h, Fw.rf⟩
      have c2' : 2 < so := Int32.not_le.mp c2
      rw [eX10_text]
      simp (disch := (first | assumption | omega | decide)) only [sX10_text_0, sX10_text_1, sX10_text_4, sX10_text_5, sX10_text_6, sX10_text_9, sX10_text_10, sX10_text_11, sX10_text_14, sX10_text_17, sX10_text_18, sX10_text_19, sX10_text_20, sX10_text_23, sX10_text_24, sX10_text_27, sX10_text_28, sX10_text_31, sX10_text_32, sX10_text_33, sX10_text_36, sX10_text_37, sX10_text_40, sX10_text_41, sX10_text_44, sX10_text_47, sX10_text_50, sX10_text_51, sX10_text_54, sX10_text_55, sX10_text_58, sX10_text_59, sX10_text_60, sX10_text_61, sX10_text_64, sX10_text_65, sX10_text_68, sX10_text_69, sX10_text_72, sX10_text_73, kI_i, kL_l, kV_v, am_rv_s, am_kl_i, am_kl_r, am_kl_n, am_kl_l, true_and, and_true, and_self, true_or, or_true, implies_true, forall_const, not_true_eq_false, not_false_eq_true, false_implies, true_implies, if_true, if_false, Bool.true_eq_false, Bool.false_eq_true, c0, c2']
def XT0 (c j : Nat) : Prop := XRd c j ∨ (c = 1 ∧ j = 1) ∨ (3 ≤ c ∧ c ≤ 11) ∨ (c = 30 ∧ j = 2) ∨ (c = 0 ∧ j = 4) ∨ (c = 435 ∧ j = 4)
/-- a workshop's text -/
theorem c_text0 (hd : 32 ≤ d) (hW : WR M) (h : TC M tp) (hD : DrC M) (hP : PaC M ap lim P) (hok : (wkT tp).1 = true) : ∃ M', (∀ (Q : am_Q), am_big d mX10_text [.ref 0, .int 0] 488 M Q = Q (some (.int (nI (wkT tp).2.1.length))) M') ∧ TC M' [] ∧ (∀ lm, (wkT tp).2.2.1 = nI lm → StC M' 3 (wkT tp).2.1.length lm (sgT (wkT tp).2.1) ∧ PaC M' (wkT tp).2.1.length lm [] ∧ ImC M' (wkT tp).2.1.length lm none) ∧ SeC M' [] ∧ Fw XT0 M M' := by
  obtain ⟨d', rfl⟩ : ∃ d', d = d' + 6 := ⟨d - 6, by omega⟩
  obtain ⟨b1, ⟨lm, hlm, elm⟩, b3⟩ := wkT_B hok
  obtain ⟨M1, e, g, r, f⟩ := c_reads0 hW h
  have e' := fun (Q : am_Q) => e (d' + 5) Q (by omega)
  obtain ⟨r1, r2, r3⟩ := r hok
  have w1 := f.2 hW
  have l4 := b1.1
  have hroom := b1.2
  have d1 : gI M1 13 3 = 0 := (f.I (by unfold XRd; omega)).trans hD.1
  have d2 : gI M1 12 5 = 0 := (f.I (by unfold XRd; omega)).trans hD.2.1
  have d3 : gI M1 12 8 = 0 := (f.I (by unfold XRd; omega)).trans hD.2.2
  generalize hl : (wkT tp).2.1 = l at *
  rw [elm] at r2
  have s12 : StC M1 12 l.length lm (sgT l) := by
    have st := STs_12 w1
    refine ⟨st, ⟨⟨st.2.2.1, d1, by show (0 : Nat) ≤ 16; omega⟩, fun k t hk => by cases hk⟩, r1, r2, d2, fun i hi => ⟨(r3 i hi).1, ?_⟩, ⟨0, d3, Nat.le_refl _, rfl, fun i hi => by cases hi⟩, l4, by show (0 : Nat) ≤ 9999; omega⟩
    show gI M1 18 i = bz ((rbF l l.length).testBit i)
    rw [(r3 i hi).2, rbF_bit]
    rcases hroom (l.getD i (0, 0)) (by rw [getD_of hi]; exact List.getElem_mem hi) with q | q
    · rw [q, decide_eq_false (fun z => absurd z.2 (by decide))]; rfl
    · rw [q, decide_eq_true ⟨hi, rfl⟩]; rfl
  obtain ⟨M2, e2, s3, f2⟩ := c_copyState (STs_3 w1) s12 (by omega) (by show (0 : Nat) ≤ 16; omega)
  have w2 := f2.2 w1
  have g3 : gI M2 3 3 = nI l.length := s3.2.2.1
  have f3 : Fw (fun c j => (c = 30 ∧ j = 2) ∨ (c = 0 ∧ j = 4) ∨ (c = 435 ∧ j = 4) ∨ (c = 1 ∧ j = 1)) M2 (sI (sI (sI (sI M2 30 2 0) 0 4 0) 435 4 0) 1 1 0) := by
    refine (((Fw.s ?_).tr (Fw.s ?_)).tr (Fw.s ?_)).tr (Fw.s ?_) <;> omega
  have cl : ∀ d (Q : am_Q), am_big (d + 1) mX6_clear [.ref 30] 488 M2 Q = Q none (sI M2 30 2 0) := fun d Q => by
    rw [eX6_clear]
    simp (disch := (first | assumption | omega | decide)) only [sX6_clear_0, sX6_clear_1, sX6_clear_2, sX6_clear_5, kI_i, kL_l, kV_v, am_rv_s, am_kl_i, am_kl_r, am_kl_n, am_kl_l, true_and, and_true, and_self, true_or, or_true, implies_true, forall_const, not_true_eq_false, not_false_eq_true, false_implies, true_implies, if_true, if_false, Bool.true_eq_false, Bool.false_eq_true, ob_30]
  have o0 : ((0 : Int32) = 0 ∨ (0 : Int32) = 1) = True := by simp
  have g3' : gI (sI (sI (sI M2 30 2 0) 0 4 0) 435 4 0) 3 3 = nI l.length := by rw [gI_o (by omega), gI_o (by omega), gI_o (by omega)]; exact g3
  have op : ∀ d (Q : am_Q), am_big (d + 4) mX10_openWorkshop [.ref 0] 488 M1 Q = Q (some (.int (nI l.length))) (sI (sI (sI M2 30 2 0) 0 4 0) 435 4 0) := fun d Q => by
    rw [eX10_openWorkshop]
    simp (disch := (first | assumption | omega | decide)) only [sX10_openWorkshop_0, sX10_openWorkshop_1, sX10_openWorkshop_4, sX10_openWorkshop_5, sX10_openWorkshop_8, sX10_openWorkshop_11, sX10_openWorkshop_12, sX10_openWorkshop_15, sX10_openWorkshop_18, sX10_openWorkshop_19, sX10_openWorkshop_20, sX10_openWorkshop_23, sX10_openWorkshop_24, sX10_openWorkshop_27, sX10_openWorkshop_28, sX10_openWorkshop_31, sX10_openWorkshop_32, sX10_openWorkshop_35, sX10_openWorkshop_38, kI_i, kL_l, kV_v, am_rv_s, am_kl_i, am_kl_r, am_kl_n, am_kl_l, true_and, and_true, and_self, true_or, or_true, implies_true, forall_const, not_true_eq_false, not_false_eq_true, false_implies, true_implies, if_true, if_false, Bool.true_eq_false, Bool.false_eq_true, ob_0, ob_3, ob_12, ob_30, ob_435, r_0_1, r_0_2, r_0_5, r_0_14, e2, cl, gR_sI, o0, g3']
  have nm : (nI l.length = -1) = False := nI_m1 (by omega)
  have i00 : ((0 : Int32) = 0) = True := eq_true rfl
  have n20 : ¬ (2 : Int32) < 0 := by decide
  have n00 : ¬ (0 : Int32) < 0 := by decide
  refine ⟨sI (sI (sI (sI M2 30 2 0) 0 4 0) 435 4 0) 1 1 0, fun Q => ?_, ⟨gI_e, by simp, fun k hk => by cases hk⟩, fun lm' elm' => ?_, ⟨?_, by simp, fun i hi => by cases hi⟩, ?_⟩
  · rw [eX10_text]
    simp (disch := (first | assumption | omega | decide)) only [sX10_text_0, sX10_text_1, sX10_text_4, sX10_text_5, sX10_text_6, sX10_text_9, sX10_text_10, sX10_text_11, sX10_text_14, sX10_text_17, sX10_text_18, sX10_text_19, sX10_text_20, sX10_text_23, sX10_text_24, sX10_text_27, sX10_text_28, sX10_text_31, sX10_text_32, sX10_text_33, sX10_text_36, sX10_text_37, sX10_text_40, sX10_text_41, sX10_text_44, sX10_text_47, sX10_text_50, sX10_text_51, sX10_text_54, sX10_text_55, sX10_text_58, sX10_text_59, sX10_text_60, sX10_text_61, sX10_text_64, sX10_text_65, sX10_text_68, sX10_text_69, sX10_text_72, sX10_text_73, kI_i, kL_l, kV_v, am_rv_s, am_kl_i, am_kl_r, am_kl_n, am_kl_l, true_and, and_true, and_self, true_or, or_true, implies_true, forall_const, not_true_eq_false, not_false_eq_true, false_implies, true_implies, if_true, if_false, Bool.true_eq_false, Bool.false_eq_true, n00, n20, ob_0, ob_1, e', hok, bz_t, i01, i00, op, nm, r_0_0, gR_sI]
  · have : nI lm = nI lm' := elm ▸ elm'
    have ex : StC (sI (sI (sI (sI M2 30 2 0) 0 4 0) 435 4 0) 1 1 0) 3 l.length lm (sgT l) := StC_Fw f3 (fun c j x y => by omega) s3
    obtain ⟨old, ho, a1, -⟩ := hP
    have r1 : gI (sI (sI (sI (sI M2 30 2 0) 0 4 0) 435 4 0) 1 1 0) 30 1 = nI old := by rw [f3.I (by omega), f2.I (by omega), f.I (by unfold XRd; omega)]; exact a1
    refine ⟨⟨ex.1, ex.2.1, ex.2.2.1, ?_, ex.2.2.2.2⟩, ⟨old, ho, r1, ?_, by simp, fun i hi => by cases hi⟩, ⟨?_, fun I hI => by cases hI⟩⟩
    · rw [ex.2.2.2.1, this]
    · rw [gI_o (by omega), gI_o (by omega), gI_o (by omega), gI_e]; rfl
    · rw [gI_o (by omega), gI_o (by omega), gI_e]; rfl
  · rw [gI_o (by omega), gI_e]; rfl
  · exact ((f.mo (fun c j z => Or.inl z)).tr (f2.mo (fun c j z => Or.inr (Or.inr (Or.inl (by omega)))))).tr (f3.mo (fun c j z => by omega))
theorem c_copyLaw {a : Nat} {c : List Int32} (ha : LWs M a) (hb : LW M 408 c) (hd : a + 1 < 408) : am_big (d + 1) mX2_copyFrom [.ref a, .ref 408] 488 M Q = Q none (cpI (sI M a 2 (nI c.length)) 409 0 (a + 1) 0 c.length) := by
  obtain ⟨a1, a2, a3, a4, a5, a6⟩ := ha
  obtain ⟨⟨b1, b2, b3, b4, b5, b6⟩, b7, b8, b9⟩ := hb
  have oa := ob (a := a) (c := 2) (by omega) a2
  have g2 : gI (sI M a 2 (nI c.length)) a 2 = nI c.length := gI_e
  have b5' : gR M 408 0 = some 409 := b5
  have cc : (nI c.length).toNatClampNeg = c.length := nI_clamp (by omega)
  have c0 : (0 : Int32).toNatClampNeg = 0 := rfl
  have ck : am_cpok 488 409 0 (a + 1) 0 (nI c.length) = True := by
    refine eq_true ⟨by omega, by omega, rfl, by rw [a3], by decide, by decide, ?_, ?_, ?_⟩
    · rw [nI_lt0 (by omega)]; exact fun z => z
    · rw [cc, c0]; show 0 + c.length ≤ 480; omega
    · rw [cc, c0, a3]; show 0 + c.length ≤ 480; omega
  rw [eX2_copyFrom]
  simp (disch := (first | assumption | omega | decide)) only [sX2_copyFrom_0, sX2_copyFrom_1, sX2_copyFrom_2, sX2_copyFrom_5, sX2_copyFrom_8, sX2_copyFrom_9, sX2_copyFrom_12, sX2_copyFrom_13, sX2_copyFrom_14, sX2_copyFrom_17, sX2_copyFrom_18, sX2_copyFrom_19, sX2_copyFrom_22, sX2_copyFrom_25, kI_i, kL_l, kV_v, am_rv_s, am_kl_i, am_kl_r, am_kl_n, am_kl_l, true_and, and_true, and_self, true_or, or_true, implies_true, forall_const, not_true_eq_false, not_false_eq_true, false_implies, true_implies, if_true, if_false, Bool.true_eq_false, Bool.false_eq_true, oa, ob_408, b7, gR_sI, b5', a5, g2, ck, cc, c0]
def XT1 (c j : Nat) : Prop := XRd c j ∨ (c = 1 ∧ j = 1) ∨ (395 ≤ c ∧ c ≤ 405) ∨ (c = 392 ∧ j = 2)
/-- a law's text -/
theorem c_text1 (hd : 32 ≤ d) (hW : WR M) (ht : TC M tp) (hk : tpK tp) (hb : LbC M LL h) (hok : (lwT tp).1 = true) : ∃ M', (∀ (Q : am_Q), am_big d mX10_text [.ref 0, .int 1] 488 M Q = Q (some (.int (if LL.length < 4 then nI LL.length else -1))) M') ∧ TC M' (if LL.length < 4 then [] else tp) ∧ LbC M' (if LL.length < 4 then LL ++ [tp] else LL) h ∧ Fw XT1 M M' := by
  obtain ⟨d', rfl⟩ : ∃ d', d = d' + 6 := ⟨d - 6, by omega⟩
  obtain ⟨M1, e, g, r, f⟩ := c_reads1 hW ht
  have e' := fun (Q : am_Q) => e (d' + 5) Q (by omega)
  have lw := r hok
  have w1 := f.2 hW
  have hb1 : LbC M1 LL h := LbC_Fw f (fun c j hc => by unfold XRd; omega) hb
  have t1 := TC_Rd f ht
  obtain ⟨h1, h2, h3, h4, h5, h6⟩ := id hb1
  have n10 : ((1 : Int32) = 0) = False := by simp
  have i11 : ((1 : Int32) = 1) = True := eq_true rfl
  have n1 : ¬ (1 : Int32) < 0 := by decide
  have n2 : ¬ (2 : Int32) < 1 := by decide
  by_cases c4 : LL.length < 4
  · rw [if_pos c4, if_pos c4, if_pos c4]
    have ls := LWs_i w1 c4
    have cp := fun d (Q : am_Q) => c_copyLaw (d := d) (Q := Q) ls lw (by omega)
    have cl := lw.2.2.1
    have fc : Fw (fun c _ => 395 ≤ c ∧ c ≤ 405) M1 (cpI (sI M1 (395 + 3 * LL.length) 2 (nI (cod (lwT tp).2.2).length)) 409 0 (395 + 3 * LL.length + 1) 0 (cod (lwT tp).2.2).length) := (Fw.s (by omega)).tr (Fw.c (fun k => by omega))
    have gq : ∀ k, k < (cod (lwT tp).2.2).length → gI (cpI (sI M1 (395 + 3 * LL.length) 2 (nI (cod (lwT tp).2.2).length)) 409 0 (395 + 3 * LL.length + 1) 0 (cod (lwT tp).2.2).length) (395 + 3 * LL.length + 1) k = gI M1 409 k := fun k hk => by
      rw [gI_cpi (by omega) (by omega), gI_o (by omega)]
      congr 1
      omega
    have g2 : gI (cpI (sI M1 (395 + 3 * LL.length) 2 (nI (cod (lwT tp).2.2).length)) 409 0 (395 + 3 * LL.length + 1) 0 (cod (lwT tp).2.2).length) (395 + 3 * LL.length) 2 = nI (cod (lwT tp).2.2).length := by
      rw [gI_cpo (by omega), gI_e]
    have go : ∀ c j, (c < 395 + 3 * LL.length) → gI (cpI (sI M1 (395 + 3 * LL.length) 2 (nI (cod (lwT tp).2.2).length)) 409 0 (395 + 3 * LL.length + 1) 0 (cod (lwT tp).2.2).length) c j = gI M1 c j := fun c j hc => by
      rw [gI_cpo (by omega), gI_o (by omega)]
    generalize hM2 : cpI (sI M1 (395 + 3 * LL.length) 2 (nI (cod (lwT tp).2.2).length)) 409 0 (395 + 3 * LL.length + 1) 0 (cod (lwT tp).2.2).length = M2 at *
    have w2 := fc.2 w1
    have m1 : gI M2 392 2 = nI LL.length := (fc.I (by omega)).trans h1
    have m2 : gI (sI M2 392 2 (nI (LL.length + 1))) 392 2 = nI (LL.length + 1) := gI_e
    have lt4 : ((4 : Int32) ≤ nI LL.length) = False := by rw [show (4 : Int32) = nI 4 from rfl, nI_leE (by omega) (by omega)]; exact eq_false (by omega)
    have lt4' : (nI LL.length < (4 : Int32)) = True := by rw [show (4 : Int32) = nI 4 from rfl, nI_ltE (by omega) (by omega)]; exact eq_true (by omega)
    have iz : (am_iw 488 393 5 (nI LL.length) ∨ am_iw 488 393 6 (nI LL.length) ∨ am_iw 488 393 7 (nI LL.length)) = True := by rw [iw_393 (by omega)]; simp
    have oo := ob (a := 395 + 3 * LL.length) (c := 2) (by omega) ls.2.1
    have r0 : gR M1 393 LL.length = some (395 + 3 * LL.length) := r_393 w1 (by omega)
    have cc : (nI LL.length).toNatClampNeg = LL.length := nI_clamp (by omega)
    have sb : nI (LL.length + 1) - 1 = nI LL.length := by rw [nI_sub1 (by omega)]; rfl
    have kp : ∀ d (Q : am_Q), am_big (d + 2) mX3_keep [.ref 392, .ref 408] 488 M1 Q = Q (some (.int (nI LL.length))) (sI M2 392 2 (nI (LL.length + 1))) := fun d Q => by
      rw [eX3_keep]
      simp (disch := (first | assumption | omega | decide)) only [sX3_keep_0, sX3_keep_1, sX3_keep_4, sX3_keep_5, sX3_keep_8, sX3_keep_9, sX3_keep_10, sX3_keep_11, sX3_keep_14, sX3_keep_15, sX3_keep_18, sX3_keep_19, sX3_keep_20, sX3_keep_23, sX3_keep_24, sX3_keep_25, sX3_keep_28, sX3_keep_29, sX3_keep_30, sX3_keep_33, sX3_keep_34, sX3_keep_37, sX3_keep_38, sX3_keep_39, kI_i, kL_l, kV_v, am_rv_s, am_kl_i, am_kl_r, am_kl_n, am_kl_l, true_and, and_true, and_self, true_or, or_true, implies_true, forall_const, not_true_eq_false, not_false_eq_true, false_implies, true_implies, if_true, if_false, Bool.true_eq_false, Bool.false_eq_true, ob_392, h1, lt4', r_392_0, iz, cc, r0, oo, cp, m1, nI_1, m2, sb]
    have nm : (nI LL.length = -1) = False := nI_m1 (by omega)
    have f3 : Fw XT1 M2 (sI (sI M2 392 2 (nI (LL.length + 1))) 1 1 0) := (Fw.s (by unfold XT1; omega)).tr (Fw.s (by unfold XT1; omega))
    refine ⟨sI (sI M2 392 2 (nI (LL.length + 1))) 1 1 0, fun Q => ?_, ⟨gI_e, by simp, fun k hk => by cases hk⟩, ?_, ((f.mo (fun c j z => Or.inl z)).tr (fc.mo (fun c j z => Or.inr (Or.inr (Or.inl z))))).tr f3⟩
    · rw [eX10_text]
      simp (disch := (first | assumption | omega | decide)) only [sX10_text_0, sX10_text_1, sX10_text_4, sX10_text_5, sX10_text_6, sX10_text_9, sX10_text_10, sX10_text_11, sX10_text_14, sX10_text_17, sX10_text_18, sX10_text_19, sX10_text_20, sX10_text_23, sX10_text_24, sX10_text_27, sX10_text_28, sX10_text_31, sX10_text_32, sX10_text_33, sX10_text_36, sX10_text_37, sX10_text_40, sX10_text_41, sX10_text_44, sX10_text_47, sX10_text_50, sX10_text_51, sX10_text_54, sX10_text_55, sX10_text_58, sX10_text_59, sX10_text_60, sX10_text_61, sX10_text_64, sX10_text_65, sX10_text_68, sX10_text_69, sX10_text_72, sX10_text_73, kI_i, kL_l, kV_v, am_rv_s, am_kl_i, am_kl_r, am_kl_n, am_kl_l, true_and, and_true, and_self, true_or, or_true, implies_true, forall_const, not_true_eq_false, not_false_eq_true, false_implies, true_implies, if_true, if_false, Bool.true_eq_false, Bool.false_eq_true, n1, n2, ob_0, ob_1, ob_392, ob_407, ob_408, e', hok, bz_t, i01, i11, n10, r_0_6, r_0_7, r_407_0, kp, nm, r_0_0, gR_sI]
    · have w3 := f3.2 w2
      have gs : ∀ c j, ¬ c = 392 → ¬ c = 1 → gI (sI (sI M2 392 2 (nI (LL.length + 1))) 1 1 0) c j = gI M2 c j := fun c j x y => by rw [gI_o y, gI_o x]
      refine ⟨?_, ?_, by rw [List.length_append]; simp; omega, fun t hm => ?_, ?_, fun i hi => ?_⟩
      · rw [gI_o (by omega), gI_e, List.length_append]; rfl
      · rw [gI_o (by omega), gI_j (by omega), fc.I (by omega)]; exact h2
      · rw [List.mem_append, List.mem_singleton] at hm
        rcases hm with hm | rfl
        · exact h4 t hm
        · exact ⟨hk, ht.2.1, hok⟩
      · rcases h5 with h5 | ⟨i, hi, h5⟩
        · exact Or.inl h5
        · exact Or.inr ⟨i, by rw [List.length_append]; omega, h5⟩
      · rw [List.length_append] at hi
        have hi' : i < LL.length + 1 := hi
        by_cases q : i = LL.length
        · subst q
          have ei : (LL ++ [tp])[LL.length] = tp := by simp
          rw [ei]
          exact ⟨LWs_i w3 (by omega), by rw [gs _ _ (by omega) (by omega)]; exact g2, cl, fun k hk => by rw [gs _ _ (by omega) (by omega), gq k hk]; exact lw.2.2.2 k hk⟩
        · have hil : i < LL.length := by omega
          have ei : (LL ++ [tp])[i] = LL[i] := List.getElem_append_left hil
          rw [ei]
          obtain ⟨_, y1, y2, y3⟩ := h6 i hil
          exact ⟨LWs_i w3 (by omega), by rw [gs _ _ (by omega) (by omega), go _ _ (by omega)]; exact y1, y2, fun k hk => by rw [gs _ _ (by omega) (by omega), go _ _ (by omega)]; exact y3 k hk⟩
  · rw [if_neg c4, if_neg c4, if_neg c4]
    have lt4' : (nI LL.length < (4 : Int32)) = False := by rw [show (4 : Int32) = nI 4 from rfl, nI_ltE (by omega) (by omega)]; exact eq_false (by omega)
    have kp : ∀ d (Q : am_Q), am_big (d + 2) mX3_keep [.ref 392, .ref 408] 488 M1 Q = Q (some (.int (-1))) M1 := fun d Q => by
      rw [eX3_keep]
      simp (disch := (first | assumption | omega | decide)) only [sX3_keep_0, sX3_keep_1, sX3_keep_4, sX3_keep_5, sX3_keep_8, sX3_keep_9, sX3_keep_10, sX3_keep_11, sX3_keep_14, sX3_keep_15, sX3_keep_18, sX3_keep_19, sX3_keep_20, sX3_keep_23, sX3_keep_24, sX3_keep_25, sX3_keep_28, sX3_keep_29, sX3_keep_30, sX3_keep_33, sX3_keep_34, sX3_keep_37, sX3_keep_38, sX3_keep_39, kI_i, kL_l, kV_v, am_rv_s, am_kl_i, am_kl_r, am_kl_n, am_kl_l, true_and, and_true, and_self, true_or, or_true, implies_true, forall_const, not_true_eq_false, not_false_eq_true, false_implies, true_implies, if_true, if_false, Bool.true_eq_false, Bool.false_eq_true, ob_392, h1, lt4']
    have mm : ((-1 : Int32) = -1) = True := eq_true rfl
    refine ⟨M1, fun Q => ?_, t1, hb1, f.mo (fun c j z => Or.inl z)⟩
    rw [eX10_text]
    simp (disch := (first | assumption | omega | decide)) only [sX10_text_0, sX10_text_1, sX10_text_4, sX10_text_5, sX10_text_6, sX10_text_9, sX10_text_10, sX10_text_11, sX10_text_14, sX10_text_17, sX10_text_18, sX10_text_19, sX10_text_20, sX10_text_23, sX10_text_24, sX10_text_27, sX10_text_28, sX10_text_31, sX10_text_32, sX10_text_33, sX10_text_36, sX10_text_37, sX10_text_40, sX10_text_41, sX10_text_44, sX10_text_47, sX10_text_50, sX10_text_51, sX10_text_54, sX10_text_55, sX10_text_58, sX10_text_59, sX10_text_60, sX10_text_61, sX10_text_64, sX10_text_65, sX10_text_68, sX10_text_69, sX10_text_72, sX10_text_73, kI_i, kL_l, kV_v, am_rv_s, am_kl_i, am_kl_r, am_kl_n, am_kl_l, true_and, and_true, and_self, true_or, or_true, implies_true, forall_const, not_true_eq_false, not_false_eq_true, false_implies, true_implies, if_true, if_false, Bool.true_eq_false, Bool.false_eq_true, n1, n2, ob_0, ob_1, ob_392, ob_407, ob_408, e', hok, bz_t, i01, i11, n10, r_0_6, r_0_7, r_407_0, kp, mm]
def XT2 (c j : Nat) : Prop := XRd c j ∨ (c = 1 ∧ j = 1) ∨ (441 ≤ c ∧ c ≤ 456) ∨ (c = 0 ∧ j = 9)
theorem pl_b : ∀ i, i < 4 → (am_T (441 + 4 * i) = (0, 0) ∧ am_T (441 + 4 * i + 1) = (1, 16) ∧ am_T (441 + 4 * i + 2) = (1, 16) ∧ am_T (441 + 4 * i + 3) = (1, 16)) ∧ rfT (441 + 4 * i) 0 = some (441 + 4 * i + 1) ∧ rfT (441 + 4 * i) 1 = some (441 + 4 * i + 2) ∧ rfT (441 + 4 * i) 2 = some (441 + 4 * i + 3) ∧ rfT 411 i = some (441 + 4 * i) := by decide +kernel
theorem DLs_i {i : Nat} (hW : WR M) (hi : i < 4) : DLs M (441 + 4 * i) := by
  obtain ⟨⟨t0, t1, t2, t3⟩, r0, r1, r2, _⟩ := pl_b i hi
  exact ⟨by omega, t0, t1, t2, t3, hW _ _ _ r0, hW _ _ _ r1, hW _ _ _ r2⟩
/-- a making's text -/
theorem c_text2 (hd : 32 ≤ d) (hW : WR M) (ht : TC M tp) (hb : PlC M PL) (hok : (plT tp).1 = true) : ∃ M', (∀ (Q : am_Q), am_big d mX10_text [.ref 0, .int 2] 488 M Q = Q (some (.int (if PL.length < 4 then nI PL.length else -1))) M') ∧ TC M' (if PL.length < 4 then [] else tp) ∧ PlC M' (if PL.length < 4 then PL ++ [(plT tp).2.1] else PL) ∧ Fw XT2 M M' := by
  obtain ⟨d', rfl⟩ : ∃ d', d = d' + 6 := ⟨d - 6, by omega⟩
  obtain ⟨M1, e, g, lh, f⟩ := c_reads2 (d := d') hW ht
  have w1 := f.2 hW
  have hb1 : PlC M1 PL := ⟨(f.I (by unfold XRd; omega)).trans hb.1, hb.2.1, fun i hi => by have := hb.2.1; exact LH_of (fun c j x y => f.I (by unfold XRd; omega)) (fun c j x y => f.R (by unfold XRd; omega)) (hb.2.2 i hi)⟩
  have t1 := TC_Rd f ht
  obtain ⟨h1, h2, h3⟩ := id hb1
  have n20 : ((2 : Int32) = 0) = False := by simp
  have n21 : ((2 : Int32) = 1) = False := by simp
  have n1 : ¬ (2 : Int32) < 0 := by decide
  have n2 : ¬ (2 : Int32) < 2 := by decide
  by_cases c4 : PL.length < 4
  · rw [if_pos c4, if_pos c4, if_pos c4]
    have ds := DLs_i w1 c4
    have ln := lh.1.2.2
    have cp := fun d (Q : am_Q) => c_copyDL (d := d) (Q := Q) ds lh.1 (by omega)
    have fc : Fw (fun c _ => 441 ≤ c ∧ c ≤ 456) M1 (cpyM M1 (441 + 4 * PL.length) 412 (plT tp).2.1.length) := by
      unfold cpyM
      refine (((Fw.s ?_).tr (Fw.c (fun k => ?_))).tr (Fw.c (fun k => ?_))).tr (Fw.c (fun k => ?_)) <;> omega
    have lc : LH (cpyM M1 (441 + 4 * PL.length) 412 (plT tp).2.1.length) (441 + 4 * PL.length) (plT tp).2.1 := LH_cpy ds lh (by omega)
    have go : ∀ c j, c < 441 + 4 * PL.length → gI (cpyM M1 (441 + 4 * PL.length) 412 (plT tp).2.1.length) c j = gI M1 c j := fun c j hc => gI_cpyo (by omega)
    have gr : ∀ c j, gR (cpyM M1 (441 + 4 * PL.length) 412 (plT tp).2.1.length) c j = gR M1 c j := fun c j => gR_cpy
    generalize hM2 : cpyM M1 (441 + 4 * PL.length) 412 (plT tp).2.1.length = M2 at *
    have w2 := fc.2 w1
    have m1 : gI M2 0 9 = nI PL.length := (fc.I (by omega)).trans h1
    have m2 : gI (sI M2 0 9 (nI (PL.length + 1))) 0 9 = nI (PL.length + 1) := gI_e
    have lt4' : (nI PL.length < (4 : Int32)) = True := by rw [show (4 : Int32) = nI 4 from rfl, nI_ltE (by omega) (by omega)]; exact eq_true (by omega)
    have iz : (am_iw 488 411 5 (nI PL.length) ∨ am_iw 488 411 6 (nI PL.length) ∨ am_iw 488 411 7 (nI PL.length)) = True := by rw [iw_411 (by omega)]; simp
    have oo := ob (a := 441 + 4 * PL.length) (c := 0) (by omega) ds.2.1
    have r0 : gR M1 411 PL.length = some (441 + 4 * PL.length) := w1 _ _ _ (pl_b PL.length c4).2.2.2.2
    have cc : (nI PL.length).toNatClampNeg = PL.length := nI_clamp (by omega)
    have sb : nI (PL.length + 1) - 1 = nI PL.length := by rw [nI_sub1 (by omega)]; rfl
    have kp : ∀ d (Q : am_Q), am_big (d + 2) mX10_keepMaking [.ref 0] 488 M1 Q = Q (some (.int (nI PL.length))) (sI M2 0 9 (nI (PL.length + 1))) := fun d Q => by
      rw [eX10_keepMaking]
      simp (disch := (first | assumption | omega | decide)) only [sX10_keepMaking_0, sX10_keepMaking_1, sX10_keepMaking_4, sX10_keepMaking_5, sX10_keepMaking_8, sX10_keepMaking_9, sX10_keepMaking_10, sX10_keepMaking_11, sX10_keepMaking_14, sX10_keepMaking_15, sX10_keepMaking_18, sX10_keepMaking_19, sX10_keepMaking_20, sX10_keepMaking_23, sX10_keepMaking_26, sX10_keepMaking_27, sX10_keepMaking_28, sX10_keepMaking_31, sX10_keepMaking_32, sX10_keepMaking_33, sX10_keepMaking_36, sX10_keepMaking_37, sX10_keepMaking_40, sX10_keepMaking_41, sX10_keepMaking_42, kI_i, kL_l, kV_v, am_rv_s, am_kl_i, am_kl_r, am_kl_n, am_kl_l, true_and, and_true, and_self, true_or, or_true, implies_true, forall_const, not_true_eq_false, not_false_eq_true, false_implies, true_implies, if_true, if_false, Bool.true_eq_false, Bool.false_eq_true, ob_0, ob_412, h1, lt4', r_0_8, r_0_10, iz, cc, r0, oo, cp, m1, nI_1, m2, sb]
    have nm : (nI PL.length = -1) = False := nI_m1 (by omega)
    have f3 : Fw XT2 M2 (sI (sI M2 0 9 (nI (PL.length + 1))) 1 1 0) := (Fw.s (by unfold XT2; omega)).tr (Fw.s (by unfold XT2; omega))
    refine ⟨sI (sI M2 0 9 (nI (PL.length + 1))) 1 1 0, fun Q => ?_, ⟨gI_e, by simp, fun k hk => by cases hk⟩, ?_, ((f.mo (fun c j z => Or.inl z)).tr (fc.mo (fun c j z => Or.inr (Or.inr (Or.inl z))))).tr f3⟩
    · rw [eX10_text]
      simp (disch := (first | assumption | omega | decide)) only [sX10_text_0, sX10_text_1, sX10_text_4, sX10_text_5, sX10_text_6, sX10_text_9, sX10_text_10, sX10_text_11, sX10_text_14, sX10_text_17, sX10_text_18, sX10_text_19, sX10_text_20, sX10_text_23, sX10_text_24, sX10_text_27, sX10_text_28, sX10_text_31, sX10_text_32, sX10_text_33, sX10_text_36, sX10_text_37, sX10_text_40, sX10_text_41, sX10_text_44, sX10_text_47, sX10_text_50, sX10_text_51, sX10_text_54, sX10_text_55, sX10_text_58, sX10_text_59, sX10_text_60, sX10_text_61, sX10_text_64, sX10_text_65, sX10_text_68, sX10_text_69, sX10_text_72, sX10_text_73, kI_i, kL_l, kV_v, am_rv_s, am_kl_i, am_kl_r, am_kl_n, am_kl_l, true_and, and_true, and_self, true_or, or_true, implies_true, forall_const, not_true_eq_false, not_false_eq_true, false_implies, true_implies, if_true, if_false, Bool.true_eq_false, Bool.false_eq_true, n1, n2, ob_0, ob_1, e, hok, bz_t, i01, n20, n21, kp, nm, r_0_0, gR_sI]
    · have gs : ∀ c j, ¬ c = 0 → ¬ c = 1 → gI (sI (sI M2 0 9 (nI (PL.length + 1))) 1 1 0) c j = gI M2 c j := fun c j x y => by rw [gI_o y, gI_o x]
      refine ⟨?_, by rw [List.length_append]; simp; omega, fun i hi => ?_⟩
      · rw [gI_o (by omega), gI_e, List.length_append]; rfl
      · rw [List.length_append] at hi
        have hi' : i < PL.length + 1 := hi
        by_cases q : i = PL.length
        · subst q
          have ei : (PL ++ [(plT tp).2.1])[PL.length] = (plT tp).2.1 := by simp
          rw [ei]
          exact LH_of (M := M2) (fun c j x y => gs c j (by omega) (by omega)) (fun c j x y => rfl) lc
        · have hil : i < PL.length := by omega
          have ei : (PL ++ [(plT tp).2.1])[i] = PL[i] := List.getElem_append_left hil
          rw [ei]
          exact LH_of (M := M1) (fun c j x y => by rw [gs c j (by omega) (by omega), go c j (by omega)]) (fun c j x y => gr c j) (h3 i hil)
  · rw [if_neg c4, if_neg c4, if_neg c4]
    have lt4' : (nI PL.length < (4 : Int32)) = False := by rw [show (4 : Int32) = nI 4 from rfl, nI_ltE (by omega) (by omega)]; exact eq_false (by omega)
    have kp : ∀ d (Q : am_Q), am_big (d + 2) mX10_keepMaking [.ref 0] 488 M1 Q = Q (some (.int (-1))) M1 := fun d Q => by
      rw [eX10_keepMaking]
      simp (disch := (first | assumption | omega | decide)) only [sX10_keepMaking_0, sX10_keepMaking_1, sX10_keepMaking_4, sX10_keepMaking_5, sX10_keepMaking_8, sX10_keepMaking_9, sX10_keepMaking_10, sX10_keepMaking_11, sX10_keepMaking_14, sX10_keepMaking_15, sX10_keepMaking_18, sX10_keepMaking_19, sX10_keepMaking_20, sX10_keepMaking_23, sX10_keepMaking_26, sX10_keepMaking_27, sX10_keepMaking_28, sX10_keepMaking_31, sX10_keepMaking_32, sX10_keepMaking_33, sX10_keepMaking_36, sX10_keepMaking_37, sX10_keepMaking_40, sX10_keepMaking_41, sX10_keepMaking_42, kI_i, kL_l, kV_v, am_rv_s, am_kl_i, am_kl_r, am_kl_n, am_kl_l, true_and, and_true, and_self, true_or, or_true, implies_true, forall_const, not_true_eq_false, not_false_eq_true, false_implies, true_implies, if_true, if_false, Bool.true_eq_false, Bool.false_eq_true, ob_0, h1, lt4']
    have mm : ((-1 : Int32) = -1) = True := eq_true rfl
    refine ⟨M1, fun Q => ?_, t1, hb1, f.mo (fun c j z => Or.inl z)⟩
    rw [eX10_text]
    simp (disch := (first | assumption | omega | decide)) only [sX10_text_0, sX10_text_1, sX10_text_4, sX10_text_5, sX10_text_6, sX10_text_9, sX10_text_10, sX10_text_11, sX10_text_14, sX10_text_17, sX10_text_18, sX10_text_19, sX10_text_20, sX10_text_23, sX10_text_24, sX10_text_27, sX10_text_28, sX10_text_31, sX10_text_32, sX10_text_33, sX10_text_36, sX10_text_37, sX10_text_40, sX10_text_41, sX10_text_44, sX10_text_47, sX10_text_50, sX10_text_51, sX10_text_54, sX10_text_55, sX10_text_58, sX10_text_59, sX10_text_60, sX10_text_61, sX10_text_64, sX10_text_65, sX10_text_68, sX10_text_69, sX10_text_72, sX10_text_73, kI_i, kL_l, kV_v, am_rv_s, am_kl_i, am_kl_r, am_kl_n, am_kl_l, true_and, and_true, and_self, true_or, or_true, implies_true, forall_const, not_true_eq_false, not_false_eq_true, false_implies, true_implies, if_true, if_false, Bool.true_eq_false, Bool.false_eq_true, n1, n2, ob_0, ob_1, e, hok, bz_t, i01, n20, n21, kp, mm]
end
