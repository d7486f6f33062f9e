/-! acts of the reference -/
def XM (c j : Nat) : Prop := (c = 457 ∧ (j = 0 ∨ j = 41)) ∨ c = 465 ∨ c = 476 ∨ XS c j
section
variable {M N : am_M} {ap lim : Nat} {S : Sg} {P : List Sg} {d : Nat} {Q : am_Q} {X : Nat → Nat → Prop}
theorem StM_Fw {o off : Nat} (hF : Fw X M N) (hX : ∀ j, ¬ X o j) (h : StM M o off ap S) : StM N o off ap S := StM_of (fun j _ => hF.I (hX _)) h
theorem PaM_Fw (hF : Fw X M N) (hX : ∀ j, ¬ X 476 j) (hX2 : ¬ X 457 41) (h : PaM M ap P) : PaM N ap P := ⟨by rw [hF.I hX2]; exact h.1, h.2.1, fun i hi => StM_Fw hF hX (h.2.2 i hi)⟩
theorem m_isLate (hW : WR M) (hf : gI M 457 23 = nI ap) (ht : S.2.2.2.1 ≤ 9999) (h : StM M 465 0 ap S) : am_big (d + 1) mX11_isLate [.ref 457] 488 M Q = Q (some (.int (bz (!cac ap S)))) M := by
  have hap := h.2.2.2.2.1.2.2
  have g42 : gI M 465 42 = nI S.2.2.2.1 := by have := h.2.2.2.2.2.1; rwa [Nat.zero_add] at this
  rw [eX11_isLate]
  unfold cac opn
  by_cases c : 0 < ap
  · have e : (nI ap = 0) = False := by rw [nI_z (by omega)]; exact eq_false (by omega)
    by_cases c2 : S.2.2.2.1 < 9999
    · have e2 : (nI S.2.2.2.1 = 9999) = False := by rw [show (9999 : Int32) = nI 9999 from rfl, nI_eqE (by omega) (by omega)]; exact eq_false (by omega)
      simp (disch := (first | assumption | omega | decide)) only [sX11_isLate_0, sX11_isLate_1, sX11_isLate_4, sX11_isLate_7, sX11_isLate_8, sX11_isLate_11, sX11_isLate_13, sX11_isLate_14, sX11_isLate_17, sX11_isLate_20, sX11_isLate_21, sX11_isLate_24, sX11_isLate_25, kI_i, kL_l, kV_v, am_rv_s, am_kl_i, am_kl_r, am_kl_n, am_kl_l, true_and, and_true, and_self, true_or, or_true, implies_true, forall_const, not_true_eq_false, not_false_eq_true, false_implies, true_implies, if_true, if_false, Bool.true_eq_false, Bool.false_eq_true, ob_457, hf, e, r_457_27, n42, in_465, nI_clamp, g42, e2, c, c2, decide_true, Bool.and_self, Bool.not_true, bz_f]
    · have e2 : (nI S.2.2.2.1 = 9999) = True := by rw [show (9999 : Int32) = nI 9999 from rfl, nI_eqE (by omega) (by omega)]; exact eq_true (by omega)
      simp (disch := (first | assumption | omega | decide)) only [sX11_isLate_0, sX11_isLate_1, sX11_isLate_4, sX11_isLate_7, sX11_isLate_8, sX11_isLate_11, sX11_isLate_13, sX11_isLate_14, sX11_isLate_17, sX11_isLate_20, sX11_isLate_21, sX11_isLate_24, sX11_isLate_25, kI_i, kL_l, kV_v, am_rv_s, am_kl_i, am_kl_r, am_kl_n, am_kl_l, true_and, and_true, and_self, true_or, or_true, implies_true, forall_const, not_true_eq_false, not_false_eq_true, false_implies, true_implies, if_true, if_false, Bool.true_eq_false, Bool.false_eq_true, ob_457, hf, e, r_457_27, n42, in_465, nI_clamp, g42, e2, c, c2, decide_true, decide_false, Bool.and_false, Bool.not_false, bz_t]
  · have e : (nI ap = 0) = True := by rw [nI_z (by omega)]; exact eq_true (by omega)
    simp (disch := (first | assumption | omega | decide)) only [sX11_isLate_0, sX11_isLate_1, sX11_isLate_4, sX11_isLate_7, sX11_isLate_8, sX11_isLate_11, sX11_isLate_13, sX11_isLate_14, sX11_isLate_17, sX11_isLate_20, sX11_isLate_21, sX11_isLate_24, sX11_isLate_25, kI_i, kL_l, kV_v, am_rv_s, am_kl_i, am_kl_r, am_kl_n, am_kl_l, true_and, and_true, and_self, true_or, or_true, implies_true, forall_const, not_true_eq_false, not_false_eq_true, false_implies, true_implies, if_true, if_false, Bool.true_eq_false, Bool.false_eq_true, ob_457, hf, e, c, decide_false, Bool.false_and, Bool.not_false, bz_t]
/-- what the reference's acts start from -/
def RS (M : am_M) (ap lim : Nat) (S : Sg) (P : List Sg) : Prop := WR M ∧ StM M 465 0 ap S ∧ PaM M ap P ∧ gI M 457 23 = nI ap ∧ gI M 457 21 = nI lim ∧ WFl S.1 ∧ lim ≤ 12 ∧ S.2.2.2.1 ≤ 9999
theorem RS_th (h : RS M ap lim S P) : RS (sI M 457 0 0) ap lim S P := by
  obtain ⟨h1, h2, h3, h4, h5, h6⟩ := h
  have f : Fw (fun c j => c = 457 ∧ j = 0) M (sI M 457 0 0) := Fw.s ⟨rfl, rfl⟩
  exact ⟨h1, StM_Fw f (fun j z => by omega) h2, PaM_Fw f (fun j z => by omega) (by omega) h3, by rw [f.I (by omega)]; exact h4, by rw [f.I (by omega)]; exact h5, h6⟩
theorem Fw_th : Fw XM M (sI M 457 0 0) := Fw.s (by unfold XM; omega)
theorem XS_XM (c j : Nat) (h : XS c j) : XM c j := Or.inr (Or.inr (Or.inr h))
theorem m_make {so pa x : Int32} (h : RS M ap lim S P) : ∃ M', (∀ d (Q : am_Q), am_big (d + 5) mX11_make [.ref 457, .int so, .int pa, .int x] 488 M Q = Q (some (.int (if mkA ap lim S so pa x = true then nI (S.1.length + 1) else -1))) M') ∧ StM M' 465 0 ap (if mkA ap lim S so pa x = true then doS (tS S) so pa x else S) ∧ PaM M' ap (if mkA ap lim S so pa x = true then paA P S else P) ∧ Fw XM M M' := by
  have f0 := Fw_th (M := M)
  have h0 := RS_th h
  generalize hM0 : sI M 457 0 0 = M0 at f0 h0
  obtain ⟨hW, hS, hP, hf, hm, hw, hlim, ht⟩ := h0
  have lt := fun d (Q : am_Q) => m_isLate (d := d) (Q := Q) hW hf ht hS
  obtain ⟨M1, e1, f1⟩ := m_canDo (so := so) (pa := pa) (x := x) hW (Or.inl rfl) hS.p hw hm hlim
  have hS1 : StM M1 465 0 ap S := StM_Fw f1 (fun j z => by unfold XS at z; omega) hS
  have hP1 : PaM M1 ap P := PaM_Fw f1 (fun j z => by unfold XS at z; omega) (fun z => by unfold XS at z; omega) hP
  have w1 := f1.2 hW
  unfold mkA
  cases c1 : cac ap S with
  | false =>
    refine ⟨M0, fun d Q => ?_, by simpa using hS, by simpa using hP, f0⟩
    rw [eX11_make]
    simp (disch := (first | assumption | omega | decide)) only [sX11_make_0, sX11_make_1, sX11_make_2, sX11_make_5, sX11_make_6, sX11_make_9, sX11_make_12, sX11_make_13, sX11_make_14, sX11_make_17, sX11_make_18, sX11_make_19, sX11_make_20, sX11_make_23, sX11_make_26, sX11_make_27, sX11_make_28, sX11_make_29, sX11_make_32, sX11_make_33, sX11_make_34, sX11_make_35, sX11_make_36, sX11_make_39, sX11_make_40, sX11_make_43, sX11_make_45, sX11_make_46, kI_i, kL_l, kV_v, am_rv_s, am_kl_i, am_kl_r, am_kl_n, am_kl_l, true_and, and_true, and_self, true_or, or_true, implies_true, forall_const, not_true_eq_false, not_false_eq_true, false_implies, true_implies, if_true, if_false, Bool.true_eq_false, Bool.false_eq_true, ob_457, hM0, lt, c1, Bool.not_false, bz_t, i01, Bool.false_and]
  | true =>
    cases c2 : (decide (S.1.length < lim) && cbL S.1 so pa x) with
    | false =>
      refine ⟨M1, fun d Q => ?_, by simpa using hS1, by simpa using hP1, f0.tr (f1.mo XS_XM)⟩
      rw [eX11_make]
      simp (disch := (first | assumption | omega | decide)) only [sX11_make_0, sX11_make_1, sX11_make_2, sX11_make_5, sX11_make_6, sX11_make_9, sX11_make_12, sX11_make_13, sX11_make_14, sX11_make_17, sX11_make_18, sX11_make_19, sX11_make_20, sX11_make_23, sX11_make_26, sX11_make_27, sX11_make_28, sX11_make_29, sX11_make_32, sX11_make_33, sX11_make_34, sX11_make_35, sX11_make_36, sX11_make_39, sX11_make_40, sX11_make_43, sX11_make_45, sX11_make_46, kI_i, kL_l, kV_v, am_rv_s, am_kl_i, am_kl_r, am_kl_n, am_kl_l, true_and, and_true, and_self, true_or, or_true, implies_true, forall_const, not_true_eq_false, not_false_eq_true, false_implies, true_implies, if_true, if_false, Bool.true_eq_false, Bool.false_eq_true, ob_457, hM0, lt, c1, Bool.not_true, bz_t, bz_f, r_457_27, e1, c2, Bool.and_false]
    | true =>
      have hlt : S.1.length < lim := by rw [Bool.and_eq_true, decide_eq_true_eq] at c2; exact c2.1
      have hcb : cbL S.1 so pa x = true := by rw [Bool.and_eq_true] at c2; exact c2.2
      obtain ⟨M2, e2, p2, s2, f2⟩ := m_begins w1 hP1 hS1
      have w2 := f2.2 w1
      obtain ⟨M3, e3, s3, f3⟩ := m_actMake (pa := pa) (x := x) w2 (WF_add hw hcb).2 s2 (by show S.1.length < 12; omega)
      have w3 := f3.2 w2
      have g36 : gI M3 465 36 = nI (S.1.length + 1) := by
        have := s3.2.1
        rw [Nat.zero_add] at this
        rw [this]
        unfold doS tS
        simp
      refine ⟨M3, fun d Q => ?_, by simpa using s3, by simpa using PaM_Fw f3 (fun j z => by omega) (by omega) p2, ((f0.tr (f1.mo XS_XM)).tr (f2.mo (fun c j z => by unfold XB at z; unfold XM; omega))).tr (f3.mo (fun c j z => by unfold XM; omega))⟩
      rw [eX11_make]
      simp (disch := (first | assumption | omega | decide)) only [sX11_make_0, sX11_make_1, sX11_make_2, sX11_make_5, sX11_make_6, sX11_make_9, sX11_make_12, sX11_make_13, sX11_make_14, sX11_make_17, sX11_make_18, sX11_make_19, sX11_make_20, sX11_make_23, sX11_make_26, sX11_make_27, sX11_make_28, sX11_make_29, sX11_make_32, sX11_make_33, sX11_make_34, sX11_make_35, sX11_make_36, sX11_make_39, sX11_make_40, sX11_make_43, sX11_make_45, sX11_make_46, kI_i, kL_l, kV_v, am_rv_s, am_kl_i, am_kl_r, am_kl_n, am_kl_l, true_and, and_true, and_self, true_or, or_true, implies_true, forall_const, not_true_eq_false, not_false_eq_true, false_implies, true_implies, if_true, if_false, Bool.true_eq_false, Bool.false_eq_true, ob_457, hM0, lt, c1, Bool.not_true, bz_t, bz_f, r_457_27, e1, c2, i01, e2, e3, n36, in_465, nI_clamp, g36, Bool.and_self]
theorem m_isDeed {y : Int32} {l : List Dd} (hW : WR M) (h : PcM M 465 0 l) : am_big (d + 1) mX11_isDeed [.ref 457, .int y] 488 M Q = Q (some (.int (bz (decide (0 ≤ y ∧ y < nI l.length))))) M := by
  have g36 : gI M 465 36 = nI l.length := by have := h.2.1; rwa [Nat.zero_add] at this
  rw [eX11_isDeed]
  simp (disch := (first | assumption | omega | decide)) only [sX11_isDeed_0, sX11_isDeed_1, sX11_isDeed_4, sX11_isDeed_5, sX11_isDeed_6, sX11_isDeed_9, sX11_isDeed_11, sX11_isDeed_12, sX11_isDeed_15, sX11_isDeed_16, sX11_isDeed_19, sX11_isDeed_20, kI_i, kL_l, kV_v, am_rv_s, am_kl_i, am_kl_r, am_kl_n, am_kl_l, true_and, and_true, and_self, true_or, or_true, implies_true, forall_const, not_true_eq_false, not_false_eq_true, false_implies, true_implies, if_true, if_false, Bool.true_eq_false, Bool.false_eq_true, ob_457, r_457_27, n36, in_465, nI_clamp, g36, ← Int32.not_lt]
  by_cases q1 : y < 0 <;> by_cases q2 : y < nI l.length <;> simp [q1, q2, bz]
theorem m_isHand {y : Int32} (hf : gI M 457 23 = nI ap) : am_big (d + 1) mX11_isHand [.ref 457, .int y] 488 M Q = Q (some (.int (bz (hasA ap y)))) M := by
  unfold hasA
  rw [eX11_isHand]
  simp (disch := (first | assumption | omega | decide)) only [sX11_isHand_0, sX11_isHand_1, sX11_isHand_4, sX11_isHand_5, sX11_isHand_6, sX11_isHand_9, sX11_isHand_12, sX11_isHand_13, sX11_isHand_16, sX11_isHand_17, kI_i, kL_l, kV_v, am_rv_s, am_kl_i, am_kl_r, am_kl_n, am_kl_l, true_and, and_true, and_self, true_or, or_true, implies_true, forall_const, not_true_eq_false, not_false_eq_true, false_implies, true_implies, if_true, if_false, Bool.true_eq_false, Bool.false_eq_true, ob_457, hf, ← Int32.not_lt]
  by_cases q1 : y < 0 <;> by_cases q2 : y < nI ap <;> simp [q1, q2, bz]
theorem deed_x {y : Int32} {l : List Dd} (hl : l.length ≤ 16) (h : 0 ≤ y ∧ y < nI l.length) : ∃ e, e < l.length ∧ y = nI e := by
  obtain ⟨j, hj, ej⟩ := nI_of (Int32.not_lt.mpr h.1)
  have := h.2
  rw [ej, nI_ltE hj (by omega)] at this
  exact ⟨j, this, ej⟩
/-- a deed taken back, behind the tests -/
theorem m_takeIt {e : Nat} (h : RS M ap lim S P) (he : e < S.1.length) : ∃ M2 M3, (∀ d (Q : am_Q), am_big (d + 2) mX11_begins0 [.ref 457] 488 M Q = Q none M2) ∧ (∀ d (Q : am_Q), am_big (d + 2) mX11_actTake [.ref 457, .int (nI e)] 488 M2 Q = Q none M3) ∧ gI M3 465 36 = nI (S.1.length - 1) ∧ WR M3 ∧ StM M3 465 0 ap (tkS (tS S) e) ∧ PaM M3 ap (paA P S) ∧ Fw XM M M3 := by
  obtain ⟨hW, hS, hP, hf, hm, hw, hlim, ht⟩ := h
  obtain ⟨M2, e2, p2, s2, f2⟩ := m_begins hW hP hS
  have w2 := f2.2 hW
  obtain ⟨M3, e3, s3, f3⟩ := m_actTake (e := e) w2 (by rw [f2.I (by unfold XB; omega)]; exact hf) s2 he
  have g36 : gI M3 465 36 = nI (S.1.length - 1) := by
    have := s3.2.1
    rw [Nat.zero_add] at this
    rw [this]
    unfold tkS tS
    rw [List.length_eraseIdx, if_pos he]
  exact ⟨M2, M3, e2, e3, g36, f3.2 w2, s3, PaM_Fw f3 (fun j z => by omega) (by omega) p2, (f2.mo (fun c j z => by unfold XB at z; unfold XM; omega)).tr (f3.mo (fun c j z => by unfold XM; omega))⟩
theorem m_undoes {y : Int32} (h : RS M ap lim S P) : ∃ M', (∀ d (Q : am_Q), am_big (d + 4) mX11_undoes [.ref 457, .int y] 488 M Q = Q (some (.int (if 0 ≤ y ∧ tkA ap S y.toNatClampNeg = true then nI (S.1.length - 1) else -1))) M') ∧ StM M' 465 0 ap (if 0 ≤ y ∧ tkA ap S y.toNatClampNeg = true then tkS (tS S) y.toNatClampNeg else S) ∧ PaM M' ap (if 0 ≤ y ∧ tkA ap S y.toNatClampNeg = true then paA P S else P) ∧ Fw XM M M' := by
  have f0 := Fw_th (M := M)
  have h0 := RS_th h
  generalize hM0 : sI M 457 0 0 = M0 at f0 h0
  obtain ⟨hW, hS, hP, hf, hm, hw, hlim, ht⟩ := id h0
  have hl := hS.1
  have lt := fun d (Q : am_Q) => m_isLate (d := d) (Q := Q) hW hf ht hS
  have idd := fun d (Q : am_Q) => m_isDeed (d := d) (Q := Q) (y := y) hW hS.p
  cases c1 : cac ap S with
  | false =>
    have hz : ¬ (0 ≤ y ∧ tkA ap S y.toNatClampNeg = true) := fun z => by unfold tkA at z; rw [c1] at z; simp at z
    rw [if_neg hz, if_neg hz, if_neg hz]
    refine ⟨M0, fun d Q => ?_, hS, hP, f0⟩
    rw [eX11_undoes]
    simp (disch := (first | assumption | omega | decide)) only [sX11_undoes_0, sX11_undoes_1, sX11_undoes_2, sX11_undoes_5, sX11_undoes_6, sX11_undoes_9, sX11_undoes_12, sX11_undoes_13, sX11_undoes_14, sX11_undoes_17, sX11_undoes_20, sX11_undoes_21, sX11_undoes_22, sX11_undoes_25, sX11_undoes_28, sX11_undoes_29, sX11_undoes_30, sX11_undoes_31, sX11_undoes_34, sX11_undoes_35, sX11_undoes_36, sX11_undoes_39, sX11_undoes_40, sX11_undoes_43, sX11_undoes_45, sX11_undoes_46, kI_i, kL_l, kV_v, am_rv_s, am_kl_i, am_kl_r, am_kl_n, am_kl_l, true_and, and_true, and_self, true_or, or_true, implies_true, forall_const, not_true_eq_false, not_false_eq_true, false_implies, true_implies, if_true, if_false, Bool.true_eq_false, Bool.false_eq_true, ob_457, hM0, lt, c1, Bool.not_false, bz_t, i01]
  | true =>
    by_cases c2 : 0 ≤ y ∧ y < nI S.1.length
    · obtain ⟨e, he, rfl⟩ := deed_x (by omega) c2
      rw [nI_clamp (by omega)]
      have ct := fun d (Q : am_Q) => m_canTake (d := d) (Q := Q) hW hS.p hw he
      cases c3 : ctL S.1 e with
      | false =>
        have hz : ¬ (0 ≤ nI e ∧ tkA ap S e = true) := fun z => by have := z.2; unfold tkA at this; rw [c1, c3] at this; simp at this
        rw [if_neg hz, if_neg hz, if_neg hz]
        refine ⟨M0, fun d Q => ?_, hS, hP, f0⟩
        rw [eX11_undoes]
        simp (disch := (first | assumption | omega | decide)) only [sX11_undoes_0, sX11_undoes_1, sX11_undoes_2, sX11_undoes_5, sX11_undoes_6, sX11_undoes_9, sX11_undoes_12, sX11_undoes_13, sX11_undoes_14, sX11_undoes_17, sX11_undoes_20, sX11_undoes_21, sX11_undoes_22, sX11_undoes_25, sX11_undoes_28, sX11_undoes_29, sX11_undoes_30, sX11_undoes_31, sX11_undoes_34, sX11_undoes_35, sX11_undoes_36, sX11_undoes_39, sX11_undoes_40, sX11_undoes_43, sX11_undoes_45, sX11_undoes_46, kI_i, kL_l, kV_v, am_rv_s, am_kl_i, am_kl_r, am_kl_n, am_kl_l, true_and, and_true, and_self, true_or, or_true, implies_true, forall_const, not_true_eq_false, not_false_eq_true, false_implies, true_implies, if_true, if_false, Bool.true_eq_false, Bool.false_eq_true, ob_457, hM0, lt, c1, Bool.not_true, bz_t, bz_f, idd, c2, decide_true, i01, ct, c3]
      | true =>
        have hz : 0 ≤ nI e ∧ tkA ap S e = true := ⟨c2.1, by unfold tkA; rw [c1, c3]; simp [he]⟩
        rw [if_pos hz, if_pos hz, if_pos hz]
        obtain ⟨M2, M3, e2, e3, g36, w3, s3, p3, f3⟩ := m_takeIt h0 he
        refine ⟨M3, fun d Q => ?_, s3, p3, f0.tr f3⟩
        rw [eX11_undoes]
        simp (disch := (first | assumption | omega | decide)) only [sX11_undoes_0, sX11_undoes_1, sX11_undoes_2, sX11_undoes_5, sX11_undoes_6, sX11_undoes_9, sX11_undoes_12, sX11_undoes_13, sX11_undoes_14, sX11_undoes_17, sX11_undoes_20, sX11_undoes_21, sX11_undoes_22, sX11_undoes_25, sX11_undoes_28, sX11_undoes_29, sX11_undoes_30, sX11_undoes_31, sX11_undoes_34, sX11_undoes_35, sX11_undoes_36, sX11_undoes_39, sX11_undoes_40, sX11_undoes_43, sX11_undoes_45, sX11_undoes_46, kI_i, kL_l, kV_v, am_rv_s, am_kl_i, am_kl_r, am_kl_n, am_kl_l, true_and, and_true, and_self, true_or, or_true, implies_true, forall_const, not_true_eq_false, not_false_eq_true, false_implies, true_implies, if_true, if_false, Bool.true_eq_false, Bool.false_eq_true, ob_457, hM0, lt, c1, Bool.not_true, bz_t, bz_f, idd, c2, decide_true, i01, ct, c3, e2, e3, r_457_27, n36, in_465, nI_clamp, g36]
    · have hz : ¬ (0 ≤ y ∧ tkA ap S y.toNatClampNeg = true) := fun z => by
        obtain ⟨j, hj, ej⟩ := nI_of (Int32.not_lt.mpr z.1)
        have h2 := z.2
        rw [ej, nI_clamp (by omega)] at h2
        unfold tkA at h2
        simp only [Bool.and_eq_true, decide_eq_true_eq] at h2
        exact c2 ⟨z.1, by rw [ej]; exact nI_lt h2.2.1 (by omega)⟩
      rw [if_neg hz, if_neg hz, if_neg hz]
      refine ⟨M0, fun d Q => ?_, hS, hP, f0⟩
      rw [eX11_undoes]
      simp (disch := (first | assumption | omega | decide)) only [sX11_undoes_0, sX11_undoes_1, sX11_undoes_2, sX11_undoes_5, sX11_undoes_6, sX11_undoes_9, sX11_undoes_12, sX11_undoes_13, sX11_undoes_14, sX11_undoes_17, sX11_undoes_20, sX11_undoes_21, sX11_undoes_22, sX11_undoes_25, sX11_undoes_28, sX11_undoes_29, sX11_undoes_30, sX11_undoes_31, sX11_undoes_34, sX11_undoes_35, sX11_undoes_36, sX11_undoes_39, sX11_undoes_40, sX11_undoes_43, sX11_undoes_45, sX11_undoes_46, kI_i, kL_l, kV_v, am_rv_s, am_kl_i, am_kl_r, am_kl_n, am_kl_l, true_and, and_true, and_self, true_or, or_true, implies_true, forall_const, not_true_eq_false, not_false_eq_true, false_implies, true_implies, if_true, if_false, Bool.true_eq_false, Bool.false_eq_true, ob_457, hM0, lt, c1, Bool.not_true, bz_t, bz_f, idd, c2, decide_false]
theorem m_takesA {ya y : Int32} (h : RS M ap lim S P) : ∃ M', (∀ d (Q : am_Q), am_big (d + 4) mX11_takes_ [.ref 457, .int ya, .int y] 488 M Q = Q (some (.int (if tksA ap S ya y = true ∧ tkA ap S y.toNatClampNeg = true then nI (S.1.length - 1) else -1))) M') ∧ StM M' 465 0 ap (if tksA ap S ya y = true ∧ tkA ap S y.toNatClampNeg = true then tkS (tS S) y.toNatClampNeg else S) ∧ PaM M' ap (if tksA ap S ya y = true ∧ tkA ap S y.toNatClampNeg = true then paA P S else P) ∧ Fw XM M M' := by
  have f0 := Fw_th (M := M)
  have h0 := RS_th h
  generalize hM0 : sI M 457 0 0 = M0 at f0 h0
  obtain ⟨hW, hS, hP, hf, hm, hw, hlim, ht⟩ := id h0
  have hl := hS.1
  have hap := hS.2.2.2.2.1.2.2
  have lt := fun d (Q : am_Q) => m_isLate (d := d) (Q := Q) hW hf ht hS
  have idd := fun d (Q : am_Q) => m_isDeed (d := d) (Q := Q) (y := y) hW hS.p
  have ihh := fun d (Q : am_Q) => m_isHand (d := d) (Q := Q) (y := ya) hf
  cases c1 : cac ap S with
  | false =>
    have hz : ¬ (tksA ap S ya y = true ∧ tkA ap S y.toNatClampNeg = true) := fun z => by have := z.2; unfold tkA at this; rw [c1] at this; cases this
    rw [if_neg hz, if_neg hz, if_neg hz]
    refine ⟨M0, fun d Q => ?_, hS, hP, f0⟩
    rw [eX11_takes_]
    simp (disch := (first | assumption | omega | decide)) only [sX11_takes__0, sX11_takes__1, sX11_takes__2, sX11_takes__5, sX11_takes__6, sX11_takes__9, sX11_takes__12, sX11_takes__13, sX11_takes__14, sX11_takes__17, sX11_takes__20, sX11_takes__21, sX11_takes__22, sX11_takes__25, sX11_takes__28, sX11_takes__29, sX11_takes__32, sX11_takes__34, sX11_takes__35, sX11_takes__36, sX11_takes__37, sX11_takes__38, sX11_takes__41, sX11_takes__42, sX11_takes__43, sX11_takes__44, sX11_takes__45, sX11_takes__48, sX11_takes__51, sX11_takes__52, sX11_takes__53, sX11_takes__56, sX11_takes__59, sX11_takes__60, sX11_takes__61, sX11_takes__62, sX11_takes__65, sX11_takes__66, sX11_takes__67, sX11_takes__70, sX11_takes__71, sX11_takes__74, sX11_takes__76, sX11_takes__77, kI_i, kL_l, kV_v, am_rv_s, am_kl_i, am_kl_r, am_kl_n, am_kl_l, true_and, and_true, and_self, true_or, or_true, implies_true, forall_const, not_true_eq_false, not_false_eq_true, false_implies, true_implies, if_true, if_false, Bool.true_eq_false, Bool.false_eq_true, ob_457, hM0, lt, c1, Bool.not_false, bz_t, i01]
  | true =>
    cases c0 : hasA ap ya with
    | false =>
      have hz : ¬ (tksA ap S ya y = true ∧ tkA ap S y.toNatClampNeg = true) := fun z => by have := z.1; unfold tksA at this; rw [c0] at this; simp at this
      rw [if_neg hz, if_neg hz, if_neg hz]
      refine ⟨M0, fun d Q => ?_, hS, hP, f0⟩
      rw [eX11_takes_]
      simp (disch := (first | assumption | omega | decide)) only [sX11_takes__0, sX11_takes__1, sX11_takes__2, sX11_takes__5, sX11_takes__6, sX11_takes__9, sX11_takes__12, sX11_takes__13, sX11_takes__14, sX11_takes__17, sX11_takes__20, sX11_takes__21, sX11_takes__22, sX11_takes__25, sX11_takes__28, sX11_takes__29, sX11_takes__32, sX11_takes__34, sX11_takes__35, sX11_takes__36, sX11_takes__37, sX11_takes__38, sX11_takes__41, sX11_takes__42, sX11_takes__43, sX11_takes__44, sX11_takes__45, sX11_takes__48, sX11_takes__51, sX11_takes__52, sX11_takes__53, sX11_takes__56, sX11_takes__59, sX11_takes__60, sX11_takes__61, sX11_takes__62, sX11_takes__65, sX11_takes__66, sX11_takes__67, sX11_takes__70, sX11_takes__71, sX11_takes__74, sX11_takes__76, sX11_takes__77, kI_i, kL_l, kV_v, am_rv_s, am_kl_i, am_kl_r, am_kl_n, am_kl_l, true_and, and_true, and_self, true_or, or_true, implies_true, forall_const, not_true_eq_false, not_false_eq_true, false_implies, true_implies, if_true, if_false, Bool.true_eq_false, Bool.false_eq_true, ob_457, hM0, lt, c1, Bool.not_true, bz_t, bz_f, ihh, c0]
    | true =>
      obtain ⟨i, hi, rfl⟩ := hasA_x hap c0
      by_cases c2 : 0 ≤ y ∧ y < nI S.1.length
      · obtain ⟨e, he, rfl⟩ := deed_x (by omega) c2
        rw [nI_clamp (by omega)]
        have ct := fun d (Q : am_Q) => m_canTake (d := d) (Q := Q) hW hS.p hw he
        have g37 : gI M0 465 (37 + i) = S.2.1 i := by have := hS.2.2.2.1 i hi; rwa [Nat.zero_add] at this
        have gs : gI M0 465 (3 * e) = sf S.1 e := (Pc_get hS.p he).1
        have ek : tksA ap S (nI i) (nI e) = knw (S.2.1 i) (sf S.1 e) := by unfold tksA; rw [nI_clamp (by omega), nI_clamp (by omega), c0, decide_eq_true c2]; simp
        rw [ek]
        cases c4 : knw (S.2.1 i) (sf S.1 e) with
        | false =>
          refine ⟨M0, fun d Q => ?_, by simpa using hS, by simpa using hP, f0⟩
          unfold knw at c4
          rw [eX11_takes_]
          simp (disch := (first | assumption | omega | decide)) only [sX11_takes__0, sX11_takes__1, sX11_takes__2, sX11_takes__5, sX11_takes__6, sX11_takes__9, sX11_takes__12, sX11_takes__13, sX11_takes__14, sX11_takes__17, sX11_takes__20, sX11_takes__21, sX11_takes__22, sX11_takes__25, sX11_takes__28, sX11_takes__29, sX11_takes__32, sX11_takes__34, sX11_takes__35, sX11_takes__36, sX11_takes__37, sX11_takes__38, sX11_takes__41, sX11_takes__42, sX11_takes__43, sX11_takes__44, sX11_takes__45, sX11_takes__48, sX11_takes__51, sX11_takes__52, sX11_takes__53, sX11_takes__56, sX11_takes__59, sX11_takes__60, sX11_takes__61, sX11_takes__62, sX11_takes__65, sX11_takes__66, sX11_takes__67, sX11_takes__70, sX11_takes__71, sX11_takes__74, sX11_takes__76, sX11_takes__77, kI_i, kL_l, kV_v, am_rv_s, am_kl_i, am_kl_r, am_kl_n, am_kl_l, true_and, and_true, and_self, true_or, or_true, implies_true, forall_const, not_true_eq_false, not_false_eq_true, false_implies, true_implies, if_true, if_false, Bool.true_eq_false, Bool.false_eq_true, ob_457, hM0, lt, c1, Bool.not_true, bz_t, bz_f, ihh, c0, i01, idd, c2, decide_true, r_457_27, n37, nI_add, nI_m3, in_465, nI_clamp, g37, gs, m_has, c4, false_and]
        | true =>
          unfold knw at c4
          cases c3 : ctL S.1 e with
          | false =>
            have hz : ¬ (true = true ∧ tkA ap S e = true) := fun z => by have := z.2; unfold tkA at this; rw [c1, c3] at this; simp at this
            rw [if_neg hz, if_neg hz, if_neg hz]
            refine ⟨M0, fun d Q => ?_, hS, hP, f0⟩
            rw [eX11_takes_]
            simp (disch := (first | assumption | omega | decide)) only [sX11_takes__0, sX11_takes__1, sX11_takes__2, sX11_takes__5, sX11_takes__6, sX11_takes__9, sX11_takes__12, sX11_takes__13, sX11_takes__14, sX11_takes__17, sX11_takes__20, sX11_takes__21, sX11_takes__22, sX11_takes__25, sX11_takes__28, sX11_takes__29, sX11_takes__32, sX11_takes__34, sX11_takes__35, sX11_takes__36, sX11_takes__37, sX11_takes__38, sX11_takes__41, sX11_takes__42, sX11_takes__43, sX11_takes__44, sX11_takes__45, sX11_takes__48, sX11_takes__51, sX11_takes__52, sX11_takes__53, sX11_takes__56, sX11_takes__59, sX11_takes__60, sX11_takes__61, sX11_takes__62, sX11_takes__65, sX11_takes__66, sX11_takes__67, sX11_takes__70, sX11_takes__71, sX11_takes__74, sX11_takes__76, sX11_takes__77, kI_i, kL_l, kV_v, am_rv_s, am_kl_i, am_kl_r, am_kl_n, am_kl_l, true_and, and_true, and_self, true_or, or_true, implies_true, forall_const, not_true_eq_false, not_false_eq_true, false_implies, true_implies, if_true, if_false, Bool.true_eq_false, Bool.false_eq_true, ob_457, hM0, lt, c1, Bool.not_true, bz_t, bz_f, ihh, c0, i01, idd, c2, decide_true, r_457_27, n37, nI_add, nI_m3, in_465, nI_clamp, g37, gs, m_has, c4, ct, c3]
          | true =>
            have hz : true = true ∧ tkA ap S e = true := ⟨rfl, by unfold tkA; rw [c1, c3]; simp [he]⟩
            rw [if_pos hz, if_pos hz, if_pos hz]
            obtain ⟨M2, M3, e2, e3, g36, w3, s3, p3, f3⟩ := m_takeIt h0 he
            refine ⟨M3, fun d Q => ?_, s3, p3, f0.tr f3⟩
            rw [eX11_takes_]
            simp (disch := (first | assumption | omega | decide)) only [sX11_takes__0, sX11_takes__1, sX11_takes__2, sX11_takes__5, sX11_takes__6, sX11_takes__9, sX11_takes__12, sX11_takes__13, sX11_takes__14, sX11_takes__17, sX11_takes__20, sX11_takes__21, sX11_takes__22, sX11_takes__25, sX11_takes__28, sX11_takes__29, sX11_takes__32, sX11_takes__34, sX11_takes__35, sX11_takes__36, sX11_takes__37, sX11_takes__38, sX11_takes__41, sX11_takes__42, sX11_takes__43, sX11_takes__44, sX11_takes__45, sX11_takes__48, sX11_takes__51, sX11_takes__52, sX11_takes__53, sX11_takes__56, sX11_takes__59, sX11_takes__60, sX11_takes__61, sX11_takes__62, sX11_takes__65, sX11_takes__66, sX11_takes__67, sX11_takes__70, sX11_takes__71, sX11_takes__74, sX11_takes__76, sX11_takes__77, kI_i, kL_l, kV_v, am_rv_s, am_kl_i, am_kl_r, am_kl_n, am_kl_l, true_and, and_true, and_self, true_or, or_true, implies_true, forall_const, not_true_eq_false, not_false_eq_true, false_implies, true_implies, if_true, if_false, Bool.true_eq_false, Bool.false_eq_true, ob_457, hM0, lt, c1, Bool.not_true, bz_t, bz_f, ihh, c0, i01, idd, c2, decide_true, r_457_27, n37, n36, nI_add, nI_m3, in_465, nI_clamp, g37, gs, m_has, c4, ct, c3, e2, e3, g36]
      · have hz : ¬ (tksA ap S (nI i) y = true ∧ tkA ap S y.toNatClampNeg = true) := fun z => by have := z.1; unfold tksA at this; rw [decide_eq_false c2] at this; cases this
        rw [if_neg hz, if_neg hz, if_neg hz]
        refine ⟨M0, fun d Q => ?_, hS, hP, f0⟩
        rw [eX11_takes_]
        simp (disch := (first | assumption | omega | decide)) only [sX11_takes__0, sX11_takes__1, sX11_takes__2, sX11_takes__5, sX11_takes__6, sX11_takes__9, sX11_takes__12, sX11_takes__13, sX11_takes__14, sX11_takes__17, sX11_takes__20, sX11_takes__21, sX11_takes__22, sX11_takes__25, sX11_takes__28, sX11_takes__29, sX11_takes__32, sX11_takes__34, sX11_takes__35, sX11_takes__36, sX11_takes__37, sX11_takes__38, sX11_takes__41, sX11_takes__42, sX11_takes__43, sX11_takes__44, sX11_takes__45, sX11_takes__48, sX11_takes__51, sX11_takes__52, sX11_takes__53, sX11_takes__56, sX11_takes__59, sX11_takes__60, sX11_takes__61, sX11_takes__62, sX11_takes__65, sX11_takes__66, sX11_takes__67, sX11_takes__70, sX11_takes__71, sX11_takes__74, sX11_takes__76, sX11_takes__77, kI_i, kL_l, kV_v, am_rv_s, am_kl_i, am_kl_r, am_kl_n, am_kl_l, true_and, and_true, and_self, true_or, or_true, implies_true, forall_const, not_true_eq_false, not_false_eq_true, false_implies, true_implies, if_true, if_false, Bool.true_eq_false, Bool.false_eq_true, ob_457, hM0, lt, c1, Bool.not_true, bz_t, bz_f, ihh, c0, i01, idd, c2, decide_false]
end
