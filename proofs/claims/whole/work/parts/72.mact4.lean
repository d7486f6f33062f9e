section
variable {M N : am_M} {ap lim : Nat} {S : Sg} {P : List Sg} {d : Nat} {Q : am_Q} {X : Nat → Nat → Prop}
theorem rb_xor : ∀ rb, rb < 16 → ∀ a, a < 4 → nI rb ^^^ (1 <<< (nI a &&& 31)) = nI (rb ^^^ 2 ^ a) ∧ (nI (rb ^^^ 2 ^ a) >>> (nI a &&& 31)) &&& 1 = bz ((rb ^^^ 2 ^ a).testBit a) := by decide +kernel
theorem StM_rb {r : Nat} (h : StM M 465 0 ap S) (hr : r < 16) : StM (sI M 465 41 (nI r)) 465 0 ap (S.1, S.2.1, r, S.2.2.2) := by
  obtain ⟨h1, h2, h3, h4, ⟨h5, h6, h7⟩, h8, h9, h10, h11⟩ := h
  refine ⟨h1, by rw [gI_j (by omega)]; exact h2, fun k t hk => ?_, fun i hi => by rw [gI_j (by omega)]; exact h4 i hi, ⟨by rw [Nat.zero_add, gI_e], hr, h7⟩, by rw [gI_j (by omega)]; exact h8, by rw [gI_j (by omega)]; exact h9, h10, fun i hi => by rw [gI_j (by omega), gI_j (by omega)]; exact h11 i hi⟩
  have hk' : k < S.1.length := (List.getElem?_eq_some_iff.mp hk).1
  rw [gI_j (by omega), gI_j (by omega), gI_j (by omega)]
  exact h3 k t hk
theorem StM_kn {i : Nat} {v : Int32} (h : StM M 465 0 ap S) (hi : i < 4) : StM (sI M 465 (37 + i) v) 465 0 ap (S.1, up S.2.1 i v, S.2.2) := by
  obtain ⟨h1, h2, h3, h4, ⟨h5, h6, h7⟩, h8, h9, h10, h11⟩ := h
  refine ⟨h1, by rw [gI_j (by omega)]; exact h2, fun k t hk => ?_, fun k hk => ?_, ⟨by rw [gI_j (by omega)]; exact h5, h6, h7⟩, by rw [gI_j (by omega)]; exact h8, by rw [gI_j (by omega)]; exact h9, h10, fun k hk => by rw [gI_j (by omega), gI_j (by omega)]; exact h11 k hk⟩
  · have hk' : k < S.1.length := (List.getElem?_eq_some_iff.mp hk).1
    rw [gI_j (by omega), gI_j (by omega), gI_j (by omega)]
    exact h3 k t hk
  · show gI (sI M 465 (37 + i) v) 465 (0 + 37 + k) = up S.2.1 i v k
    rw [gI_sI]
    unfold up
    by_cases z : k = i
    · rw [if_pos (by omega), if_pos z]
    · rw [if_neg (by omega), if_neg z]; exact h4 k hk
theorem m_enter {y : Int32} (h : RS M ap lim S P) : ∃ M', (∀ d (Q : am_Q), am_big (d + 4) mX11_enter [.ref 457, .int y] 488 M Q = Q (some (.int (if (cac ap S && hasA ap y) = true then bz ((S.2.2.1 ^^^ 2 ^ y.toNatClampNeg).testBit y.toNatClampNeg) else -1))) M') ∧ StM M' 465 0 ap (if (cac ap S && hasA ap y) = true then enS (tS S) y.toNatClampNeg else S) ∧ PaM M' ap (if (cac ap S && hasA ap y) = true then paA P S else P) ∧ Fw XM M M' := by
  have f0 := Fw_th (M := M)
  have h0 := RS_th h
  generalize hM0 : sI M 457 0 0 = M0 at f0 h0
  obtain ⟨hW, hS, hP, hf, hm, hw, hlim, ht⟩ := id h0
  have hap := hS.2.2.2.2.1.2.2
  have hrb : S.2.2.1 < 16 := hS.2.2.2.2.1.2.1
  have lt := fun d (Q : am_Q) => m_isLate (d := d) (Q := Q) hW hf ht hS
  have ihh := fun d (Q : am_Q) => m_isHand (d := d) (Q := Q) (y := y) hf
  cases c1 : cac ap S with
  | false =>
    refine ⟨M0, fun d Q => ?_, by simpa using hS, by simpa using hP, f0⟩
    rw [eX11_enter]
    simp (disch := (first | assumption | omega | decide)) only [sX11_enter_0, sX11_enter_1, sX11_enter_2, sX11_enter_5, sX11_enter_6, sX11_enter_9, sX11_enter_12, sX11_enter_13, sX11_enter_14, sX11_enter_17, sX11_enter_20, sX11_enter_21, sX11_enter_22, sX11_enter_23, sX11_enter_26, sX11_enter_27, sX11_enter_30, sX11_enter_32, sX11_enter_33, sX11_enter_34, sX11_enter_35, sX11_enter_36, sX11_enter_37, sX11_enter_38, sX11_enter_39, sX11_enter_40, sX11_enter_43, sX11_enter_45, sX11_enter_46, sX11_enter_47, sX11_enter_48, sX11_enter_49, sX11_enter_50, kI_i, kL_l, kV_v, am_rv_s, am_kl_i, am_kl_r, am_kl_n, am_kl_l, true_and, and_true, and_self, true_or, or_true, implies_true, forall_const, not_true_eq_false, not_false_eq_true, false_implies, true_implies, if_true, if_false, Bool.true_eq_false, Bool.false_eq_true, ob_457, hM0, lt, c1, Bool.not_false, bz_t, i01, Bool.false_and]
  | true =>
    cases c2 : hasA ap y with
    | false =>
      refine ⟨M0, fun d Q => ?_, by simpa using hS, by simpa using hP, f0⟩
      rw [eX11_enter]
      simp (disch := (first | assumption | omega | decide)) only [sX11_enter_0, sX11_enter_1, sX11_enter_2, sX11_enter_5, sX11_enter_6, sX11_enter_9, sX11_enter_12, sX11_enter_13, sX11_enter_14, sX11_enter_17, sX11_enter_20, sX11_enter_21, sX11_enter_22, sX11_enter_23, sX11_enter_26, sX11_enter_27, sX11_enter_30, sX11_enter_32, sX11_enter_33, sX11_enter_34, sX11_enter_35, sX11_enter_36, sX11_enter_37, sX11_enter_38, sX11_enter_39, sX11_enter_40, sX11_enter_43, sX11_enter_45, sX11_enter_46, sX11_enter_47, sX11_enter_48, sX11_enter_49, sX11_enter_50, kI_i, kL_l, kV_v, am_rv_s, am_kl_i, am_kl_r, am_kl_n, am_kl_l, true_and, and_true, and_self, true_or, or_true, implies_true, forall_const, not_true_eq_false, not_false_eq_true, false_implies, true_implies, if_true, if_false, Bool.true_eq_false, Bool.false_eq_true, ob_457, hM0, lt, c1, Bool.not_true, bz_f, bz_t, ihh, c2, Bool.and_false]
    | true =>
      obtain ⟨i, hi, rfl⟩ := hasA_x hap c2
      obtain ⟨M2, e2, p2, s2, f2⟩ := m_begins hW hP hS
      have w2 := f2.2 hW
      have g41 : gI M2 465 41 = nI S.2.2.1 := by have := s2.2.2.2.2.1.1; rwa [Nat.zero_add] at this
      obtain ⟨x1, x2⟩ := rb_xor _ hrb i (by omega)
      have s3 := StM_rb (r := S.2.2.1 ^^^ 2 ^ i) s2 (rb_flip _ hrb i (by omega)).1
      have f3 : Fw (fun c _ => c = 465) M2 (sI M2 465 41 (nI (S.2.2.1 ^^^ 2 ^ i))) := Fw.s (by omega)
      rw [nI_clamp (by omega)]
      refine ⟨sI M2 465 41 (nI (S.2.2.1 ^^^ 2 ^ i)), fun d Q => ?_, (by rw [if_pos (by rfl)]; exact s3), by simpa using PaM_Fw f3 (fun j z => by omega) (by omega) p2, (f0.tr (f2.mo (fun c j z => by unfold XB at z; unfold XM; omega))).tr (f3.mo (fun c j z => by unfold XM; omega))⟩
      rw [eX11_enter]
      simp (disch := (first | assumption | omega | decide)) only [sX11_enter_0, sX11_enter_1, sX11_enter_2, sX11_enter_5, sX11_enter_6, sX11_enter_9, sX11_enter_12, sX11_enter_13, sX11_enter_14, sX11_enter_17, sX11_enter_20, sX11_enter_21, sX11_enter_22, sX11_enter_23, sX11_enter_26, sX11_enter_27, sX11_enter_30, sX11_enter_32, sX11_enter_33, sX11_enter_34, sX11_enter_35, sX11_enter_36, sX11_enter_37, sX11_enter_38, sX11_enter_39, sX11_enter_40, sX11_enter_43, sX11_enter_45, sX11_enter_46, sX11_enter_47, sX11_enter_48, sX11_enter_49, sX11_enter_50, kI_i, kL_l, kV_v, am_rv_s, am_kl_i, am_kl_r, am_kl_n, am_kl_l, true_and, and_true, and_self, true_or, or_true, implies_true, forall_const, not_true_eq_false, not_false_eq_true, false_implies, true_implies, if_true, if_false, Bool.true_eq_false, Bool.false_eq_true, ob_457, hM0, lt, c1, Bool.not_true, bz_f, bz_t, ihh, c2, i01, e2, r_457_27, n41, in_465, iw_465, nI_clamp, g41, x1, x2, gR_sI, gI_e, Bool.and_self]
theorem m_isSort {x : Int32} : am_big (d + 2) mX11_isSort [.int x] 488 M Q = Q (some (.int (bz (decide (0 ≤ x ∧ x ≤ 4))))) M := by
  have e : (decide (0 ≤ x) && decide (x ≤ 4)) = decide (0 ≤ x ∧ x ≤ 4) := by by_cases a : 0 ≤ x <;> by_cases b : x ≤ 4 <;> simp [a, b]
  rw [eX11_isSort]
  simp only [sX11_isSort_0, sX11_isSort_1, sX11_isSort_2, sX11_isSort_3, sX11_isSort_6, sX11_isSort_9, kI_i, kL_l, kV_v, am_rv_s, am_kl_i, am_kl_r, am_kl_n, am_kl_l, true_and, and_true, and_self, true_or, or_true, implies_true, forall_const, not_true_eq_false, not_false_eq_true, false_implies, true_implies, if_true, if_false, Bool.true_eq_false, Bool.false_eq_true, c64_0, c64_4, m_isIn, bz_01, e]
theorem m_forgets {y so : Int32} (h : RS M ap lim S P) : ∃ M', (∀ d (Q : am_Q), am_big (d + 4) mX11_forgets [.ref 457, .int y, .int so] 488 M Q = Q (some (.int (if fgA ap S y so = true then fgV (S.2.1 y.toNatClampNeg) so else -1))) M') ∧ StM M' 465 0 ap (if fgA ap S y so = true then fgS (tS S) y.toNatClampNeg so else S) ∧ PaM M' ap (if fgA ap S y so = true then paA P S else P) ∧ Fw XM M M' := by
  have f0 := Fw_th (M := M)
  have h0 := RS_th h
  generalize hM0 : sI M 457 0 0 = M0 at f0 h0
  obtain ⟨hW, hS, hP, hf, hm, hw, hlim, ht⟩ := id h0
  have hap := hS.2.2.2.2.1.2.2
  have lt := fun d (Q : am_Q) => m_isLate (d := d) (Q := Q) hW hf ht hS
  have ihh := fun d (Q : am_Q) => m_isHand (d := d) (Q := Q) (y := y) hf
  unfold fgA
  cases c1 : cac ap S with
  | false =>
    refine ⟨M0, fun d Q => ?_, by simpa using hS, by simpa using hP, f0⟩
    rw [eX11_forgets]
    simp (disch := (first | assumption | omega | decide)) only [sX11_forgets_0, sX11_forgets_1, sX11_forgets_2, sX11_forgets_5, sX11_forgets_6, sX11_forgets_9, sX11_forgets_12, sX11_forgets_13, sX11_forgets_14, sX11_forgets_17, sX11_forgets_20, sX11_forgets_21, sX11_forgets_24, sX11_forgets_27, sX11_forgets_28, sX11_forgets_31, sX11_forgets_33, sX11_forgets_34, sX11_forgets_35, sX11_forgets_36, sX11_forgets_37, sX11_forgets_40, sX11_forgets_43, sX11_forgets_44, sX11_forgets_45, sX11_forgets_46, sX11_forgets_49, sX11_forgets_50, sX11_forgets_53, sX11_forgets_55, sX11_forgets_56, sX11_forgets_57, sX11_forgets_58, sX11_forgets_59, sX11_forgets_60, sX11_forgets_61, sX11_forgets_62, sX11_forgets_63, sX11_forgets_64, sX11_forgets_65, sX11_forgets_66, sX11_forgets_67, sX11_forgets_70, sX11_forgets_72, sX11_forgets_73, sX11_forgets_74, sX11_forgets_75, kI_i, kL_l, kV_v, am_rv_s, am_kl_i, am_kl_r, am_kl_n, am_kl_l, true_and, and_true, and_self, true_or, or_true, implies_true, forall_const, not_true_eq_false, not_false_eq_true, false_implies, true_implies, if_true, if_false, Bool.true_eq_false, Bool.false_eq_true, ob_457, hM0, lt, c1, Bool.not_false, bz_t, i01, Bool.false_and]
  | true =>
    cases c0 : hasA ap y with
    | false =>
      refine ⟨M0, fun d Q => ?_, by simpa using hS, by simpa using hP, f0⟩
      rw [eX11_forgets]
      simp (disch := (first | assumption | omega | decide)) only [sX11_forgets_0, sX11_forgets_1, sX11_forgets_2, sX11_forgets_5, sX11_forgets_6, sX11_forgets_9, sX11_forgets_12, sX11_forgets_13, sX11_forgets_14, sX11_forgets_17, sX11_forgets_20, sX11_forgets_21, sX11_forgets_24, sX11_forgets_27, sX11_forgets_28, sX11_forgets_31, sX11_forgets_33, sX11_forgets_34, sX11_forgets_35, sX11_forgets_36, sX11_forgets_37, sX11_forgets_40, sX11_forgets_43, sX11_forgets_44, sX11_forgets_45, sX11_forgets_46, sX11_forgets_49, sX11_forgets_50, sX11_forgets_53, sX11_forgets_55, sX11_forgets_56, sX11_forgets_57, sX11_forgets_58, sX11_forgets_59, sX11_forgets_60, sX11_forgets_61, sX11_forgets_62, sX11_forgets_63, sX11_forgets_64, sX11_forgets_65, sX11_forgets_66, sX11_forgets_67, sX11_forgets_70, sX11_forgets_72, sX11_forgets_73, sX11_forgets_74, sX11_forgets_75, kI_i, kL_l, kV_v, am_rv_s, am_kl_i, am_kl_r, am_kl_n, am_kl_l, true_and, and_true, and_self, true_or, or_true, implies_true, forall_const, not_true_eq_false, not_false_eq_true, false_implies, true_implies, if_true, if_false, Bool.true_eq_false, Bool.false_eq_true, ob_457, hM0, lt, c1, Bool.not_true, bz_t, bz_f, ihh, c0, Bool.false_and, Bool.and_false]
    | true =>
      cases c2 : decide (0 ≤ so ∧ so ≤ 4) with
      | false =>
        refine ⟨M0, fun d Q => ?_, by simpa using hS, by simpa using hP, f0⟩
        rw [eX11_forgets]
        simp (disch := (first | assumption | omega | decide)) only [sX11_forgets_0, sX11_forgets_1, sX11_forgets_2, sX11_forgets_5, sX11_forgets_6, sX11_forgets_9, sX11_forgets_12, sX11_forgets_13, sX11_forgets_14, sX11_forgets_17, sX11_forgets_20, sX11_forgets_21, sX11_forgets_24, sX11_forgets_27, sX11_forgets_28, sX11_forgets_31, sX11_forgets_33, sX11_forgets_34, sX11_forgets_35, sX11_forgets_36, sX11_forgets_37, sX11_forgets_40, sX11_forgets_43, sX11_forgets_44, sX11_forgets_45, sX11_forgets_46, sX11_forgets_49, sX11_forgets_50, sX11_forgets_53, sX11_forgets_55, sX11_forgets_56, sX11_forgets_57, sX11_forgets_58, sX11_forgets_59, sX11_forgets_60, sX11_forgets_61, sX11_forgets_62, sX11_forgets_63, sX11_forgets_64, sX11_forgets_65, sX11_forgets_66, sX11_forgets_67, sX11_forgets_70, sX11_forgets_72, sX11_forgets_73, sX11_forgets_74, sX11_forgets_75, kI_i, kL_l, kV_v, am_rv_s, am_kl_i, am_kl_r, am_kl_n, am_kl_l, true_and, and_true, and_self, true_or, or_true, implies_true, forall_const, not_true_eq_false, not_false_eq_true, false_implies, true_implies, if_true, if_false, Bool.true_eq_false, Bool.false_eq_true, ob_457, hM0, lt, c1, Bool.not_true, bz_t, bz_f, ihh, c0, i01, m_isSort, c2, Bool.false_and, Bool.and_false]
      | true =>
        obtain ⟨i, hi, rfl⟩ := hasA_x hap c0
        rw [nI_clamp (by omega)]
        have g37 : gI M0 465 (37 + i) = S.2.1 i := by have := hS.2.2.2.1 i hi; rwa [Nat.zero_add] at this
        cases c4 : knw (S.2.1 i) so with
        | false =>
          refine ⟨M0, fun d Q => ?_, by simpa using hS, by simpa using hP, f0⟩
          unfold knw at c4
          rw [eX11_forgets]
          simp (disch := (first | assumption | omega | decide)) only [sX11_forgets_0, sX11_forgets_1, sX11_forgets_2, sX11_forgets_5, sX11_forgets_6, sX11_forgets_9, sX11_forgets_12, sX11_forgets_13, sX11_forgets_14, sX11_forgets_17, sX11_forgets_20, sX11_forgets_21, sX11_forgets_24, sX11_forgets_27, sX11_forgets_28, sX11_forgets_31, sX11_forgets_33, sX11_forgets_34, sX11_forgets_35, sX11_forgets_36, sX11_forgets_37, sX11_forgets_40, sX11_forgets_43, sX11_forgets_44, sX11_forgets_45, sX11_forgets_46, sX11_forgets_49, sX11_forgets_50, sX11_forgets_53, sX11_forgets_55, sX11_forgets_56, sX11_forgets_57, sX11_forgets_58, sX11_forgets_59, sX11_forgets_60, sX11_forgets_61, sX11_forgets_62, sX11_forgets_63, sX11_forgets_64, sX11_forgets_65, sX11_forgets_66, sX11_forgets_67, sX11_forgets_70, sX11_forgets_72, sX11_forgets_73, sX11_forgets_74, sX11_forgets_75, kI_i, kL_l, kV_v, am_rv_s, am_kl_i, am_kl_r, am_kl_n, am_kl_l, true_and, and_true, and_self, true_or, or_true, implies_true, forall_const, not_true_eq_false, not_false_eq_true, false_implies, true_implies, if_true, if_false, Bool.true_eq_false, Bool.false_eq_true, ob_457, hM0, lt, c1, Bool.not_true, bz_t, bz_f, ihh, c0, i01, m_isSort, c2, r_457_27, n37, nI_add, in_465, nI_clamp, g37, m_has, c4, Bool.and_false]
        | true =>
          obtain ⟨M2, e2, p2, s2, f2⟩ := m_begins hW hP hS
          have w2 := f2.2 hW
          have g37' : gI M2 465 (37 + i) = S.2.1 i := by have := s2.2.2.2.1 i hi; rwa [Nat.zero_add] at this
          have s3 := StM_kn (i := i) (v := fgV (S.2.1 i) so) s2 (by omega)
          have f3 : Fw (fun c _ => c = 465) M2 (sI M2 465 (37 + i) (fgV (S.2.1 i) so)) := Fw.s (by omega)
          refine ⟨sI M2 465 (37 + i) (fgV (S.2.1 i) so), fun d Q => ?_, (by rw [if_pos (by rfl)]; exact s3), by simpa using PaM_Fw f3 (fun j z => by omega) (by omega) p2, (f0.tr (f2.mo (fun c j z => by unfold XB at z; unfold XM; omega))).tr (f3.mo (fun c j z => by unfold XM; omega))⟩
          unfold knw at c4
          unfold fgV
          rw [eX11_forgets]
          simp (disch := (first | assumption | omega | decide)) only [sX11_forgets_0, sX11_forgets_1, sX11_forgets_2, sX11_forgets_5, sX11_forgets_6, sX11_forgets_9, sX11_forgets_12, sX11_forgets_13, sX11_forgets_14, sX11_forgets_17, sX11_forgets_20, sX11_forgets_21, sX11_forgets_24, sX11_forgets_27, sX11_forgets_28, sX11_forgets_31, sX11_forgets_33, sX11_forgets_34, sX11_forgets_35, sX11_forgets_36, sX11_forgets_37, sX11_forgets_40, sX11_forgets_43, sX11_forgets_44, sX11_forgets_45, sX11_forgets_46, sX11_forgets_49, sX11_forgets_50, sX11_forgets_53, sX11_forgets_55, sX11_forgets_56, sX11_forgets_57, sX11_forgets_58, sX11_forgets_59, sX11_forgets_60, sX11_forgets_61, sX11_forgets_62, sX11_forgets_63, sX11_forgets_64, sX11_forgets_65, sX11_forgets_66, sX11_forgets_67, sX11_forgets_70, sX11_forgets_72, sX11_forgets_73, sX11_forgets_74, sX11_forgets_75, kI_i, kL_l, kV_v, am_rv_s, am_kl_i, am_kl_r, am_kl_n, am_kl_l, true_and, and_true, and_self, true_or, or_true, implies_true, forall_const, not_true_eq_false, not_false_eq_true, false_implies, true_implies, if_true, if_false, Bool.true_eq_false, Bool.false_eq_true, ob_457, hM0, lt, c1, Bool.not_true, bz_t, bz_f, ihh, c0, i01, m_isSort, c2, r_457_27, n37, nI_add, in_465, iw_465, nI_clamp, g37, m_has, c4, e2, g37', gR_sI, gI_e, Bool.and_self]
theorem m_sell (h : RS M ap lim S P) : ∃ M', (∀ d (Q : am_Q), am_big (d + 4) mX11_sell [.ref 457] 488 M Q = Q (some (.int (if (cac ap S && decide (0 < S.1.length)) = true then nI S.1.length else -1))) M') ∧ StM M' 465 0 ap (if (cac ap S && decide (0 < S.1.length)) = true then slS (tS S) else S) ∧ PaM M' ap (if (cac ap S && decide (0 < S.1.length)) = true then paA P S else P) ∧ Fw XM M M' := by
  have f0 := Fw_th (M := M)
  have h0 := RS_th h
  generalize hM0 : sI M 457 0 0 = M0 at f0 h0
  obtain ⟨hW, hS, hP, hf, hm, hw, hlim, ht⟩ := id h0
  have hl := hS.1
  have g36 : gI M0 465 36 = nI S.1.length := by have := hS.2.1; rwa [Nat.zero_add] at this
  have lt := fun d (Q : am_Q) => m_isLate (d := d) (Q := Q) hW hf ht hS
  cases c1 : cac ap S with
  | false =>
    refine ⟨M0, fun d Q => ?_, by simpa using hS, by simpa using hP, f0⟩
    rw [eX11_sell]
    simp (disch := (first | assumption | omega | decide)) only [sX11_sell_0, sX11_sell_1, sX11_sell_2, sX11_sell_5, sX11_sell_6, sX11_sell_9, sX11_sell_12, sX11_sell_13, sX11_sell_16, sX11_sell_18, sX11_sell_19, sX11_sell_22, sX11_sell_23, sX11_sell_24, sX11_sell_25, sX11_sell_28, sX11_sell_29, sX11_sell_32, sX11_sell_34, sX11_sell_35, sX11_sell_36, sX11_sell_37, sX11_sell_39, sX11_sell_41, sX11_sell_44, sX11_sell_45, sX11_sell_48, sX11_sell_49, sX11_sell_50, sX11_sell_51, sX11_sell_54, sX11_sell_57, sX11_sell_58, sX11_sell_60, sX11_sell_63, sX11_sell_64, kI_i, kL_l, kV_v, am_rv_s, am_kl_i, am_kl_r, am_kl_n, am_kl_l, true_and, and_true, and_self, true_or, or_true, implies_true, forall_const, not_true_eq_false, not_false_eq_true, false_implies, true_implies, if_true, if_false, Bool.true_eq_false, Bool.false_eq_true, ob_457, hM0, lt, c1, Bool.not_false, bz_t, i01, Bool.false_and]
  | true =>
    by_cases c2 : 0 < S.1.length
    · have e0 : (nI S.1.length = 0) = False := by rw [nI_z (by omega)]; exact eq_false (by omega)
      obtain ⟨M2, e2, p2, s2, f2⟩ := m_begins hW hP hS
      have w2 := f2.2 hW
      have g36' : gI M2 465 36 = nI S.1.length := by have := s2.2.1; rwa [Nat.zero_add] at this
      have f3 : Fw (fun c _ => c = 465) M2 (fl M2 465 37 (fun _ => 0)) := Fw.f (fun k _ => by omega)
      have s3 : StM (fl M2 465 37 (fun _ => 0)) 465 0 ap ([], (tS S).2) := StM_put s2 ⟨by simp, by rw [gI_fl (by omega)]; rfl, fun k t hk => by cases hk⟩ (fun j h1 h2 => by rw [Nat.zero_add, gI_fl_ge (by omega)])
      have w3 := f3.2 w2
      obtain ⟨M4, e4, s4, f4⟩ := m_writes (x := 10) w3 s3
      refine ⟨M4, fun d Q => ?_, (by rw [if_pos (by simp [c2])]; exact s4), by simpa [c2] using PaM_Fw (f3.tr (f4.mo (fun c j z => z.1))) (fun j z => by omega) (by omega) p2, ((f0.tr (f2.mo (fun c j z => by unfold XB at z; unfold XM; omega))).tr (f3.mo (fun c j z => by unfold XM; omega))).tr (f4.mo (fun c j z => by unfold XM; omega))⟩
      have l0 := loop0 (P := fun k => ok (d + 3) mX11_sell 488 Q 488 0 0 38 [some (.ref 457), some (.int (nI S.1.length)), some (.int (nI k))] [] (fl M2 465 k (fun _ => 0))) (n := 37) (fun k hk => by
        have e9 : (nI 36 < nI k) = False := by rw [nI_ltE (by omega) (by omega)]; exact eq_false (by omega)
        have sw : sI (fl M2 465 k (fun _ => 0)) 465 k 0 = fl M2 465 (k + 1) (fun _ => 0) := M_ext (fun c i => by
          rw [gI_sI, gI_fl', gI_fl']
          by_cases z : c = 465 ∧ i = k
          · rw [if_pos z, if_pos (by omega)]
          · rw [if_neg z]
            by_cases z2 : c = 465 ∧ i < k
            · rw [if_pos z2, if_pos (by omega)]
            · rw [if_neg z2, if_neg (by omega)]) (fun _ _ => rfl) (fun _ _ => rfl)
        show ok (d + 3) mX11_sell 488 Q 488 0 0 38 _ [] _ = ok (d + 3) mX11_sell 488 Q 488 0 0 38 _ [] _
        rw [sX11_sell_38]
        simp (disch := (first | assumption | omega | decide)) only [sX11_sell_0, sX11_sell_1, sX11_sell_2, sX11_sell_5, sX11_sell_6, sX11_sell_9, sX11_sell_12, sX11_sell_13, sX11_sell_16, sX11_sell_18, sX11_sell_19, sX11_sell_22, sX11_sell_23, sX11_sell_24, sX11_sell_25, sX11_sell_28, sX11_sell_29, sX11_sell_32, sX11_sell_34, sX11_sell_35, sX11_sell_36, sX11_sell_37, sX11_sell_39, sX11_sell_41, sX11_sell_44, sX11_sell_45, sX11_sell_48, sX11_sell_49, sX11_sell_50, sX11_sell_51, sX11_sell_54, sX11_sell_57, sX11_sell_58, sX11_sell_60, sX11_sell_63, sX11_sell_64, kI_i, kL_l, kV_v, am_rv_s, am_kl_i, am_kl_r, am_kl_n, am_kl_l, true_and, and_true, and_self, true_or, or_true, implies_true, forall_const, not_true_eq_false, not_false_eq_true, false_implies, true_implies, if_true, if_false, Bool.true_eq_false, Bool.false_eq_true, n36, e9, ob_457, gR_fl, r_457_27, iw_465, nI_clamp, sw, nI_1])
      have l1 : fl M2 465 0 (fun _ => 0) = M2 := fl_id (fun k hk => by omega)
      simp only [l1] at l0
      rw [eX11_sell]
      simp (disch := (first | assumption | omega | decide)) only [sX11_sell_0, sX11_sell_1, sX11_sell_2, sX11_sell_5, sX11_sell_6, sX11_sell_9, sX11_sell_12, sX11_sell_13, sX11_sell_16, sX11_sell_18, sX11_sell_19, sX11_sell_22, sX11_sell_23, sX11_sell_24, sX11_sell_25, sX11_sell_28, sX11_sell_29, sX11_sell_32, sX11_sell_34, sX11_sell_35, sX11_sell_36, sX11_sell_37, sX11_sell_39, sX11_sell_41, sX11_sell_44, sX11_sell_45, sX11_sell_48, sX11_sell_49, sX11_sell_50, sX11_sell_51, sX11_sell_54, sX11_sell_57, sX11_sell_58, sX11_sell_60, sX11_sell_63, sX11_sell_64, kI_i, kL_l, kV_v, am_rv_s, am_kl_i, am_kl_r, am_kl_n, am_kl_l, true_and, and_true, and_self, true_or, or_true, implies_true, forall_const, not_true_eq_false, not_false_eq_true, false_implies, true_implies, if_true, if_false, Bool.true_eq_false, Bool.false_eq_true, ob_457, hM0, lt, c1, Bool.not_true, bz_f, bz_t, r_457_27, n36, in_465, nI_clamp, g36, e0, e2, g36', c2, decide_true, Bool.and_self]
      refine l0.trans ?_
      have e9 : (nI 36 < nI 37) = True := eq_true (by decide)
      rw [sX11_sell_38]
      simp (disch := (first | assumption | omega | decide)) only [sX11_sell_0, sX11_sell_1, sX11_sell_2, sX11_sell_5, sX11_sell_6, sX11_sell_9, sX11_sell_12, sX11_sell_13, sX11_sell_16, sX11_sell_18, sX11_sell_19, sX11_sell_22, sX11_sell_23, sX11_sell_24, sX11_sell_25, sX11_sell_28, sX11_sell_29, sX11_sell_32, sX11_sell_34, sX11_sell_35, sX11_sell_36, sX11_sell_37, sX11_sell_39, sX11_sell_41, sX11_sell_44, sX11_sell_45, sX11_sell_48, sX11_sell_49, sX11_sell_50, sX11_sell_51, sX11_sell_54, sX11_sell_57, sX11_sell_58, sX11_sell_60, sX11_sell_63, sX11_sell_64, kI_i, kL_l, kV_v, am_rv_s, am_kl_i, am_kl_r, am_kl_n, am_kl_l, true_and, and_true, and_self, true_or, or_true, implies_true, forall_const, not_true_eq_false, not_false_eq_true, false_implies, true_implies, if_true, if_false, Bool.true_eq_false, Bool.false_eq_true, n36, e9, ob_457, e4]
    · have e0 : (nI S.1.length = 0) = True := by rw [nI_z (by omega)]; exact eq_true (by omega)
      refine ⟨M0, fun d Q => ?_, by simpa [c2] using hS, by simpa [c2] using hP, f0⟩
      rw [eX11_sell]
      simp (disch := (first | assumption | omega | decide)) only [sX11_sell_0, sX11_sell_1, sX11_sell_2, sX11_sell_5, sX11_sell_6, sX11_sell_9, sX11_sell_12, sX11_sell_13, sX11_sell_16, sX11_sell_18, sX11_sell_19, sX11_sell_22, sX11_sell_23, sX11_sell_24, sX11_sell_25, sX11_sell_28, sX11_sell_29, sX11_sell_32, sX11_sell_34, sX11_sell_35, sX11_sell_36, sX11_sell_37, sX11_sell_39, sX11_sell_41, sX11_sell_44, sX11_sell_45, sX11_sell_48, sX11_sell_49, sX11_sell_50, sX11_sell_51, sX11_sell_54, sX11_sell_57, sX11_sell_58, sX11_sell_60, sX11_sell_63, sX11_sell_64, kI_i, kL_l, kV_v, am_rv_s, am_kl_i, am_kl_r, am_kl_n, am_kl_l, true_and, and_true, and_self, true_or, or_true, implies_true, forall_const, not_true_eq_false, not_false_eq_true, false_implies, true_implies, if_true, if_false, Bool.true_eq_false, Bool.false_eq_true, ob_457, hM0, lt, c1, Bool.not_true, bz_f, bz_t, r_457_27, n36, in_465, nI_clamp, g36, e0, c2, decide_false, Bool.and_false, Bool.false_eq_true]
theorem cp_s {a a0 off off' k : Nat} {N : am_M} (hne : a ≠ a0) : sI (cpI N a0 off a off' k) a (off' + k) (gI N a0 (off + k)) = cpI N a0 off a off' (k + 1) := M_ext (fun c i => by
  rw [gI_sI, gI_cpI, gI_cpI]
  by_cases z : c = a ∧ i = off' + k
  · rw [if_pos z, if_pos (by omega)]; congr 1; omega
  · rw [if_neg z]
    by_cases z2 : c = a ∧ off' ≤ i ∧ i < off' + k
    · rw [if_pos z2, if_pos (by omega)]
    · rw [if_neg z2, if_neg (by omega)]) (fun _ _ => rfl) (fun _ _ => rfl)
theorem cp_0 {a a0 off off' : Nat} {N : am_M} : cpI N a0 off a off' 0 = N := M_ext (fun c i => by rw [gI_cpI, if_neg (by omega)]) (fun _ _ => rfl) (fun _ _ => rfl)
theorem m_undo (h : RS M ap lim S P) : ∃ M', (∀ d (Q : am_Q), am_big (d + 1) mX11_undo [.ref 457] 488 M Q = Q (some (.int (if P.length = 0 then -1 else nI (P.length - 1)))) M') ∧ StM M' 465 0 ap (P.getLastD S) ∧ PaM M' ap P.dropLast ∧ Fw XM M M' := by
  have f0 := Fw_th (M := M)
  have h0 := RS_th h
  generalize hM0 : sI M 457 0 0 = M0 at f0 h0
  obtain ⟨hW, hS, hP, hf, hm, hw, hlim, ht⟩ := id h0
  have g41 := hP.1
  have hl := hP.2.1
  by_cases c1 : P.length = 0
  · have hP0 : P = [] := List.length_eq_zero_iff.mp c1
    subst hP0
    refine ⟨M0, fun d Q => ?_, hS, hP, f0⟩
    have g : gI M0 457 41 = 0 := g41
    rw [eX11_undo]
    simp (disch := (first | assumption | omega | decide)) only [sX11_undo_0, sX11_undo_1, sX11_undo_2, sX11_undo_5, sX11_undo_6, sX11_undo_9, sX11_undo_12, sX11_undo_13, sX11_undo_14, sX11_undo_15, sX11_undo_16, sX11_undo_19, sX11_undo_20, sX11_undo_21, sX11_undo_24, sX11_undo_25, sX11_undo_27, sX11_undo_30, sX11_undo_33, sX11_undo_34, sX11_undo_37, sX11_undo_38, sX11_undo_39, sX11_undo_42, sX11_undo_45, sX11_undo_46, sX11_undo_49, sX11_undo_50, sX11_undo_51, sX11_undo_52, sX11_undo_53, sX11_undo_54, sX11_undo_57, sX11_undo_60, sX11_undo_61, sX11_undo_64, kI_i, kL_l, kV_v, am_rv_s, am_kl_i, am_kl_r, am_kl_n, am_kl_l, true_and, and_true, and_self, true_or, or_true, implies_true, forall_const, not_true_eq_false, not_false_eq_true, false_implies, true_implies, if_true, if_false, Bool.true_eq_false, Bool.false_eq_true, ob_457, hM0, g, List.length_nil]
  · have e0 : (nI P.length = 0) = False := by rw [nI_z (by omega)]; exact eq_false c1
    have em : nI P.length - 1 = nI (P.length - 1) := nI_sub1 (by omega)
    generalize hM1 : sI M0 457 41 (nI (P.length - 1)) = M1
    have f1 : Fw XM M0 M1 := by rw [← hM1]; exact Fw.s (by unfold XM; omega)
    have w1 := f1.2 hW
    have g1 : gI M1 457 41 = nI (P.length - 1) := by rw [← hM1, gI_e]
    have hlast : P.getLastD S = P[P.length - 1]'(by omega) := by
      rw [List.getLastD_eq_getLast?, List.getLast?_eq_getElem?, List.getElem?_eq_getElem (by omega)]; rfl
    have f2 : Fw (fun c _ => c = 465) M1 (cpI M1 476 (164 * (P.length - 1)) 465 0 164) := Fw.c (fun k => rfl)
    have fm : Fw (fun c j => c = 457 ∧ j = 41) M0 M1 := by rw [← hM1]; exact Fw.s ⟨rfl, rfl⟩
    refine ⟨cpI M1 476 (164 * (P.length - 1)) 465 0 164, fun d Q => ?_, ?_, ⟨?_, by simp; omega, fun i hi => ?_⟩, (f0.tr f1).tr (f2.mo (fun c j z => by unfold XM; omega))⟩
    · have l0 := loop0 (P := fun k => ok d mX11_undo 488 Q 488 0 0 26 [some (.ref 457), some (.int (nI k))] [] (cpI M1 476 (164 * (P.length - 1)) 465 0 k)) (n := 164) (fun k hk => by
        have e9 : (nI 164 ≤ nI k) = False := by rw [nI_leE (by omega) (by omega)]; exact eq_false (by omega)
        have sw := cp_s (a := 465) (a0 := 476) (off := 164 * (P.length - 1)) (off' := 0) (k := k) (N := M1) (by omega)
        rw [Nat.zero_add] at sw
        have g3 : gI (cpI M1 476 (164 * (P.length - 1)) 465 0 k) 476 (164 * (P.length - 1) + k) = gI M1 476 (164 * (P.length - 1) + k) := gI_cpo (by omega)
        have g4 : gI (cpI M1 476 (164 * (P.length - 1)) 465 0 k) 457 41 = nI (P.length - 1) := by rw [gI_cpo (by omega)]; exact g1
        show ok d mX11_undo 488 Q 488 0 0 26 _ [] _ = ok d mX11_undo 488 Q 488 0 0 26 _ [] _
        rw [sX11_undo_26]
        simp (disch := (first | assumption | omega | decide)) only [sX11_undo_0, sX11_undo_1, sX11_undo_2, sX11_undo_5, sX11_undo_6, sX11_undo_9, sX11_undo_12, sX11_undo_13, sX11_undo_14, sX11_undo_15, sX11_undo_16, sX11_undo_19, sX11_undo_20, sX11_undo_21, sX11_undo_24, sX11_undo_25, sX11_undo_27, sX11_undo_30, sX11_undo_33, sX11_undo_34, sX11_undo_37, sX11_undo_38, sX11_undo_39, sX11_undo_42, sX11_undo_45, sX11_undo_46, sX11_undo_49, sX11_undo_50, sX11_undo_51, sX11_undo_52, sX11_undo_53, sX11_undo_54, sX11_undo_57, sX11_undo_60, sX11_undo_61, sX11_undo_64, kI_i, kL_l, kV_v, am_rv_s, am_kl_i, am_kl_r, am_kl_n, am_kl_l, true_and, and_true, and_self, true_or, or_true, implies_true, forall_const, not_true_eq_false, not_false_eq_true, false_implies, true_implies, if_true, if_false, Bool.true_eq_false, Bool.false_eq_true, n164, e9, ob_457, gR_cpI, r_457_27, r_457_40, g4, nI_m164, nI_add, in_476, iw_465, nI_clamp, g3, sw, nI_1])
      simp only [cp_0] at l0
      rw [eX11_undo, if_neg c1]
      simp (disch := (first | assumption | omega | decide)) only [sX11_undo_0, sX11_undo_1, sX11_undo_2, sX11_undo_5, sX11_undo_6, sX11_undo_9, sX11_undo_12, sX11_undo_13, sX11_undo_14, sX11_undo_15, sX11_undo_16, sX11_undo_19, sX11_undo_20, sX11_undo_21, sX11_undo_24, sX11_undo_25, sX11_undo_27, sX11_undo_30, sX11_undo_33, sX11_undo_34, sX11_undo_37, sX11_undo_38, sX11_undo_39, sX11_undo_42, sX11_undo_45, sX11_undo_46, sX11_undo_49, sX11_undo_50, sX11_undo_51, sX11_undo_52, sX11_undo_53, sX11_undo_54, sX11_undo_57, sX11_undo_60, sX11_undo_61, sX11_undo_64, kI_i, kL_l, kV_v, am_rv_s, am_kl_i, am_kl_r, am_kl_n, am_kl_l, true_and, and_true, and_self, true_or, or_true, implies_true, forall_const, not_true_eq_false, not_false_eq_true, false_implies, true_implies, if_true, if_false, Bool.true_eq_false, Bool.false_eq_true, ob_457, hM0, g41, e0, em, hM1]
      refine l0.trans ?_
      have e9 : (nI 164 ≤ nI 164) = True := eq_true (by decide)
      have g4 : gI (cpI M1 476 (164 * (P.length - 1)) 465 0 164) 457 41 = nI (P.length - 1) := by rw [gI_cpo (by omega)]; exact g1
      rw [sX11_undo_26]
      simp (disch := (first | assumption | omega | decide)) only [sX11_undo_0, sX11_undo_1, sX11_undo_2, sX11_undo_5, sX11_undo_6, sX11_undo_9, sX11_undo_12, sX11_undo_13, sX11_undo_14, sX11_undo_15, sX11_undo_16, sX11_undo_19, sX11_undo_20, sX11_undo_21, sX11_undo_24, sX11_undo_25, sX11_undo_27, sX11_undo_30, sX11_undo_33, sX11_undo_34, sX11_undo_37, sX11_undo_38, sX11_undo_39, sX11_undo_42, sX11_undo_45, sX11_undo_46, sX11_undo_49, sX11_undo_50, sX11_undo_51, sX11_undo_52, sX11_undo_53, sX11_undo_54, sX11_undo_57, sX11_undo_60, sX11_undo_61, sX11_undo_64, kI_i, kL_l, kV_v, am_rv_s, am_kl_i, am_kl_r, am_kl_n, am_kl_l, true_and, and_true, and_self, true_or, or_true, implies_true, forall_const, not_true_eq_false, not_false_eq_true, false_implies, true_implies, if_true, if_false, Bool.true_eq_false, Bool.false_eq_true, n164, e9, ob_457, g4]
    · rw [hlast]
      refine StM_of (M := M0) (o := 476) (off := 164 * (P.length - 1)) (fun j hj => ?_) (hP.2.2 (P.length - 1) (by omega))
      rw [gI_cpi (by omega) (by omega), fm.I (by omega)]
      congr 1; omega
    · rw [f2.I (by omega), g1]; simp
    · have hil : i < P.length - 1 := by simpa using hi
      rw [List.getElem_dropLast]
      exact StM_Fw f2 (fun j z => by omega) (StM_Fw fm (fun j z => by omega) (hP.2.2 i (by omega)))
end
