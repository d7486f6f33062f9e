section
variable {M N : am_M} {ap k j n : Nat} {S : Sg} {d : Nat} {Q : am_Q}
theorem m_writes {x : Int32} (hW : WR M) (h : StM M 465 0 ap S) : ∃ M', (∀ d (Q : am_Q), am_big (d + 1) mX11_writes [.ref 457, .int x] 488 M Q = Q none M') ∧ StM M' 465 0 ap (S.1, S.2.1, S.2.2.1, S.2.2.2.1, lgA S.2.2.2.2 x (nI S.1.length)) ∧ Fw (fun c j => c = 465 ∧ 43 ≤ j ∧ j < 164) M M' := by
  obtain ⟨h1, h2, h3, h4, ⟨h5, h6, h7⟩, h8, h9, h10, h11⟩ := h
  simp only [Nat.zero_add] at h2 h3 h4 h5 h8 h9 h11
  generalize hlg : S.2.2.2.2 = lg at h9 h10 h11
  -- behind the place made: lg1 is what is left
  have key : ∀ (M1 : am_M) (lg1 : Lg), WR M1 → (∀ j, j < 43 → gI M1 465 j = gI M 465 j) → lg1.length < 60 → gI M1 465 43 = nI lg1.length → (∀ i (h : i < lg1.length), gI M1 465 (44 + 2 * (lg1.length - 1 - i)) = lg1[i].1 ∧ gI M1 465 (45 + 2 * (lg1.length - 1 - i)) = lg1[i].2) → ∃ M', (∀ d (Q : am_Q) (l2 : Option Value), ok d mX11_writes 488 Q 488 0 0 57 [some (.ref 457), some (.int x), l2] [] M1 = Q none M') ∧ StM M' 465 0 ap (S.1, S.2.1, S.2.2.1, S.2.2.2.1, (x, nI S.1.length) :: lg1) ∧ Fw (fun c j => c = 465 ∧ 43 ≤ j ∧ j < 164) M1 M' := by
    intro M1 lg1 hW1 hlo hl1 g43 hlg1
    have g36 : gI M1 465 36 = nI S.1.length := by rw [hlo 36 (by omega)]; exact h2
    refine ⟨sI (sI (sI M1 465 (44 + 2 * lg1.length) x) 465 (45 + 2 * lg1.length) (nI S.1.length)) 465 43 (nI (lg1.length + 1)), fun d Q l2 => ?_, ?_, ?_⟩
    · simp (disch := (first | assumption | omega | decide)) only [sX11_writes_0, sX11_writes_1, sX11_writes_4, sX11_writes_6, sX11_writes_7, sX11_writes_9, sX11_writes_12, sX11_writes_13, sX11_writes_14, sX11_writes_15, sX11_writes_17, sX11_writes_20, sX11_writes_21, sX11_writes_24, sX11_writes_26, sX11_writes_27, sX11_writes_28, sX11_writes_29, sX11_writes_32, sX11_writes_34, sX11_writes_35, sX11_writes_36, sX11_writes_37, sX11_writes_38, sX11_writes_39, sX11_writes_40, sX11_writes_43, sX11_writes_46, sX11_writes_47, sX11_writes_50, sX11_writes_52, sX11_writes_53, sX11_writes_54, sX11_writes_55, sX11_writes_56, sX11_writes_57, sX11_writes_58, sX11_writes_61, sX11_writes_63, sX11_writes_64, sX11_writes_65, sX11_writes_68, sX11_writes_70, sX11_writes_71, sX11_writes_72, sX11_writes_73, sX11_writes_74, sX11_writes_75, sX11_writes_76, sX11_writes_79, sX11_writes_81, sX11_writes_82, sX11_writes_83, sX11_writes_86, sX11_writes_88, sX11_writes_89, sX11_writes_90, sX11_writes_91, sX11_writes_92, sX11_writes_95, sX11_writes_97, sX11_writes_98, sX11_writes_99, sX11_writes_100, sX11_writes_103, sX11_writes_105, sX11_writes_106, sX11_writes_107, sX11_writes_108, sX11_writes_109, sX11_writes_110, kI_i, kL_l, kV_v, am_rv_s, am_kl_i, am_kl_r, am_kl_n, am_kl_l, true_and, and_true, and_self, true_or, or_true, implies_true, forall_const, not_true_eq_false, not_false_eq_true, false_implies, true_implies, if_true, if_false, Bool.true_eq_false, Bool.false_eq_true, ob_457, gR_sI, r_457_27, n43, n44, n45, n36, in_465, iw_465, nI_clamp, g43, nI_m2, nI_add, gI_j, g36, nI_1]
    · have lo : ∀ j, j < 43 → gI (sI (sI (sI M1 465 (44 + 2 * lg1.length) x) 465 (45 + 2 * lg1.length) (nI S.1.length)) 465 43 (nI (lg1.length + 1))) 465 j = gI M 465 j := fun j hj => by rw [gI_j (by omega), gI_j (by omega), gI_j (by omega)]; exact hlo j hj
      refine ⟨h1, by rw [Nat.zero_add, lo _ (by omega)]; exact h2, fun k t hk => ?_, fun i hi => ?_, ⟨by rw [Nat.zero_add, lo _ (by omega)]; exact h5, h6, h7⟩, by rw [Nat.zero_add, lo _ (by omega)]; exact h8, by rw [Nat.zero_add, gI_e]; rfl, by show lg1.length + 1 ≤ 60; omega, fun i hi => ?_⟩
      · have hk' := (List.getElem?_eq_some_iff.mp hk).1
        have hk'' : k < S.1.length := hk'
        have := h3 k t hk
        simp only [Nat.zero_add]
        rw [lo _ (by omega), lo _ (by omega), lo _ (by omega)]
        exact this
      · simp only [Nat.zero_add]
        rw [lo _ (by omega)]
        exact h4 i hi
      · simp only [Nat.zero_add]
        show gI _ 465 (44 + 2 * (lg1.length + 1 - 1 - i)) = ((x, nI S.1.length) :: lg1)[i].1 ∧ gI _ 465 (45 + 2 * (lg1.length + 1 - 1 - i)) = ((x, nI S.1.length) :: lg1)[i].2
        cases i with
        | zero =>
          simp only [Nat.add_sub_cancel, Nat.sub_zero, List.getElem_cons_zero]
          exact ⟨by rw [gI_j (by omega), gI_j (by omega), gI_e], by rw [gI_j (by omega), gI_e]⟩
        | succ i =>
          have hi' : i < lg1.length := by
            have : i + 1 < lg1.length + 1 := hi
            omega
          have := hlg1 i hi'
          rw [List.getElem_cons_succ, show lg1.length + 1 - 1 - (i + 1) = lg1.length - 1 - i by omega, gI_j (by omega), gI_j (by omega), gI_j (by omega), gI_j (by omega), gI_j (by omega), gI_j (by omega)]
          exact this
    · exact ((Fw.s (by omega)).tr (Fw.s (by omega))).tr (Fw.s (by omega))
  by_cases c1 : lg.length = 60
  · have eA : lgA lg x (nI S.1.length) = (x, nI S.1.length) :: lg.take 59 := rfl
    have g60 : gI M 465 43 = 60 := by rw [h9, c1]; rfl
    have hl59 : (lg.take 59).length = 59 := by simp; omega
    generalize hM1 : cpI M 465 46 465 44 118 = M1
    have w1 : WR (sI M1 465 43 59) := by rw [← hM1]; exact hW
    obtain ⟨M', e, r1, r2⟩ := key (sI M1 465 43 59) (lg.take 59) w1 (fun j hj => by rw [gI_j (by omega), ← hM1, gI_cpu (by omega)]) (by omega) (by rw [gI_e, hl59]; rfl) (fun i hi => by
      rw [hl59] at hi
      rw [hl59, List.getElem_take, gI_j (by omega), gI_j (by omega), ← hM1, gI_cpi (by omega) (by omega), gI_cpi (by omega) (by omega)]
      have := h11 i (by omega)
      rw [show 46 + (44 + 2 * (59 - 1 - i) - 44) = 44 + 2 * (lg.length - 1 - i) by omega, show 46 + (45 + 2 * (59 - 1 - i) - 44) = 45 + 2 * (lg.length - 1 - i) by omega]
      exact this)
    have f1 : Fw (fun c j => c = 465 ∧ 43 ≤ j ∧ j < 164) M (sI M1 465 43 59) := by
      refine Fw.tr ?_ (Fw.s (by omega))
      rw [← hM1]
      refine ⟨fun c j hc => ⟨?_, rfl, rfl⟩, fun h => h⟩
      rw [gI_cpI, if_neg (by omega)]
    refine ⟨M', fun d Q => ?_, by rw [eA]; exact r1, f1.tr r2⟩
    have n60 : (60 : Int32) = nI 60 := rfl
    have n118 : (118 : Int32) = nI 118 := rfl
    rw [eX11_writes]
    simp (disch := (first | assumption | omega | decide)) only [sX11_writes_0, sX11_writes_1, sX11_writes_4, sX11_writes_6, sX11_writes_7, sX11_writes_9, sX11_writes_12, sX11_writes_13, sX11_writes_15, sX11_writes_17, sX11_writes_20, sX11_writes_21, sX11_writes_24, sX11_writes_26, sX11_writes_27, sX11_writes_28, sX11_writes_29, sX11_writes_32, sX11_writes_34, sX11_writes_35, sX11_writes_36, sX11_writes_37, sX11_writes_38, sX11_writes_39, sX11_writes_40, sX11_writes_43, sX11_writes_46, sX11_writes_47, sX11_writes_50, sX11_writes_52, sX11_writes_53, sX11_writes_54, sX11_writes_55, sX11_writes_56, sX11_writes_58, sX11_writes_61, sX11_writes_63, sX11_writes_64, sX11_writes_65, sX11_writes_68, sX11_writes_70, sX11_writes_71, sX11_writes_72, sX11_writes_73, sX11_writes_74, sX11_writes_75, sX11_writes_76, sX11_writes_79, sX11_writes_81, sX11_writes_82, sX11_writes_83, sX11_writes_86, sX11_writes_88, sX11_writes_89, sX11_writes_90, sX11_writes_91, sX11_writes_92, sX11_writes_95, sX11_writes_97, sX11_writes_98, sX11_writes_99, sX11_writes_100, sX11_writes_103, sX11_writes_105, sX11_writes_106, sX11_writes_107, sX11_writes_108, sX11_writes_109, sX11_writes_110, kI_i, kL_l, kV_v, am_rv_s, am_kl_i, am_kl_r, am_kl_n, am_kl_l, true_and, and_true, and_self, true_or, or_true, implies_true, forall_const, not_true_eq_false, not_false_eq_true, false_implies, true_implies, if_true, if_false, Bool.true_eq_false, Bool.false_eq_true, ob_457, r_457_27, n43, in_465, nI_clamp, g60]
    have l0 := loopU (P := fun k => ok d mX11_writes 488 Q 488 0 0 14 [some (.ref 457), some (.int x), some (.int (nI k))] [] (cpI M 465 46 465 44 (k - 1))) (lo := 1) (n := 119) (by omega) (fun k hk1 hk2 => by
      have e0 : (nI 118 < nI k) = False := by rw [nI_ltE (by omega) (by omega)]; exact eq_false (by omega)
      have g3 : gI (cpI M 465 46 465 44 (k - 1)) 465 (43 + k + 2) = gI M 465 (43 + k + 2) := by rw [gI_cpu (by omega)]
      have sw : sI (cpI M 465 46 465 44 (k - 1)) 465 (43 + k) (gI M 465 (43 + k + 2)) = cpI M 465 46 465 44 (k + 1 - 1) := M_ext (fun c i => by
        rw [gI_sI, gI_cpI, gI_cpI]
        by_cases z : c = 465 ∧ i = 43 + k
        · rw [if_pos z, if_pos (by omega)]; congr 1; omega
        · rw [if_neg z]
          by_cases z2 : c = 465 ∧ 44 ≤ i ∧ i < 44 + (k - 1)
          · rw [if_pos z2, if_pos (by omega)]
          · rw [if_neg z2, if_neg (by omega)]) (fun _ _ => rfl) (fun _ _ => rfl)
      show ok d mX11_writes 488 Q 488 0 0 14 _ [] _ = ok d mX11_writes 488 Q 488 0 0 14 _ [] _
      rw [sX11_writes_14]
      simp (disch := (first | assumption | omega | decide)) only [sX11_writes_0, sX11_writes_1, sX11_writes_4, sX11_writes_6, sX11_writes_7, sX11_writes_9, sX11_writes_12, sX11_writes_13, sX11_writes_15, sX11_writes_17, sX11_writes_20, sX11_writes_21, sX11_writes_24, sX11_writes_26, sX11_writes_27, sX11_writes_28, sX11_writes_29, sX11_writes_32, sX11_writes_34, sX11_writes_35, sX11_writes_36, sX11_writes_37, sX11_writes_38, sX11_writes_39, sX11_writes_40, sX11_writes_43, sX11_writes_46, sX11_writes_47, sX11_writes_50, sX11_writes_52, sX11_writes_53, sX11_writes_54, sX11_writes_55, sX11_writes_56, sX11_writes_58, sX11_writes_61, sX11_writes_63, sX11_writes_64, sX11_writes_65, sX11_writes_68, sX11_writes_70, sX11_writes_71, sX11_writes_72, sX11_writes_73, sX11_writes_74, sX11_writes_75, sX11_writes_76, sX11_writes_79, sX11_writes_81, sX11_writes_82, sX11_writes_83, sX11_writes_86, sX11_writes_88, sX11_writes_89, sX11_writes_90, sX11_writes_91, sX11_writes_92, sX11_writes_95, sX11_writes_97, sX11_writes_98, sX11_writes_99, sX11_writes_100, sX11_writes_103, sX11_writes_105, sX11_writes_106, sX11_writes_107, sX11_writes_108, sX11_writes_109, sX11_writes_110, kI_i, kL_l, kV_v, am_rv_s, am_kl_i, am_kl_r, am_kl_n, am_kl_l, true_and, and_true, and_self, true_or, or_true, implies_true, forall_const, not_true_eq_false, not_false_eq_true, false_implies, true_implies, if_true, if_false, Bool.true_eq_false, Bool.false_eq_true, n118, e0, ob_457, gR_cpI, r_457_27, n43, nI_add, nI_2, in_465, iw_465, nI_clamp, g3, sw, nI_1])
    have l1 : cpI M 465 46 465 44 (1 - 1) = M := M_ext (fun c i => by rw [gI_cpI, if_neg (by omega)]) (fun _ _ => rfl) (fun _ _ => rfl)
    simp only [l1] at l0
    refine l0.trans ?_
    have e1 : (nI 118 < nI 119) = True := eq_true (by decide)
    have z59 : (60 : Int32) - 1 = 59 := by decide
    have g4 : gI M1 465 43 = 60 := by rw [← hM1, gI_cpu (by omega)]; exact g60
    rw [show 119 - 1 = 118 from rfl, hM1, sX11_writes_14]
    have hWm : WR M1 := by rw [← hM1]; exact hW
    simp (disch := (first | assumption | omega | decide)) only [sX11_writes_0, sX11_writes_1, sX11_writes_4, sX11_writes_6, sX11_writes_7, sX11_writes_9, sX11_writes_12, sX11_writes_13, sX11_writes_15, sX11_writes_17, sX11_writes_20, sX11_writes_21, sX11_writes_24, sX11_writes_26, sX11_writes_27, sX11_writes_28, sX11_writes_29, sX11_writes_32, sX11_writes_34, sX11_writes_35, sX11_writes_36, sX11_writes_37, sX11_writes_38, sX11_writes_39, sX11_writes_40, sX11_writes_43, sX11_writes_46, sX11_writes_47, sX11_writes_50, sX11_writes_52, sX11_writes_53, sX11_writes_54, sX11_writes_55, sX11_writes_56, sX11_writes_58, sX11_writes_61, sX11_writes_63, sX11_writes_64, sX11_writes_65, sX11_writes_68, sX11_writes_70, sX11_writes_71, sX11_writes_72, sX11_writes_73, sX11_writes_74, sX11_writes_75, sX11_writes_76, sX11_writes_79, sX11_writes_81, sX11_writes_82, sX11_writes_83, sX11_writes_86, sX11_writes_88, sX11_writes_89, sX11_writes_90, sX11_writes_91, sX11_writes_92, sX11_writes_95, sX11_writes_97, sX11_writes_98, sX11_writes_99, sX11_writes_100, sX11_writes_103, sX11_writes_105, sX11_writes_106, sX11_writes_107, sX11_writes_108, sX11_writes_109, sX11_writes_110, kI_i, kL_l, kV_v, am_rv_s, am_kl_i, am_kl_r, am_kl_n, am_kl_l, true_and, and_true, and_self, true_or, or_true, implies_true, forall_const, not_true_eq_false, not_false_eq_true, false_implies, true_implies, if_true, if_false, Bool.true_eq_false, Bool.false_eq_true, n118, e1, ob_457, r_457_27, n43, in_465, iw_465, nI_clamp, g4, z59]
    exact e d Q _
  · have eA : lgA lg x (nI S.1.length) = (x, nI S.1.length) :: lg := by
      unfold lgA
      rw [List.take_of_length_le]
      simp; omega
    obtain ⟨M', e, r1, r2⟩ := key M lg hW (fun j _ => rfl) (by omega) h9 h11
    refine ⟨M', fun d Q => ?_, by rw [eA]; exact r1, r2⟩
    have n60 : (nI lg.length = 60) = False := by rw [show (60 : Int32) = nI 60 from rfl, nI_eqE (by omega) (by omega)]; exact eq_false c1
    rw [eX11_writes]
    simp (disch := (first | assumption | omega | decide)) only [sX11_writes_0, sX11_writes_1, sX11_writes_4, sX11_writes_6, sX11_writes_7, sX11_writes_9, sX11_writes_12, sX11_writes_13, sX11_writes_15, sX11_writes_17, sX11_writes_20, sX11_writes_21, sX11_writes_24, sX11_writes_26, sX11_writes_27, sX11_writes_28, sX11_writes_29, sX11_writes_32, sX11_writes_34, sX11_writes_35, sX11_writes_36, sX11_writes_37, sX11_writes_38, sX11_writes_39, sX11_writes_40, sX11_writes_43, sX11_writes_46, sX11_writes_47, sX11_writes_50, sX11_writes_52, sX11_writes_53, sX11_writes_54, sX11_writes_55, sX11_writes_56, sX11_writes_58, sX11_writes_61, sX11_writes_63, sX11_writes_64, sX11_writes_65, sX11_writes_68, sX11_writes_70, sX11_writes_71, sX11_writes_72, sX11_writes_73, sX11_writes_74, sX11_writes_75, sX11_writes_76, sX11_writes_79, sX11_writes_81, sX11_writes_82, sX11_writes_83, sX11_writes_86, sX11_writes_88, sX11_writes_89, sX11_writes_90, sX11_writes_91, sX11_writes_92, sX11_writes_95, sX11_writes_97, sX11_writes_98, sX11_writes_99, sX11_writes_100, sX11_writes_103, sX11_writes_105, sX11_writes_106, sX11_writes_107, sX11_writes_108, sX11_writes_109, sX11_writes_110, kI_i, kL_l, kV_v, am_rv_s, am_kl_i, am_kl_r, am_kl_n, am_kl_l, true_and, and_true, and_self, true_or, or_true, implies_true, forall_const, not_true_eq_false, not_false_eq_true, false_implies, true_implies, if_true, if_false, Bool.true_eq_false, Bool.false_eq_true, ob_457, r_457_27, n43, in_465, nI_clamp, h9, n60]
    exact e d Q none
theorem StM_time {t : Nat} (h : StM M 465 0 ap S) : StM (sI M 465 42 (nI t)) 465 0 ap (S.1, S.2.1, S.2.2.1, t, S.2.2.2.2) := by
  obtain ⟨h1, h2, h3, h4, ⟨h5, h6, h7⟩, h8, h9, h10, h11⟩ := h
  refine ⟨h1, by rw [gI_j (by omega)]; exact h2, fun k t hk => ?_, fun i hi => by rw [gI_j (by omega)]; exact h4 i hi, ⟨by rw [gI_j (by omega)]; exact h5, h6, h7⟩, by rw [Nat.zero_add, gI_e], by rw [gI_j (by omega)]; exact h9, h10, fun i hi => by rw [gI_j (by omega), gI_j (by omega)]; exact h11 i hi⟩
  have hk' : k < S.1.length := (List.getElem?_eq_some_iff.mp hk).1
  rw [gI_j (by omega), gI_j (by omega), gI_j (by omega)]
  exact h3 k t hk
def tS (S : Sg) : Sg := (S.1, S.2.1, S.2.2.1, S.2.2.2.1 + 1, S.2.2.2.2)
def XB (c j : Nat) : Prop := (c = 457 ∧ j = 41) ∨ c = 476 ∨ c = 465
theorem m_begins {P : List Sg} (hW : WR M) (hP : PaM M ap P) (h : StM M 465 0 ap S) : ∃ M', (∀ d (Q : am_Q), am_big (d + 2) mX11_begins0 [.ref 457] 488 M Q = Q none M') ∧ PaM M' ap (paA P S) ∧ StM M' 465 0 ap (tS S) ∧ Fw XB M M' := by
  obtain ⟨M1, e1, p1, f1⟩ := m_remember hW hP h
  have h1 : StM M1 465 0 ap S := StM_of (M := M) (fun j hj => f1.I (by omega)) h
  have w1 := f1.2 hW
  have g : gI M1 465 42 = nI S.2.2.2.1 := by have := h1.2.2.2.2.2.1; rwa [Nat.zero_add] at this
  refine ⟨sI M1 465 42 (nI (S.2.2.2.1 + 1)), fun d Q => ?_, ?_, StM_time h1, (f1.mo (fun c j z => by unfold XB; omega)).tr (Fw.s (by unfold XB; omega))⟩
  · rw [eX11_begins0]
    simp (disch := (first | assumption | omega | decide)) only [sX11_begins0_0, sX11_begins0_1, sX11_begins0_4, sX11_begins0_5, sX11_begins0_8, sX11_begins0_10, sX11_begins0_11, sX11_begins0_12, sX11_begins0_13, sX11_begins0_14, sX11_begins0_15, kI_i, kL_l, kV_v, am_rv_s, am_kl_i, am_kl_r, am_kl_n, am_kl_l, true_and, and_true, and_self, true_or, or_true, implies_true, forall_const, not_true_eq_false, not_false_eq_true, false_implies, true_implies, if_true, if_false, Bool.true_eq_false, Bool.false_eq_true, ob_457, e1, r_457_27, n42, in_465, iw_465, nI_clamp, g, nI_1]
  · obtain ⟨q1, q2, q3⟩ := p1
    exact ⟨by rw [gI_o (by omega)]; exact q1, q2, fun i hi => StM_of (M := M1) (fun j hj => gI_o (by omega)) (q3 i hi)⟩
theorem m_actMake {so pa x : Int32} (hW : WR M) (hs : is5 so) (h : StM M 465 0 ap S) (hl : S.1.length < 12) : ∃ M', (∀ d (Q : am_Q), am_big (d + 3) mX11_actMake [.ref 457, .int so, .int pa, .int x] 488 M Q = Q none M') ∧ StM M' 465 0 ap (doS S so pa x) ∧ Fw (fun c _ => c = 465) M M' := by
  have hp := PcM_add (so := so) (pa := pa) (x := xdd so x) h.p hl
  have hst := StM_put h hp (fun j h1 h2 => by simp only [Nat.zero_add]; rw [gI_j (by omega), gI_j (by omega), gI_j (by omega), gI_j (by omega)])
  have md := fun d (Q : am_Q) => m_does (d := d) (Q := Q) (pa := pa) (x := x) (Or.inl rfl) hs h.p hl
  have f1 : Fw (fun c _ => c = 465) M (sI (sI (sI (sI M 465 (3 * S.1.length) so) 465 (3 * S.1.length + 1) pa) 465 (3 * S.1.length + 2) (xdd so x)) 465 36 (nI (S.1.length + 1))) := (((Fw.s (by omega)).tr (Fw.s (by omega))).tr (Fw.s (by omega))).tr (Fw.s (by omega))
  generalize hM1 : sI (sI (sI (sI M 465 (3 * S.1.length) so) 465 (3 * S.1.length + 1) pa) 465 (3 * S.1.length + 2) (xdd so x)) 465 36 (nI (S.1.length + 1)) = M1 at hst md f1
  obtain ⟨M', e, r, f⟩ := m_writes (x := so) (f1.2 hW) hst
  refine ⟨M', fun d Q => ?_, ?_, f1.tr (f.mo (fun c j z => z.1))⟩
  · rw [eX11_actMake]
    simp (disch := (first | assumption | omega | decide)) only [sX11_actMake_0, sX11_actMake_1, sX11_actMake_4, sX11_actMake_5, sX11_actMake_6, sX11_actMake_7, sX11_actMake_10, sX11_actMake_11, sX11_actMake_12, sX11_actMake_15, kI_i, kL_l, kV_v, am_rv_s, am_kl_i, am_kl_r, am_kl_n, am_kl_l, true_and, and_true, and_self, true_or, or_true, implies_true, forall_const, not_true_eq_false, not_false_eq_true, false_implies, true_implies, if_true, if_false, Bool.true_eq_false, Bool.false_eq_true, ob_457, r_457_27, md, e]
  · have e1 : (S.1 ++ [(so, pa, xdd so x)]).length = S.1.length + 1 := by simp
    unfold doS
    rw [← e1]
    exact r
theorem rb_bit : ∀ rb, rb < 16 → ∀ a, a < 4 → (((nI rb >>> (nI a &&& 31)) &&& 1 = 1) ↔ rb.testBit a = true) := by decide +kernel
theorem m_actTake {e : Nat} (hW : WR M) (hf : gI M 457 23 = nI ap) (h : StM M 465 0 ap S) (he : e < S.1.length) : ∃ M', (∀ d (Q : am_Q), am_big (d + 2) mX11_actTake [.ref 457, .int (nI e)] 488 M Q = Q none M') ∧ StM M' 465 0 ap (tkS S e) ∧ Fw (fun c _ => c = 465) M M' := by
  have hl := h.1
  obtain ⟨M1, eg, pg, fg⟩ := m_gone (Or.inl rfl) h.p he
  have hst1 := StM_put h pg (fun j h1 h2 => by simp only [Nat.zero_add]; exact fg.I (by omega))
  have w1 := fg.2 hW
  have gso : gI M 465 (3 * e) = srt0 S.1 e := by
    have := (h.2.2.1 e S.1[e] (List.getElem?_eq_getElem he)).1
    rw [Nat.zero_add] at this
    rw [this]
    unfold srt0
    rw [List.getD_eq_getElem?_getD, List.getElem?_eq_getElem he]
    rfl
  generalize hso : srt0 S.1 e = so at gso
  obtain ⟨-, -, -, k4, ⟨k5, k6, k7⟩, -⟩ := hst1
  simp only [Nat.zero_add] at k4 k5
  have g23 : gI M1 457 23 = nI ap := by rw [fg.I (by omega)]; exact hf
  -- what those in the room learn
  generalize hM2 : (fun k => (fun b j => if b = 465 ∧ 37 ≤ j ∧ j < 37 + k then knT S.2.1 S.2.2.1 so (j - 37) else M1.1 b j, M1.2) : Nat → am_M) = M2
  have gM2 : ∀ k b j, gI (M2 k) b j = if b = 465 ∧ 37 ≤ j ∧ j < 37 + k then knT S.2.1 S.2.2.1 so (j - 37) else gI M1 b j := fun k b j => by rw [← hM2]; rfl
  have rM2 : ∀ k b j, gR (M2 k) b j = gR M1 b j := fun k b j => by rw [← hM2]; rfl
  have lM2 : ∀ k b j, gL (M2 k) b j = gL M1 b j := fun k b j => by rw [← hM2]; rfl
  have hst2 : StM (M2 ap) 465 0 ap (S.1.eraseIdx e, knT S.2.1 S.2.2.1 so, S.2.2.1, S.2.2.2.1, S.2.2.2.2) := by
    obtain ⟨q1, q2, q3, q4, ⟨q5, q6, q7⟩, q8, q9, q10, q11⟩ := StM_put h pg (fun j h1 h2 => by simp only [Nat.zero_add]; exact fg.I (by omega))
    simp only [Nat.zero_add] at q2 q3 q5 q8 q9 q11
    refine ⟨q1, ?_, fun k t hk => ?_, fun i hi => ?_, ⟨?_, q6, q7⟩, ?_, ?_, q10, fun i hi => ?_⟩
    · rw [gM2, if_neg (by omega)]; simpa using q2
    · have hk' : k < (S.1.eraseIdx e).length := (List.getElem?_eq_some_iff.mp hk).1
      have q1' : (S.1.eraseIdx e).length ≤ 12 := q1
      simp only [Nat.zero_add]
      rw [gM2, if_neg (by omega), gM2, if_neg (by omega), gM2, if_neg (by omega)]
      exact q3 k t hk
    · rw [gM2, if_pos (by omega)]
      show knT S.2.1 S.2.2.1 so (0 + 37 + i - 37) = knT S.2.1 S.2.2.1 so i
      congr 1; omega
    · rw [gM2, if_neg (by omega)]; simpa using q5
    · rw [gM2, if_neg (by omega)]; simpa using q8
    · rw [gM2, if_neg (by omega)]; simpa using q9
    · rw [gM2, if_neg (by omega), gM2, if_neg (by omega)]; simpa using q11 i hi
  have f2 : Fw (fun c _ => c = 465) M1 (M2 ap) := ⟨fun c j hc => ⟨by rw [gM2, if_neg (by omega)], lM2 _ _ _, rM2 _ _ _⟩, fun hw c j v hv => (rM2 _ _ _).trans (hw c j v hv)⟩
  have fM1 : Fw (fun c _ => c = 465) M M1 := fg.mo (fun c j z => z.1)
  obtain ⟨M', en, rn, fn⟩ := m_writes (x := 5 + so) (f2.2 w1) hst2
  refine ⟨M', fun d Q => ?_, ?_, (fM1.tr f2).tr (fn.mo (fun c j z => z.1))⟩
  · have l0 := loop0 (P := fun k => ok (d + 1) mX11_actTake 488 Q 488 0 0 19 [some (.ref 457), some (.int (nI e)), some (.int so), some (.int (nI k))] [] (M2 k)) (n := ap) (fun k hk => by
      have e0 : (nI ap ≤ nI k) = False := by rw [nI_leE (by omega) (by omega)]; exact eq_false (by omega)
      have g3 : gI (M2 k) 457 23 = nI ap := by rw [gM2, if_neg (by omega)]; exact g23
      have g41 : gI (M2 k) 465 41 = nI S.2.2.1 := by rw [gM2, if_neg (by omega)]; exact k5
      have g37 : gI (M2 k) 465 (37 + k) = S.2.1 k := by rw [gM2, if_neg (by omega)]; exact k4 k hk
      have wk : WR (M2 k) := fun c j v hv => (rM2 _ _ _).trans (w1 c j v hv)
      have hb := rb_bit S.2.2.1 k6 k (by omega)
      have sw : ∀ v, v = knT S.2.1 S.2.2.1 so k → sI (M2 k) 465 (37 + k) v = M2 (k + 1) := fun v hv => M_ext (fun c i => by
        rw [gI_sI, gM2, gM2]
        by_cases z : c = 465 ∧ i = 37 + k
        · rw [if_pos z, if_pos (by omega), hv]; congr 1; omega
        · rw [if_neg z]
          by_cases z2 : c = 465 ∧ 37 ≤ i ∧ i < 37 + k
          · rw [if_pos z2, if_pos (by omega)]
          · rw [if_neg z2, if_neg (by omega)]) (fun c i => by rw [gL_sI, lM2, lM2]) (fun c i => by rw [gR_sI, rM2, rM2])
      show ok (d + 1) mX11_actTake 488 Q 488 0 0 19 _ [] _ = ok (d + 1) mX11_actTake 488 Q 488 0 0 19 _ [] _
      rw [sX11_actTake_19]
      cases ht : S.2.2.1.testBit k with
      | true =>
        rw [ht] at hb
        have hb' : ((nI S.2.2.1 >>> (nI k &&& 31)) &&& 1 = 1) = True := eq_true (hb.mpr rfl)
        have hv : S.2.1 k ||| (1 <<< (so &&& 31)) = knT S.2.1 S.2.2.1 so k := by unfold knT; rw [ht]; rfl
        simp (disch := (first | assumption | omega | decide)) only [sX11_actTake_0, sX11_actTake_1, sX11_actTake_4, sX11_actTake_5, sX11_actTake_6, sX11_actTake_7, sX11_actTake_8, sX11_actTake_9, sX11_actTake_10, sX11_actTake_13, sX11_actTake_14, sX11_actTake_17, sX11_actTake_18, sX11_actTake_20, sX11_actTake_21, sX11_actTake_24, sX11_actTake_27, sX11_actTake_28, sX11_actTake_31, sX11_actTake_33, sX11_actTake_34, sX11_actTake_35, sX11_actTake_38, sX11_actTake_41, sX11_actTake_42, sX11_actTake_45, sX11_actTake_47, sX11_actTake_48, sX11_actTake_49, sX11_actTake_50, sX11_actTake_51, sX11_actTake_52, sX11_actTake_53, sX11_actTake_54, sX11_actTake_55, sX11_actTake_56, sX11_actTake_59, sX11_actTake_62, sX11_actTake_63, sX11_actTake_64, sX11_actTake_65, sX11_actTake_66, sX11_actTake_69, kI_i, kL_l, kV_v, am_rv_s, am_kl_i, am_kl_r, am_kl_n, am_kl_l, true_and, and_true, and_self, true_or, or_true, implies_true, forall_const, not_true_eq_false, not_false_eq_true, false_implies, true_implies, if_true, if_false, Bool.true_eq_false, Bool.false_eq_true, e0, ob_457, g3, r_457_27, n41, n37, in_465, iw_465, nI_clamp, g41, m_has, hb', decide_true, bz_t, i01, nI_add, g37, sw _ hv, nI_1]
      | false =>
        rw [ht] at hb
        have hb' : ((nI S.2.2.1 >>> (nI k &&& 31)) &&& 1 = 1) = False := eq_false (fun z => by cases hb.mp z)
        have hv : S.2.1 k = knT S.2.1 S.2.2.1 so k := by
          unfold knT; rw [ht]
          have : (bz false <<< (so &&& 31)) = 0 := by show (0 : Int32) <<< (so &&& 31) = 0; exact Int32.zero_shiftLeft
          rw [this, Int32.or_zero]
        have sw2 : M2 k = M2 (k + 1) := by rw [← sw _ hv]; exact (sI_id g37).symm
        simp (disch := (first | assumption | omega | decide)) only [sX11_actTake_0, sX11_actTake_1, sX11_actTake_4, sX11_actTake_5, sX11_actTake_6, sX11_actTake_7, sX11_actTake_8, sX11_actTake_9, sX11_actTake_10, sX11_actTake_13, sX11_actTake_14, sX11_actTake_17, sX11_actTake_18, sX11_actTake_20, sX11_actTake_21, sX11_actTake_24, sX11_actTake_27, sX11_actTake_28, sX11_actTake_31, sX11_actTake_33, sX11_actTake_34, sX11_actTake_35, sX11_actTake_38, sX11_actTake_41, sX11_actTake_42, sX11_actTake_45, sX11_actTake_47, sX11_actTake_48, sX11_actTake_49, sX11_actTake_50, sX11_actTake_51, sX11_actTake_52, sX11_actTake_53, sX11_actTake_54, sX11_actTake_55, sX11_actTake_56, sX11_actTake_59, sX11_actTake_62, sX11_actTake_63, sX11_actTake_64, sX11_actTake_65, sX11_actTake_66, sX11_actTake_69, kI_i, kL_l, kV_v, am_rv_s, am_kl_i, am_kl_r, am_kl_n, am_kl_l, true_and, and_true, and_self, true_or, or_true, implies_true, forall_const, not_true_eq_false, not_false_eq_true, false_implies, true_implies, if_true, if_false, Bool.true_eq_false, Bool.false_eq_true, e0, ob_457, g3, r_457_27, n41, in_465, nI_clamp, g41, m_has, hb', decide_false, bz_f, nI_1]
        rw [sw2])
    have l1 : M2 0 = M1 := M_ext (fun c i => by rw [gM2, if_neg (by omega)]) (fun c i => lM2 _ _ _) (fun c i => rM2 _ _ _)
    simp only [l1] at l0
    rw [eX11_actTake]
    simp (disch := (first | assumption | omega | decide)) only [sX11_actTake_0, sX11_actTake_1, sX11_actTake_4, sX11_actTake_5, sX11_actTake_6, sX11_actTake_7, sX11_actTake_8, sX11_actTake_9, sX11_actTake_10, sX11_actTake_13, sX11_actTake_14, sX11_actTake_17, sX11_actTake_18, sX11_actTake_20, sX11_actTake_21, sX11_actTake_24, sX11_actTake_27, sX11_actTake_28, sX11_actTake_31, sX11_actTake_33, sX11_actTake_34, sX11_actTake_35, sX11_actTake_38, sX11_actTake_41, sX11_actTake_42, sX11_actTake_45, sX11_actTake_47, sX11_actTake_48, sX11_actTake_49, sX11_actTake_50, sX11_actTake_51, sX11_actTake_52, sX11_actTake_53, sX11_actTake_54, sX11_actTake_55, sX11_actTake_56, sX11_actTake_59, sX11_actTake_62, sX11_actTake_63, sX11_actTake_64, sX11_actTake_65, sX11_actTake_66, sX11_actTake_69, kI_i, kL_l, kV_v, am_rv_s, am_kl_i, am_kl_r, am_kl_n, am_kl_l, true_and, and_true, and_self, true_or, or_true, implies_true, forall_const, not_true_eq_false, not_false_eq_true, false_implies, true_implies, if_true, if_false, Bool.true_eq_false, Bool.false_eq_true, ob_457, r_457_27, nI_m3, in_465, nI_clamp, gso, eg]
    refine l0.trans ?_
    have g3 : gI (M2 ap) 457 23 = nI ap := by rw [gM2, if_neg (by omega)]; exact g23
    rw [sX11_actTake_19]
    simp (disch := (first | assumption | omega | decide)) only [sX11_actTake_0, sX11_actTake_1, sX11_actTake_4, sX11_actTake_5, sX11_actTake_6, sX11_actTake_7, sX11_actTake_8, sX11_actTake_9, sX11_actTake_10, sX11_actTake_13, sX11_actTake_14, sX11_actTake_17, sX11_actTake_18, sX11_actTake_20, sX11_actTake_21, sX11_actTake_24, sX11_actTake_27, sX11_actTake_28, sX11_actTake_31, sX11_actTake_33, sX11_actTake_34, sX11_actTake_35, sX11_actTake_38, sX11_actTake_41, sX11_actTake_42, sX11_actTake_45, sX11_actTake_47, sX11_actTake_48, sX11_actTake_49, sX11_actTake_50, sX11_actTake_51, sX11_actTake_52, sX11_actTake_53, sX11_actTake_54, sX11_actTake_55, sX11_actTake_56, sX11_actTake_59, sX11_actTake_62, sX11_actTake_63, sX11_actTake_64, sX11_actTake_65, sX11_actTake_66, sX11_actTake_69, kI_i, kL_l, kV_v, am_rv_s, am_kl_i, am_kl_r, am_kl_n, am_kl_l, true_and, and_true, and_self, true_or, or_true, implies_true, forall_const, not_true_eq_false, not_false_eq_true, false_implies, true_implies, if_true, if_false, Bool.true_eq_false, Bool.false_eq_true, ob_457, g3, Int32.le_refl, en]
  · have e1 : (S.1.eraseIdx e).length = S.1.length - 1 := by rw [List.length_eraseIdx, if_pos he]
    unfold tkS
    rw [hso, ← e1]
    exact rn
end
