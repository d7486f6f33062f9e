theorem vne {v a b : Int32} (h : v = a) (n : ¬ a = b) : (v = b) = False := eq_false (fun z => n (h.symm.trans z))
def lsn (l : List Dd) : Nat → Int32
  | 0 => 0
  | k + 1 => lsn l k ||| (1 <<< (sf l k &&& 31))
def lessonA (ap : Nat) (S : Sg) (y : Int32) : Int32 := if hasA ap y = true then lsn S.1 S.1.length &&& (S.2.1 y.toNatClampNeg ^^^ -1) else -1
def countA (ap lim : Nat) (S : Sg) (a2 a3 a4 a5 a8 : Int32) (nL nP : Nat) (v : Int32) : Int32 := if v = 0 then nI ap else if v = 1 then nI S.1.length else if v = 2 then a2 else if v = 3 then a3 else if v = 4 then a4 else if v = 5 then a5 else if v = 6 then nI S.2.2.2.1 else if v = 7 then (if opn ap = true then nI lim else 0) else if v = 8 then a8 else if v = 9 then nI nL else if v = 10 then nI S.2.2.2.2.length else if v = 11 then nI nP else -1000000
def lcL (l : List Dd) (q : Int32) : Int32 := lx (sf l) (pf l) (xf l) 2 q l.length 0
def kdL (l : List Dd) (q : Int32) : Int32 := lx (sf l) (pf l) (xf l) 0 q l.length (-1)
def shapeA (l : List Dd) (y v : Int32) : Int32 := if thL l y = true then (if v = 0 then kdL l y else if v = 1 then nI (tmL l 1 y) else if v = 2 then nI (tmL l 2 y) else if v = 3 then lcL l y else if v = 4 then unL l y else if v = 5 then bz (hiL l y) else -1) else -1
section
variable {M N : am_M} {ap lim n : Nat} {S : Sg} {P : List Sg} {l : List Dd} {d : Nat} {Q : am_Q}
theorem c_lesson {y : Int32} (hW : WR M) (h : StC M 3 ap lim S) : am_big (d + 2) mX10_lesson [.ref 0, .int y] 488 M Q = Q (some (.int (lessonA ap S y))) M := by
  obtain ⟨h1, h2, h3, h4, h5, h6, h7, h10, h11⟩ := id h
  have ha := fun d (Q : am_Q) => c_hasApp (d := d) (Q := Q) (x := y) h1 h3
  have hl := h2.1.2.2
  have g43 : gI M 4 3 = nI S.1.length := h2.1.2.1
  unfold lessonA
  rw [eX10_lesson]
  cases c : hasA ap y with
  | false =>
    unfold hasA at c
    simp (disch := (first | assumption | omega | decide)) only [sX10_lesson_0, sX10_lesson_1, sX10_lesson_4, sX10_lesson_5, sX10_lesson_8, sX10_lesson_11, sX10_lesson_12, sX10_lesson_13, sX10_lesson_14, sX10_lesson_15, sX10_lesson_16, sX10_lesson_18, sX10_lesson_19, sX10_lesson_22, sX10_lesson_25, sX10_lesson_28, sX10_lesson_31, sX10_lesson_32, sX10_lesson_33, sX10_lesson_34, sX10_lesson_37, sX10_lesson_40, sX10_lesson_43, sX10_lesson_44, sX10_lesson_45, sX10_lesson_46, sX10_lesson_47, sX10_lesson_48, sX10_lesson_51, sX10_lesson_54, sX10_lesson_55, sX10_lesson_56, sX10_lesson_59, sX10_lesson_62, sX10_lesson_63, sX10_lesson_64, sX10_lesson_65, sX10_lesson_66, sX10_lesson_67, kI_i, kL_l, kV_v, am_rv_s, am_kl_i, am_kl_r, am_kl_n, am_kl_l, true_and, and_true, and_self, true_or, or_true, implies_true, forall_const, not_true_eq_false, not_false_eq_true, false_implies, true_implies, if_true, if_false, Bool.true_eq_false, Bool.false_eq_true, ob_0, ob_3, r_0_1, ha, c, bz_f]
  | true =>
    obtain ⟨i, hi, rfl⟩ := hasA_x (by omega) c
    have l0 := loop0 (P := fun k => ok (d + 1) mX10_lesson 488 Q 488 0 0 17 [some (.ref 0), some (.int (nI i)), some (.int (lsn S.1 k)), some (.int (nI k))] [] M) (n := S.1.length) (fun k hk => by
      have e0 : (nI S.1.length ≤ nI k) = False := by rw [nI_leE (by omega) (by omega)]; exact eq_false (by omega)
      have g5 : gI M 5 k = sf S.1 k := (LH_s h2 k hk).1
      show ok (d + 1) mX10_lesson 488 Q 488 0 0 17 _ [] _ = ok (d + 1) mX10_lesson 488 Q 488 0 0 17 _ [] _
      rw [sX10_lesson_17]
      simp (disch := (first | assumption | omega | decide)) only [sX10_lesson_0, sX10_lesson_1, sX10_lesson_4, sX10_lesson_5, sX10_lesson_8, sX10_lesson_11, sX10_lesson_12, sX10_lesson_13, sX10_lesson_14, sX10_lesson_15, sX10_lesson_16, sX10_lesson_18, sX10_lesson_19, sX10_lesson_22, sX10_lesson_25, sX10_lesson_28, sX10_lesson_31, sX10_lesson_32, sX10_lesson_33, sX10_lesson_34, sX10_lesson_37, sX10_lesson_40, sX10_lesson_43, sX10_lesson_44, sX10_lesson_45, sX10_lesson_46, sX10_lesson_47, sX10_lesson_48, sX10_lesson_51, sX10_lesson_54, sX10_lesson_55, sX10_lesson_56, sX10_lesson_59, sX10_lesson_62, sX10_lesson_63, sX10_lesson_64, sX10_lesson_65, sX10_lesson_66, sX10_lesson_67, kI_i, kL_l, kV_v, am_rv_s, am_kl_i, am_kl_r, am_kl_n, am_kl_l, true_and, and_true, and_self, true_or, or_true, implies_true, forall_const, not_true_eq_false, not_false_eq_true, false_implies, true_implies, if_true, if_false, Bool.true_eq_false, Bool.false_eq_true, ob_0, ob_3, ob_4, r_0_1, r_3_0, r_4_0, g43, e0, in_5 (show k < 16 by omega), nI_clamp (show k < 2147483648 by omega), g5, nI_1]
      rfl)
    have l1 : ok (d + 1) mX10_lesson 488 Q 488 0 0 17 [some (.ref 0), some (.int (nI i)), some (.int 0), some (.int (nI 0))] [] M = ok (d + 1) mX10_lesson 488 Q 488 0 0 17 [some (.ref 0), some (.int (nI i)), some (.int (lsn S.1 S.1.length)), some (.int (nI S.1.length))] [] M := l0
    have l2 : ok (d + 1) mX10_lesson 488 Q 488 0 0 17 [some (.ref 0), some (.int (nI i)), some (.int 0), some (.int 0)] [] M = _ := l1
    unfold hasA at c
    have g8 : gI M 8 i = S.2.1 i := (h6 i hi).1
    simp (disch := (first | assumption | omega | decide)) only [sX10_lesson_0, sX10_lesson_1, sX10_lesson_4, sX10_lesson_5, sX10_lesson_8, sX10_lesson_11, sX10_lesson_12, sX10_lesson_13, sX10_lesson_14, sX10_lesson_15, sX10_lesson_16, sX10_lesson_18, sX10_lesson_19, sX10_lesson_22, sX10_lesson_25, sX10_lesson_28, sX10_lesson_31, sX10_lesson_32, sX10_lesson_33, sX10_lesson_34, sX10_lesson_37, sX10_lesson_40, sX10_lesson_43, sX10_lesson_44, sX10_lesson_45, sX10_lesson_46, sX10_lesson_47, sX10_lesson_48, sX10_lesson_51, sX10_lesson_54, sX10_lesson_55, sX10_lesson_56, sX10_lesson_59, sX10_lesson_62, sX10_lesson_63, sX10_lesson_64, sX10_lesson_65, sX10_lesson_66, sX10_lesson_67, kI_i, kL_l, kV_v, am_rv_s, am_kl_i, am_kl_r, am_kl_n, am_kl_l, true_and, and_true, and_self, true_or, or_true, implies_true, forall_const, not_true_eq_false, not_false_eq_true, false_implies, true_implies, if_true, if_false, Bool.true_eq_false, Bool.false_eq_true, ob_0, ob_3, r_0_1, ha, c, bz_t, i01, l2]
    rw [sX10_lesson_17]
    simp (disch := (first | assumption | omega | decide)) only [sX10_lesson_0, sX10_lesson_1, sX10_lesson_4, sX10_lesson_5, sX10_lesson_8, sX10_lesson_11, sX10_lesson_12, sX10_lesson_13, sX10_lesson_14, sX10_lesson_15, sX10_lesson_16, sX10_lesson_18, sX10_lesson_19, sX10_lesson_22, sX10_lesson_25, sX10_lesson_28, sX10_lesson_31, sX10_lesson_32, sX10_lesson_33, sX10_lesson_34, sX10_lesson_37, sX10_lesson_40, sX10_lesson_43, sX10_lesson_44, sX10_lesson_45, sX10_lesson_46, sX10_lesson_47, sX10_lesson_48, sX10_lesson_51, sX10_lesson_54, sX10_lesson_55, sX10_lesson_56, sX10_lesson_59, sX10_lesson_62, sX10_lesson_63, sX10_lesson_64, sX10_lesson_65, sX10_lesson_66, sX10_lesson_67, kI_i, kL_l, kV_v, am_rv_s, am_kl_i, am_kl_r, am_kl_n, am_kl_l, true_and, and_true, and_self, true_or, or_true, implies_true, forall_const, not_true_eq_false, not_false_eq_true, false_implies, true_implies, if_true, if_false, Bool.true_eq_false, Bool.false_eq_true, ob_0, ob_3, ob_4, r_0_1, r_3_0, r_3_1, g43, Int32.le_refl, in_8 (show i < 4 by omega), nI_clamp (show i < 2147483648 by omega), g8]
theorem m_lesson {y : Int32} (h : RS M ap lim S P) : am_big (d + 2) mX11_lesson [.ref 457, .int y] 488 M Q = Q (some (.int (lessonA ap S y))) (sI M 457 0 0) := by
  obtain ⟨hW, hS, hP, hf, hm, hw, hlim, ht⟩ := RS_th h
  generalize hM0 : sI M 457 0 0 = M0 at *
  have ha := fun d (Q : am_Q) => m_isHand (d := d) (Q := Q) (y := y) hf
  obtain ⟨h1, h2, h3, h4, h5, h8, h9, h10, h11⟩ := hS
  simp only [Nat.zero_add] at h2 h3 h4
  unfold lessonA
  rw [eX11_lesson]
  cases c : hasA ap y with
  | false => simp (disch := (first | assumption | omega | decide)) only [sX11_lesson_0, sX11_lesson_1, sX11_lesson_2, sX11_lesson_5, sX11_lesson_6, sX11_lesson_7, sX11_lesson_10, sX11_lesson_13, sX11_lesson_14, sX11_lesson_15, sX11_lesson_16, sX11_lesson_17, sX11_lesson_18, sX11_lesson_20, sX11_lesson_21, sX11_lesson_24, sX11_lesson_26, sX11_lesson_27, sX11_lesson_30, sX11_lesson_31, sX11_lesson_32, sX11_lesson_33, sX11_lesson_36, sX11_lesson_37, sX11_lesson_38, sX11_lesson_39, sX11_lesson_40, sX11_lesson_41, sX11_lesson_42, sX11_lesson_43, sX11_lesson_46, sX11_lesson_49, sX11_lesson_50, sX11_lesson_51, sX11_lesson_54, sX11_lesson_56, sX11_lesson_57, sX11_lesson_58, sX11_lesson_59, sX11_lesson_60, sX11_lesson_61, sX11_lesson_62, kI_i, kL_l, kV_v, am_rv_s, am_kl_i, am_kl_r, am_kl_n, am_kl_l, true_and, and_true, and_self, true_or, or_true, implies_true, forall_const, not_true_eq_false, not_false_eq_true, false_implies, true_implies, if_true, if_false, Bool.true_eq_false, Bool.false_eq_true, ob_457, hM0, ha, c, bz_f]
  | true =>
    obtain ⟨i, hi, rfl⟩ := hasA_x (by omega) c
    have l0 := loop0 (P := fun k => ok (d + 1) mX11_lesson 488 Q 488 0 0 19 [some (.ref 457), some (.int (nI i)), some (.int (lsn S.1 k)), some (.int (nI k))] [] M0) (n := S.1.length) (fun k hk => by
      have e0 : (nI S.1.length ≤ nI k) = False := by rw [nI_leE (by omega) (by omega)]; exact eq_false (by omega)
      have g5 : gI M0 465 (3 * k) = sf S.1 k := by rw [(sf_get hk).1]; exact (h3 k _ (List.getElem?_eq_getElem hk)).1
      show ok (d + 1) mX11_lesson 488 Q 488 0 0 19 _ [] _ = ok (d + 1) mX11_lesson 488 Q 488 0 0 19 _ [] _
      rw [sX11_lesson_19]
      simp (disch := (first | assumption | omega | decide)) only [sX11_lesson_0, sX11_lesson_1, sX11_lesson_2, sX11_lesson_5, sX11_lesson_6, sX11_lesson_7, sX11_lesson_10, sX11_lesson_13, sX11_lesson_14, sX11_lesson_15, sX11_lesson_16, sX11_lesson_17, sX11_lesson_18, sX11_lesson_20, sX11_lesson_21, sX11_lesson_24, sX11_lesson_26, sX11_lesson_27, sX11_lesson_30, sX11_lesson_31, sX11_lesson_32, sX11_lesson_33, sX11_lesson_36, sX11_lesson_37, sX11_lesson_38, sX11_lesson_39, sX11_lesson_40, sX11_lesson_41, sX11_lesson_42, sX11_lesson_43, sX11_lesson_46, sX11_lesson_49, sX11_lesson_50, sX11_lesson_51, sX11_lesson_54, sX11_lesson_56, sX11_lesson_57, sX11_lesson_58, sX11_lesson_59, sX11_lesson_60, sX11_lesson_61, sX11_lesson_62, kI_i, kL_l, kV_v, am_rv_s, am_kl_i, am_kl_r, am_kl_n, am_kl_l, true_and, and_true, and_self, true_or, or_true, implies_true, forall_const, not_true_eq_false, not_false_eq_true, false_implies, true_implies, if_true, if_false, Bool.true_eq_false, Bool.false_eq_true, ob_457, r_457_27, n36, in_465, nI_clamp, h2, e0, nI_m3, g5, nI_1]
      rfl)
    have l2 : ok (d + 1) mX11_lesson 488 Q 488 0 0 19 [some (.ref 457), some (.int (nI i)), some (.int 0), some (.int 0)] [] M0 = _ := l0
    simp (disch := (first | assumption | omega | decide)) only [sX11_lesson_0, sX11_lesson_1, sX11_lesson_2, sX11_lesson_5, sX11_lesson_6, sX11_lesson_7, sX11_lesson_10, sX11_lesson_13, sX11_lesson_14, sX11_lesson_15, sX11_lesson_16, sX11_lesson_17, sX11_lesson_18, sX11_lesson_20, sX11_lesson_21, sX11_lesson_24, sX11_lesson_26, sX11_lesson_27, sX11_lesson_30, sX11_lesson_31, sX11_lesson_32, sX11_lesson_33, sX11_lesson_36, sX11_lesson_37, sX11_lesson_38, sX11_lesson_39, sX11_lesson_40, sX11_lesson_41, sX11_lesson_42, sX11_lesson_43, sX11_lesson_46, sX11_lesson_49, sX11_lesson_50, sX11_lesson_51, sX11_lesson_54, sX11_lesson_56, sX11_lesson_57, sX11_lesson_58, sX11_lesson_59, sX11_lesson_60, sX11_lesson_61, sX11_lesson_62, kI_i, kL_l, kV_v, am_rv_s, am_kl_i, am_kl_r, am_kl_n, am_kl_l, true_and, and_true, and_self, true_or, or_true, implies_true, forall_const, not_true_eq_false, not_false_eq_true, false_implies, true_implies, if_true, if_false, Bool.true_eq_false, Bool.false_eq_true, ob_457, hM0, ha, c, bz_t, i01, l2]
    rw [sX11_lesson_19]
    simp (disch := (first | assumption | omega | decide)) only [sX11_lesson_0, sX11_lesson_1, sX11_lesson_2, sX11_lesson_5, sX11_lesson_6, sX11_lesson_7, sX11_lesson_10, sX11_lesson_13, sX11_lesson_14, sX11_lesson_15, sX11_lesson_16, sX11_lesson_17, sX11_lesson_18, sX11_lesson_20, sX11_lesson_21, sX11_lesson_24, sX11_lesson_26, sX11_lesson_27, sX11_lesson_30, sX11_lesson_31, sX11_lesson_32, sX11_lesson_33, sX11_lesson_36, sX11_lesson_37, sX11_lesson_38, sX11_lesson_39, sX11_lesson_40, sX11_lesson_41, sX11_lesson_42, sX11_lesson_43, sX11_lesson_46, sX11_lesson_49, sX11_lesson_50, sX11_lesson_51, sX11_lesson_54, sX11_lesson_56, sX11_lesson_57, sX11_lesson_58, sX11_lesson_59, sX11_lesson_60, sX11_lesson_61, sX11_lesson_62, kI_i, kL_l, kV_v, am_rv_s, am_kl_i, am_kl_r, am_kl_n, am_kl_l, true_and, and_true, and_self, true_or, or_true, implies_true, forall_const, not_true_eq_false, not_false_eq_true, false_implies, true_implies, if_true, if_false, Bool.true_eq_false, Bool.false_eq_true, ob_457, r_457_27, n36, n37, nI_add, in_465, nI_clamp, h2, Int32.le_refl, h4 i hi]
theorem m_seen {so v : Int32} {b : Bool} {L : List Sn} (h : RS M ap lim S P) (hL : SeM M L) : ∃ M', (∀ d (Q : am_Q), am_big (d + 3) mX11_seen [.ref 457, .int so, .int v, .int (bz b)] 488 M Q = Q (some (.int (if seenA ap L so v = true then nI (L.length + 1) else -1))) M') ∧ SeM M' (if seenA ap L so v = true then L ++ [(so, v, b)] else L) ∧ Fw (fun c j => (c = 457 ∧ (j = 0 ∨ j = 52)) ∨ c = 485) M M' := by
  obtain ⟨hW, hS, hP, hf, hm, hw, hlim, ht⟩ := RS_th h
  have hap := hS.2.2.2.2.1.2.2
  have f0 : Fw (fun c j => (c = 457 ∧ (j = 0 ∨ j = 52)) ∨ c = 485) M (sI M 457 0 0) := Fw.s (by omega)
  have hL0 : SeM (sI M 457 0 0) L := ⟨by rw [gI_j (by omega)]; exact hL.1, hL.2.1, fun i hi => by rw [gI_o (by omega), gI_o (by omega), gI_o (by omega)]; exact hL.2.2 i hi⟩
  generalize hM0 : sI M 457 0 0 = M0 at *
  obtain ⟨g1, g2, g3⟩ := hL0
  have ez : (nI ap = 0) = (opn ap = false) := by
    rw [show (0 : Int32) = nI 0 from rfl, nI_eqE (by omega) (by omega)]; unfold opn; simp
  have e10 : (nI L.length = 10) = (L.length = 10) := by rw [show (10 : Int32) = nI 10 from rfl]; exact nI_eqE (by omega) (by omega)
  have e99 : (decide (0 ≤ v) && decide (v ≤ 99)) = decide (0 ≤ v ∧ v ≤ 99) := by by_cases a : 0 ≤ v <;> by_cases b : v ≤ 99 <;> simp [a, b]
  unfold seenA
  cases c1 : opn ap with
  | false =>
    refine ⟨M0, fun d Q => ?_, by simpa using ⟨g1, g2, g3⟩, f0⟩
    rw [eX11_seen]
    simp (disch := (first | assumption | omega | decide)) only [sX11_seen_0, sX11_seen_1, sX11_seen_2, sX11_seen_5, sX11_seen_6, sX11_seen_9, sX11_seen_12, sX11_seen_13, sX11_seen_16, sX11_seen_19, sX11_seen_20, sX11_seen_21, sX11_seen_22, sX11_seen_25, sX11_seen_28, sX11_seen_31, sX11_seen_32, sX11_seen_35, sX11_seen_37, sX11_seen_40, sX11_seen_41, sX11_seen_42, sX11_seen_43, sX11_seen_46, sX11_seen_47, sX11_seen_48, sX11_seen_51, sX11_seen_52, sX11_seen_53, sX11_seen_54, sX11_seen_55, sX11_seen_58, sX11_seen_59, sX11_seen_60, sX11_seen_63, sX11_seen_64, sX11_seen_65, sX11_seen_66, sX11_seen_67, sX11_seen_68, sX11_seen_69, sX11_seen_72, sX11_seen_73, sX11_seen_74, sX11_seen_77, sX11_seen_78, sX11_seen_79, sX11_seen_80, sX11_seen_81, sX11_seen_84, sX11_seen_85, sX11_seen_88, sX11_seen_89, sX11_seen_90, sX11_seen_91, sX11_seen_92, sX11_seen_95, sX11_seen_96, sX11_seen_97, sX11_seen_100, sX11_seen_101, sX11_seen_104, kI_i, kL_l, kV_v, am_rv_s, am_kl_i, am_kl_r, am_kl_n, am_kl_l, true_and, and_true, and_self, true_or, or_true, implies_true, forall_const, not_true_eq_false, not_false_eq_true, false_implies, true_implies, if_true, if_false, Bool.true_eq_false, Bool.false_eq_true, ob_457, hM0, hf, ez, c1, Bool.false_and]
  | true =>
    cases c2 : decide (0 ≤ so ∧ so ≤ 4) with
    | false =>
      refine ⟨M0, fun d Q => ?_, by simpa using ⟨g1, g2, g3⟩, f0⟩
      rw [eX11_seen]
      simp (disch := (first | assumption | omega | decide)) only [sX11_seen_0, sX11_seen_1, sX11_seen_2, sX11_seen_5, sX11_seen_6, sX11_seen_9, sX11_seen_12, sX11_seen_13, sX11_seen_16, sX11_seen_19, sX11_seen_20, sX11_seen_21, sX11_seen_22, sX11_seen_25, sX11_seen_28, sX11_seen_31, sX11_seen_32, sX11_seen_35, sX11_seen_37, sX11_seen_40, sX11_seen_41, sX11_seen_42, sX11_seen_43, sX11_seen_46, sX11_seen_47, sX11_seen_48, sX11_seen_51, sX11_seen_52, sX11_seen_53, sX11_seen_54, sX11_seen_55, sX11_seen_58, sX11_seen_59, sX11_seen_60, sX11_seen_63, sX11_seen_64, sX11_seen_65, sX11_seen_66, sX11_seen_67, sX11_seen_68, sX11_seen_69, sX11_seen_72, sX11_seen_73, sX11_seen_74, sX11_seen_77, sX11_seen_78, sX11_seen_79, sX11_seen_80, sX11_seen_81, sX11_seen_84, sX11_seen_85, sX11_seen_88, sX11_seen_89, sX11_seen_90, sX11_seen_91, sX11_seen_92, sX11_seen_95, sX11_seen_96, sX11_seen_97, sX11_seen_100, sX11_seen_101, sX11_seen_104, kI_i, kL_l, kV_v, am_rv_s, am_kl_i, am_kl_r, am_kl_n, am_kl_l, true_and, and_true, and_self, true_or, or_true, implies_true, forall_const, not_true_eq_false, not_false_eq_true, false_implies, true_implies, if_true, if_false, Bool.true_eq_false, Bool.false_eq_true, ob_457, hM0, hf, ez, c1, m_isSort, c2, bz_f, Bool.false_and, Bool.and_false]
    | true =>
      cases c3 : decide (0 ≤ v ∧ v ≤ 99) with
      | false =>
        refine ⟨M0, fun d Q => ?_, by simpa using ⟨g1, g2, g3⟩, f0⟩
        rw [eX11_seen]
        simp (disch := (first | assumption | omega | decide)) only [sX11_seen_0, sX11_seen_1, sX11_seen_2, sX11_seen_5, sX11_seen_6, sX11_seen_9, sX11_seen_12, sX11_seen_13, sX11_seen_16, sX11_seen_19, sX11_seen_20, sX11_seen_21, sX11_seen_22, sX11_seen_25, sX11_seen_28, sX11_seen_31, sX11_seen_32, sX11_seen_35, sX11_seen_37, sX11_seen_40, sX11_seen_41, sX11_seen_42, sX11_seen_43, sX11_seen_46, sX11_seen_47, sX11_seen_48, sX11_seen_51, sX11_seen_52, sX11_seen_53, sX11_seen_54, sX11_seen_55, sX11_seen_58, sX11_seen_59, sX11_seen_60, sX11_seen_63, sX11_seen_64, sX11_seen_65, sX11_seen_66, sX11_seen_67, sX11_seen_68, sX11_seen_69, sX11_seen_72, sX11_seen_73, sX11_seen_74, sX11_seen_77, sX11_seen_78, sX11_seen_79, sX11_seen_80, sX11_seen_81, sX11_seen_84, sX11_seen_85, sX11_seen_88, sX11_seen_89, sX11_seen_90, sX11_seen_91, sX11_seen_92, sX11_seen_95, sX11_seen_96, sX11_seen_97, sX11_seen_100, sX11_seen_101, sX11_seen_104, kI_i, kL_l, kV_v, am_rv_s, am_kl_i, am_kl_r, am_kl_n, am_kl_l, true_and, and_true, and_self, true_or, or_true, implies_true, forall_const, not_true_eq_false, not_false_eq_true, false_implies, true_implies, if_true, if_false, Bool.true_eq_false, Bool.false_eq_true, ob_457, hM0, hf, ez, c1, m_isSort, c2, bz_t, bz_f, i01, c64_0, c64_99, m_isIn, e99, c3, Bool.false_and, Bool.and_false]
      | true =>
        by_cases c5 : L.length < 10
        · have e1 : (L.length = 10) = False := eq_false (by omega)
          have c5' := decide_eq_true c5
          refine ⟨sI (sI (sI (sI M0 485 (3 * L.length) so) 485 (3 * L.length + 1) v) 485 (3 * L.length + 2) (bz b)) 457 52 (nI (L.length + 1)), fun d Q => ?_, ?_, f0.tr ((((Fw.s (by omega)).tr (Fw.s (by omega))).tr (Fw.s (by omega))).tr (Fw.s (by omega)))⟩
          · rw [eX11_seen]
            cases b with
            | true => simp (disch := (first | assumption | omega | decide)) only [sX11_seen_0, sX11_seen_1, sX11_seen_2, sX11_seen_5, sX11_seen_6, sX11_seen_9, sX11_seen_12, sX11_seen_13, sX11_seen_16, sX11_seen_19, sX11_seen_20, sX11_seen_21, sX11_seen_22, sX11_seen_25, sX11_seen_28, sX11_seen_31, sX11_seen_32, sX11_seen_35, sX11_seen_37, sX11_seen_40, sX11_seen_41, sX11_seen_42, sX11_seen_43, sX11_seen_46, sX11_seen_47, sX11_seen_48, sX11_seen_51, sX11_seen_52, sX11_seen_53, sX11_seen_54, sX11_seen_55, sX11_seen_58, sX11_seen_59, sX11_seen_60, sX11_seen_63, sX11_seen_64, sX11_seen_65, sX11_seen_66, sX11_seen_67, sX11_seen_68, sX11_seen_69, sX11_seen_72, sX11_seen_73, sX11_seen_74, sX11_seen_77, sX11_seen_78, sX11_seen_79, sX11_seen_80, sX11_seen_81, sX11_seen_84, sX11_seen_85, sX11_seen_88, sX11_seen_89, sX11_seen_90, sX11_seen_91, sX11_seen_92, sX11_seen_95, sX11_seen_96, sX11_seen_97, sX11_seen_100, sX11_seen_101, sX11_seen_104, kI_i, kL_l, kV_v, am_rv_s, am_kl_i, am_kl_r, am_kl_n, am_kl_l, true_and, and_true, and_self, true_or, or_true, implies_true, forall_const, not_true_eq_false, not_false_eq_true, false_implies, true_implies, if_true, if_false, Bool.true_eq_false, Bool.false_eq_true, ob_457, hM0, hf, ez, c1, m_isSort, c2, bz_t, i01, c64_0, c64_99, m_isIn, e99, c3, g1, e10, e1, c5', gR_sI, r_457_51, nI_m3, nI_1, nI_2, iw_485, nI_clamp, gI_o, gI_e, Bool.and_self]
            | false => simp (disch := (first | assumption | omega | decide)) only [sX11_seen_0, sX11_seen_1, sX11_seen_2, sX11_seen_5, sX11_seen_6, sX11_seen_9, sX11_seen_12, sX11_seen_13, sX11_seen_16, sX11_seen_19, sX11_seen_20, sX11_seen_21, sX11_seen_22, sX11_seen_25, sX11_seen_28, sX11_seen_31, sX11_seen_32, sX11_seen_35, sX11_seen_37, sX11_seen_40, sX11_seen_41, sX11_seen_42, sX11_seen_43, sX11_seen_46, sX11_seen_47, sX11_seen_48, sX11_seen_51, sX11_seen_52, sX11_seen_53, sX11_seen_54, sX11_seen_55, sX11_seen_58, sX11_seen_59, sX11_seen_60, sX11_seen_63, sX11_seen_64, sX11_seen_65, sX11_seen_66, sX11_seen_67, sX11_seen_68, sX11_seen_69, sX11_seen_72, sX11_seen_73, sX11_seen_74, sX11_seen_77, sX11_seen_78, sX11_seen_79, sX11_seen_80, sX11_seen_81, sX11_seen_84, sX11_seen_85, sX11_seen_88, sX11_seen_89, sX11_seen_90, sX11_seen_91, sX11_seen_92, sX11_seen_95, sX11_seen_96, sX11_seen_97, sX11_seen_100, sX11_seen_101, sX11_seen_104, kI_i, kL_l, kV_v, am_rv_s, am_kl_i, am_kl_r, am_kl_n, am_kl_l, true_and, and_true, and_self, true_or, or_true, implies_true, forall_const, not_true_eq_false, not_false_eq_true, false_implies, true_implies, if_true, if_false, Bool.true_eq_false, Bool.false_eq_true, ob_457, hM0, hf, ez, c1, m_isSort, c2, bz_t, bz_f, i01, c64_0, c64_99, m_isIn, e99, c3, g1, e10, e1, c5', gR_sI, r_457_51, nI_m3, nI_1, nI_2, iw_485, nI_clamp, gI_o, gI_e, Bool.and_self]
          · rw [c5']
            simp only [Bool.and_self, if_true]
            refine ⟨by rw [gI_e]; simp, by simp; omega, fun i hi => ?_⟩
            by_cases hil : i < L.length
            · rw [List.getElem_append_left hil, gI_o (by omega), gI_j (by omega), gI_j (by omega), gI_j (by omega), gI_o (by omega), gI_j (by omega), gI_j (by omega), gI_j (by omega), gI_o (by omega), gI_j (by omega), gI_j (by omega), gI_j (by omega)]
              exact g3 i hil
            · have hie : i = L.length := by simp at hi; omega
              subst hie
              rw [List.getElem_append_right (Nat.le_refl _)]
              simp only [Nat.sub_self, List.getElem_cons_zero]
              exact ⟨by rw [gI_o (by omega), gI_j (by omega), gI_j (by omega), gI_e], by rw [gI_o (by omega), gI_j (by omega), gI_e], by rw [gI_o (by omega), gI_e]⟩
        · have c5' := decide_eq_false c5
          have e1 : (L.length = 10) = True := eq_true (by omega)
          refine ⟨M0, fun d Q => ?_, by rw [c5']; simpa using ⟨g1, g2, g3⟩, f0⟩
          rw [eX11_seen]
          simp (disch := (first | assumption | omega | decide)) only [sX11_seen_0, sX11_seen_1, sX11_seen_2, sX11_seen_5, sX11_seen_6, sX11_seen_9, sX11_seen_12, sX11_seen_13, sX11_seen_16, sX11_seen_19, sX11_seen_20, sX11_seen_21, sX11_seen_22, sX11_seen_25, sX11_seen_28, sX11_seen_31, sX11_seen_32, sX11_seen_35, sX11_seen_37, sX11_seen_40, sX11_seen_41, sX11_seen_42, sX11_seen_43, sX11_seen_46, sX11_seen_47, sX11_seen_48, sX11_seen_51, sX11_seen_52, sX11_seen_53, sX11_seen_54, sX11_seen_55, sX11_seen_58, sX11_seen_59, sX11_seen_60, sX11_seen_63, sX11_seen_64, sX11_seen_65, sX11_seen_66, sX11_seen_67, sX11_seen_68, sX11_seen_69, sX11_seen_72, sX11_seen_73, sX11_seen_74, sX11_seen_77, sX11_seen_78, sX11_seen_79, sX11_seen_80, sX11_seen_81, sX11_seen_84, sX11_seen_85, sX11_seen_88, sX11_seen_89, sX11_seen_90, sX11_seen_91, sX11_seen_92, sX11_seen_95, sX11_seen_96, sX11_seen_97, sX11_seen_100, sX11_seen_101, sX11_seen_104, kI_i, kL_l, kV_v, am_rv_s, am_kl_i, am_kl_r, am_kl_n, am_kl_l, true_and, and_true, and_self, true_or, or_true, implies_true, forall_const, not_true_eq_false, not_false_eq_true, false_implies, true_implies, if_true, if_false, Bool.true_eq_false, Bool.false_eq_true, ob_457, hM0, hf, ez, c1, m_isSort, c2, bz_t, i01, c64_0, c64_99, m_isIn, e99, c3, g1, e10, e1, c5', Bool.and_false]
theorem c_logLen (h : StC M 3 ap lim S) : am_big (d + 1) mX8_logLength [.ref 3] 488 M Q = Q (some (.int (nI S.2.2.2.2.length))) M := by
  obtain ⟨n, hn, hnt⟩ := h.toN
  obtain ⟨h1, h2, h3, h4, h5, h6, ⟨h7, h9, h9'⟩, h10, h11⟩ := hn
  have e : (if (60 : Int32) < nI n then 60 else nI n) = nI S.2.2.2.2.length := by
    rw [h9, show (60 : Int32) = nI 60 from rfl]
    by_cases c : 60 < n
    · rw [if_pos (nI_lt c (by omega))]; congr 1; omega
    · rw [if_neg (by rw [nI_ltE (by omega) (by omega)]; exact c)]; congr 1; omega
  rw [eX8_logLength]
  simp (disch := (first | assumption | omega | decide)) only [sX8_logLength_0, sX8_logLength_1, sX8_logLength_4, sX8_logLength_6, sX8_logLength_9, kI_i, kL_l, kV_v, am_rv_s, am_kl_i, am_kl_r, am_kl_n, am_kl_l, true_and, and_true, and_self, true_or, or_true, implies_true, forall_const, not_true_eq_false, not_false_eq_true, false_implies, true_implies, if_true, if_false, Bool.true_eq_false, Bool.false_eq_true, ob_3, h7, e]
theorem c_count {v a2 a3 a4 a5 a8 : Int32} {nL nP : Nat} (hW : WR M) (h : StC M 3 ap lim S) (k2 : gI M 392 2 = a2) (k3 : gI M 0 9 = a3) (k4 : gI M 1 1 = a4) (k5 : gI M 392 3 = a5) (k8 : gI M 0 16 = a8) (k9 : gI M 435 4 = nI nL) (k11 : gI M 30 2 = nI nP) : am_big (d + 2) mX10_count [.ref 0, .int v] 488 M Q = Q (some (.int (countA ap lim S a2 a3 a4 a5 a8 nL nP v))) M := by
  have io := fun d (Q : am_Q) => c_isOpen (d := d) (Q := Q) hW h
  have ll := fun d (Q : am_Q) => c_logLen (d := d) (Q := Q) h
  obtain ⟨h1, h2, h3, h4, h5, h6, h7, h10, h11⟩ := id h
  have g43 : gI M 4 3 = nI S.1.length := h2.1.2.1
  rw [eX10_count]
  unfold countA
  cases co : opn ap
  case true =>
    by_cases c0 : v = 0
    · have t := eq_true c0
      have n1 := vne (b := 1) c0 (by decide)
      have n2 := vne (b := 2) c0 (by decide)
      have n3 := vne (b := 3) c0 (by decide)
      have n4 := vne (b := 4) c0 (by decide)
      have n5 := vne (b := 5) c0 (by decide)
      have n6 := vne (b := 6) c0 (by decide)
      have n7 := vne (b := 7) c0 (by decide)
      have n8 := vne (b := 8) c0 (by decide)
      have n9 := vne (b := 9) c0 (by decide)
      have n10 := vne (b := 10) c0 (by decide)
      have n11 := vne (b := 11) c0 (by decide)
      simp (disch := (first | assumption | omega | decide)) only [sX10_count_0, sX10_count_1, sX10_count_64, sX10_count_65, sX10_count_68, sX10_count_71, sX10_count_72, sX10_count_73, sX10_count_76, sX10_count_79, sX10_count_82, sX10_count_83, sX10_count_84, sX10_count_87, sX10_count_90, sX10_count_91, sX10_count_92, sX10_count_95, sX10_count_96, sX10_count_97, sX10_count_100, sX10_count_103, sX10_count_104, sX10_count_105, sX10_count_108, sX10_count_111, sX10_count_112, sX10_count_113, sX10_count_116, sX10_count_119, sX10_count_120, sX10_count_121, sX10_count_124, sX10_count_127, sX10_count_128, sX10_count_131, sX10_count_134, sX10_count_137, sX10_count_138, sX10_count_139, sX10_count_140, sX10_count_143, sX10_count_144, sX10_count_145, sX10_count_148, sX10_count_151, sX10_count_152, sX10_count_153, sX10_count_156, sX10_count_159, sX10_count_160, sX10_count_161, sX10_count_164, sX10_count_167, sX10_count_168, sX10_count_171, kI_i, kL_l, kV_v, am_rv_s, am_kl_i, am_kl_r, am_kl_n, am_kl_l, true_and, and_true, and_self, true_or, or_true, implies_true, forall_const, not_true_eq_false, not_false_eq_true, false_implies, true_implies, if_true, if_false, Bool.true_eq_false, Bool.false_eq_true, ob_0, ob_1, ob_3, ob_4, ob_30, ob_392, ob_435, r_0_0, r_0_1, r_0_5, r_0_6, r_0_14, r_3_0, h3, h4, h5, g43, k2, k3, k4, k5, k8, k9, k11, io, ll, co, bz_t, i01, t, n1, n2, n3, n4, n5, n6, n7, n8, n9, n10, n11, sw0_11]
    · skip
      by_cases c1 : v = 1
      · have t := eq_true c1
        have n0 := vne (b := 0) c1 (by decide)
        have n2 := vne (b := 2) c1 (by decide)
        have n3 := vne (b := 3) c1 (by decide)
        have n4 := vne (b := 4) c1 (by decide)
        have n5 := vne (b := 5) c1 (by decide)
        have n6 := vne (b := 6) c1 (by decide)
        have n7 := vne (b := 7) c1 (by decide)
        have n8 := vne (b := 8) c1 (by decide)
        have n9 := vne (b := 9) c1 (by decide)
        have n10 := vne (b := 10) c1 (by decide)
        have n11 := vne (b := 11) c1 (by decide)
        simp (disch := (first | assumption | omega | decide)) only [sX10_count_0, sX10_count_1, sX10_count_64, sX10_count_65, sX10_count_68, sX10_count_71, sX10_count_72, sX10_count_73, sX10_count_76, sX10_count_79, sX10_count_82, sX10_count_83, sX10_count_84, sX10_count_87, sX10_count_90, sX10_count_91, sX10_count_92, sX10_count_95, sX10_count_96, sX10_count_97, sX10_count_100, sX10_count_103, sX10_count_104, sX10_count_105, sX10_count_108, sX10_count_111, sX10_count_112, sX10_count_113, sX10_count_116, sX10_count_119, sX10_count_120, sX10_count_121, sX10_count_124, sX10_count_127, sX10_count_128, sX10_count_131, sX10_count_134, sX10_count_137, sX10_count_138, sX10_count_139, sX10_count_140, sX10_count_143, sX10_count_144, sX10_count_145, sX10_count_148, sX10_count_151, sX10_count_152, sX10_count_153, sX10_count_156, sX10_count_159, sX10_count_160, sX10_count_161, sX10_count_164, sX10_count_167, sX10_count_168, sX10_count_171, kI_i, kL_l, kV_v, am_rv_s, am_kl_i, am_kl_r, am_kl_n, am_kl_l, true_and, and_true, and_self, true_or, or_true, implies_true, forall_const, not_true_eq_false, not_false_eq_true, false_implies, true_implies, if_true, if_false, Bool.true_eq_false, Bool.false_eq_true, ob_0, ob_1, ob_3, ob_4, ob_30, ob_392, ob_435, r_0_0, r_0_1, r_0_5, r_0_6, r_0_14, r_3_0, h3, h4, h5, g43, k2, k3, k4, k5, k8, k9, k11, io, ll, co, bz_t, i01, t, n0, n2, n3, n4, n5, n6, n7, n8, n9, n10, n11, sw0_11]
      · skip
        by_cases c2 : v = 2
        · have t := eq_true c2
          have n0 := vne (b := 0) c2 (by decide)
          have n1 := vne (b := 1) c2 (by decide)
          have n3 := vne (b := 3) c2 (by decide)
          have n4 := vne (b := 4) c2 (by decide)
          have n5 := vne (b := 5) c2 (by decide)
          have n6 := vne (b := 6) c2 (by decide)
          have n7 := vne (b := 7) c2 (by decide)
          have n8 := vne (b := 8) c2 (by decide)
          have n9 := vne (b := 9) c2 (by decide)
          have n10 := vne (b := 10) c2 (by decide)
          have n11 := vne (b := 11) c2 (by decide)
          simp (disch := (first | assumption | omega | decide)) only [sX10_count_0, sX10_count_1, sX10_count_64, sX10_count_65, sX10_count_68, sX10_count_71, sX10_count_72, sX10_count_73, sX10_count_76, sX10_count_79, sX10_count_82, sX10_count_83, sX10_count_84, sX10_count_87, sX10_count_90, sX10_count_91, sX10_count_92, sX10_count_95, sX10_count_96, sX10_count_97, sX10_count_100, sX10_count_103, sX10_count_104, sX10_count_105, sX10_count_108, sX10_count_111, sX10_count_112, sX10_count_113, sX10_count_116, sX10_count_119, sX10_count_120, sX10_count_121, sX10_count_124, sX10_count_127, sX10_count_128, sX10_count_131, sX10_count_134, sX10_count_137, sX10_count_138, sX10_count_139, sX10_count_140, sX10_count_143, sX10_count_144, sX10_count_145, sX10_count_148, sX10_count_151, sX10_count_152, sX10_count_153, sX10_count_156, sX10_count_159, sX10_count_160, sX10_count_161, sX10_count_164, sX10_count_167, sX10_count_168, sX10_count_171, kI_i, kL_l, kV_v, am_rv_s, am_kl_i, am_kl_r, am_kl_n, am_kl_l, true_and, and_true, and_self, true_or, or_true, implies_true, forall_const, not_true_eq_false, not_false_eq_true, false_implies, true_implies, if_true, if_false, Bool.true_eq_false, Bool.false_eq_true, ob_0, ob_1, ob_3, ob_4, ob_30, ob_392, ob_435, r_0_0, r_0_1, r_0_5, r_0_6, r_0_14, r_3_0, h3, h4, h5, g43, k2, k3, k4, k5, k8, k9, k11, io, ll, co, bz_t, i01, t, n0, n1, n3, n4, n5, n6, n7, n8, n9, n10, n11, sw0_11]
        · skip
          by_cases c3 : v = 3
          · have t := eq_true c3
            have n0 := vne (b := 0) c3 (by decide)
            have n1 := vne (b := 1) c3 (by decide)
            have n2 := vne (b := 2) c3 (by decide)
            have n4 := vne (b := 4) c3 (by decide)
            have n5 := vne (b := 5) c3 (by decide)
            have n6 := vne (b := 6) c3 (by decide)
            have n7 := vne (b := 7) c3 (by decide)
            have n8 := vne (b := 8) c3 (by decide)
            have n9 := vne (b := 9) c3 (by decide)
            have n10 := vne (b := 10) c3 (by decide)
            have n11 := vne (b := 11) c3 (by decide)
            simp (disch := (first | assumption | omega | decide)) only [sX10_count_0, sX10_count_1, sX10_count_64, sX10_count_65, sX10_count_68, sX10_count_71, sX10_count_72, sX10_count_73, sX10_count_76, sX10_count_79, sX10_count_82, sX10_count_83, sX10_count_84, sX10_count_87, sX10_count_90, sX10_count_91, sX10_count_92, sX10_count_95, sX10_count_96, sX10_count_97, sX10_count_100, sX10_count_103, sX10_count_104, sX10_count_105, sX10_count_108, sX10_count_111, sX10_count_112, sX10_count_113, sX10_count_116, sX10_count_119, sX10_count_120, sX10_count_121, sX10_count_124, sX10_count_127, sX10_count_128, sX10_count_131, sX10_count_134, sX10_count_137, sX10_count_138, sX10_count_139, sX10_count_140, sX10_count_143, sX10_count_144, sX10_count_145, sX10_count_148, sX10_count_151, sX10_count_152, sX10_count_153, sX10_count_156, sX10_count_159, sX10_count_160, sX10_count_161, sX10_count_164, sX10_count_167, sX10_count_168, sX10_count_171, kI_i, kL_l, kV_v, am_rv_s, am_kl_i, am_kl_r, am_kl_n, am_kl_l, true_and, and_true, and_self, true_or, or_true, implies_true, forall_const, not_true_eq_false, not_false_eq_true, false_implies, true_implies, if_true, if_false, Bool.true_eq_false, Bool.false_eq_true, ob_0, ob_1, ob_3, ob_4, ob_30, ob_392, ob_435, r_0_0, r_0_1, r_0_5, r_0_6, r_0_14, r_3_0, h3, h4, h5, g43, k2, k3, k4, k5, k8, k9, k11, io, ll, co, bz_t, i01, t, n0, n1, n2, n4, n5, n6, n7, n8, n9, n10, n11, sw0_11]
          · skip
            by_cases c4 : v = 4
            · have t := eq_true c4
              have n0 := vne (b := 0) c4 (by decide)
              have n1 := vne (b := 1) c4 (by decide)
              have n2 := vne (b := 2) c4 (by decide)
              have n3 := vne (b := 3) c4 (by decide)
              have n5 := vne (b := 5) c4 (by decide)
              have n6 := vne (b := 6) c4 (by decide)
              have n7 := vne (b := 7) c4 (by decide)
              have n8 := vne (b := 8) c4 (by decide)
              have n9 := vne (b := 9) c4 (by decide)
              have n10 := vne (b := 10) c4 (by decide)
              have n11 := vne (b := 11) c4 (by decide)
              simp (disch := (first | assumption | omega | decide)) only [sX10_count_0, sX10_count_1, sX10_count_64, sX10_count_65, sX10_count_68, sX10_count_71, sX10_count_72, sX10_count_73, sX10_count_76, sX10_count_79, sX10_count_82, sX10_count_83, sX10_count_84, sX10_count_87, sX10_count_90, sX10_count_91, sX10_count_92, sX10_count_95, sX10_count_96, sX10_count_97, sX10_count_100, sX10_count_103, sX10_count_104, sX10_count_105, sX10_count_108, sX10_count_111, sX10_count_112, sX10_count_113, sX10_count_116, sX10_count_119, sX10_count_120, sX10_count_121, sX10_count_124, sX10_count_127, sX10_count_128, sX10_count_131, sX10_count_134, sX10_count_137, sX10_count_138, sX10_count_139, sX10_count_140, sX10_count_143, sX10_count_144, sX10_count_145, sX10_count_148, sX10_count_151, sX10_count_152, sX10_count_153, sX10_count_156, sX10_count_159, sX10_count_160, sX10_count_161, sX10_count_164, sX10_count_167, sX10_count_168, sX10_count_171, kI_i, kL_l, kV_v, am_rv_s, am_kl_i, am_kl_r, am_kl_n, am_kl_l, true_and, and_true, and_self, true_or, or_true, implies_true, forall_const, not_true_eq_false, not_false_eq_true, false_implies, true_implies, if_true, if_false, Bool.true_eq_false, Bool.false_eq_true, ob_0, ob_1, ob_3, ob_4, ob_30, ob_392, ob_435, r_0_0, r_0_1, r_0_5, r_0_6, r_0_14, r_3_0, h3, h4, h5, g43, k2, k3, k4, k5, k8, k9, k11, io, ll, co, bz_t, i01, t, n0, n1, n2, n3, n5, n6, n7, n8, n9, n10, n11, sw0_11]
            · skip
              by_cases c5 : v = 5
              · have t := eq_true c5
                have n0 := vne (b := 0) c5 (by decide)
                have n1 := vne (b := 1) c5 (by decide)
                have n2 := vne (b := 2) c5 (by decide)
                have n3 := vne (b := 3) c5 (by decide)
                have n4 := vne (b := 4) c5 (by decide)
                have n6 := vne (b := 6) c5 (by decide)
                have n7 := vne (b := 7) c5 (by decide)
                have n8 := vne (b := 8) c5 (by decide)
                have n9 := vne (b := 9) c5 (by decide)
                have n10 := vne (b := 10) c5 (by decide)
                have n11 := vne (b := 11) c5 (by decide)
                simp (disch := (first | assumption | omega | decide)) only [sX10_count_0, sX10_count_1, sX10_count_64, sX10_count_65, sX10_count_68, sX10_count_71, sX10_count_72, sX10_count_73, sX10_count_76, sX10_count_79, sX10_count_82, sX10_count_83, sX10_count_84, sX10_count_87, sX10_count_90, sX10_count_91, sX10_count_92, sX10_count_95, sX10_count_96, sX10_count_97, sX10_count_100, sX10_count_103, sX10_count_104, sX10_count_105, sX10_count_108, sX10_count_111, sX10_count_112, sX10_count_113, sX10_count_116, sX10_count_119, sX10_count_120, sX10_count_121, sX10_count_124, sX10_count_127, sX10_count_128, sX10_count_131, sX10_count_134, sX10_count_137, sX10_count_138, sX10_count_139, sX10_count_140, sX10_count_143, sX10_count_144, sX10_count_145, sX10_count_148, sX10_count_151, sX10_count_152, sX10_count_153, sX10_count_156, sX10_count_159, sX10_count_160, sX10_count_161, sX10_count_164, sX10_count_167, sX10_count_168, sX10_count_171, kI_i, kL_l, kV_v, am_rv_s, am_kl_i, am_kl_r, am_kl_n, am_kl_l, true_and, and_true, and_self, true_or, or_true, implies_true, forall_const, not_true_eq_false, not_false_eq_true, false_implies, true_implies, if_true, if_false, Bool.true_eq_false, Bool.false_eq_true, ob_0, ob_1, ob_3, ob_4, ob_30, ob_392, ob_435, r_0_0, r_0_1, r_0_5, r_0_6, r_0_14, r_3_0, h3, h4, h5, g43, k2, k3, k4, k5, k8, k9, k11, io, ll, co, bz_t, i01, t, n0, n1, n2, n3, n4, n6, n7, n8, n9, n10, n11, sw0_11]
              · skip
                by_cases c6 : v = 6
                · have t := eq_true c6
                  have n0 := vne (b := 0) c6 (by decide)
                  have n1 := vne (b := 1) c6 (by decide)
                  have n2 := vne (b := 2) c6 (by decide)
                  have n3 := vne (b := 3) c6 (by decide)
                  have n4 := vne (b := 4) c6 (by decide)
                  have n5 := vne (b := 5) c6 (by decide)
                  have n7 := vne (b := 7) c6 (by decide)
                  have n8 := vne (b := 8) c6 (by decide)
                  have n9 := vne (b := 9) c6 (by decide)
                  have n10 := vne (b := 10) c6 (by decide)
                  have n11 := vne (b := 11) c6 (by decide)
                  simp (disch := (first | assumption | omega | decide)) only [sX10_count_0, sX10_count_1, sX10_count_64, sX10_count_65, sX10_count_68, sX10_count_71, sX10_count_72, sX10_count_73, sX10_count_76, sX10_count_79, sX10_count_82, sX10_count_83, sX10_count_84, sX10_count_87, sX10_count_90, sX10_count_91, sX10_count_92, sX10_count_95, sX10_count_96, sX10_count_97, sX10_count_100, sX10_count_103, sX10_count_104, sX10_count_105, sX10_count_108, sX10_count_111, sX10_count_112, sX10_count_113, sX10_count_116, sX10_count_119, sX10_count_120, sX10_count_121, sX10_count_124, sX10_count_127, sX10_count_128, sX10_count_131, sX10_count_134, sX10_count_137, sX10_count_138, sX10_count_139, sX10_count_140, sX10_count_143, sX10_count_144, sX10_count_145, sX10_count_148, sX10_count_151, sX10_count_152, sX10_count_153, sX10_count_156, sX10_count_159, sX10_count_160, sX10_count_161, sX10_count_164, sX10_count_167, sX10_count_168, sX10_count_171, kI_i, kL_l, kV_v, am_rv_s, am_kl_i, am_kl_r, am_kl_n, am_kl_l, true_and, and_true, and_self, true_or, or_true, implies_true, forall_const, not_true_eq_false, not_false_eq_true, false_implies, true_implies, if_true, if_false, Bool.true_eq_false, Bool.false_eq_true, ob_0, ob_1, ob_3, ob_4, ob_30, ob_392, ob_435, r_0_0, r_0_1, r_0_5, r_0_6, r_0_14, r_3_0, h3, h4, h5, g43, k2, k3, k4, k5, k8, k9, k11, io, ll, co, bz_t, i01, t, n0, n1, n2, n3, n4, n5, n7, n8, n9, n10, n11, sw0_11]
                · skip
                  by_cases c7 : v = 7
                  · have t := eq_true c7
                    have n0 := vne (b := 0) c7 (by decide)
                    have n1 := vne (b := 1) c7 (by decide)
                    have n2 := vne (b := 2) c7 (by decide)
                    have n3 := vne (b := 3) c7 (by decide)
                    have n4 := vne (b := 4) c7 (by decide)
                    have n5 := vne (b := 5) c7 (by decide)
                    have n6 := vne (b := 6) c7 (by decide)
                    have n8 := vne (b := 8) c7 (by decide)
                    have n9 := vne (b := 9) c7 (by decide)
                    have n10 := vne (b := 10) c7 (by decide)
                    have n11 := vne (b := 11) c7 (by decide)
                    simp (disch := (first | assumption | omega | decide)) only [sX10_count_0, sX10_count_1, sX10_count_64, sX10_count_65, sX10_count_68, sX10_count_71, sX10_count_72, sX10_count_73, sX10_count_76, sX10_count_79, sX10_count_82, sX10_count_83, sX10_count_84, sX10_count_87, sX10_count_90, sX10_count_91, sX10_count_92, sX10_count_95, sX10_count_96, sX10_count_97, sX10_count_100, sX10_count_103, sX10_count_104, sX10_count_105, sX10_count_108, sX10_count_111, sX10_count_112, sX10_count_113, sX10_count_116, sX10_count_119, sX10_count_120, sX10_count_121, sX10_count_124, sX10_count_127, sX10_count_128, sX10_count_131, sX10_count_134, sX10_count_137, sX10_count_138, sX10_count_139, sX10_count_140, sX10_count_143, sX10_count_144, sX10_count_145, sX10_count_148, sX10_count_151, sX10_count_152, sX10_count_153, sX10_count_156, sX10_count_159, sX10_count_160, sX10_count_161, sX10_count_164, sX10_count_167, sX10_count_168, sX10_count_171, kI_i, kL_l, kV_v, am_rv_s, am_kl_i, am_kl_r, am_kl_n, am_kl_l, true_and, and_true, and_self, true_or, or_true, implies_true, forall_const, not_true_eq_false, not_false_eq_true, false_implies, true_implies, if_true, if_false, Bool.true_eq_false, Bool.false_eq_true, ob_0, ob_1, ob_3, ob_4, ob_30, ob_392, ob_435, r_0_0, r_0_1, r_0_5, r_0_6, r_0_14, r_3_0, h3, h4, h5, g43, k2, k3, k4, k5, k8, k9, k11, io, ll, co, bz_t, i01, t, n0, n1, n2, n3, n4, n5, n6, n8, n9, n10, n11, sw0_11]
                  · skip
                    by_cases c8 : v = 8
                    · have t := eq_true c8
                      have n0 := vne (b := 0) c8 (by decide)
                      have n1 := vne (b := 1) c8 (by decide)
                      have n2 := vne (b := 2) c8 (by decide)
                      have n3 := vne (b := 3) c8 (by decide)
                      have n4 := vne (b := 4) c8 (by decide)
                      have n5 := vne (b := 5) c8 (by decide)
                      have n6 := vne (b := 6) c8 (by decide)
                      have n7 := vne (b := 7) c8 (by decide)
                      have n9 := vne (b := 9) c8 (by decide)
                      have n10 := vne (b := 10) c8 (by decide)
                      have n11 := vne (b := 11) c8 (by decide)
                      simp (disch := (first | assumption | omega | decide)) only [sX10_count_0, sX10_count_1, sX10_count_64, sX10_count_65, sX10_count_68, sX10_count_71, sX10_count_72, sX10_count_73, sX10_count_76, sX10_count_79, sX10_count_82, sX10_count_83, sX10_count_84, sX10_count_87, sX10_count_90, sX10_count_91, sX10_count_92, sX10_count_95, sX10_count_96, sX10_count_97, sX10_count_100, sX10_count_103, sX10_count_104, sX10_count_105, sX10_count_108, sX10_count_111, sX10_count_112, sX10_count_113, sX10_count_116, sX10_count_119, sX10_count_120, sX10_count_121, sX10_count_124, sX10_count_127, sX10_count_128, sX10_count_131, sX10_count_134, sX10_count_137, sX10_count_138, sX10_count_139, sX10_count_140, sX10_count_143, sX10_count_144, sX10_count_145, sX10_count_148, sX10_count_151, sX10_count_152, sX10_count_153, sX10_count_156, sX10_count_159, sX10_count_160, sX10_count_161, sX10_count_164, sX10_count_167, sX10_count_168, sX10_count_171, kI_i, kL_l, kV_v, am_rv_s, am_kl_i, am_kl_r, am_kl_n, am_kl_l, true_and, and_true, and_self, true_or, or_true, implies_true, forall_const, not_true_eq_false, not_false_eq_true, false_implies, true_implies, if_true, if_false, Bool.true_eq_false, Bool.false_eq_true, ob_0, ob_1, ob_3, ob_4, ob_30, ob_392, ob_435, r_0_0, r_0_1, r_0_5, r_0_6, r_0_14, r_3_0, h3, h4, h5, g43, k2, k3, k4, k5, k8, k9, k11, io, ll, co, bz_t, i01, t, n0, n1, n2, n3, n4, n5, n6, n7, n9, n10, n11, sw0_11]
                    · skip
                      by_cases c9 : v = 9
                      · have t := eq_true c9
                        have n0 := vne (b := 0) c9 (by decide)
                        have n1 := vne (b := 1) c9 (by decide)
                        have n2 := vne (b := 2) c9 (by decide)
                        have n3 := vne (b := 3) c9 (by decide)
                        have n4 := vne (b := 4) c9 (by decide)
                        have n5 := vne (b := 5) c9 (by decide)
                        have n6 := vne (b := 6) c9 (by decide)
                        have n7 := vne (b := 7) c9 (by decide)
                        have n8 := vne (b := 8) c9 (by decide)
                        have n10 := vne (b := 10) c9 (by decide)
                        have n11 := vne (b := 11) c9 (by decide)
                        simp (disch := (first | assumption | omega | decide)) only [sX10_count_0, sX10_count_1, sX10_count_64, sX10_count_65, sX10_count_68, sX10_count_71, sX10_count_72, sX10_count_73, sX10_count_76, sX10_count_79, sX10_count_82, sX10_count_83, sX10_count_84, sX10_count_87, sX10_count_90, sX10_count_91, sX10_count_92, sX10_count_95, sX10_count_96, sX10_count_97, sX10_count_100, sX10_count_103, sX10_count_104, sX10_count_105, sX10_count_108, sX10_count_111, sX10_count_112, sX10_count_113, sX10_count_116, sX10_count_119, sX10_count_120, sX10_count_121, sX10_count_124, sX10_count_127, sX10_count_128, sX10_count_131, sX10_count_134, sX10_count_137, sX10_count_138, sX10_count_139, sX10_count_140, sX10_count_143, sX10_count_144, sX10_count_145, sX10_count_148, sX10_count_151, sX10_count_152, sX10_count_153, sX10_count_156, sX10_count_159, sX10_count_160, sX10_count_161, sX10_count_164, sX10_count_167, sX10_count_168, sX10_count_171, kI_i, kL_l, kV_v, am_rv_s, am_kl_i, am_kl_r, am_kl_n, am_kl_l, true_and, and_true, and_self, true_or, or_true, implies_true, forall_const, not_true_eq_false, not_false_eq_true, false_implies, true_implies, if_true, if_false, Bool.true_eq_false, Bool.false_eq_true, ob_0, ob_1, ob_3, ob_4, ob_30, ob_392, ob_435, r_0_0, r_0_1, r_0_5, r_0_6, r_0_14, r_3_0, h3, h4, h5, g43, k2, k3, k4, k5, k8, k9, k11, io, ll, co, bz_t, i01, t, n0, n1, n2, n3, n4, n5, n6, n7, n8, n10, n11, sw0_11]
                      · skip
                        by_cases c10 : v = 10
                        · have t := eq_true c10
                          have n0 := vne (b := 0) c10 (by decide)
                          have n1 := vne (b := 1) c10 (by decide)
                          have n2 := vne (b := 2) c10 (by decide)
                          have n3 := vne (b := 3) c10 (by decide)
                          have n4 := vne (b := 4) c10 (by decide)
                          have n5 := vne (b := 5) c10 (by decide)
                          have n6 := vne (b := 6) c10 (by decide)
                          have n7 := vne (b := 7) c10 (by decide)
                          have n8 := vne (b := 8) c10 (by decide)
                          have n9 := vne (b := 9) c10 (by decide)
                          have n11 := vne (b := 11) c10 (by decide)
                          simp (disch := (first | assumption | omega | decide)) only [sX10_count_0, sX10_count_1, sX10_count_64, sX10_count_65, sX10_count_68, sX10_count_71, sX10_count_72, sX10_count_73, sX10_count_76, sX10_count_79, sX10_count_82, sX10_count_83, sX10_count_84, sX10_count_87, sX10_count_90, sX10_count_91, sX10_count_92, sX10_count_95, sX10_count_96, sX10_count_97, sX10_count_100, sX10_count_103, sX10_count_104, sX10_count_105, sX10_count_108, sX10_count_111, sX10_count_112, sX10_count_113, sX10_count_116, sX10_count_119, sX10_count_120, sX10_count_121, sX10_count_124, sX10_count_127, sX10_count_128, sX10_count_131, sX10_count_134, sX10_count_137, sX10_count_138, sX10_count_139, sX10_count_140, sX10_count_143, sX10_count_144, sX10_count_145, sX10_count_148, sX10_count_151, sX10_count_152, sX10_count_153, sX10_count_156, sX10_count_159, sX10_count_160, sX10_count_161, sX10_count_164, sX10_count_167, sX10_count_168, sX10_count_171, kI_i, kL_l, kV_v, am_rv_s, am_kl_i, am_kl_r, am_kl_n, am_kl_l, true_and, and_true, and_self, true_or, or_true, implies_true, forall_const, not_true_eq_false, not_false_eq_true, false_implies, true_implies, if_true, if_false, Bool.true_eq_false, Bool.false_eq_true, ob_0, ob_1, ob_3, ob_4, ob_30, ob_392, ob_435, r_0_0, r_0_1, r_0_5, r_0_6, r_0_14, r_3_0, h3, h4, h5, g43, k2, k3, k4, k5, k8, k9, k11, io, ll, co, bz_t, i01, t, n0, n1, n2, n3, n4, n5, n6, n7, n8, n9, n11, sw0_11]
                        · skip
                          by_cases c11 : v = 11
                          · have t := eq_true c11
                            have n0 := vne (b := 0) c11 (by decide)
                            have n1 := vne (b := 1) c11 (by decide)
                            have n2 := vne (b := 2) c11 (by decide)
                            have n3 := vne (b := 3) c11 (by decide)
                            have n4 := vne (b := 4) c11 (by decide)
                            have n5 := vne (b := 5) c11 (by decide)
                            have n6 := vne (b := 6) c11 (by decide)
                            have n7 := vne (b := 7) c11 (by decide)
                            have n8 := vne (b := 8) c11 (by decide)
                            have n9 := vne (b := 9) c11 (by decide)
                            have n10 := vne (b := 10) c11 (by decide)
                            simp (disch := (first | assumption | omega | decide)) only [sX10_count_0, sX10_count_1, sX10_count_64, sX10_count_65, sX10_count_68, sX10_count_71, sX10_count_72, sX10_count_73, sX10_count_76, sX10_count_79, sX10_count_82, sX10_count_83, sX10_count_84, sX10_count_87, sX10_count_90, sX10_count_91, sX10_count_92, sX10_count_95, sX10_count_96, sX10_count_97, sX10_count_100, sX10_count_103, sX10_count_104, sX10_count_105, sX10_count_108, sX10_count_111, sX10_count_112, sX10_count_113, sX10_count_116, sX10_count_119, sX10_count_120, sX10_count_121, sX10_count_124, sX10_count_127, sX10_count_128, sX10_count_131, sX10_count_134, sX10_count_137, sX10_count_138, sX10_count_139, sX10_count_140, sX10_count_143, sX10_count_144, sX10_count_145, sX10_count_148, sX10_count_151, sX10_count_152, sX10_count_153, sX10_count_156, sX10_count_159, sX10_count_160, sX10_count_161, sX10_count_164, sX10_count_167, sX10_count_168, sX10_count_171, kI_i, kL_l, kV_v, am_rv_s, am_kl_i, am_kl_r, am_kl_n, am_kl_l, true_and, and_true, and_self, true_or, or_true, implies_true, forall_const, not_true_eq_false, not_false_eq_true, false_implies, true_implies, if_true, if_false, Bool.true_eq_false, Bool.false_eq_true, ob_0, ob_1, ob_3, ob_4, ob_30, ob_392, ob_435, r_0_0, r_0_1, r_0_5, r_0_6, r_0_14, r_3_0, h3, h4, h5, g43, k2, k3, k4, k5, k8, k9, k11, io, ll, co, bz_t, i01, t, n0, n1, n2, n3, n4, n5, n6, n7, n8, n9, n10, sw0_11]
                          · skip
                            simp (disch := (first | assumption | omega | decide)) only [sX10_count_0, sX10_count_1, sX10_count_64, sX10_count_65, sX10_count_68, sX10_count_71, sX10_count_72, sX10_count_73, sX10_count_76, sX10_count_79, sX10_count_82, sX10_count_83, sX10_count_84, sX10_count_87, sX10_count_90, sX10_count_91, sX10_count_92, sX10_count_95, sX10_count_96, sX10_count_97, sX10_count_100, sX10_count_103, sX10_count_104, sX10_count_105, sX10_count_108, sX10_count_111, sX10_count_112, sX10_count_113, sX10_count_116, sX10_count_119, sX10_count_120, sX10_count_121, sX10_count_124, sX10_count_127, sX10_count_128, sX10_count_131, sX10_count_134, sX10_count_137, sX10_count_138, sX10_count_139, sX10_count_140, sX10_count_143, sX10_count_144, sX10_count_145, sX10_count_148, sX10_count_151, sX10_count_152, sX10_count_153, sX10_count_156, sX10_count_159, sX10_count_160, sX10_count_161, sX10_count_164, sX10_count_167, sX10_count_168, sX10_count_171, kI_i, kL_l, kV_v, am_rv_s, am_kl_i, am_kl_r, am_kl_n, am_kl_l, true_and, and_true, and_self, true_or, or_true, implies_true, forall_const, not_true_eq_false, not_false_eq_true, false_implies, true_implies, if_true, if_false, Bool.true_eq_false, Bool.false_eq_true, ob_0, ob_1, ob_3, ob_4, ob_30, ob_392, ob_435, r_0_0, r_0_1, r_0_5, r_0_6, r_0_14, r_3_0, h3, h4, h5, g43, k2, k3, k4, k5, k8, k9, k11, io, ll, co, bz_t, i01, c0, c1, c2, c3, c4, c5, c6, c7, c8, c9, c10, c11, sw0_11]
  case false =>
    by_cases c0 : v = 0
    · have t := eq_true c0
      have n1 := vne (b := 1) c0 (by decide)
      have n2 := vne (b := 2) c0 (by decide)
      have n3 := vne (b := 3) c0 (by decide)
      have n4 := vne (b := 4) c0 (by decide)
      have n5 := vne (b := 5) c0 (by decide)
      have n6 := vne (b := 6) c0 (by decide)
      have n7 := vne (b := 7) c0 (by decide)
      have n8 := vne (b := 8) c0 (by decide)
      have n9 := vne (b := 9) c0 (by decide)
      have n10 := vne (b := 10) c0 (by decide)
      have n11 := vne (b := 11) c0 (by decide)
      simp (disch := (first | assumption | omega | decide)) only [sX10_count_0, sX10_count_1, sX10_count_64, sX10_count_65, sX10_count_68, sX10_count_71, sX10_count_72, sX10_count_73, sX10_count_76, sX10_count_79, sX10_count_82, sX10_count_83, sX10_count_84, sX10_count_87, sX10_count_90, sX10_count_91, sX10_count_92, sX10_count_95, sX10_count_96, sX10_count_97, sX10_count_100, sX10_count_103, sX10_count_104, sX10_count_105, sX10_count_108, sX10_count_111, sX10_count_112, sX10_count_113, sX10_count_116, sX10_count_119, sX10_count_120, sX10_count_121, sX10_count_124, sX10_count_127, sX10_count_128, sX10_count_131, sX10_count_134, sX10_count_137, sX10_count_138, sX10_count_139, sX10_count_140, sX10_count_143, sX10_count_144, sX10_count_145, sX10_count_148, sX10_count_151, sX10_count_152, sX10_count_153, sX10_count_156, sX10_count_159, sX10_count_160, sX10_count_161, sX10_count_164, sX10_count_167, sX10_count_168, sX10_count_171, kI_i, kL_l, kV_v, am_rv_s, am_kl_i, am_kl_r, am_kl_n, am_kl_l, true_and, and_true, and_self, true_or, or_true, implies_true, forall_const, not_true_eq_false, not_false_eq_true, false_implies, true_implies, if_true, if_false, Bool.true_eq_false, Bool.false_eq_true, ob_0, ob_1, ob_3, ob_4, ob_30, ob_392, ob_435, r_0_0, r_0_1, r_0_5, r_0_6, r_0_14, r_3_0, h3, h4, h5, g43, k2, k3, k4, k5, k8, k9, k11, io, ll, co, bz_f, i01, t, n1, n2, n3, n4, n5, n6, n7, n8, n9, n10, n11, sw0_11]
    · skip
      by_cases c1 : v = 1
      · have t := eq_true c1
        have n0 := vne (b := 0) c1 (by decide)
        have n2 := vne (b := 2) c1 (by decide)
        have n3 := vne (b := 3) c1 (by decide)
        have n4 := vne (b := 4) c1 (by decide)
        have n5 := vne (b := 5) c1 (by decide)
        have n6 := vne (b := 6) c1 (by decide)
        have n7 := vne (b := 7) c1 (by decide)
        have n8 := vne (b := 8) c1 (by decide)
        have n9 := vne (b := 9) c1 (by decide)
        have n10 := vne (b := 10) c1 (by decide)
        have n11 := vne (b := 11) c1 (by decide)
        simp (disch := (first | assumption | omega | decide)) only [sX10_count_0, sX10_count_1, sX10_count_64, sX10_count_65, sX10_count_68, sX10_count_71, sX10_count_72, sX10_count_73, sX10_count_76, sX10_count_79, sX10_count_82, sX10_count_83, sX10_count_84, sX10_count_87, sX10_count_90, sX10_count_91, sX10_count_92, sX10_count_95, sX10_count_96, sX10_count_97, sX10_count_100, sX10_count_103, sX10_count_104, sX10_count_105, sX10_count_108, sX10_count_111, sX10_count_112, sX10_count_113, sX10_count_116, sX10_count_119, sX10_count_120, sX10_count_121, sX10_count_124, sX10_count_127, sX10_count_128, sX10_count_131, sX10_count_134, sX10_count_137, sX10_count_138, sX10_count_139, sX10_count_140, sX10_count_143, sX10_count_144, sX10_count_145, sX10_count_148, sX10_count_151, sX10_count_152, sX10_count_153, sX10_count_156, sX10_count_159, sX10_count_160, sX10_count_161, sX10_count_164, sX10_count_167, sX10_count_168, sX10_count_171, kI_i, kL_l, kV_v, am_rv_s, am_kl_i, am_kl_r, am_kl_n, am_kl_l, true_and, and_true, and_self, true_or, or_true, implies_true, forall_const, not_true_eq_false, not_false_eq_true, false_implies, true_implies, if_true, if_false, Bool.true_eq_false, Bool.false_eq_true, ob_0, ob_1, ob_3, ob_4, ob_30, ob_392, ob_435, r_0_0, r_0_1, r_0_5, r_0_6, r_0_14, r_3_0, h3, h4, h5, g43, k2, k3, k4, k5, k8, k9, k11, io, ll, co, bz_f, i01, t, n0, n2, n3, n4, n5, n6, n7, n8, n9, n10, n11, sw0_11]
      · skip
        by_cases c2 : v = 2
        · have t := eq_true c2
          have n0 := vne (b := 0) c2 (by decide)
          have n1 := vne (b := 1) c2 (by decide)
          have n3 := vne (b := 3) c2 (by decide)
          have n4 := vne (b := 4) c2 (by decide)
          have n5 := vne (b := 5) c2 (by decide)
          have n6 := vne (b := 6) c2 (by decide)
          have n7 := vne (b := 7) c2 (by decide)
          have n8 := vne (b := 8) c2 (by decide)
          have n9 := vne (b := 9) c2 (by decide)
          have n10 := vne (b := 10) c2 (by decide)
          have n11 := vne (b := 11) c2 (by decide)
          simp (disch := (first | assumption | omega | decide)) only [sX10_count_0, sX10_count_1, sX10_count_64, sX10_count_65, sX10_count_68, sX10_count_71, sX10_count_72, sX10_count_73, sX10_count_76, sX10_count_79, sX10_count_82, sX10_count_83, sX10_count_84, sX10_count_87, sX10_count_90, sX10_count_91, sX10_count_92, sX10_count_95, sX10_count_96, sX10_count_97, sX10_count_100, sX10_count_103, sX10_count_104, sX10_count_105, sX10_count_108, sX10_count_111, sX10_count_112, sX10_count_113, sX10_count_116, sX10_count_119, sX10_count_120, sX10_count_121, sX10_count_124, sX10_count_127, sX10_count_128, sX10_count_131, sX10_count_134, sX10_count_137, sX10_count_138, sX10_count_139, sX10_count_140, sX10_count_143, sX10_count_144, sX10_count_145, sX10_count_148, sX10_count_151, sX10_count_152, sX10_count_153, sX10_count_156, sX10_count_159, sX10_count_160, sX10_count_161, sX10_count_164, sX10_count_167, sX10_count_168, sX10_count_171, kI_i, kL_l, kV_v, am_rv_s, am_kl_i, am_kl_r, am_kl_n, am_kl_l, true_and, and_true, and_self, true_or, or_true, implies_true, forall_const, not_true_eq_false, not_false_eq_true, false_implies, true_implies, if_true, if_false, Bool.true_eq_false, Bool.false_eq_true, ob_0, ob_1, ob_3, ob_4, ob_30, ob_392, ob_435, r_0_0, r_0_1, r_0_5, r_0_6, r_0_14, r_3_0, h3, h4, h5, g43, k2, k3, k4, k5, k8, k9, k11, io, ll, co, bz_f, i01, t, n0, n1, n3, n4, n5, n6, n7, n8, n9, n10, n11, sw0_11]
        · skip
          by_cases c3 : v = 3
          · have t := eq_true c3
            have n0 := vne (b := 0) c3 (by decide)
            have n1 := vne (b := 1) c3 (by decide)
            have n2 := vne (b := 2) c3 (by decide)
            have n4 := vne (b := 4) c3 (by decide)
            have n5 := vne (b := 5) c3 (by decide)
            have n6 := vne (b := 6) c3 (by decide)
            have n7 := vne (b := 7) c3 (by decide)
            have n8 := vne (b := 8) c3 (by decide)
            have n9 := vne (b := 9) c3 (by decide)
            have n10 := vne (b := 10) c3 (by decide)
            have n11 := vne (b := 11) c3 (by decide)
            simp (disch := (first | assumption | omega | decide)) only [sX10_count_0, sX10_count_1, sX10_count_64, sX10_count_65, sX10_count_68, sX10_count_71, sX10_count_72, sX10_count_73, sX10_count_76, sX10_count_79, sX10_count_82, sX10_count_83, sX10_count_84, sX10_count_87, sX10_count_90, sX10_count_91, sX10_count_92, sX10_count_95, sX10_count_96, sX10_count_97, sX10_count_100, sX10_count_103, sX10_count_104, sX10_count_105, sX10_count_108, sX10_count_111, sX10_count_112, sX10_count_113, sX10_count_116, sX10_count_119, sX10_count_120, sX10_count_121, sX10_count_124, sX10_count_127, sX10_count_128, sX10_count_131, sX10_count_134, sX10_count_137, sX10_count_138, sX10_count_139, sX10_count_140, sX10_count_143, sX10_count_144, sX10_count_145, sX10_count_148, sX10_count_151, sX10_count_152, sX10_count_153, sX10_count_156, sX10_count_159, sX10_count_160, sX10_count_161, sX10_count_164, sX10_count_167, sX10_count_168, sX10_count_171, kI_i, kL_l, kV_v, am_rv_s, am_kl_i, am_kl_r, am_kl_n, am_kl_l, true_and, and_true, and_self, true_or, or_true, implies_true, forall_const, not_true_eq_false, not_false_eq_true, false_implies, true_implies, if_true, if_false, Bool.true_eq_false, Bool.false_eq_true, ob_0, ob_1, ob_3, ob_4, ob_30, ob_392, ob_435, r_0_0, r_0_1, r_0_5, r_0_6, r_0_14, r_3_0, h3, h4, h5, g43, k2, k3, k4, k5, k8, k9, k11, io, ll, co, bz_f, i01, t, n0, n1, n2, n4, n5, n6, n7, n8, n9, n10, n11, sw0_11]
          · skip
            by_cases c4 : v = 4
            · have t := eq_true c4
              have n0 := vne (b := 0) c4 (by decide)
              have n1 := vne (b := 1) c4 (by decide)
              have n2 := vne (b := 2) c4 (by decide)
              have n3 := vne (b := 3) c4 (by decide)
              have n5 := vne (b := 5) c4 (by decide)
              have n6 := vne (b := 6) c4 (by decide)
              have n7 := vne (b := 7) c4 (by decide)
              have n8 := vne (b := 8) c4 (by decide)
              have n9 := vne (b := 9) c4 (by decide)
              have n10 := vne (b := 10) c4 (by decide)
              have n11 := vne (b := 11) c4 (by decide)
              simp (disch := (first | assumption | omega | decide)) only [sX10_count_0, sX10_count_1, sX10_count_64, sX10_count_65, sX10_count_68, sX10_count_71, sX10_count_72, sX10_count_73, sX10_count_76, sX10_count_79, sX10_count_82, sX10_count_83, sX10_count_84, sX10_count_87, sX10_count_90, sX10_count_91, sX10_count_92, sX10_count_95, sX10_count_96, sX10_count_97, sX10_count_100, sX10_count_103, sX10_count_104, sX10_count_105, sX10_count_108, sX10_count_111, sX10_count_112, sX10_count_113, sX10_count_116, sX10_count_119, sX10_count_120, sX10_count_121, sX10_count_124, sX10_count_127, sX10_count_128, sX10_count_131, sX10_count_134, sX10_count_137, sX10_count_138, sX10_count_139, sX10_count_140, sX10_count_143, sX10_count_144, sX10_count_145, sX10_count_148, sX10_count_151, sX10_count_152, sX10_count_153, sX10_count_156, sX10_count_159, sX10_count_160, sX10_count_161, sX10_count_164, sX10_count_167, sX10_count_168, sX10_count_171, kI_i, kL_l, kV_v, am_rv_s, am_kl_i, am_kl_r, am_kl_n, am_kl_l, true_and, and_true, and_self, true_or, or_true, implies_true, forall_const, not_true_eq_false, not_false_eq_true, false_implies, true_implies, if_true, if_false, Bool.true_eq_false, Bool.false_eq_true, ob_0, ob_1, ob_3, ob_4, ob_30, ob_392, ob_435, r_0_0, r_0_1, r_0_5, r_0_6, r_0_14, r_3_0, h3, h4, h5, g43, k2, k3, k4, k5, k8, k9, k11, io, ll, co, bz_f, i01, t, n0, n1, n2, n3, n5, n6, n7, n8, n9, n10, n11, sw0_11]
            · skip
              by_cases c5 : v = 5
              · have t := eq_true c5
                have n0 := vne (b := 0) c5 (by decide)
                have n1 := vne (b := 1) c5 (by decide)
                have n2 := vne (b := 2) c5 (by decide)
                have n3 := vne (b := 3) c5 (by decide)
                have n4 := vne (b := 4) c5 (by decide)
                have n6 := vne (b := 6) c5 (by decide)
                have n7 := vne (b := 7) c5 (by decide)
                have n8 := vne (b := 8) c5 (by decide)
                have n9 := vne (b := 9) c5 (by decide)
                have n10 := vne (b := 10) c5 (by decide)
                have n11 := vne (b := 11) c5 (by decide)
                simp (disch := (first | assumption | omega | decide)) only [sX10_count_0, sX10_count_1, sX10_count_64, sX10_count_65, sX10_count_68, sX10_count_71, sX10_count_72, sX10_count_73, sX10_count_76, sX10_count_79, sX10_count_82, sX10_count_83, sX10_count_84, sX10_count_87, sX10_count_90, sX10_count_91, sX10_count_92, sX10_count_95, sX10_count_96, sX10_count_97, sX10_count_100, sX10_count_103, sX10_count_104, sX10_count_105, sX10_count_108, sX10_count_111, sX10_count_112, sX10_count_113, sX10_count_116, sX10_count_119, sX10_count_120, sX10_count_121, sX10_count_124, sX10_count_127, sX10_count_128, sX10_count_131, sX10_count_134, sX10_count_137, sX10_count_138, sX10_count_139, sX10_count_140, sX10_count_143, sX10_count_144, sX10_count_145, sX10_count_148, sX10_count_151, sX10_count_152, sX10_count_153, sX10_count_156, sX10_count_159, sX10_count_160, sX10_count_161, sX10_count_164, sX10_count_167, sX10_count_168, sX10_count_171, kI_i, kL_l, kV_v, am_rv_s, am_kl_i, am_kl_r, am_kl_n, am_kl_l, true_and, and_true, and_self, true_or, or_true, implies_true, forall_const, not_true_eq_false, not_false_eq_true, false_implies, true_implies, if_true, if_false, Bool.true_eq_false, Bool.false_eq_true, ob_0, ob_1, ob_3, ob_4, ob_30, ob_392, ob_435, r_0_0, r_0_1, r_0_5, r_0_6, r_0_14, r_3_0, h3, h4, h5, g43, k2, k3, k4, k5, k8, k9, k11, io, ll, co, bz_f, i01, t, n0, n1, n2, n3, n4, n6, n7, n8, n9, n10, n11, sw0_11]
              · skip
                by_cases c6 : v = 6
                · have t := eq_true c6
                  have n0 := vne (b := 0) c6 (by decide)
                  have n1 := vne (b := 1) c6 (by decide)
                  have n2 := vne (b := 2) c6 (by decide)
                  have n3 := vne (b := 3) c6 (by decide)
                  have n4 := vne (b := 4) c6 (by decide)
                  have n5 := vne (b := 5) c6 (by decide)
                  have n7 := vne (b := 7) c6 (by decide)
                  have n8 := vne (b := 8) c6 (by decide)
                  have n9 := vne (b := 9) c6 (by decide)
                  have n10 := vne (b := 10) c6 (by decide)
                  have n11 := vne (b := 11) c6 (by decide)
                  simp (disch := (first | assumption | omega | decide)) only [sX10_count_0, sX10_count_1, sX10_count_64, sX10_count_65, sX10_count_68, sX10_count_71, sX10_count_72, sX10_count_73, sX10_count_76, sX10_count_79, sX10_count_82, sX10_count_83, sX10_count_84, sX10_count_87, sX10_count_90, sX10_count_91, sX10_count_92, sX10_count_95, sX10_count_96, sX10_count_97, sX10_count_100, sX10_count_103, sX10_count_104, sX10_count_105, sX10_count_108, sX10_count_111, sX10_count_112, sX10_count_113, sX10_count_116, sX10_count_119, sX10_count_120, sX10_count_121, sX10_count_124, sX10_count_127, sX10_count_128, sX10_count_131, sX10_count_134, sX10_count_137, sX10_count_138, sX10_count_139, sX10_count_140, sX10_count_143, sX10_count_144, sX10_count_145, sX10_count_148, sX10_count_151, sX10_count_152, sX10_count_153, sX10_count_156, sX10_count_159, sX10_count_160, sX10_count_161, sX10_count_164, sX10_count_167, sX10_count_168, sX10_count_171, kI_i, kL_l, kV_v, am_rv_s, am_kl_i, am_kl_r, am_kl_n, am_kl_l, true_and, and_true, and_self, true_or, or_true, implies_true, forall_const, not_true_eq_false, not_false_eq_true, false_implies, true_implies, if_true, if_false, Bool.true_eq_false, Bool.false_eq_true, ob_0, ob_1, ob_3, ob_4, ob_30, ob_392, ob_435, r_0_0, r_0_1, r_0_5, r_0_6, r_0_14, r_3_0, h3, h4, h5, g43, k2, k3, k4, k5, k8, k9, k11, io, ll, co, bz_f, i01, t, n0, n1, n2, n3, n4, n5, n7, n8, n9, n10, n11, sw0_11]
                · skip
                  by_cases c7 : v = 7
                  · have t := eq_true c7
                    have n0 := vne (b := 0) c7 (by decide)
                    have n1 := vne (b := 1) c7 (by decide)
                    have n2 := vne (b := 2) c7 (by decide)
                    have n3 := vne (b := 3) c7 (by decide)
                    have n4 := vne (b := 4) c7 (by decide)
                    have n5 := vne (b := 5) c7 (by decide)
                    have n6 := vne (b := 6) c7 (by decide)
                    have n8 := vne (b := 8) c7 (by decide)
                    have n9 := vne (b := 9) c7 (by decide)
                    have n10 := vne (b := 10) c7 (by decide)
                    have n11 := vne (b := 11) c7 (by decide)
                    simp (disch := (first | assumption | omega | decide)) only [sX10_count_0, sX10_count_1, sX10_count_64, sX10_count_65, sX10_count_68, sX10_count_71, sX10_count_72, sX10_count_73, sX10_count_76, sX10_count_79, sX10_count_82, sX10_count_83, sX10_count_84, sX10_count_87, sX10_count_90, sX10_count_91, sX10_count_92, sX10_count_95, sX10_count_96, sX10_count_97, sX10_count_100, sX10_count_103, sX10_count_104, sX10_count_105, sX10_count_108, sX10_count_111, sX10_count_112, sX10_count_113, sX10_count_116, sX10_count_119, sX10_count_120, sX10_count_121, sX10_count_124, sX10_count_127, sX10_count_128, sX10_count_131, sX10_count_134, sX10_count_137, sX10_count_138, sX10_count_139, sX10_count_140, sX10_count_143, sX10_count_144, sX10_count_145, sX10_count_148, sX10_count_151, sX10_count_152, sX10_count_153, sX10_count_156, sX10_count_159, sX10_count_160, sX10_count_161, sX10_count_164, sX10_count_167, sX10_count_168, sX10_count_171, kI_i, kL_l, kV_v, am_rv_s, am_kl_i, am_kl_r, am_kl_n, am_kl_l, true_and, and_true, and_self, true_or, or_true, implies_true, forall_const, not_true_eq_false, not_false_eq_true, false_implies, true_implies, if_true, if_false, Bool.true_eq_false, Bool.false_eq_true, ob_0, ob_1, ob_3, ob_4, ob_30, ob_392, ob_435, r_0_0, r_0_1, r_0_5, r_0_6, r_0_14, r_3_0, h3, h4, h5, g43, k2, k3, k4, k5, k8, k9, k11, io, ll, co, bz_f, i01, t, n0, n1, n2, n3, n4, n5, n6, n8, n9, n10, n11, sw0_11]
                  · skip
                    by_cases c8 : v = 8
                    · have t := eq_true c8
                      have n0 := vne (b := 0) c8 (by decide)
                      have n1 := vne (b := 1) c8 (by decide)
                      have n2 := vne (b := 2) c8 (by decide)
                      have n3 := vne (b := 3) c8 (by decide)
                      have n4 := vne (b := 4) c8 (by decide)
                      have n5 := vne (b := 5) c8 (by decide)
                      have n6 := vne (b := 6) c8 (by decide)
                      have n7 := vne (b := 7) c8 (by decide)
                      have n9 := vne (b := 9) c8 (by decide)
                      have n10 := vne (b := 10) c8 (by decide)
                      have n11 := vne (b := 11) c8 (by decide)
                      simp (disch := (first | assumption | omega | decide)) only [sX10_count_0, sX10_count_1, sX10_count_64, sX10_count_65, sX10_count_68, sX10_count_71, sX10_count_72, sX10_count_73, sX10_count_76, sX10_count_79, sX10_count_82, sX10_count_83, sX10_count_84, sX10_count_87, sX10_count_90, sX10_count_91, sX10_count_92, sX10_count_95, sX10_count_96, sX10_count_97, sX10_count_100, sX10_count_103, sX10_count_104, sX10_count_105, sX10_count_108, sX10_count_111, sX10_count_112, sX10_count_113, sX10_count_116, sX10_count_119, sX10_count_120, sX10_count_121, sX10_count_124, sX10_count_127, sX10_count_128, sX10_count_131, sX10_count_134, sX10_count_137, sX10_count_138, sX10_count_139, sX10_count_140, sX10_count_143, sX10_count_144, sX10_count_145, sX10_count_148, sX10_count_151, sX10_count_152, sX10_count_153, sX10_count_156, sX10_count_159, sX10_count_160, sX10_count_161, sX10_count_164, sX10_count_167, sX10_count_168, sX10_count_171, kI_i, kL_l, kV_v, am_rv_s, am_kl_i, am_kl_r, am_kl_n, am_kl_l, true_and, and_true, and_self, true_or, or_true, implies_true, forall_const, not_true_eq_false, not_false_eq_true, false_implies, true_implies, if_true, if_false, Bool.true_eq_false, Bool.false_eq_true, ob_0, ob_1, ob_3, ob_4, ob_30, ob_392, ob_435, r_0_0, r_0_1, r_0_5, r_0_6, r_0_14, r_3_0, h3, h4, h5, g43, k2, k3, k4, k5, k8, k9, k11, io, ll, co, bz_f, i01, t, n0, n1, n2, n3, n4, n5, n6, n7, n9, n10, n11, sw0_11]
                    · skip
                      by_cases c9 : v = 9
                      · have t := eq_true c9
                        have n0 := vne (b := 0) c9 (by decide)
                        have n1 := vne (b := 1) c9 (by decide)
                        have n2 := vne (b := 2) c9 (by decide)
                        have n3 := vne (b := 3) c9 (by decide)
                        have n4 := vne (b := 4) c9 (by decide)
                        have n5 := vne (b := 5) c9 (by decide)
                        have n6 := vne (b := 6) c9 (by decide)
                        have n7 := vne (b := 7) c9 (by decide)
                        have n8 := vne (b := 8) c9 (by decide)
                        have n10 := vne (b := 10) c9 (by decide)
                        have n11 := vne (b := 11) c9 (by decide)
                        simp (disch := (first | assumption | omega | decide)) only [sX10_count_0, sX10_count_1, sX10_count_64, sX10_count_65, sX10_count_68, sX10_count_71, sX10_count_72, sX10_count_73, sX10_count_76, sX10_count_79, sX10_count_82, sX10_count_83, sX10_count_84, sX10_count_87, sX10_count_90, sX10_count_91, sX10_count_92, sX10_count_95, sX10_count_96, sX10_count_97, sX10_count_100, sX10_count_103, sX10_count_104, sX10_count_105, sX10_count_108, sX10_count_111, sX10_count_112, sX10_count_113, sX10_count_116, sX10_count_119, sX10_count_120, sX10_count_121, sX10_count_124, sX10_count_127, sX10_count_128, sX10_count_131, sX10_count_134, sX10_count_137, sX10_count_138, sX10_count_139, sX10_count_140, sX10_count_143, sX10_count_144, sX10_count_145, sX10_count_148, sX10_count_151, sX10_count_152, sX10_count_153, sX10_count_156, sX10_count_159, sX10_count_160, sX10_count_161, sX10_count_164, sX10_count_167, sX10_count_168, sX10_count_171, kI_i, kL_l, kV_v, am_rv_s, am_kl_i, am_kl_r, am_kl_n, am_kl_l, true_and, and_true, and_self, true_or, or_true, implies_true, forall_const, not_true_eq_false, not_false_eq_true, false_implies, true_implies, if_true, if_false, Bool.true_eq_false, Bool.false_eq_true, ob_0, ob_1, ob_3, ob_4, ob_30, ob_392, ob_435, r_0_0, r_0_1, r_0_5, r_0_6, r_0_14, r_3_0, h3, h4, h5, g43, k2, k3, k4, k5, k8, k9, k11, io, ll, co, bz_f, i01, t, n0, n1, n2, n3, n4, n5, n6, n7, n8, n10, n11, sw0_11]
                      · skip
                        by_cases c10 : v = 10
                        · have t := eq_true c10
                          have n0 := vne (b := 0) c10 (by decide)
                          have n1 := vne (b := 1) c10 (by decide)
                          have n2 := vne (b := 2) c10 (by decide)
                          have n3 := vne (b := 3) c10 (by decide)
                          have n4 := vne (b := 4) c10 (by decide)
                          have n5 := vne (b := 5) c10 (by decide)
                          have n6 := vne (b := 6) c10 (by decide)
                          have n7 := vne (b := 7) c10 (by decide)
                          have n8 := vne (b := 8) c10 (by decide)
                          have n9 := vne (b := 9) c10 (by decide)
                          have n11 := vne (b := 11) c10 (by decide)
                          simp (disch := (first | assumption | omega | decide)) only [sX10_count_0, sX10_count_1, sX10_count_64, sX10_count_65, sX10_count_68, sX10_count_71, sX10_count_72, sX10_count_73, sX10_count_76, sX10_count_79, sX10_count_82, sX10_count_83, sX10_count_84, sX10_count_87, sX10_count_90, sX10_count_91, sX10_count_92, sX10_count_95, sX10_count_96, sX10_count_97, sX10_count_100, sX10_count_103, sX10_count_104, sX10_count_105, sX10_count_108, sX10_count_111, sX10_count_112, sX10_count_113, sX10_count_116, sX10_count_119, sX10_count_120, sX10_count_121, sX10_count_124, sX10_count_127, sX10_count_128, sX10_count_131, sX10_count_134, sX10_count_137, sX10_count_138, sX10_count_139, sX10_count_140, sX10_count_143, sX10_count_144, sX10_count_145, sX10_count_148, sX10_count_151, sX10_count_152, sX10_count_153, sX10_count_156, sX10_count_159, sX10_count_160, sX10_count_161, sX10_count_164, sX10_count_167, sX10_count_168, sX10_count_171, kI_i, kL_l, kV_v, am_rv_s, am_kl_i, am_kl_r, am_kl_n, am_kl_l, true_and, and_true, and_self, true_or, or_true, implies_true, forall_const, not_true_eq_false, not_false_eq_true, false_implies, true_implies, if_true, if_false, Bool.true_eq_false, Bool.false_eq_true, ob_0, ob_1, ob_3, ob_4, ob_30, ob_392, ob_435, r_0_0, r_0_1, r_0_5, r_0_6, r_0_14, r_3_0, h3, h4, h5, g43, k2, k3, k4, k5, k8, k9, k11, io, ll, co, bz_f, i01, t, n0, n1, n2, n3, n4, n5, n6, n7, n8, n9, n11, sw0_11]
                        · skip
                          by_cases c11 : v = 11
                          · have t := eq_true c11
                            have n0 := vne (b := 0) c11 (by decide)
                            have n1 := vne (b := 1) c11 (by decide)
                            have n2 := vne (b := 2) c11 (by decide)
                            have n3 := vne (b := 3) c11 (by decide)
                            have n4 := vne (b := 4) c11 (by decide)
                            have n5 := vne (b := 5) c11 (by decide)
                            have n6 := vne (b := 6) c11 (by decide)
                            have n7 := vne (b := 7) c11 (by decide)
                            have n8 := vne (b := 8) c11 (by decide)
                            have n9 := vne (b := 9) c11 (by decide)
                            have n10 := vne (b := 10) c11 (by decide)
                            simp (disch := (first | assumption | omega | decide)) only [sX10_count_0, sX10_count_1, sX10_count_64, sX10_count_65, sX10_count_68, sX10_count_71, sX10_count_72, sX10_count_73, sX10_count_76, sX10_count_79, sX10_count_82, sX10_count_83, sX10_count_84, sX10_count_87, sX10_count_90, sX10_count_91, sX10_count_92, sX10_count_95, sX10_count_96, sX10_count_97, sX10_count_100, sX10_count_103, sX10_count_104, sX10_count_105, sX10_count_108, sX10_count_111, sX10_count_112, sX10_count_113, sX10_count_116, sX10_count_119, sX10_count_120, sX10_count_121, sX10_count_124, sX10_count_127, sX10_count_128, sX10_count_131, sX10_count_134, sX10_count_137, sX10_count_138, sX10_count_139, sX10_count_140, sX10_count_143, sX10_count_144, sX10_count_145, sX10_count_148, sX10_count_151, sX10_count_152, sX10_count_153, sX10_count_156, sX10_count_159, sX10_count_160, sX10_count_161, sX10_count_164, sX10_count_167, sX10_count_168, sX10_count_171, kI_i, kL_l, kV_v, am_rv_s, am_kl_i, am_kl_r, am_kl_n, am_kl_l, true_and, and_true, and_self, true_or, or_true, implies_true, forall_const, not_true_eq_false, not_false_eq_true, false_implies, true_implies, if_true, if_false, Bool.true_eq_false, Bool.false_eq_true, ob_0, ob_1, ob_3, ob_4, ob_30, ob_392, ob_435, r_0_0, r_0_1, r_0_5, r_0_6, r_0_14, r_3_0, h3, h4, h5, g43, k2, k3, k4, k5, k8, k9, k11, io, ll, co, bz_f, i01, t, n0, n1, n2, n3, n4, n5, n6, n7, n8, n9, n10, sw0_11]
                          · skip
                            simp (disch := (first | assumption | omega | decide)) only [sX10_count_0, sX10_count_1, sX10_count_64, sX10_count_65, sX10_count_68, sX10_count_71, sX10_count_72, sX10_count_73, sX10_count_76, sX10_count_79, sX10_count_82, sX10_count_83, sX10_count_84, sX10_count_87, sX10_count_90, sX10_count_91, sX10_count_92, sX10_count_95, sX10_count_96, sX10_count_97, sX10_count_100, sX10_count_103, sX10_count_104, sX10_count_105, sX10_count_108, sX10_count_111, sX10_count_112, sX10_count_113, sX10_count_116, sX10_count_119, sX10_count_120, sX10_count_121, sX10_count_124, sX10_count_127, sX10_count_128, sX10_count_131, sX10_count_134, sX10_count_137, sX10_count_138, sX10_count_139, sX10_count_140, sX10_count_143, sX10_count_144, sX10_count_145, sX10_count_148, sX10_count_151, sX10_count_152, sX10_count_153, sX10_count_156, sX10_count_159, sX10_count_160, sX10_count_161, sX10_count_164, sX10_count_167, sX10_count_168, sX10_count_171, kI_i, kL_l, kV_v, am_rv_s, am_kl_i, am_kl_r, am_kl_n, am_kl_l, true_and, and_true, and_self, true_or, or_true, implies_true, forall_const, not_true_eq_false, not_false_eq_true, false_implies, true_implies, if_true, if_false, Bool.true_eq_false, Bool.false_eq_true, ob_0, ob_1, ob_3, ob_4, ob_30, ob_392, ob_435, r_0_0, r_0_1, r_0_5, r_0_6, r_0_14, r_3_0, h3, h4, h5, g43, k2, k3, k4, k5, k8, k9, k11, io, ll, co, bz_f, i01, c0, c1, c2, c3, c4, c5, c6, c7, c8, c9, c10, c11, sw0_11]
theorem m_count {v a2 a3 a4 a5 a8 : Int32} {nL nP : Nat} (h : RS M ap lim S P) (k2 : gI M 457 7 = a2) (k3 : gI M 457 25 = a3) (k4 : gI M 457 6 = a4) (k5 : gI M 457 29 = a5) (k8 : gI M 457 30 = a8) (k9 : gI M 457 52 = nI nL) (k11 : gI M 457 41 = nI nP) : am_big (d + 2) mX11_count [.ref 457, .int v] 488 M Q = Q (some (.int (countA ap lim S a2 a3 a4 a5 a8 nL nP v))) (sI M 457 0 0) := by
  have hap := h.2.1.2.2.2.2.1.2.2
  obtain ⟨hW, hS, hP, hf, hm, hw, hlim, ht⟩ := RS_th h
  have k2 : gI (sI M 457 0 0) 457 7 = a2 := by rw [gI_j (by omega)]; exact k2
  have k3 : gI (sI M 457 0 0) 457 25 = a3 := by rw [gI_j (by omega)]; exact k3
  have k4 : gI (sI M 457 0 0) 457 6 = a4 := by rw [gI_j (by omega)]; exact k4
  have k5 : gI (sI M 457 0 0) 457 29 = a5 := by rw [gI_j (by omega)]; exact k5
  have k8 : gI (sI M 457 0 0) 457 30 = a8 := by rw [gI_j (by omega)]; exact k8
  have k9 : gI (sI M 457 0 0) 457 52 = nI nL := by rw [gI_j (by omega)]; exact k9
  have k11 : gI (sI M 457 0 0) 457 41 = nI nP := by rw [gI_j (by omega)]; exact k11
  generalize hM0 : sI M 457 0 0 = M0 at *
  obtain ⟨h1, h2, h3, h4, h5, h8, h9, h10, h11⟩ := hS
  simp only [Nat.zero_add] at h2 h8 h9
  have ez : (nI ap = 0) = (opn ap = false) := by
    rw [show (0 : Int32) = nI 0 from rfl, nI_eqE (by omega) (by omega)]; unfold opn; simp
  rw [eX11_count]
  unfold countA
  cases co : opn ap
  case true =>
    by_cases c0 : v = 0
    · have t := eq_true c0
      have n1 := vne (b := 1) c0 (by decide)
      have n2 := vne (b := 2) c0 (by decide)
      have n3 := vne (b := 3) c0 (by decide)
      have n4 := vne (b := 4) c0 (by decide)
      have n5 := vne (b := 5) c0 (by decide)
      have n6 := vne (b := 6) c0 (by decide)
      have n7 := vne (b := 7) c0 (by decide)
      have n8 := vne (b := 8) c0 (by decide)
      have n9 := vne (b := 9) c0 (by decide)
      have n10 := vne (b := 10) c0 (by decide)
      have n11 := vne (b := 11) c0 (by decide)
      simp (disch := (first | assumption | omega | decide)) only [sX11_count_0, sX11_count_1, sX11_count_2, sX11_count_5, sX11_count_6, sX11_count_68, sX11_count_69, sX11_count_72, sX11_count_73, sX11_count_74, sX11_count_77, sX11_count_79, sX11_count_80, sX11_count_81, sX11_count_82, sX11_count_85, sX11_count_86, sX11_count_87, sX11_count_90, sX11_count_91, sX11_count_92, sX11_count_95, sX11_count_96, sX11_count_97, sX11_count_100, sX11_count_101, sX11_count_102, sX11_count_105, sX11_count_107, sX11_count_108, sX11_count_109, sX11_count_110, sX11_count_113, sX11_count_116, sX11_count_117, sX11_count_120, sX11_count_121, sX11_count_124, sX11_count_125, sX11_count_126, sX11_count_129, sX11_count_130, sX11_count_131, sX11_count_134, sX11_count_135, sX11_count_136, sX11_count_139, sX11_count_141, sX11_count_142, sX11_count_143, sX11_count_144, sX11_count_147, sX11_count_148, sX11_count_151, kI_i, kL_l, kV_v, am_rv_s, am_kl_i, am_kl_r, am_kl_n, am_kl_l, true_and, and_true, and_self, true_or, or_true, implies_true, forall_const, not_true_eq_false, not_false_eq_true, false_implies, true_implies, if_true, if_false, Bool.true_eq_false, Bool.false_eq_true, ob_457, hM0, r_457_27, n36, n42, n43, in_465, nI_clamp, hf, hm, h2, h8, h9, k2, k3, k4, k5, k8, k9, k11, ez, co, i01, t, n1, n2, n3, n4, n5, n6, n7, n8, n9, n10, n11, sw0_11]
    · skip
      by_cases c1 : v = 1
      · have t := eq_true c1
        have n0 := vne (b := 0) c1 (by decide)
        have n2 := vne (b := 2) c1 (by decide)
        have n3 := vne (b := 3) c1 (by decide)
        have n4 := vne (b := 4) c1 (by decide)
        have n5 := vne (b := 5) c1 (by decide)
        have n6 := vne (b := 6) c1 (by decide)
        have n7 := vne (b := 7) c1 (by decide)
        have n8 := vne (b := 8) c1 (by decide)
        have n9 := vne (b := 9) c1 (by decide)
        have n10 := vne (b := 10) c1 (by decide)
        have n11 := vne (b := 11) c1 (by decide)
        simp (disch := (first | assumption | omega | decide)) only [sX11_count_0, sX11_count_1, sX11_count_2, sX11_count_5, sX11_count_6, sX11_count_68, sX11_count_69, sX11_count_72, sX11_count_73, sX11_count_74, sX11_count_77, sX11_count_79, sX11_count_80, sX11_count_81, sX11_count_82, sX11_count_85, sX11_count_86, sX11_count_87, sX11_count_90, sX11_count_91, sX11_count_92, sX11_count_95, sX11_count_96, sX11_count_97, sX11_count_100, sX11_count_101, sX11_count_102, sX11_count_105, sX11_count_107, sX11_count_108, sX11_count_109, sX11_count_110, sX11_count_113, sX11_count_116, sX11_count_117, sX11_count_120, sX11_count_121, sX11_count_124, sX11_count_125, sX11_count_126, sX11_count_129, sX11_count_130, sX11_count_131, sX11_count_134, sX11_count_135, sX11_count_136, sX11_count_139, sX11_count_141, sX11_count_142, sX11_count_143, sX11_count_144, sX11_count_147, sX11_count_148, sX11_count_151, kI_i, kL_l, kV_v, am_rv_s, am_kl_i, am_kl_r, am_kl_n, am_kl_l, true_and, and_true, and_self, true_or, or_true, implies_true, forall_const, not_true_eq_false, not_false_eq_true, false_implies, true_implies, if_true, if_false, Bool.true_eq_false, Bool.false_eq_true, ob_457, hM0, r_457_27, n36, n42, n43, in_465, nI_clamp, hf, hm, h2, h8, h9, k2, k3, k4, k5, k8, k9, k11, ez, co, i01, t, n0, n2, n3, n4, n5, n6, n7, n8, n9, n10, n11, sw0_11]
      · skip
        by_cases c2 : v = 2
        · have t := eq_true c2
          have n0 := vne (b := 0) c2 (by decide)
          have n1 := vne (b := 1) c2 (by decide)
          have n3 := vne (b := 3) c2 (by decide)
          have n4 := vne (b := 4) c2 (by decide)
          have n5 := vne (b := 5) c2 (by decide)
          have n6 := vne (b := 6) c2 (by decide)
          have n7 := vne (b := 7) c2 (by decide)
          have n8 := vne (b := 8) c2 (by decide)
          have n9 := vne (b := 9) c2 (by decide)
          have n10 := vne (b := 10) c2 (by decide)
          have n11 := vne (b := 11) c2 (by decide)
          simp (disch := (first | assumption | omega | decide)) only [sX11_count_0, sX11_count_1, sX11_count_2, sX11_count_5, sX11_count_6, sX11_count_68, sX11_count_69, sX11_count_72, sX11_count_73, sX11_count_74, sX11_count_77, sX11_count_79, sX11_count_80, sX11_count_81, sX11_count_82, sX11_count_85, sX11_count_86, sX11_count_87, sX11_count_90, sX11_count_91, sX11_count_92, sX11_count_95, sX11_count_96, sX11_count_97, sX11_count_100, sX11_count_101, sX11_count_102, sX11_count_105, sX11_count_107, sX11_count_108, sX11_count_109, sX11_count_110, sX11_count_113, sX11_count_116, sX11_count_117, sX11_count_120, sX11_count_121, sX11_count_124, sX11_count_125, sX11_count_126, sX11_count_129, sX11_count_130, sX11_count_131, sX11_count_134, sX11_count_135, sX11_count_136, sX11_count_139, sX11_count_141, sX11_count_142, sX11_count_143, sX11_count_144, sX11_count_147, sX11_count_148, sX11_count_151, kI_i, kL_l, kV_v, am_rv_s, am_kl_i, am_kl_r, am_kl_n, am_kl_l, true_and, and_true, and_self, true_or, or_true, implies_true, forall_const, not_true_eq_false, not_false_eq_true, false_implies, true_implies, if_true, if_false, Bool.true_eq_false, Bool.false_eq_true, ob_457, hM0, r_457_27, n36, n42, n43, in_465, nI_clamp, hf, hm, h2, h8, h9, k2, k3, k4, k5, k8, k9, k11, ez, co, i01, t, n0, n1, n3, n4, n5, n6, n7, n8, n9, n10, n11, sw0_11]
        · skip
          by_cases c3 : v = 3
          · have t := eq_true c3
            have n0 := vne (b := 0) c3 (by decide)
            have n1 := vne (b := 1) c3 (by decide)
            have n2 := vne (b := 2) c3 (by decide)
            have n4 := vne (b := 4) c3 (by decide)
            have n5 := vne (b := 5) c3 (by decide)
            have n6 := vne (b := 6) c3 (by decide)
            have n7 := vne (b := 7) c3 (by decide)
            have n8 := vne (b := 8) c3 (by decide)
            have n9 := vne (b := 9) c3 (by decide)
            have n10 := vne (b := 10) c3 (by decide)
            have n11 := vne (b := 11) c3 (by decide)
            simp (disch := (first | assumption | omega | decide)) only [sX11_count_0, sX11_count_1, sX11_count_2, sX11_count_5, sX11_count_6, sX11_count_68, sX11_count_69, sX11_count_72, sX11_count_73, sX11_count_74, sX11_count_77, sX11_count_79, sX11_count_80, sX11_count_81, sX11_count_82, sX11_count_85, sX11_count_86, sX11_count_87, sX11_count_90, sX11_count_91, sX11_count_92, sX11_count_95, sX11_count_96, sX11_count_97, sX11_count_100, sX11_count_101, sX11_count_102, sX11_count_105, sX11_count_107, sX11_count_108, sX11_count_109, sX11_count_110, sX11_count_113, sX11_count_116, sX11_count_117, sX11_count_120, sX11_count_121, sX11_count_124, sX11_count_125, sX11_count_126, sX11_count_129, sX11_count_130, sX11_count_131, sX11_count_134, sX11_count_135, sX11_count_136, sX11_count_139, sX11_count_141, sX11_count_142, sX11_count_143, sX11_count_144, sX11_count_147, sX11_count_148, sX11_count_151, kI_i, kL_l, kV_v, am_rv_s, am_kl_i, am_kl_r, am_kl_n, am_kl_l, true_and, and_true, and_self, true_or, or_true, implies_true, forall_const, not_true_eq_false, not_false_eq_true, false_implies, true_implies, if_true, if_false, Bool.true_eq_false, Bool.false_eq_true, ob_457, hM0, r_457_27, n36, n42, n43, in_465, nI_clamp, hf, hm, h2, h8, h9, k2, k3, k4, k5, k8, k9, k11, ez, co, i01, t, n0, n1, n2, n4, n5, n6, n7, n8, n9, n10, n11, sw0_11]
          · skip
            by_cases c4 : v = 4
            · have t := eq_true c4
              have n0 := vne (b := 0) c4 (by decide)
              have n1 := vne (b := 1) c4 (by decide)
              have n2 := vne (b := 2) c4 (by decide)
              have n3 := vne (b := 3) c4 (by decide)
              have n5 := vne (b := 5) c4 (by decide)
              have n6 := vne (b := 6) c4 (by decide)
              have n7 := vne (b := 7) c4 (by decide)
              have n8 := vne (b := 8) c4 (by decide)
              have n9 := vne (b := 9) c4 (by decide)
              have n10 := vne (b := 10) c4 (by decide)
              have n11 := vne (b := 11) c4 (by decide)
              simp (disch := (first | assumption | omega | decide)) only [sX11_count_0, sX11_count_1, sX11_count_2, sX11_count_5, sX11_count_6, sX11_count_68, sX11_count_69, sX11_count_72, sX11_count_73, sX11_count_74, sX11_count_77, sX11_count_79, sX11_count_80, sX11_count_81, sX11_count_82, sX11_count_85, sX11_count_86, sX11_count_87, sX11_count_90, sX11_count_91, sX11_count_92, sX11_count_95, sX11_count_96, sX11_count_97, sX11_count_100, sX11_count_101, sX11_count_102, sX11_count_105, sX11_count_107, sX11_count_108, sX11_count_109, sX11_count_110, sX11_count_113, sX11_count_116, sX11_count_117, sX11_count_120, sX11_count_121, sX11_count_124, sX11_count_125, sX11_count_126, sX11_count_129, sX11_count_130, sX11_count_131, sX11_count_134, sX11_count_135, sX11_count_136, sX11_count_139, sX11_count_141, sX11_count_142, sX11_count_143, sX11_count_144, sX11_count_147, sX11_count_148, sX11_count_151, kI_i, kL_l, kV_v, am_rv_s, am_kl_i, am_kl_r, am_kl_n, am_kl_l, true_and, and_true, and_self, true_or, or_true, implies_true, forall_const, not_true_eq_false, not_false_eq_true, false_implies, true_implies, if_true, if_false, Bool.true_eq_false, Bool.false_eq_true, ob_457, hM0, r_457_27, n36, n42, n43, in_465, nI_clamp, hf, hm, h2, h8, h9, k2, k3, k4, k5, k8, k9, k11, ez, co, i01, t, n0, n1, n2, n3, n5, n6, n7, n8, n9, n10, n11, sw0_11]
            · skip
              by_cases c5 : v = 5
              · have t := eq_true c5
                have n0 := vne (b := 0) c5 (by decide)
                have n1 := vne (b := 1) c5 (by decide)
                have n2 := vne (b := 2) c5 (by decide)
                have n3 := vne (b := 3) c5 (by decide)
                have n4 := vne (b := 4) c5 (by decide)
                have n6 := vne (b := 6) c5 (by decide)
                have n7 := vne (b := 7) c5 (by decide)
                have n8 := vne (b := 8) c5 (by decide)
                have n9 := vne (b := 9) c5 (by decide)
                have n10 := vne (b := 10) c5 (by decide)
                have n11 := vne (b := 11) c5 (by decide)
                simp (disch := (first | assumption | omega | decide)) only [sX11_count_0, sX11_count_1, sX11_count_2, sX11_count_5, sX11_count_6, sX11_count_68, sX11_count_69, sX11_count_72, sX11_count_73, sX11_count_74, sX11_count_77, sX11_count_79, sX11_count_80, sX11_count_81, sX11_count_82, sX11_count_85, sX11_count_86, sX11_count_87, sX11_count_90, sX11_count_91, sX11_count_92, sX11_count_95, sX11_count_96, sX11_count_97, sX11_count_100, sX11_count_101, sX11_count_102, sX11_count_105, sX11_count_107, sX11_count_108, sX11_count_109, sX11_count_110, sX11_count_113, sX11_count_116, sX11_count_117, sX11_count_120, sX11_count_121, sX11_count_124, sX11_count_125, sX11_count_126, sX11_count_129, sX11_count_130, sX11_count_131, sX11_count_134, sX11_count_135, sX11_count_136, sX11_count_139, sX11_count_141, sX11_count_142, sX11_count_143, sX11_count_144, sX11_count_147, sX11_count_148, sX11_count_151, kI_i, kL_l, kV_v, am_rv_s, am_kl_i, am_kl_r, am_kl_n, am_kl_l, true_and, and_true, and_self, true_or, or_true, implies_true, forall_const, not_true_eq_false, not_false_eq_true, false_implies, true_implies, if_true, if_false, Bool.true_eq_false, Bool.false_eq_true, ob_457, hM0, r_457_27, n36, n42, n43, in_465, nI_clamp, hf, hm, h2, h8, h9, k2, k3, k4, k5, k8, k9, k11, ez, co, i01, t, n0, n1, n2, n3, n4, n6, n7, n8, n9, n10, n11, sw0_11]
              · skip
                by_cases c6 : v = 6
                · have t := eq_true c6
                  have n0 := vne (b := 0) c6 (by decide)
                  have n1 := vne (b := 1) c6 (by decide)
                  have n2 := vne (b := 2) c6 (by decide)
                  have n3 := vne (b := 3) c6 (by decide)
                  have n4 := vne (b := 4) c6 (by decide)
                  have n5 := vne (b := 5) c6 (by decide)
                  have n7 := vne (b := 7) c6 (by decide)
                  have n8 := vne (b := 8) c6 (by decide)
                  have n9 := vne (b := 9) c6 (by decide)
                  have n10 := vne (b := 10) c6 (by decide)
                  have n11 := vne (b := 11) c6 (by decide)
                  simp (disch := (first | assumption | omega | decide)) only [sX11_count_0, sX11_count_1, sX11_count_2, sX11_count_5, sX11_count_6, sX11_count_68, sX11_count_69, sX11_count_72, sX11_count_73, sX11_count_74, sX11_count_77, sX11_count_79, sX11_count_80, sX11_count_81, sX11_count_82, sX11_count_85, sX11_count_86, sX11_count_87, sX11_count_90, sX11_count_91, sX11_count_92, sX11_count_95, sX11_count_96, sX11_count_97, sX11_count_100, sX11_count_101, sX11_count_102, sX11_count_105, sX11_count_107, sX11_count_108, sX11_count_109, sX11_count_110, sX11_count_113, sX11_count_116, sX11_count_117, sX11_count_120, sX11_count_121, sX11_count_124, sX11_count_125, sX11_count_126, sX11_count_129, sX11_count_130, sX11_count_131, sX11_count_134, sX11_count_135, sX11_count_136, sX11_count_139, sX11_count_141, sX11_count_142, sX11_count_143, sX11_count_144, sX11_count_147, sX11_count_148, sX11_count_151, kI_i, kL_l, kV_v, am_rv_s, am_kl_i, am_kl_r, am_kl_n, am_kl_l, true_and, and_true, and_self, true_or, or_true, implies_true, forall_const, not_true_eq_false, not_false_eq_true, false_implies, true_implies, if_true, if_false, Bool.true_eq_false, Bool.false_eq_true, ob_457, hM0, r_457_27, n36, n42, n43, in_465, nI_clamp, hf, hm, h2, h8, h9, k2, k3, k4, k5, k8, k9, k11, ez, co, i01, t, n0, n1, n2, n3, n4, n5, n7, n8, n9, n10, n11, sw0_11]
                · skip
                  by_cases c7 : v = 7
                  · have t := eq_true c7
                    have n0 := vne (b := 0) c7 (by decide)
                    have n1 := vne (b := 1) c7 (by decide)
                    have n2 := vne (b := 2) c7 (by decide)
                    have n3 := vne (b := 3) c7 (by decide)
                    have n4 := vne (b := 4) c7 (by decide)
                    have n5 := vne (b := 5) c7 (by decide)
                    have n6 := vne (b := 6) c7 (by decide)
                    have n8 := vne (b := 8) c7 (by decide)
                    have n9 := vne (b := 9) c7 (by decide)
                    have n10 := vne (b := 10) c7 (by decide)
                    have n11 := vne (b := 11) c7 (by decide)
                    simp (disch := (first | assumption | omega | decide)) only [sX11_count_0, sX11_count_1, sX11_count_2, sX11_count_5, sX11_count_6, sX11_count_68, sX11_count_69, sX11_count_72, sX11_count_73, sX11_count_74, sX11_count_77, sX11_count_79, sX11_count_80, sX11_count_81, sX11_count_82, sX11_count_85, sX11_count_86, sX11_count_87, sX11_count_90, sX11_count_91, sX11_count_92, sX11_count_95, sX11_count_96, sX11_count_97, sX11_count_100, sX11_count_101, sX11_count_102, sX11_count_105, sX11_count_107, sX11_count_108, sX11_count_109, sX11_count_110, sX11_count_113, sX11_count_116, sX11_count_117, sX11_count_120, sX11_count_121, sX11_count_124, sX11_count_125, sX11_count_126, sX11_count_129, sX11_count_130, sX11_count_131, sX11_count_134, sX11_count_135, sX11_count_136, sX11_count_139, sX11_count_141, sX11_count_142, sX11_count_143, sX11_count_144, sX11_count_147, sX11_count_148, sX11_count_151, kI_i, kL_l, kV_v, am_rv_s, am_kl_i, am_kl_r, am_kl_n, am_kl_l, true_and, and_true, and_self, true_or, or_true, implies_true, forall_const, not_true_eq_false, not_false_eq_true, false_implies, true_implies, if_true, if_false, Bool.true_eq_false, Bool.false_eq_true, ob_457, hM0, r_457_27, n36, n42, n43, in_465, nI_clamp, hf, hm, h2, h8, h9, k2, k3, k4, k5, k8, k9, k11, ez, co, i01, t, n0, n1, n2, n3, n4, n5, n6, n8, n9, n10, n11, sw0_11]
                  · skip
                    by_cases c8 : v = 8
                    · have t := eq_true c8
                      have n0 := vne (b := 0) c8 (by decide)
                      have n1 := vne (b := 1) c8 (by decide)
                      have n2 := vne (b := 2) c8 (by decide)
                      have n3 := vne (b := 3) c8 (by decide)
                      have n4 := vne (b := 4) c8 (by decide)
                      have n5 := vne (b := 5) c8 (by decide)
                      have n6 := vne (b := 6) c8 (by decide)
                      have n7 := vne (b := 7) c8 (by decide)
                      have n9 := vne (b := 9) c8 (by decide)
                      have n10 := vne (b := 10) c8 (by decide)
                      have n11 := vne (b := 11) c8 (by decide)
                      simp (disch := (first | assumption | omega | decide)) only [sX11_count_0, sX11_count_1, sX11_count_2, sX11_count_5, sX11_count_6, sX11_count_68, sX11_count_69, sX11_count_72, sX11_count_73, sX11_count_74, sX11_count_77, sX11_count_79, sX11_count_80, sX11_count_81, sX11_count_82, sX11_count_85, sX11_count_86, sX11_count_87, sX11_count_90, sX11_count_91, sX11_count_92, sX11_count_95, sX11_count_96, sX11_count_97, sX11_count_100, sX11_count_101, sX11_count_102, sX11_count_105, sX11_count_107, sX11_count_108, sX11_count_109, sX11_count_110, sX11_count_113, sX11_count_116, sX11_count_117, sX11_count_120, sX11_count_121, sX11_count_124, sX11_count_125, sX11_count_126, sX11_count_129, sX11_count_130, sX11_count_131, sX11_count_134, sX11_count_135, sX11_count_136, sX11_count_139, sX11_count_141, sX11_count_142, sX11_count_143, sX11_count_144, sX11_count_147, sX11_count_148, sX11_count_151, kI_i, kL_l, kV_v, am_rv_s, am_kl_i, am_kl_r, am_kl_n, am_kl_l, true_and, and_true, and_self, true_or, or_true, implies_true, forall_const, not_true_eq_false, not_false_eq_true, false_implies, true_implies, if_true, if_false, Bool.true_eq_false, Bool.false_eq_true, ob_457, hM0, r_457_27, n36, n42, n43, in_465, nI_clamp, hf, hm, h2, h8, h9, k2, k3, k4, k5, k8, k9, k11, ez, co, i01, t, n0, n1, n2, n3, n4, n5, n6, n7, n9, n10, n11, sw0_11]
                    · skip
                      by_cases c9 : v = 9
                      · have t := eq_true c9
                        have n0 := vne (b := 0) c9 (by decide)
                        have n1 := vne (b := 1) c9 (by decide)
                        have n2 := vne (b := 2) c9 (by decide)
                        have n3 := vne (b := 3) c9 (by decide)
                        have n4 := vne (b := 4) c9 (by decide)
                        have n5 := vne (b := 5) c9 (by decide)
                        have n6 := vne (b := 6) c9 (by decide)
                        have n7 := vne (b := 7) c9 (by decide)
                        have n8 := vne (b := 8) c9 (by decide)
                        have n10 := vne (b := 10) c9 (by decide)
                        have n11 := vne (b := 11) c9 (by decide)
                        simp (disch := (first | assumption | omega | decide)) only [sX11_count_0, sX11_count_1, sX11_count_2, sX11_count_5, sX11_count_6, sX11_count_68, sX11_count_69, sX11_count_72, sX11_count_73, sX11_count_74, sX11_count_77, sX11_count_79, sX11_count_80, sX11_count_81, sX11_count_82, sX11_count_85, sX11_count_86, sX11_count_87, sX11_count_90, sX11_count_91, sX11_count_92, sX11_count_95, sX11_count_96, sX11_count_97, sX11_count_100, sX11_count_101, sX11_count_102, sX11_count_105, sX11_count_107, sX11_count_108, sX11_count_109, sX11_count_110, sX11_count_113, sX11_count_116, sX11_count_117, sX11_count_120, sX11_count_121, sX11_count_124, sX11_count_125, sX11_count_126, sX11_count_129, sX11_count_130, sX11_count_131, sX11_count_134, sX11_count_135, sX11_count_136, sX11_count_139, sX11_count_141, sX11_count_142, sX11_count_143, sX11_count_144, sX11_count_147, sX11_count_148, sX11_count_151, kI_i, kL_l, kV_v, am_rv_s, am_kl_i, am_kl_r, am_kl_n, am_kl_l, true_and, and_true, and_self, true_or, or_true, implies_true, forall_const, not_true_eq_false, not_false_eq_true, false_implies, true_implies, if_true, if_false, Bool.true_eq_false, Bool.false_eq_true, ob_457, hM0, r_457_27, n36, n42, n43, in_465, nI_clamp, hf, hm, h2, h8, h9, k2, k3, k4, k5, k8, k9, k11, ez, co, i01, t, n0, n1, n2, n3, n4, n5, n6, n7, n8, n10, n11, sw0_11]
                      · skip
                        by_cases c10 : v = 10
                        · have t := eq_true c10
                          have n0 := vne (b := 0) c10 (by decide)
                          have n1 := vne (b := 1) c10 (by decide)
                          have n2 := vne (b := 2) c10 (by decide)
                          have n3 := vne (b := 3) c10 (by decide)
                          have n4 := vne (b := 4) c10 (by decide)
                          have n5 := vne (b := 5) c10 (by decide)
                          have n6 := vne (b := 6) c10 (by decide)
                          have n7 := vne (b := 7) c10 (by decide)
                          have n8 := vne (b := 8) c10 (by decide)
                          have n9 := vne (b := 9) c10 (by decide)
                          have n11 := vne (b := 11) c10 (by decide)
                          simp (disch := (first | assumption | omega | decide)) only [sX11_count_0, sX11_count_1, sX11_count_2, sX11_count_5, sX11_count_6, sX11_count_68, sX11_count_69, sX11_count_72, sX11_count_73, sX11_count_74, sX11_count_77, sX11_count_79, sX11_count_80, sX11_count_81, sX11_count_82, sX11_count_85, sX11_count_86, sX11_count_87, sX11_count_90, sX11_count_91, sX11_count_92, sX11_count_95, sX11_count_96, sX11_count_97, sX11_count_100, sX11_count_101, sX11_count_102, sX11_count_105, sX11_count_107, sX11_count_108, sX11_count_109, sX11_count_110, sX11_count_113, sX11_count_116, sX11_count_117, sX11_count_120, sX11_count_121, sX11_count_124, sX11_count_125, sX11_count_126, sX11_count_129, sX11_count_130, sX11_count_131, sX11_count_134, sX11_count_135, sX11_count_136, sX11_count_139, sX11_count_141, sX11_count_142, sX11_count_143, sX11_count_144, sX11_count_147, sX11_count_148, sX11_count_151, kI_i, kL_l, kV_v, am_rv_s, am_kl_i, am_kl_r, am_kl_n, am_kl_l, true_and, and_true, and_self, true_or, or_true, implies_true, forall_const, not_true_eq_false, not_false_eq_true, false_implies, true_implies, if_true, if_false, Bool.true_eq_false, Bool.false_eq_true, ob_457, hM0, r_457_27, n36, n42, n43, in_465, nI_clamp, hf, hm, h2, h8, h9, k2, k3, k4, k5, k8, k9, k11, ez, co, i01, t, n0, n1, n2, n3, n4, n5, n6, n7, n8, n9, n11, sw0_11]
                        · skip
                          by_cases c11 : v = 11
                          · have t := eq_true c11
                            have n0 := vne (b := 0) c11 (by decide)
                            have n1 := vne (b := 1) c11 (by decide)
                            have n2 := vne (b := 2) c11 (by decide)
                            have n3 := vne (b := 3) c11 (by decide)
                            have n4 := vne (b := 4) c11 (by decide)
                            have n5 := vne (b := 5) c11 (by decide)
                            have n6 := vne (b := 6) c11 (by decide)
                            have n7 := vne (b := 7) c11 (by decide)
                            have n8 := vne (b := 8) c11 (by decide)
                            have n9 := vne (b := 9) c11 (by decide)
                            have n10 := vne (b := 10) c11 (by decide)
                            simp (disch := (first | assumption | omega | decide)) only [sX11_count_0, sX11_count_1, sX11_count_2, sX11_count_5, sX11_count_6, sX11_count_68, sX11_count_69, sX11_count_72, sX11_count_73, sX11_count_74, sX11_count_77, sX11_count_79, sX11_count_80, sX11_count_81, sX11_count_82, sX11_count_85, sX11_count_86, sX11_count_87, sX11_count_90, sX11_count_91, sX11_count_92, sX11_count_95, sX11_count_96, sX11_count_97, sX11_count_100, sX11_count_101, sX11_count_102, sX11_count_105, sX11_count_107, sX11_count_108, sX11_count_109, sX11_count_110, sX11_count_113, sX11_count_116, sX11_count_117, sX11_count_120, sX11_count_121, sX11_count_124, sX11_count_125, sX11_count_126, sX11_count_129, sX11_count_130, sX11_count_131, sX11_count_134, sX11_count_135, sX11_count_136, sX11_count_139, sX11_count_141, sX11_count_142, sX11_count_143, sX11_count_144, sX11_count_147, sX11_count_148, sX11_count_151, kI_i, kL_l, kV_v, am_rv_s, am_kl_i, am_kl_r, am_kl_n, am_kl_l, true_and, and_true, and_self, true_or, or_true, implies_true, forall_const, not_true_eq_false, not_false_eq_true, false_implies, true_implies, if_true, if_false, Bool.true_eq_false, Bool.false_eq_true, ob_457, hM0, r_457_27, n36, n42, n43, in_465, nI_clamp, hf, hm, h2, h8, h9, k2, k3, k4, k5, k8, k9, k11, ez, co, i01, t, n0, n1, n2, n3, n4, n5, n6, n7, n8, n9, n10, sw0_11]
                          · skip
                            simp (disch := (first | assumption | omega | decide)) only [sX11_count_0, sX11_count_1, sX11_count_2, sX11_count_5, sX11_count_6, sX11_count_68, sX11_count_69, sX11_count_72, sX11_count_73, sX11_count_74, sX11_count_77, sX11_count_79, sX11_count_80, sX11_count_81, sX11_count_82, sX11_count_85, sX11_count_86, sX11_count_87, sX11_count_90, sX11_count_91, sX11_count_92, sX11_count_95, sX11_count_96, sX11_count_97, sX11_count_100, sX11_count_101, sX11_count_102, sX11_count_105, sX11_count_107, sX11_count_108, sX11_count_109, sX11_count_110, sX11_count_113, sX11_count_116, sX11_count_117, sX11_count_120, sX11_count_121, sX11_count_124, sX11_count_125, sX11_count_126, sX11_count_129, sX11_count_130, sX11_count_131, sX11_count_134, sX11_count_135, sX11_count_136, sX11_count_139, sX11_count_141, sX11_count_142, sX11_count_143, sX11_count_144, sX11_count_147, sX11_count_148, sX11_count_151, kI_i, kL_l, kV_v, am_rv_s, am_kl_i, am_kl_r, am_kl_n, am_kl_l, true_and, and_true, and_self, true_or, or_true, implies_true, forall_const, not_true_eq_false, not_false_eq_true, false_implies, true_implies, if_true, if_false, Bool.true_eq_false, Bool.false_eq_true, ob_457, hM0, r_457_27, n36, n42, n43, in_465, nI_clamp, hf, hm, h2, h8, h9, k2, k3, k4, k5, k8, k9, k11, ez, co, i01, c0, c1, c2, c3, c4, c5, c6, c7, c8, c9, c10, c11, sw0_11]
  case false =>
    by_cases c0 : v = 0
    · have t := eq_true c0
      have n1 := vne (b := 1) c0 (by decide)
      have n2 := vne (b := 2) c0 (by decide)
      have n3 := vne (b := 3) c0 (by decide)
      have n4 := vne (b := 4) c0 (by decide)
      have n5 := vne (b := 5) c0 (by decide)
      have n6 := vne (b := 6) c0 (by decide)
      have n7 := vne (b := 7) c0 (by decide)
      have n8 := vne (b := 8) c0 (by decide)
      have n9 := vne (b := 9) c0 (by decide)
      have n10 := vne (b := 10) c0 (by decide)
      have n11 := vne (b := 11) c0 (by decide)
      simp (disch := (first | assumption | omega | decide)) only [sX11_count_0, sX11_count_1, sX11_count_2, sX11_count_5, sX11_count_6, sX11_count_68, sX11_count_69, sX11_count_72, sX11_count_73, sX11_count_74, sX11_count_77, sX11_count_79, sX11_count_80, sX11_count_81, sX11_count_82, sX11_count_85, sX11_count_86, sX11_count_87, sX11_count_90, sX11_count_91, sX11_count_92, sX11_count_95, sX11_count_96, sX11_count_97, sX11_count_100, sX11_count_101, sX11_count_102, sX11_count_105, sX11_count_107, sX11_count_108, sX11_count_109, sX11_count_110, sX11_count_113, sX11_count_116, sX11_count_117, sX11_count_120, sX11_count_121, sX11_count_124, sX11_count_125, sX11_count_126, sX11_count_129, sX11_count_130, sX11_count_131, sX11_count_134, sX11_count_135, sX11_count_136, sX11_count_139, sX11_count_141, sX11_count_142, sX11_count_143, sX11_count_144, sX11_count_147, sX11_count_148, sX11_count_151, kI_i, kL_l, kV_v, am_rv_s, am_kl_i, am_kl_r, am_kl_n, am_kl_l, true_and, and_true, and_self, true_or, or_true, implies_true, forall_const, not_true_eq_false, not_false_eq_true, false_implies, true_implies, if_true, if_false, Bool.true_eq_false, Bool.false_eq_true, ob_457, hM0, r_457_27, n36, n42, n43, in_465, nI_clamp, hf, hm, h2, h8, h9, k2, k3, k4, k5, k8, k9, k11, ez, co, i01, t, n1, n2, n3, n4, n5, n6, n7, n8, n9, n10, n11, sw0_11]
    · skip
      by_cases c1 : v = 1
      · have t := eq_true c1
        have n0 := vne (b := 0) c1 (by decide)
        have n2 := vne (b := 2) c1 (by decide)
        have n3 := vne (b := 3) c1 (by decide)
        have n4 := vne (b := 4) c1 (by decide)
        have n5 := vne (b := 5) c1 (by decide)
        have n6 := vne (b := 6) c1 (by decide)
        have n7 := vne (b := 7) c1 (by decide)
        have n8 := vne (b := 8) c1 (by decide)
        have n9 := vne (b := 9) c1 (by decide)
        have n10 := vne (b := 10) c1 (by decide)
        have n11 := vne (b := 11) c1 (by decide)
        simp (disch := (first | assumption | omega | decide)) only [sX11_count_0, sX11_count_1, sX11_count_2, sX11_count_5, sX11_count_6, sX11_count_68, sX11_count_69, sX11_count_72, sX11_count_73, sX11_count_74, sX11_count_77, sX11_count_79, sX11_count_80, sX11_count_81, sX11_count_82, sX11_count_85, sX11_count_86, sX11_count_87, sX11_count_90, sX11_count_91, sX11_count_92, sX11_count_95, sX11_count_96, sX11_count_97, sX11_count_100, sX11_count_101, sX11_count_102, sX11_count_105, sX11_count_107, sX11_count_108, sX11_count_109, sX11_count_110, sX11_count_113, sX11_count_116, sX11_count_117, sX11_count_120, sX11_count_121, sX11_count_124, sX11_count_125, sX11_count_126, sX11_count_129, sX11_count_130, sX11_count_131, sX11_count_134, sX11_count_135, sX11_count_136, sX11_count_139, sX11_count_141, sX11_count_142, sX11_count_143, sX11_count_144, sX11_count_147, sX11_count_148, sX11_count_151, kI_i, kL_l, kV_v, am_rv_s, am_kl_i, am_kl_r, am_kl_n, am_kl_l, true_and, and_true, and_self, true_or, or_true, implies_true, forall_const, not_true_eq_false, not_false_eq_true, false_implies, true_implies, if_true, if_false, Bool.true_eq_false, Bool.false_eq_true, ob_457, hM0, r_457_27, n36, n42, n43, in_465, nI_clamp, hf, hm, h2, h8, h9, k2, k3, k4, k5, k8, k9, k11, ez, co, i01, t, n0, n2, n3, n4, n5, n6, n7, n8, n9, n10, n11, sw0_11]
      · skip
        by_cases c2 : v = 2
        · have t := eq_true c2
          have n0 := vne (b := 0) c2 (by decide)
          have n1 := vne (b := 1) c2 (by decide)
          have n3 := vne (b := 3) c2 (by decide)
          have n4 := vne (b := 4) c2 (by decide)
          have n5 := vne (b := 5) c2 (by decide)
          have n6 := vne (b := 6) c2 (by decide)
          have n7 := vne (b := 7) c2 (by decide)
          have n8 := vne (b := 8) c2 (by decide)
          have n9 := vne (b := 9) c2 (by decide)
          have n10 := vne (b := 10) c2 (by decide)
          have n11 := vne (b := 11) c2 (by decide)
          simp (disch := (first | assumption | omega | decide)) only [sX11_count_0, sX11_count_1, sX11_count_2, sX11_count_5, sX11_count_6, sX11_count_68, sX11_count_69, sX11_count_72, sX11_count_73, sX11_count_74, sX11_count_77, sX11_count_79, sX11_count_80, sX11_count_81, sX11_count_82, sX11_count_85, sX11_count_86, sX11_count_87, sX11_count_90, sX11_count_91, sX11_count_92, sX11_count_95, sX11_count_96, sX11_count_97, sX11_count_100, sX11_count_101, sX11_count_102, sX11_count_105, sX11_count_107, sX11_count_108, sX11_count_109, sX11_count_110, sX11_count_113, sX11_count_116, sX11_count_117, sX11_count_120, sX11_count_121, sX11_count_124, sX11_count_125, sX11_count_126, sX11_count_129, sX11_count_130, sX11_count_131, sX11_count_134, sX11_count_135, sX11_count_136, sX11_count_139, sX11_count_141, sX11_count_142, sX11_count_143, sX11_count_144, sX11_count_147, sX11_count_148, sX11_count_151, kI_i, kL_l, kV_v, am_rv_s, am_kl_i, am_kl_r, am_kl_n, am_kl_l, true_and, and_true, and_self, true_or, or_true, implies_true, forall_const, not_true_eq_false, not_false_eq_true, false_implies, true_implies, if_true, if_false, Bool.true_eq_false, Bool.false_eq_true, ob_457, hM0, r_457_27, n36, n42, n43, in_465, nI_clamp, hf, hm, h2, h8, h9, k2, k3, k4, k5, k8, k9, k11, ez, co, i01, t, n0, n1, n3, n4, n5, n6, n7, n8, n9, n10, n11, sw0_11]
        · skip
          by_cases c3 : v = 3
          · have t := eq_true c3
            have n0 := vne (b := 0) c3 (by decide)
            have n1 := vne (b := 1) c3 (by decide)
            have n2 := vne (b := 2) c3 (by decide)
            have n4 := vne (b := 4) c3 (by decide)
            have n5 := vne (b := 5) c3 (by decide)
            have n6 := vne (b := 6) c3 (by decide)
            have n7 := vne (b := 7) c3 (by decide)
            have n8 := vne (b := 8) c3 (by decide)
            have n9 := vne (b := 9) c3 (by decide)
            have n10 := vne (b := 10) c3 (by decide)
            have n11 := vne (b := 11) c3 (by decide)
            simp (disch := (first | assumption | omega | decide)) only [sX11_count_0, sX11_count_1, sX11_count_2, sX11_count_5, sX11_count_6, sX11_count_68, sX11_count_69, sX11_count_72, sX11_count_73, sX11_count_74, sX11_count_77, sX11_count_79, sX11_count_80, sX11_count_81, sX11_count_82, sX11_count_85, sX11_count_86, sX11_count_87, sX11_count_90, sX11_count_91, sX11_count_92, sX11_count_95, sX11_count_96, sX11_count_97, sX11_count_100, sX11_count_101, sX11_count_102, sX11_count_105, sX11_count_107, sX11_count_108, sX11_count_109, sX11_count_110, sX11_count_113, sX11_count_116, sX11_count_117, sX11_count_120, sX11_count_121, sX11_count_124, sX11_count_125, sX11_count_126, sX11_count_129, sX11_count_130, sX11_count_131, sX11_count_134, sX11_count_135, sX11_count_136, sX11_count_139, sX11_count_141, sX11_count_142, sX11_count_143, sX11_count_144, sX11_count_147, sX11_count_148, sX11_count_151, kI_i, kL_l, kV_v, am_rv_s, am_kl_i, am_kl_r, am_kl_n, am_kl_l, true_and, and_true, and_self, true_or, or_true, implies_true, forall_const, not_true_eq_false, not_false_eq_true, false_implies, true_implies, if_true, if_false, Bool.true_eq_false, Bool.false_eq_true, ob_457, hM0, r_457_27, n36, n42, n43, in_465, nI_clamp, hf, hm, h2, h8, h9, k2, k3, k4, k5, k8, k9, k11, ez, co, i01, t, n0, n1, n2, n4, n5, n6, n7, n8, n9, n10, n11, sw0_11]
          · skip
            by_cases c4 : v = 4
            · have t := eq_true c4
              have n0 := vne (b := 0) c4 (by decide)
              have n1 := vne (b := 1) c4 (by decide)
              have n2 := vne (b := 2) c4 (by decide)
              have n3 := vne (b := 3) c4 (by decide)
              have n5 := vne (b := 5) c4 (by decide)
              have n6 := vne (b := 6) c4 (by decide)
              have n7 := vne (b := 7) c4 (by decide)
              have n8 := vne (b := 8) c4 (by decide)
              have n9 := vne (b := 9) c4 (by decide)
              have n10 := vne (b := 10) c4 (by decide)
              have n11 := vne (b := 11) c4 (by decide)
              simp (disch := (first | assumption | omega | decide)) only [sX11_count_0, sX11_count_1, sX11_count_2, sX11_count_5, sX11_count_6, sX11_count_68, sX11_count_69, sX11_count_72, sX11_count_73, sX11_count_74, sX11_count_77, sX11_count_79, sX11_count_80, sX11_count_81, sX11_count_82, sX11_count_85, sX11_count_86, sX11_count_87, sX11_count_90, sX11_count_91, sX11_count_92, sX11_count_95, sX11_count_96, sX11_count_97, sX11_count_100, sX11_count_101, sX11_count_102, sX11_count_105, sX11_count_107, sX11_count_108, sX11_count_109, sX11_count_110, sX11_count_113, sX11_count_116, sX11_count_117, sX11_count_120, sX11_count_121, sX11_count_124, sX11_count_125, sX11_count_126, sX11_count_129, sX11_count_130, sX11_count_131, sX11_count_134, sX11_count_135, sX11_count_136, sX11_count_139, sX11_count_141, sX11_count_142, sX11_count_143, sX11_count_144, sX11_count_147, sX11_count_148, sX11_count_151, kI_i, kL_l, kV_v, am_rv_s, am_kl_i, am_kl_r, am_kl_n, am_kl_l, true_and, and_true, and_self, true_or, or_true, implies_true, forall_const, not_true_eq_false, not_false_eq_true, false_implies, true_implies, if_true, if_false, Bool.true_eq_false, Bool.false_eq_true, ob_457, hM0, r_457_27, n36, n42, n43, in_465, nI_clamp, hf, hm, h2, h8, h9, k2, k3, k4, k5, k8, k9, k11, ez, co, i01, t, n0, n1, n2, n3, n5, n6, n7, n8, n9, n10, n11, sw0_11]
            · skip
              by_cases c5 : v = 5
              · have t := eq_true c5
                have n0 := vne (b := 0) c5 (by decide)
                have n1 := vne (b := 1) c5 (by decide)
                have n2 := vne (b := 2) c5 (by decide)
                have n3 := vne (b := 3) c5 (by decide)
                have n4 := vne (b := 4) c5 (by decide)
                have n6 := vne (b := 6) c5 (by decide)
                have n7 := vne (b := 7) c5 (by decide)
                have n8 := vne (b := 8) c5 (by decide)
                have n9 := vne (b := 9) c5 (by decide)
                have n10 := vne (b := 10) c5 (by decide)
                have n11 := vne (b := 11) c5 (by decide)
                simp (disch := (first | assumption | omega | decide)) only [sX11_count_0, sX11_count_1, sX11_count_2, sX11_count_5, sX11_count_6, sX11_count_68, sX11_count_69, sX11_count_72, sX11_count_73, sX11_count_74, sX11_count_77, sX11_count_79, sX11_count_80, sX11_count_81, sX11_count_82, sX11_count_85, sX11_count_86, sX11_count_87, sX11_count_90, sX11_count_91, sX11_count_92, sX11_count_95, sX11_count_96, sX11_count_97, sX11_count_100, sX11_count_101, sX11_count_102, sX11_count_105, sX11_count_107, sX11_count_108, sX11_count_109, sX11_count_110, sX11_count_113, sX11_count_116, sX11_count_117, sX11_count_120, sX11_count_121, sX11_count_124, sX11_count_125, sX11_count_126, sX11_count_129, sX11_count_130, sX11_count_131, sX11_count_134, sX11_count_135, sX11_count_136, sX11_count_139, sX11_count_141, sX11_count_142, sX11_count_143, sX11_count_144, sX11_count_147, sX11_count_148, sX11_count_151, kI_i, kL_l, kV_v, am_rv_s, am_kl_i, am_kl_r, am_kl_n, am_kl_l, true_and, and_true, and_self, true_or, or_true, implies_true, forall_const, not_true_eq_false, not_false_eq_true, false_implies, true_implies, if_true, if_false, Bool.true_eq_false, Bool.false_eq_true, ob_457, hM0, r_457_27, n36, n42, n43, in_465, nI_clamp, hf, hm, h2, h8, h9, k2, k3, k4, k5, k8, k9, k11, ez, co, i01, t, n0, n1, n2, n3, n4, n6, n7, n8, n9, n10, n11, sw0_11]
              · skip
                by_cases c6 : v = 6
                · have t := eq_true c6
                  have n0 := vne (b := 0) c6 (by decide)
                  have n1 := vne (b := 1) c6 (by decide)
                  have n2 := vne (b := 2) c6 (by decide)
                  have n3 := vne (b := 3) c6 (by decide)
                  have n4 := vne (b := 4) c6 (by decide)
                  have n5 := vne (b := 5) c6 (by decide)
                  have n7 := vne (b := 7) c6 (by decide)
                  have n8 := vne (b := 8) c6 (by decide)
                  have n9 := vne (b := 9) c6 (by decide)
                  have n10 := vne (b := 10) c6 (by decide)
                  have n11 := vne (b := 11) c6 (by decide)
                  simp (disch := (first | assumption | omega | decide)) only [sX11_count_0, sX11_count_1, sX11_count_2, sX11_count_5, sX11_count_6, sX11_count_68, sX11_count_69, sX11_count_72, sX11_count_73, sX11_count_74, sX11_count_77, sX11_count_79, sX11_count_80, sX11_count_81, sX11_count_82, sX11_count_85, sX11_count_86, sX11_count_87, sX11_count_90, sX11_count_91, sX11_count_92, sX11_count_95, sX11_count_96, sX11_count_97, sX11_count_100, sX11_count_101, sX11_count_102, sX11_count_105, sX11_count_107, sX11_count_108, sX11_count_109, sX11_count_110, sX11_count_113, sX11_count_116, sX11_count_117, sX11_count_120, sX11_count_121, sX11_count_124, sX11_count_125, sX11_count_126, sX11_count_129, sX11_count_130, sX11_count_131, sX11_count_134, sX11_count_135, sX11_count_136, sX11_count_139, sX11_count_141, sX11_count_142, sX11_count_143, sX11_count_144, sX11_count_147, sX11_count_148, sX11_count_151, kI_i, kL_l, kV_v, am_rv_s, am_kl_i, am_kl_r, am_kl_n, am_kl_l, true_and, and_true, and_self, true_or, or_true, implies_true, forall_const, not_true_eq_false, not_false_eq_true, false_implies, true_implies, if_true, if_false, Bool.true_eq_false, Bool.false_eq_true, ob_457, hM0, r_457_27, n36, n42, n43, in_465, nI_clamp, hf, hm, h2, h8, h9, k2, k3, k4, k5, k8, k9, k11, ez, co, i01, t, n0, n1, n2, n3, n4, n5, n7, n8, n9, n10, n11, sw0_11]
                · skip
                  by_cases c7 : v = 7
                  · have t := eq_true c7
                    have n0 := vne (b := 0) c7 (by decide)
                    have n1 := vne (b := 1) c7 (by decide)
                    have n2 := vne (b := 2) c7 (by decide)
                    have n3 := vne (b := 3) c7 (by decide)
                    have n4 := vne (b := 4) c7 (by decide)
                    have n5 := vne (b := 5) c7 (by decide)
                    have n6 := vne (b := 6) c7 (by decide)
                    have n8 := vne (b := 8) c7 (by decide)
                    have n9 := vne (b := 9) c7 (by decide)
                    have n10 := vne (b := 10) c7 (by decide)
                    have n11 := vne (b := 11) c7 (by decide)
                    simp (disch := (first | assumption | omega | decide)) only [sX11_count_0, sX11_count_1, sX11_count_2, sX11_count_5, sX11_count_6, sX11_count_68, sX11_count_69, sX11_count_72, sX11_count_73, sX11_count_74, sX11_count_77, sX11_count_79, sX11_count_80, sX11_count_81, sX11_count_82, sX11_count_85, sX11_count_86, sX11_count_87, sX11_count_90, sX11_count_91, sX11_count_92, sX11_count_95, sX11_count_96, sX11_count_97, sX11_count_100, sX11_count_101, sX11_count_102, sX11_count_105, sX11_count_107, sX11_count_108, sX11_count_109, sX11_count_110, sX11_count_113, sX11_count_116, sX11_count_117, sX11_count_120, sX11_count_121, sX11_count_124, sX11_count_125, sX11_count_126, sX11_count_129, sX11_count_130, sX11_count_131, sX11_count_134, sX11_count_135, sX11_count_136, sX11_count_139, sX11_count_141, sX11_count_142, sX11_count_143, sX11_count_144, sX11_count_147, sX11_count_148, sX11_count_151, kI_i, kL_l, kV_v, am_rv_s, am_kl_i, am_kl_r, am_kl_n, am_kl_l, true_and, and_true, and_self, true_or, or_true, implies_true, forall_const, not_true_eq_false, not_false_eq_true, false_implies, true_implies, if_true, if_false, Bool.true_eq_false, Bool.false_eq_true, ob_457, hM0, r_457_27, n36, n42, n43, in_465, nI_clamp, hf, hm, h2, h8, h9, k2, k3, k4, k5, k8, k9, k11, ez, co, i01, t, n0, n1, n2, n3, n4, n5, n6, n8, n9, n10, n11, sw0_11]
                  · skip
                    by_cases c8 : v = 8
                    · have t := eq_true c8
                      have n0 := vne (b := 0) c8 (by decide)
                      have n1 := vne (b := 1) c8 (by decide)
                      have n2 := vne (b := 2) c8 (by decide)
                      have n3 := vne (b := 3) c8 (by decide)
                      have n4 := vne (b := 4) c8 (by decide)
                      have n5 := vne (b := 5) c8 (by decide)
                      have n6 := vne (b := 6) c8 (by decide)
                      have n7 := vne (b := 7) c8 (by decide)
                      have n9 := vne (b := 9) c8 (by decide)
                      have n10 := vne (b := 10) c8 (by decide)
                      have n11 := vne (b := 11) c8 (by decide)
                      simp (disch := (first | assumption | omega | decide)) only [sX11_count_0, sX11_count_1, sX11_count_2, sX11_count_5, sX11_count_6, sX11_count_68, sX11_count_69, sX11_count_72, sX11_count_73, sX11_count_74, sX11_count_77, sX11_count_79, sX11_count_80, sX11_count_81, sX11_count_82, sX11_count_85, sX11_count_86, sX11_count_87, sX11_count_90, sX11_count_91, sX11_count_92, sX11_count_95, sX11_count_96, sX11_count_97, sX11_count_100, sX11_count_101, sX11_count_102, sX11_count_105, sX11_count_107, sX11_count_108, sX11_count_109, sX11_count_110, sX11_count_113, sX11_count_116, sX11_count_117, sX11_count_120, sX11_count_121, sX11_count_124, sX11_count_125, sX11_count_126, sX11_count_129, sX11_count_130, sX11_count_131, sX11_count_134, sX11_count_135, sX11_count_136, sX11_count_139, sX11_count_141, sX11_count_142, sX11_count_143, sX11_count_144, sX11_count_147, sX11_count_148, sX11_count_151, kI_i, kL_l, kV_v, am_rv_s, am_kl_i, am_kl_r, am_kl_n, am_kl_l, true_and, and_true, and_self, true_or, or_true, implies_true, forall_const, not_true_eq_false, not_false_eq_true, false_implies, true_implies, if_true, if_false, Bool.true_eq_false, Bool.false_eq_true, ob_457, hM0, r_457_27, n36, n42, n43, in_465, nI_clamp, hf, hm, h2, h8, h9, k2, k3, k4, k5, k8, k9, k11, ez, co, i01, t, n0, n1, n2, n3, n4, n5, n6, n7, n9, n10, n11, sw0_11]
                    · skip
                      by_cases c9 : v = 9
                      · have t := eq_true c9
                        have n0 := vne (b := 0) c9 (by decide)
                        have n1 := vne (b := 1) c9 (by decide)
                        have n2 := vne (b := 2) c9 (by decide)
                        have n3 := vne (b := 3) c9 (by decide)
                        have n4 := vne (b := 4) c9 (by decide)
                        have n5 := vne (b := 5) c9 (by decide)
                        have n6 := vne (b := 6) c9 (by decide)
                        have n7 := vne (b := 7) c9 (by decide)
                        have n8 := vne (b := 8) c9 (by decide)
                        have n10 := vne (b := 10) c9 (by decide)
                        have n11 := vne (b := 11) c9 (by decide)
                        simp (disch := (first | assumption | omega | decide)) only [sX11_count_0, sX11_count_1, sX11_count_2, sX11_count_5, sX11_count_6, sX11_count_68, sX11_count_69, sX11_count_72, sX11_count_73, sX11_count_74, sX11_count_77, sX11_count_79, sX11_count_80, sX11_count_81, sX11_count_82, sX11_count_85, sX11_count_86, sX11_count_87, sX11_count_90, sX11_count_91, sX11_count_92, sX11_count_95, sX11_count_96, sX11_count_97, sX11_count_100, sX11_count_101, sX11_count_102, sX11_count_105, sX11_count_107, sX11_count_108, sX11_count_109, sX11_count_110, sX11_count_113, sX11_count_116, sX11_count_117, sX11_count_120, sX11_count_121, sX11_count_124, sX11_count_125, sX11_count_126, sX11_count_129, sX11_count_130, sX11_count_131, sX11_count_134, sX11_count_135, sX11_count_136, sX11_count_139, sX11_count_141, sX11_count_142, sX11_count_143, sX11_count_144, sX11_count_147, sX11_count_148, sX11_count_151, kI_i, kL_l, kV_v, am_rv_s, am_kl_i, am_kl_r, am_kl_n, am_kl_l, true_and, and_true, and_self, true_or, or_true, implies_true, forall_const, not_true_eq_false, not_false_eq_true, false_implies, true_implies, if_true, if_false, Bool.true_eq_false, Bool.false_eq_true, ob_457, hM0, r_457_27, n36, n42, n43, in_465, nI_clamp, hf, hm, h2, h8, h9, k2, k3, k4, k5, k8, k9, k11, ez, co, i01, t, n0, n1, n2, n3, n4, n5, n6, n7, n8, n10, n11, sw0_11]
                      · skip
                        by_cases c10 : v = 10
                        · have t := eq_true c10
                          have n0 := vne (b := 0) c10 (by decide)
                          have n1 := vne (b := 1) c10 (by decide)
                          have n2 := vne (b := 2) c10 (by decide)
                          have n3 := vne (b := 3) c10 (by decide)
                          have n4 := vne (b := 4) c10 (by decide)
                          have n5 := vne (b := 5) c10 (by decide)
                          have n6 := vne (b := 6) c10 (by decide)
                          have n7 := vne (b := 7) c10 (by decide)
                          have n8 := vne (b := 8) c10 (by decide)
                          have n9 := vne (b := 9) c10 (by decide)
                          have n11 := vne (b := 11) c10 (by decide)
                          simp (disch := (first | assumption | omega | decide)) only [sX11_count_0, sX11_count_1, sX11_count_2, sX11_count_5, sX11_count_6, sX11_count_68, sX11_count_69, sX11_count_72, sX11_count_73, sX11_count_74, sX11_count_77, sX11_count_79, sX11_count_80, sX11_count_81, sX11_count_82, sX11_count_85, sX11_count_86, sX11_count_87, sX11_count_90, sX11_count_91, sX11_count_92, sX11_count_95, sX11_count_96, sX11_count_97, sX11_count_100, sX11_count_101, sX11_count_102, sX11_count_105, sX11_count_107, sX11_count_108, sX11_count_109, sX11_count_110, sX11_count_113, sX11_count_116, sX11_count_117, sX11_count_120, sX11_count_121, sX11_count_124, sX11_count_125, sX11_count_126, sX11_count_129, sX11_count_130, sX11_count_131, sX11_count_134, sX11_count_135, sX11_count_136, sX11_count_139, sX11_count_141, sX11_count_142, sX11_count_143, sX11_count_144, sX11_count_147, sX11_count_148, sX11_count_151, kI_i, kL_l, kV_v, am_rv_s, am_kl_i, am_kl_r, am_kl_n, am_kl_l, true_and, and_true, and_self, true_or, or_true, implies_true, forall_const, not_true_eq_false, not_false_eq_true, false_implies, true_implies, if_true, if_false, Bool.true_eq_false, Bool.false_eq_true, ob_457, hM0, r_457_27, n36, n42, n43, in_465, nI_clamp, hf, hm, h2, h8, h9, k2, k3, k4, k5, k8, k9, k11, ez, co, i01, t, n0, n1, n2, n3, n4, n5, n6, n7, n8, n9, n11, sw0_11]
                        · skip
                          by_cases c11 : v = 11
                          · have t := eq_true c11
                            have n0 := vne (b := 0) c11 (by decide)
                            have n1 := vne (b := 1) c11 (by decide)
                            have n2 := vne (b := 2) c11 (by decide)
                            have n3 := vne (b := 3) c11 (by decide)
                            have n4 := vne (b := 4) c11 (by decide)
                            have n5 := vne (b := 5) c11 (by decide)
                            have n6 := vne (b := 6) c11 (by decide)
                            have n7 := vne (b := 7) c11 (by decide)
                            have n8 := vne (b := 8) c11 (by decide)
                            have n9 := vne (b := 9) c11 (by decide)
                            have n10 := vne (b := 10) c11 (by decide)
                            simp (disch := (first | assumption | omega | decide)) only [sX11_count_0, sX11_count_1, sX11_count_2, sX11_count_5, sX11_count_6, sX11_count_68, sX11_count_69, sX11_count_72, sX11_count_73, sX11_count_74, sX11_count_77, sX11_count_79, sX11_count_80, sX11_count_81, sX11_count_82, sX11_count_85, sX11_count_86, sX11_count_87, sX11_count_90, sX11_count_91, sX11_count_92, sX11_count_95, sX11_count_96, sX11_count_97, sX11_count_100, sX11_count_101, sX11_count_102, sX11_count_105, sX11_count_107, sX11_count_108, sX11_count_109, sX11_count_110, sX11_count_113, sX11_count_116, sX11_count_117, sX11_count_120, sX11_count_121, sX11_count_124, sX11_count_125, sX11_count_126, sX11_count_129, sX11_count_130, sX11_count_131, sX11_count_134, sX11_count_135, sX11_count_136, sX11_count_139, sX11_count_141, sX11_count_142, sX11_count_143, sX11_count_144, sX11_count_147, sX11_count_148, sX11_count_151, kI_i, kL_l, kV_v, am_rv_s, am_kl_i, am_kl_r, am_kl_n, am_kl_l, true_and, and_true, and_self, true_or, or_true, implies_true, forall_const, not_true_eq_false, not_false_eq_true, false_implies, true_implies, if_true, if_false, Bool.true_eq_false, Bool.false_eq_true, ob_457, hM0, r_457_27, n36, n42, n43, in_465, nI_clamp, hf, hm, h2, h8, h9, k2, k3, k4, k5, k8, k9, k11, ez, co, i01, t, n0, n1, n2, n3, n4, n5, n6, n7, n8, n9, n10, sw0_11]
                          · skip
                            simp (disch := (first | assumption | omega | decide)) only [sX11_count_0, sX11_count_1, sX11_count_2, sX11_count_5, sX11_count_6, sX11_count_68, sX11_count_69, sX11_count_72, sX11_count_73, sX11_count_74, sX11_count_77, sX11_count_79, sX11_count_80, sX11_count_81, sX11_count_82, sX11_count_85, sX11_count_86, sX11_count_87, sX11_count_90, sX11_count_91, sX11_count_92, sX11_count_95, sX11_count_96, sX11_count_97, sX11_count_100, sX11_count_101, sX11_count_102, sX11_count_105, sX11_count_107, sX11_count_108, sX11_count_109, sX11_count_110, sX11_count_113, sX11_count_116, sX11_count_117, sX11_count_120, sX11_count_121, sX11_count_124, sX11_count_125, sX11_count_126, sX11_count_129, sX11_count_130, sX11_count_131, sX11_count_134, sX11_count_135, sX11_count_136, sX11_count_139, sX11_count_141, sX11_count_142, sX11_count_143, sX11_count_144, sX11_count_147, sX11_count_148, sX11_count_151, kI_i, kL_l, kV_v, am_rv_s, am_kl_i, am_kl_r, am_kl_n, am_kl_l, true_and, and_true, and_self, true_or, or_true, implies_true, forall_const, not_true_eq_false, not_false_eq_true, false_implies, true_implies, if_true, if_false, Bool.true_eq_false, Bool.false_eq_true, ob_457, hM0, r_457_27, n36, n42, n43, in_465, nI_clamp, hf, hm, h2, h8, h9, k2, k3, k4, k5, k8, k9, k11, ez, co, i01, c0, c1, c2, c3, c4, c5, c6, c7, c8, c9, c10, c11, sw0_11]
end
