def ImC (M : am_M) (ap lim : Nat) (im : Option Sg) : Prop := gI M 0 4 = bz im.isSome ∧ ∀ I, im = some I → StC M 21 ap lim I
def ImM (M : am_M) (ap : Nat) (im : Option Sg) : Prop := gI M 457 54 = bz im.isSome ∧ ∀ I, im = some I → StM M 486 0 ap I
section
variable {M N : am_M} {ap lim : Nat} {S : Sg} {P : List Sg} {im : Option Sg} {d : Nat} {Q : am_Q}
theorem c_image (hW : WR M) (h : StC M 3 ap lim S) (hI : ImC M ap lim im) : ∃ M', (∀ d (Q : am_Q), am_big (d + 3) mX10_image [.ref 0] 488 M Q = Q (some (.int (if opn ap = true then nI S.2.2.2.1 else -1))) M') ∧ StC M' 3 ap lim S ∧ ImC M' ap lim (if opn ap = true then some S else im) ∧ Fw (fun c j => (c = 0 ∧ j = 4) ∨ (21 ≤ c ∧ c ≤ 29)) M M' := by
  cases c1 : opn ap with
  | false =>
    refine ⟨M, fun d Q => ?_, h, by simpa using hI, Fw.rf⟩
    rw [eX10_image]
    simp (disch := (first | assumption | omega | decide)) only [sX10_image_0, sX10_image_1, sX10_image_4, sX10_image_7, sX10_image_8, sX10_image_9, sX10_image_10, sX10_image_13, sX10_image_14, sX10_image_17, sX10_image_20, sX10_image_21, sX10_image_22, sX10_image_25, sX10_image_26, sX10_image_29, sX10_image_32, kI_i, kL_l, kV_v, am_rv_s, am_kl_i, am_kl_r, am_kl_n, am_kl_l, true_and, and_true, and_self, true_or, or_true, implies_true, forall_const, not_true_eq_false, not_false_eq_true, false_implies, true_implies, if_true, if_false, Bool.true_eq_false, Bool.false_eq_true, ob_0, c_isOpen hW h, c1, bz_f]
  | true =>
    obtain ⟨M1, e1, s1, f1⟩ := c_copyState (STs_21 hW) h (by omega) (StC_sz h)
    have w1 := f1.2 hW
    have h3 : StC M1 3 ap lim S := StC_Fw f1 (fun c j x y => by omega) h
    have g5 : gI M1 3 5 = nI S.2.2.2.1 := h3.2.2.2.2.1
    have f2 : Fw (fun c j => c = 0 ∧ j = 4) M1 (sI M1 0 4 1) := Fw.s ⟨rfl, rfl⟩
    have o1 : ((1 : Int32) = 0 ∨ (1 : Int32) = 1) = True := by simp
    refine ⟨sI M1 0 4 1, fun d Q => ?_, StC_Fw f2 (fun c j x y => by omega) h3, ?_, (f1.mo (fun c j z => by omega)).tr (f2.mo (fun c j z => by omega))⟩
    · rw [eX10_image]
      simp (disch := (first | assumption | omega | decide)) only [sX10_image_0, sX10_image_1, sX10_image_4, sX10_image_7, sX10_image_8, sX10_image_9, sX10_image_10, sX10_image_13, sX10_image_14, sX10_image_17, sX10_image_20, sX10_image_21, sX10_image_22, sX10_image_25, sX10_image_26, sX10_image_29, sX10_image_32, kI_i, kL_l, kV_v, am_rv_s, am_kl_i, am_kl_r, am_kl_n, am_kl_l, true_and, and_true, and_self, true_or, or_true, implies_true, forall_const, not_true_eq_false, not_false_eq_true, false_implies, true_implies, if_true, if_false, Bool.true_eq_false, Bool.false_eq_true, ob_0, ob_3, ob_21, c_isOpen hW h, c1, bz_t, i01, r_0_1, r_0_3, e1, o1, gR_sI, gI_o, g5]
    · simp only [if_true]
      exact ⟨gI_e, fun I hI => by cases hI; exact StC_Fw f2 (fun c j x y => by omega) s1⟩
theorem c_back (hW : WR M) (h : StC M 3 ap lim S) (hP : PaC M ap lim P) (hI : ImC M ap lim im) : ∃ M', (∀ d (Q : am_Q), am_big (d + 3) mX10_back [.ref 0] 488 M Q = Q (some (.int (match im with
    | some I => nI I.2.2.2.1
    | none => -1))) M') ∧ StC M' 3 ap lim (im.getD S) ∧ PaC M' ap lim (if im.isSome = true then [] else P) ∧ ImC M' ap lim im ∧ Fw XA M M' := by
  cases im with
  | none =>
    have g : gI M 0 4 = 0 := hI.1
    refine ⟨M, fun d Q => ?_, h, by simpa using hP, hI, Fw.rf⟩
    rw [eX10_back]
    simp (disch := (first | assumption | omega | decide)) only [sX10_back_0, sX10_back_1, sX10_back_4, sX10_back_7, sX10_back_8, sX10_back_9, sX10_back_10, sX10_back_13, sX10_back_14, sX10_back_17, sX10_back_20, sX10_back_21, sX10_back_24, sX10_back_27, sX10_back_28, sX10_back_31, sX10_back_34, kI_i, kL_l, kV_v, am_rv_s, am_kl_i, am_kl_r, am_kl_n, am_kl_l, true_and, and_true, and_self, true_or, or_true, implies_true, forall_const, not_true_eq_false, not_false_eq_true, false_implies, true_implies, if_true, if_false, Bool.true_eq_false, Bool.false_eq_true, ob_0, g]
  | some I =>
    have g : gI M 0 4 = 1 := hI.1
    have hK := hI.2 I rfl
    obtain ⟨M1, e1, s1, f1⟩ := c_copyState (STs_3 hW) hK (by omega) (StC_sz hK)
    have w1 := f1.2 hW
    have hK1 : StC M1 21 ap lim I := StC_Fw f1 (fun c j x y => by omega) hK
    have f2 : Fw (fun c j => c = 30 ∧ j = 2) M1 (sI M1 30 2 0) := Fw.s ⟨rfl, rfl⟩
    have s2 : StC (sI M1 30 2 0) 3 ap lim I := StC_Fw f2 (fun c j x y => by omega) s1
    have g5 : gI M1 3 5 = nI I.2.2.2.1 := s1.2.2.2.2.1
    have cl : ∀ d (Q : am_Q), am_big (d + 1) mX6_clear [.ref 30] 488 M1 Q = Q none (sI M1 30 2 0) := fun d Q => by
      rw [eX6_clear]
      simp (disch := (first | assumption | omega | decide)) only [sX6_clear_0, sX6_clear_1, sX6_clear_2, sX6_clear_5, kI_i, kL_l, kV_v, am_rv_s, am_kl_i, am_kl_r, am_kl_n, am_kl_l, true_and, and_true, and_self, true_or, or_true, implies_true, forall_const, not_true_eq_false, not_false_eq_true, false_implies, true_implies, if_true, if_false, Bool.true_eq_false, Bool.false_eq_true, ob_30]
    refine ⟨sI M1 30 2 0, fun d Q => ?_, s2, ?_, ⟨?_, fun J hJ => ?_⟩, (f1.mo (fun c j z => Or.inl (by omega))).tr (f2.mo (fun c j z => Or.inr (by unfold XP2; omega)))⟩
    · rw [eX10_back]
      simp (disch := (first | assumption | omega | decide)) only [sX10_back_0, sX10_back_1, sX10_back_4, sX10_back_7, sX10_back_8, sX10_back_9, sX10_back_10, sX10_back_13, sX10_back_14, sX10_back_17, sX10_back_20, sX10_back_21, sX10_back_24, sX10_back_27, sX10_back_28, sX10_back_31, sX10_back_34, kI_i, kL_l, kV_v, am_rv_s, am_kl_i, am_kl_r, am_kl_n, am_kl_l, true_and, and_true, and_self, true_or, or_true, implies_true, forall_const, not_true_eq_false, not_false_eq_true, false_implies, true_implies, if_true, if_false, Bool.true_eq_false, Bool.false_eq_true, ob_0, ob_3, ob_30, g, i01, r_0_1, r_0_3, r_0_5, e1, cl, gR_sI, gI_o, g5]
    · obtain ⟨old, ho, a1, -⟩ := hP
      exact ⟨old, ho, by rw [f2.I (by omega), f1.I (by omega)]; exact a1, gI_e, by simp, fun i hi => by simp at hi⟩
    · rw [f2.I (by omega), f1.I (by omega)]; exact g
    · cases hJ; exact StC_Fw f2 (fun c j x y => by omega) hK1
def XI (c j : Nat) : Prop := XM c j ∨ c = 486 ∨ (c = 457 ∧ j = 54)
theorem m_image (h : RS M ap lim S P) (hI : ImM M ap im) : ∃ M', (∀ d (Q : am_Q), am_big (d + 1) mX11_image [.ref 457] 488 M Q = Q (some (.int (if opn ap = true then nI S.2.2.2.1 else -1))) M') ∧ StM M' 465 0 ap S ∧ PaM M' ap P ∧ ImM M' ap (if opn ap = true then some S else im) ∧ Fw XI M M' := by
  have f0 := Fw_th (M := M)
  have h0 := RS_th h
  have hI0 : ImM (sI M 457 0 0) ap im := ⟨by rw [gI_j (by omega)]; exact hI.1, fun I e => StM_of (M := M) (fun j _ => gI_o (by omega)) (hI.2 I e)⟩
  generalize hM0 : sI M 457 0 0 = M0 at f0 h0 hI0
  obtain ⟨hW, hS, hP, hf, hm, hw, hlim, ht⟩ := id h0
  have hap := hS.2.2.2.2.1.2.2
  unfold opn
  by_cases c1 : 0 < ap
  · have e0 : (nI ap = 0) = False := by rw [nI_z (by omega)]; exact eq_false (by omega)
    have f2 : Fw (fun c _ => c = 486) M0 (cpI M0 465 0 486 0 164) := Fw.c (fun k => rfl)
    have f3 : Fw (fun c j => c = 457 ∧ j = 54) (cpI M0 465 0 486 0 164) (sI (cpI M0 465 0 486 0 164) 457 54 1) := Fw.s ⟨rfl, rfl⟩
    have g42 : gI M0 465 42 = nI S.2.2.2.1 := by have := hS.2.2.2.2.2.1; rwa [Nat.zero_add] at this
    have o1 : ((1 : Int32) = 0 ∨ (1 : Int32) = 1) = True := by simp
    refine ⟨sI (cpI M0 465 0 486 0 164) 457 54 1, fun d Q => ?_, StM_Fw f3 (fun j z => by omega) (StM_Fw f2 (fun j z => by omega) hS), PaM_Fw f3 (fun j z => by omega) (by omega) (PaM_Fw f2 (fun j z => by omega) (by omega) hP), ?_, ((f0.mo (fun c j z => Or.inl z)).tr (f2.mo (fun c j z => Or.inr (Or.inl z)))).tr (f3.mo (fun c j z => Or.inr (Or.inr z)))⟩
    · have l0 := loop0 (P := fun k => ok d mX11_image 488 Q 488 0 0 16 [some (.ref 457), some (.int (nI k))] [] (cpI M0 465 0 486 0 k)) (n := 164) (fun k hk => by
        have e9 : (nI 164 ≤ nI k) = False := by rw [nI_leE (by omega) (by omega)]; exact eq_false (by omega)
        have sw := cp_s (a := 486) (a0 := 465) (off := 0) (off' := 0) (k := k) (N := M0) (by omega)
        rw [Nat.zero_add] at sw
        have g3 : gI (cpI M0 465 0 486 0 k) 465 k = gI M0 465 k := gI_cpo (by omega)
        show ok d mX11_image 488 Q 488 0 0 16 _ [] _ = ok d mX11_image 488 Q 488 0 0 16 _ [] _
        rw [sX11_image_16]
        simp (disch := (first | assumption | omega | decide)) only [sX11_image_0, sX11_image_1, sX11_image_2, sX11_image_5, sX11_image_6, sX11_image_9, sX11_image_12, sX11_image_13, sX11_image_14, sX11_image_15, sX11_image_17, sX11_image_20, sX11_image_23, sX11_image_24, sX11_image_27, sX11_image_28, sX11_image_29, sX11_image_32, sX11_image_33, sX11_image_34, sX11_image_35, sX11_image_38, sX11_image_41, sX11_image_42, sX11_image_43, sX11_image_46, sX11_image_47, sX11_image_50, sX11_image_52, sX11_image_53, kI_i, kL_l, kV_v, am_rv_s, am_kl_i, am_kl_r, am_kl_n, am_kl_l, true_and, and_true, and_self, true_or, or_true, implies_true, forall_const, not_true_eq_false, not_false_eq_true, false_implies, true_implies, if_true, if_false, Bool.true_eq_false, Bool.false_eq_true, n164, e9, ob_457, gR_cpI, r_457_27, r_457_53, in_465, iw_486, nI_clamp, g3, sw, nI_1])
      simp only [cp_0] at l0
      rw [eX11_image]
      simp (disch := (first | assumption | omega | decide)) only [sX11_image_0, sX11_image_1, sX11_image_2, sX11_image_5, sX11_image_6, sX11_image_9, sX11_image_12, sX11_image_13, sX11_image_14, sX11_image_15, sX11_image_17, sX11_image_20, sX11_image_23, sX11_image_24, sX11_image_27, sX11_image_28, sX11_image_29, sX11_image_32, sX11_image_33, sX11_image_34, sX11_image_35, sX11_image_38, sX11_image_41, sX11_image_42, sX11_image_43, sX11_image_46, sX11_image_47, sX11_image_50, sX11_image_52, sX11_image_53, kI_i, kL_l, kV_v, am_rv_s, am_kl_i, am_kl_r, am_kl_n, am_kl_l, true_and, and_true, and_self, true_or, or_true, implies_true, forall_const, not_true_eq_false, not_false_eq_true, false_implies, true_implies, if_true, if_false, Bool.true_eq_false, Bool.false_eq_true, ob_457, hM0, hf, e0, c1, decide_true]
      refine l0.trans ?_
      have e9 : (nI 164 ≤ nI 164) = True := eq_true (by decide)
      rw [sX11_image_16]
      simp (disch := (first | assumption | omega | decide)) only [sX11_image_0, sX11_image_1, sX11_image_2, sX11_image_5, sX11_image_6, sX11_image_9, sX11_image_12, sX11_image_13, sX11_image_14, sX11_image_15, sX11_image_17, sX11_image_20, sX11_image_23, sX11_image_24, sX11_image_27, sX11_image_28, sX11_image_29, sX11_image_32, sX11_image_33, sX11_image_34, sX11_image_35, sX11_image_38, sX11_image_41, sX11_image_42, sX11_image_43, sX11_image_46, sX11_image_47, sX11_image_50, sX11_image_52, sX11_image_53, kI_i, kL_l, kV_v, am_rv_s, am_kl_i, am_kl_r, am_kl_n, am_kl_l, true_and, and_true, and_self, true_or, or_true, implies_true, forall_const, not_true_eq_false, not_false_eq_true, false_implies, true_implies, if_true, if_false, Bool.true_eq_false, Bool.false_eq_true, n164, e9, ob_457, o1, gR_sI, gR_cpI, r_457_27, n42, in_465, nI_clamp, gI_o, gI_cpo, g42]
    · simp only [c1, decide_true, if_true]
      refine ⟨gI_e, fun I hI => ?_⟩
      cases hI
      exact StM_of (M := M0) (o := 465) (off := 0) (fun j hj => by rw [gI_o (by omega), gI_cpi (by omega) (by omega)]; congr 1; omega) hS
  · have e0 : (nI ap = 0) = True := by rw [nI_z (by omega)]; exact eq_true (by omega)
    refine ⟨M0, fun d Q => ?_, hS, hP, by simpa [c1] using hI0, f0.mo (fun c j z => Or.inl z)⟩
    rw [eX11_image]
    simp (disch := (first | assumption | omega | decide)) only [sX11_image_0, sX11_image_1, sX11_image_2, sX11_image_5, sX11_image_6, sX11_image_9, sX11_image_12, sX11_image_13, sX11_image_14, sX11_image_15, sX11_image_17, sX11_image_20, sX11_image_23, sX11_image_24, sX11_image_27, sX11_image_28, sX11_image_29, sX11_image_32, sX11_image_33, sX11_image_34, sX11_image_35, sX11_image_38, sX11_image_41, sX11_image_42, sX11_image_43, sX11_image_46, sX11_image_47, sX11_image_50, sX11_image_52, sX11_image_53, kI_i, kL_l, kV_v, am_rv_s, am_kl_i, am_kl_r, am_kl_n, am_kl_l, true_and, and_true, and_self, true_or, or_true, implies_true, forall_const, not_true_eq_false, not_false_eq_true, false_implies, true_implies, if_true, if_false, Bool.true_eq_false, Bool.false_eq_true, ob_457, hM0, hf, e0, c1, decide_false, Bool.false_eq_true]
theorem m_back (h : RS M ap lim S P) (hI : ImM M ap im) : ∃ M', (∀ d (Q : am_Q), am_big (d + 1) mX11_back [.ref 457] 488 M Q = Q (some (.int (match im with
    | some I => nI I.2.2.2.1
    | none => -1))) M') ∧ StM M' 465 0 ap (im.getD S) ∧ PaM M' ap (if im.isSome = true then [] else P) ∧ ImM M' ap im ∧ Fw XI M M' := by
  have f0 := Fw_th (M := M)
  have h0 := RS_th h
  have hI0 : ImM (sI M 457 0 0) ap im := ⟨by rw [gI_j (by omega)]; exact hI.1, fun I e => StM_of (M := M) (fun j _ => gI_o (by omega)) (hI.2 I e)⟩
  generalize hM0 : sI M 457 0 0 = M0 at f0 h0 hI0
  obtain ⟨hW, hS, hP, hf, hm, hw, hlim, ht⟩ := id h0
  cases im with
  | none =>
    have g : gI M0 457 54 = 0 := hI0.1
    refine ⟨M0, fun d Q => ?_, hS, by simpa using hP, hI0, f0.mo (fun c j z => Or.inl z)⟩
    rw [eX11_back]
    simp (disch := (first | assumption | omega | decide)) only [sX11_back_0, sX11_back_1, sX11_back_2, sX11_back_5, sX11_back_6, sX11_back_9, sX11_back_12, sX11_back_13, sX11_back_14, sX11_back_15, sX11_back_17, sX11_back_20, sX11_back_23, sX11_back_24, sX11_back_27, sX11_back_28, sX11_back_29, sX11_back_32, sX11_back_33, sX11_back_34, sX11_back_35, sX11_back_38, sX11_back_41, sX11_back_42, sX11_back_43, sX11_back_46, sX11_back_47, sX11_back_50, sX11_back_52, sX11_back_53, kI_i, kL_l, kV_v, am_rv_s, am_kl_i, am_kl_r, am_kl_n, am_kl_l, true_and, and_true, and_self, true_or, or_true, implies_true, forall_const, not_true_eq_false, not_false_eq_true, false_implies, true_implies, if_true, if_false, Bool.true_eq_false, Bool.false_eq_true, ob_457, hM0, g]
  | some I =>
    have g : gI M0 457 54 = 1 := hI0.1
    have hK := hI0.2 I rfl
    have f2 : Fw (fun c _ => c = 465) M0 (cpI M0 486 0 465 0 164) := Fw.c (fun k => rfl)
    have f3 : Fw (fun c j => c = 457 ∧ j = 41) (cpI M0 486 0 465 0 164) (sI (cpI M0 486 0 465 0 164) 457 41 0) := Fw.s ⟨rfl, rfl⟩
    have s2 : StM (cpI M0 486 0 465 0 164) 465 0 ap I := StM_of (M := M0) (o := 486) (off := 0) (fun j hj => by rw [gI_cpi (by omega) (by omega)]; congr 1; omega) hK
    have g42 : gI (cpI M0 486 0 465 0 164) 465 42 = nI I.2.2.2.1 := by have := s2.2.2.2.2.2.1; rwa [Nat.zero_add] at this
    refine ⟨sI (cpI M0 486 0 465 0 164) 457 41 0, fun d Q => ?_, StM_Fw f3 (fun j z => by omega) s2, ⟨gI_e, by simp, fun i hi => by simp at hi⟩, ⟨?_, fun J hJ => ?_⟩, ((f0.tr (f2.mo (fun c j z => by unfold XM; omega))).tr (f3.mo (fun c j z => by unfold XM; omega))).mo (fun c j z => Or.inl z)⟩
    · have l0 := loop0 (P := fun k => ok d mX11_back 488 Q 488 0 0 16 [some (.ref 457), some (.int (nI k))] [] (cpI M0 486 0 465 0 k)) (n := 164) (fun k hk => by
        have e9 : (nI 164 ≤ nI k) = False := by rw [nI_leE (by omega) (by omega)]; exact eq_false (by omega)
        have sw := cp_s (a := 465) (a0 := 486) (off := 0) (off' := 0) (k := k) (N := M0) (by omega)
        rw [Nat.zero_add] at sw
        have g3 : gI (cpI M0 486 0 465 0 k) 486 k = gI M0 486 k := gI_cpo (by omega)
        show ok d mX11_back 488 Q 488 0 0 16 _ [] _ = ok d mX11_back 488 Q 488 0 0 16 _ [] _
        rw [sX11_back_16]
        simp (disch := (first | assumption | omega | decide)) only [sX11_back_0, sX11_back_1, sX11_back_2, sX11_back_5, sX11_back_6, sX11_back_9, sX11_back_12, sX11_back_13, sX11_back_14, sX11_back_15, sX11_back_17, sX11_back_20, sX11_back_23, sX11_back_24, sX11_back_27, sX11_back_28, sX11_back_29, sX11_back_32, sX11_back_33, sX11_back_34, sX11_back_35, sX11_back_38, sX11_back_41, sX11_back_42, sX11_back_43, sX11_back_46, sX11_back_47, sX11_back_50, sX11_back_52, sX11_back_53, kI_i, kL_l, kV_v, am_rv_s, am_kl_i, am_kl_r, am_kl_n, am_kl_l, true_and, and_true, and_self, true_or, or_true, implies_true, forall_const, not_true_eq_false, not_false_eq_true, false_implies, true_implies, if_true, if_false, Bool.true_eq_false, Bool.false_eq_true, n164, e9, ob_457, gR_cpI, r_457_27, r_457_53, in_486, iw_465, nI_clamp, g3, sw, nI_1])
      simp only [cp_0] at l0
      rw [eX11_back]
      simp (disch := (first | assumption | omega | decide)) only [sX11_back_0, sX11_back_1, sX11_back_2, sX11_back_5, sX11_back_6, sX11_back_9, sX11_back_12, sX11_back_13, sX11_back_14, sX11_back_15, sX11_back_17, sX11_back_20, sX11_back_23, sX11_back_24, sX11_back_27, sX11_back_28, sX11_back_29, sX11_back_32, sX11_back_33, sX11_back_34, sX11_back_35, sX11_back_38, sX11_back_41, sX11_back_42, sX11_back_43, sX11_back_46, sX11_back_47, sX11_back_50, sX11_back_52, sX11_back_53, kI_i, kL_l, kV_v, am_rv_s, am_kl_i, am_kl_r, am_kl_n, am_kl_l, true_and, and_true, and_self, true_or, or_true, implies_true, forall_const, not_true_eq_false, not_false_eq_true, false_implies, true_implies, if_true, if_false, Bool.true_eq_false, Bool.false_eq_true, ob_457, hM0, g, i01]
      refine l0.trans ?_
      have e9 : (nI 164 ≤ nI 164) = True := eq_true (by decide)
      rw [sX11_back_16]
      simp (disch := (first | assumption | omega | decide)) only [sX11_back_0, sX11_back_1, sX11_back_2, sX11_back_5, sX11_back_6, sX11_back_9, sX11_back_12, sX11_back_13, sX11_back_14, sX11_back_15, sX11_back_17, sX11_back_20, sX11_back_23, sX11_back_24, sX11_back_27, sX11_back_28, sX11_back_29, sX11_back_32, sX11_back_33, sX11_back_34, sX11_back_35, sX11_back_38, sX11_back_41, sX11_back_42, sX11_back_43, sX11_back_46, sX11_back_47, sX11_back_50, sX11_back_52, sX11_back_53, kI_i, kL_l, kV_v, am_rv_s, am_kl_i, am_kl_r, am_kl_n, am_kl_l, true_and, and_true, and_self, true_or, or_true, implies_true, forall_const, not_true_eq_false, not_false_eq_true, false_implies, true_implies, if_true, if_false, Bool.true_eq_false, Bool.false_eq_true, n164, e9, ob_457, gR_sI, gR_cpI, r_457_27, n42, in_465, nI_clamp, gI_o, g42]
    · rw [f3.I (by omega), f2.I (by omega)]; exact g
    · cases hJ; exact StM_Fw f3 (fun j z => by omega) (StM_Fw f2 (fun j z => by omega) hK)
end
