/-! acts of the class -/
def XA (c j : Nat) : Prop := (3 ≤ c ∧ c ≤ 11) ∨ XP2 c j
def opn (ap : Nat) : Bool := decide (0 < ap)
def cac (ap : Nat) (S : Sg) : Bool := opn ap && decide (S.2.2.2.1 < 9999)
section
variable {M N : am_M} {ap lim n : Nat} {S : Sg} {P : List Sg} {d : Nat} {Q : am_Q}
theorem c_isOpen (hW : WR M) (h : StC M 3 ap lim S) : am_big (d + 1) mX10_isOpen [.ref 0] 488 M Q = Q (some (.int (bz (opn ap)))) M := by
  have h3 := h.2.2.1
  have hap := h.2.2.2.2.2.2.2.1
  rw [eX10_isOpen]
  unfold opn
  by_cases c : 0 < ap
  · have e : (nI ap ≤ 0) = False := by rw [show (0 : Int32) = nI 0 from rfl, nI_leE (by omega) (by omega)]; exact eq_false (by omega)
    simp (disch := (first | assumption | omega | decide)) only [sX10_isOpen_0, sX10_isOpen_1, sX10_isOpen_4, sX10_isOpen_7, sX10_isOpen_10, sX10_isOpen_11, sX10_isOpen_14, sX10_isOpen_15, kI_i, kL_l, kV_v, am_rv_s, am_kl_i, am_kl_r, am_kl_n, am_kl_l, true_and, and_true, and_self, true_or, or_true, implies_true, forall_const, not_true_eq_false, not_false_eq_true, false_implies, true_implies, if_true, if_false, Bool.true_eq_false, Bool.false_eq_true, ob_0, ob_3, r_0_1, h3, e, c, decide_true, bz_t]
  · have e : (nI ap ≤ 0) = True := by rw [show (0 : Int32) = nI 0 from rfl, nI_leE (by omega) (by omega)]; exact eq_true (by omega)
    simp (disch := (first | assumption | omega | decide)) only [sX10_isOpen_0, sX10_isOpen_1, sX10_isOpen_4, sX10_isOpen_7, sX10_isOpen_10, sX10_isOpen_11, sX10_isOpen_14, sX10_isOpen_15, kI_i, kL_l, kV_v, am_rv_s, am_kl_i, am_kl_r, am_kl_n, am_kl_l, true_and, and_true, and_self, true_or, or_true, implies_true, forall_const, not_true_eq_false, not_false_eq_true, false_implies, true_implies, if_true, if_false, Bool.true_eq_false, Bool.false_eq_true, ob_0, ob_3, r_0_1, h3, e, c, decide_false, bz_f]
theorem c_canAct (hW : WR M) (h : StC M 3 ap lim S) : am_big (d + 2) mX10_canAct [.ref 0] 488 M Q = Q (some (.int (bz (cac ap S)))) M := by
  have h5 := h.2.2.2.2.1
  have ht := h.2.2.2.2.2.2.2.2
  rw [eX10_canAct]
  unfold cac
  cases c : opn ap with
  | false => simp (disch := (first | assumption | omega | decide)) only [sX10_canAct_0, sX10_canAct_1, sX10_canAct_4, sX10_canAct_7, sX10_canAct_8, sX10_canAct_11, sX10_canAct_14, sX10_canAct_17, sX10_canAct_20, sX10_canAct_21, sX10_canAct_24, sX10_canAct_25, kI_i, kL_l, kV_v, am_rv_s, am_kl_i, am_kl_r, am_kl_n, am_kl_l, true_and, and_true, and_self, true_or, or_true, implies_true, forall_const, not_true_eq_false, not_false_eq_true, false_implies, true_implies, if_true, if_false, Bool.true_eq_false, Bool.false_eq_true, ob_0, c_isOpen hW h, c, bz_f, Bool.false_and]
  | true =>
    have e := li_le 9999 9999 (k := S.2.2.2.1) rfl (by omega) (by omega)
    by_cases c2 : S.2.2.2.1 < 9999
    · have e2 : (9999 ≤ S.2.2.2.1) = False := eq_false (by omega)
      simp (disch := (first | assumption | omega | decide)) only [sX10_canAct_0, sX10_canAct_1, sX10_canAct_4, sX10_canAct_7, sX10_canAct_8, sX10_canAct_11, sX10_canAct_14, sX10_canAct_17, sX10_canAct_20, sX10_canAct_21, sX10_canAct_24, sX10_canAct_25, kI_i, kL_l, kV_v, am_rv_s, am_kl_i, am_kl_r, am_kl_n, am_kl_l, true_and, and_true, and_self, true_or, or_true, implies_true, forall_const, not_true_eq_false, not_false_eq_true, false_implies, true_implies, if_true, if_false, Bool.true_eq_false, Bool.false_eq_true, ob_0, ob_3, r_0_1, c_isOpen hW h, c, bz_t, i01, h5, e, e2, c2, decide_true, Bool.and_self]
    · have e2 : (9999 ≤ S.2.2.2.1) = True := eq_true (by omega)
      simp (disch := (first | assumption | omega | decide)) only [sX10_canAct_0, sX10_canAct_1, sX10_canAct_4, sX10_canAct_7, sX10_canAct_8, sX10_canAct_11, sX10_canAct_14, sX10_canAct_17, sX10_canAct_20, sX10_canAct_21, sX10_canAct_24, sX10_canAct_25, kI_i, kL_l, kV_v, am_rv_s, am_kl_i, am_kl_r, am_kl_n, am_kl_l, true_and, and_true, and_self, true_or, or_true, implies_true, forall_const, not_true_eq_false, not_false_eq_true, false_implies, true_implies, if_true, if_false, Bool.true_eq_false, Bool.false_eq_true, ob_0, ob_3, r_0_1, c_isOpen hW h, c, bz_t, bz_f, i01, h5, e, e2, c2, decide_false, Bool.and_false]
theorem PaC_Fw {X : Nat → Nat → Prop} (hF : Fw X M N) (hX : ∀ c j, (c = 30 ∨ (32 ≤ c ∧ c ≤ 391)) → ¬ X c j) (h : PaC M ap lim P) : PaC N ap lim P := by
  obtain ⟨old, ho, g1, g2, hl, hs⟩ := h
  refine ⟨old, ho, by rw [hF.I (hX _ _ (Or.inl rfl))]; exact g1, by rw [hF.I (hX _ _ (Or.inl rfl))]; exact g2, hl, fun i hi => ⟨StC_Fw hF (fun c j x y => hX c j ?_) (hs i hi).1, (hs i hi).2⟩⟩
  have : (old + i) % 40 < 40 := Nat.mod_lt _ (by omega)
  omega
theorem c_begin (hW : WR M) (hP : PaC M ap lim P) (h : StC M 3 ap lim S) : ∃ M' n, (∀ d (Q : am_Q), am_big (d + 4) mX10_beginAct [.ref 0] 488 M Q = Q none M') ∧ StN M' 3 ap lim (tS S) n ∧ n ≤ S.2.2.2.1 ∧ PaC M' ap lim (paA P S) ∧ Fw XA M M' ∧ WR M' := by
  obtain ⟨M1, e1, p1, s1, f1⟩ := c_save hW hP h
  obtain ⟨n, sn, hn⟩ := s1.toN
  have w1 := f1.2 hW
  have h5 : gI M1 3 5 = nI S.2.2.2.1 := s1.2.2.2.2.1
  have ft : Fw (fun c j => c = 3 ∧ j = 5) M1 (sI M1 3 5 (nI (S.2.2.2.1 + 1))) := Fw.s ⟨rfl, rfl⟩
  refine ⟨sI M1 3 5 (nI (S.2.2.2.1 + 1)), n, fun d Q => ?_, StN_time sn, hn, PaC_Fw ft (fun c j z => by omega) p1, (f1.mo (fun c j z => Or.inr z)).tr (Fw.s (Or.inl (by omega))), w1⟩
  rw [eX10_beginAct]
  simp (disch := (first | assumption | omega | decide)) only [sX10_beginAct_0, sX10_beginAct_1, sX10_beginAct_4, sX10_beginAct_5, sX10_beginAct_8, sX10_beginAct_11, sX10_beginAct_12, sX10_beginAct_15, sX10_beginAct_16, sX10_beginAct_19, sX10_beginAct_20, sX10_beginAct_21, sX10_beginAct_24, kI_i, kL_l, kV_v, am_rv_s, am_kl_i, am_kl_r, am_kl_n, am_kl_l, true_and, and_true, and_self, true_or, or_true, implies_true, forall_const, not_true_eq_false, not_false_eq_true, false_implies, true_implies, if_true, if_false, Bool.true_eq_false, Bool.false_eq_true, ob_0, ob_30, ob_3, r_0_1, r_0_5, e1, h5, nI_1]
def mkA (ap lim : Nat) (S : Sg) (so pa x : Int32) : Bool := cac ap S && (decide (S.1.length < lim) && cbL S.1 so pa x)
theorem StC_LH (h : StC M 3 ap lim S) : LH M 4 S.1 := h.2.1
theorem c_make {so pa x : Int32} (hW : WR M) (hlim : lim ≤ 12) (hP : PaC M ap lim P) (h : StC M 3 ap lim S) : ∃ M', (∀ d (Q : am_Q), am_big (d + 6) mX10_make [.ref 0, .int so, .int pa, .int x] 488 M Q = Q (some (.int (if mkA ap lim S so pa x = true then nI (S.1.length + 1) else -1))) M') ∧ StC M' 3 ap lim (if mkA ap lim S so pa x = true then doS (tS S) so pa x else S) ∧ PaC M' ap lim (if mkA ap lim S so pa x = true then paA P S else P) ∧ Fw XA M M' := by
  have hLH := StC_LH h
  have h4 : gI M 3 4 = nI lim := h.2.2.2.1
  have hsz : gI M 4 3 = nI S.1.length := hLH.1.2.1
  have hl16 := hLH.1.2.2
  have elt : (nI S.1.length < nI lim) = (S.1.length < lim) := nI_ltE (by omega) (by omega)
  have cb : ∀ d (Q : am_Q), am_big (d + 4) mX0_canBe [.ref 4, .int so, .int pa, .int x, .int (nI lim)] 488 M Q = Q (some (.int (bz (decide (S.1.length < lim) && cbL S.1 so pa x)))) M := fun d Q => by
    rw [c_canBe hLH.1, cbf_L hLH, hsz]
    simp only [elt]
  unfold mkA
  cases c1 : cac ap S with
  | false =>
    refine ⟨M, fun d Q => ?_, by simpa using h, by simpa using hP, Fw.rf⟩
    rw [eX10_make]
    simp (disch := (first | assumption | omega | decide)) only [sX10_make_0, sX10_make_1, sX10_make_4, sX10_make_7, sX10_make_8, sX10_make_11, sX10_make_14, sX10_make_15, sX10_make_16, sX10_make_17, sX10_make_18, sX10_make_21, sX10_make_24, sX10_make_27, sX10_make_30, sX10_make_31, sX10_make_32, sX10_make_33, sX10_make_36, sX10_make_37, sX10_make_40, sX10_make_41, sX10_make_42, sX10_make_43, sX10_make_46, sX10_make_47, sX10_make_50, sX10_make_53, sX10_make_56, kI_i, kL_l, kV_v, am_rv_s, am_kl_i, am_kl_r, am_kl_n, am_kl_l, true_and, and_true, and_self, true_or, or_true, implies_true, forall_const, not_true_eq_false, not_false_eq_true, false_implies, true_implies, if_true, if_false, Bool.true_eq_false, Bool.false_eq_true, ob_0, c_canAct hW h, c1, bz_f, Bool.false_and]
  | true =>
    cases c2 : (decide (S.1.length < lim) && cbL S.1 so pa x) with
    | false =>
      refine ⟨M, fun d Q => ?_, by simpa using h, by simpa using hP, Fw.rf⟩
      rw [eX10_make]
      simp (disch := (first | assumption | omega | decide)) only [sX10_make_0, sX10_make_1, sX10_make_4, sX10_make_7, sX10_make_8, sX10_make_11, sX10_make_14, sX10_make_15, sX10_make_16, sX10_make_17, sX10_make_18, sX10_make_21, sX10_make_24, sX10_make_27, sX10_make_30, sX10_make_31, sX10_make_32, sX10_make_33, sX10_make_36, sX10_make_37, sX10_make_40, sX10_make_41, sX10_make_42, sX10_make_43, sX10_make_46, sX10_make_47, sX10_make_50, sX10_make_53, sX10_make_56, kI_i, kL_l, kV_v, am_rv_s, am_kl_i, am_kl_r, am_kl_n, am_kl_l, true_and, and_true, and_self, true_or, or_true, implies_true, forall_const, not_true_eq_false, not_false_eq_true, false_implies, true_implies, if_true, if_false, Bool.true_eq_false, Bool.false_eq_true, ob_0, ob_3, ob_4, r_0_1, r_3_0, h4, c_canAct hW h, c1, bz_t, bz_f, i01, cb, c2, Bool.and_false]
    | true =>
      have hlt : S.1.length < lim := by
        rw [Bool.and_eq_true, decide_eq_true_eq] at c2; exact c2.1
      have hact : S.2.2.2.1 < 9999 := by
        unfold cac at c1
        rw [Bool.and_eq_true, decide_eq_true_eq] at c1; exact c1.2
      obtain ⟨M1, n, e1, s1, hn, p1, f1, w1⟩ := c_begin hW hP h
      obtain ⟨M2, e2, s2, f2⟩ := c_doDeed (so := so) (pa := pa) (x := x) s1 (by show S.1.length < 16; omega)
      have s2 := (s2 (by omega)).c (by show n + 1 ≤ S.2.2.2.1 + 1; omega) (by show S.2.2.2.1 + 1 ≤ 9999; omega)
      have p2 := PaC_Fw f2 (fun c j z => by omega) p1
      have g2 : gI M2 4 3 = nI (S.1.length + 1) := by
        have := s2.2.1.1.2.1
        rw [this]
        unfold doS tS
        simp
      have w2 := f2.2 w1
      refine ⟨M2, fun d Q => ?_, by simpa using s2, by simpa using p2, f1.tr (f2.mo (fun c j z => Or.inl (by omega)))⟩
      rw [eX10_make]
      simp (disch := (first | assumption | omega | decide)) only [sX10_make_0, sX10_make_1, sX10_make_4, sX10_make_7, sX10_make_8, sX10_make_11, sX10_make_14, sX10_make_15, sX10_make_16, sX10_make_17, sX10_make_18, sX10_make_21, sX10_make_24, sX10_make_27, sX10_make_30, sX10_make_31, sX10_make_32, sX10_make_33, sX10_make_36, sX10_make_37, sX10_make_40, sX10_make_41, sX10_make_42, sX10_make_43, sX10_make_46, sX10_make_47, sX10_make_50, sX10_make_53, sX10_make_56, kI_i, kL_l, kV_v, am_rv_s, am_kl_i, am_kl_r, am_kl_n, am_kl_l, true_and, and_true, and_self, true_or, or_true, implies_true, forall_const, not_true_eq_false, not_false_eq_true, false_implies, true_implies, if_true, if_false, Bool.true_eq_false, Bool.false_eq_true, ob_0, ob_3, ob_4, r_0_1, r_3_0, h4, c_canAct hW h, c1, bz_t, i01, cb, c2, e1, e2, g2, Bool.and_self]
def tkA (ap : Nat) (S : Sg) (e : Nat) : Bool := cac ap S && (decide (e < S.1.length) && ctL S.1 e)
theorem c_undoes {y : Int32} (hW : WR M) (hP : PaC M ap lim P) (h : StC M 3 ap lim S) : ∃ M', (∀ d (Q : am_Q), am_big (d + 5) mX10_undoes [.ref 0, .int y] 488 M Q = Q (some (.int (if 0 ≤ y ∧ tkA ap S y.toNatClampNeg = true then nI (S.1.length - 1) else -1))) M') ∧ StC M' 3 ap lim (if 0 ≤ y ∧ tkA ap S y.toNatClampNeg = true then tkS (tS S) y.toNatClampNeg else S) ∧ PaC M' ap lim (if 0 ≤ y ∧ tkA ap S y.toNatClampNeg = true then paA P S else P) ∧ Fw XA M M' := by
  have hLH := StC_LH h
  have hsz : gI M 4 3 = nI S.1.length := hLH.1.2.1
  have hl16 := hLH.1.2.2
  cases c1 : cac ap S with
  | false =>
    have hz : ¬ (0 ≤ y ∧ tkA ap S y.toNatClampNeg = true) := fun z => by unfold tkA at z; rw [c1] at z; simp at z
    rw [if_neg hz, if_neg hz, if_neg hz]
    refine ⟨M, fun d Q => ?_, h, hP, Fw.rf⟩
    rw [eX10_undoes]
    simp (disch := (first | assumption | omega | decide)) only [sX10_undoes_0, sX10_undoes_1, sX10_undoes_4, sX10_undoes_7, sX10_undoes_8, sX10_undoes_11, sX10_undoes_14, sX10_undoes_15, sX10_undoes_18, sX10_undoes_21, sX10_undoes_22, sX10_undoes_23, sX10_undoes_24, sX10_undoes_27, sX10_undoes_28, sX10_undoes_31, sX10_undoes_32, sX10_undoes_35, sX10_undoes_36, sX10_undoes_39, sX10_undoes_42, sX10_undoes_45, kI_i, kL_l, kV_v, am_rv_s, am_kl_i, am_kl_r, am_kl_n, am_kl_l, true_and, and_true, and_self, true_or, or_true, implies_true, forall_const, not_true_eq_false, not_false_eq_true, false_implies, true_implies, if_true, if_false, Bool.true_eq_false, Bool.false_eq_true, ob_0, c_canAct hW h, c1, bz_f]
  | true =>
    by_cases c2 : 0 ≤ y ∧ y < nI S.1.length
    · obtain ⟨e, he, rfl⟩ : ∃ e, e < S.1.length ∧ y = nI e := by
        obtain ⟨j, hj, ej⟩ := nI_of (Int32.not_lt.mpr c2.1)
        have := c2.2
        rw [ej, nI_ltE hj (by omega)] at this
        exact ⟨j, this, ej⟩
      rw [nI_clamp (by omega)]
      have ct : ∀ d (Q : am_Q), am_big (d + 2) mX0_canBeTakenBack [.ref 4, .int (nI e)] 488 M Q = Q (some (.int (bz (ctL S.1 e)))) M := fun d Q => by rw [c_ctb hLH.1 he, ctb_L hLH he]
      cases c3 : ctL S.1 e with
      | false =>
        have hz : ¬ (0 ≤ nI e ∧ tkA ap S e = true) := fun z => by have := z.2; unfold tkA at this; rw [c1, c3] at this; simp at this
        rw [if_neg hz, if_neg hz, if_neg hz]
        refine ⟨M, fun d Q => ?_, h, hP, Fw.rf⟩
        rw [eX10_undoes]
        simp (disch := (first | assumption | omega | decide)) only [sX10_undoes_0, sX10_undoes_1, sX10_undoes_4, sX10_undoes_7, sX10_undoes_8, sX10_undoes_11, sX10_undoes_14, sX10_undoes_15, sX10_undoes_18, sX10_undoes_21, sX10_undoes_22, sX10_undoes_23, sX10_undoes_24, sX10_undoes_27, sX10_undoes_28, sX10_undoes_31, sX10_undoes_32, sX10_undoes_35, sX10_undoes_36, sX10_undoes_39, sX10_undoes_42, sX10_undoes_45, kI_i, kL_l, kV_v, am_rv_s, am_kl_i, am_kl_r, am_kl_n, am_kl_l, true_and, and_true, and_self, true_or, or_true, implies_true, forall_const, not_true_eq_false, not_false_eq_true, false_implies, true_implies, if_true, if_false, Bool.true_eq_false, Bool.false_eq_true, ob_0, ob_3, r_0_1, r_3_0, ob_4, c_canAct hW h, c1, bz_t, bz_f, i01, ct, c3]
      | true =>
        have hz : 0 ≤ nI e ∧ tkA ap S e = true := ⟨c2.1, by unfold tkA; rw [c1, c3]; simp [he]⟩
        rw [if_pos hz, if_pos hz, if_pos hz]
        have hact : S.2.2.2.1 < 9999 := by
          unfold cac at c1
          rw [Bool.and_eq_true, decide_eq_true_eq] at c1; exact c1.2
        obtain ⟨M1, n, e1, s1, hn, p1, f1, w1⟩ := c_begin hW hP h
        obtain ⟨M2, e2, s2, f2⟩ := c_takeBack (e := e) s1 he
        have s2 := (s2 (by omega)).c (by show n + 1 ≤ S.2.2.2.1 + 1; omega) (by show S.2.2.2.1 + 1 ≤ 9999; omega)
        have p2 := PaC_Fw f2 (fun c j z => by omega) p1
        have g2 : gI M2 4 3 = nI (S.1.length - 1) := by
          have := s2.2.1.1.2.1
          rw [this]
          unfold tkS tS
          rw [List.length_eraseIdx, if_pos he]
        have w2 := f2.2 w1
        refine ⟨M2, fun d Q => ?_, s2, p2, f1.tr (f2.mo (fun c j z => Or.inl (by omega)))⟩
        rw [eX10_undoes]
        simp (disch := (first | assumption | omega | decide)) only [sX10_undoes_0, sX10_undoes_1, sX10_undoes_4, sX10_undoes_7, sX10_undoes_8, sX10_undoes_11, sX10_undoes_14, sX10_undoes_15, sX10_undoes_18, sX10_undoes_21, sX10_undoes_22, sX10_undoes_23, sX10_undoes_24, sX10_undoes_27, sX10_undoes_28, sX10_undoes_31, sX10_undoes_32, sX10_undoes_35, sX10_undoes_36, sX10_undoes_39, sX10_undoes_42, sX10_undoes_45, kI_i, kL_l, kV_v, am_rv_s, am_kl_i, am_kl_r, am_kl_n, am_kl_l, true_and, and_true, and_self, true_or, or_true, implies_true, forall_const, not_true_eq_false, not_false_eq_true, false_implies, true_implies, if_true, if_false, Bool.true_eq_false, Bool.false_eq_true, ob_0, ob_3, r_0_1, r_3_0, ob_4, c_canAct hW h, c1, bz_t, i01, ct, c3, e1, e2, g2]
    · have hz : ¬ (0 ≤ y ∧ tkA ap S y.toNatClampNeg = true) := fun z => by
        obtain ⟨j, hj, ej⟩ := nI_of (Int32.not_lt.mpr z.1)
        have h2 := z.2
        rw [ej, nI_clamp (by omega)] at h2
        unfold tkA at h2
        simp only [Bool.and_eq_true, decide_eq_true_eq] at h2
        exact c2 ⟨z.1, by rw [ej]; exact nI_lt h2.2.1 (by omega)⟩
      rw [if_neg hz, if_neg hz, if_neg hz]
      refine ⟨M, fun d Q => ?_, h, hP, Fw.rf⟩
      have ct : ∀ d (Q : am_Q), am_big (d + 2) mX0_canBeTakenBack [.ref 4, .int y] 488 M Q = Q (some (.int 0)) M := fun d Q => c_ctb0 hLH.1 (by rw [hsz]; exact c2)
      rw [eX10_undoes]
      simp (disch := (first | assumption | omega | decide)) only [sX10_undoes_0, sX10_undoes_1, sX10_undoes_4, sX10_undoes_7, sX10_undoes_8, sX10_undoes_11, sX10_undoes_14, sX10_undoes_15, sX10_undoes_18, sX10_undoes_21, sX10_undoes_22, sX10_undoes_23, sX10_undoes_24, sX10_undoes_27, sX10_undoes_28, sX10_undoes_31, sX10_undoes_32, sX10_undoes_35, sX10_undoes_36, sX10_undoes_39, sX10_undoes_42, sX10_undoes_45, kI_i, kL_l, kV_v, am_rv_s, am_kl_i, am_kl_r, am_kl_n, am_kl_l, true_and, and_true, and_self, true_or, or_true, implies_true, forall_const, not_true_eq_false, not_false_eq_true, false_implies, true_implies, if_true, if_false, Bool.true_eq_false, Bool.false_eq_true, ob_0, ob_3, r_0_1, r_3_0, ob_4, c_canAct hW h, c1, bz_t, i01, ct]
theorem c_undo (hW : WR M) (hP : PaC M ap lim P) (h : StC M 3 ap lim S) : ∃ M', (∀ d (Q : am_Q), am_big (d + 4) mX10_undo [.ref 0] 488 M Q = Q (some (.int (if P.length = 0 then -1 else nI (P.length - 1)))) M') ∧ StC M' 3 ap lim (P.getLastD S) ∧ PaC M' ap lim P.dropLast ∧ Fw XA M M' := by
  obtain ⟨M1, e1, p1, s1, f1⟩ := c_restore hW hP h
  refine ⟨M1, fun d Q => ?_, s1, p1, f1.mo (fun c j z => z.elim Or.inr Or.inl)⟩
  rw [eX10_undo]
  simp (disch := (first | assumption | omega | decide)) only [sX10_undo_0, sX10_undo_1, sX10_undo_4, sX10_undo_5, sX10_undo_8, sX10_undo_11, kI_i, kL_l, kV_v, am_rv_s, am_kl_i, am_kl_r, am_kl_n, am_kl_l, true_and, and_true, and_self, true_or, or_true, implies_true, forall_const, not_true_eq_false, not_false_eq_true, false_implies, true_implies, if_true, if_false, Bool.true_eq_false, Bool.false_eq_true, ob_0, ob_30, r_0_1, r_0_5, e1]
/-- whether an apprentice (bits kn) knows a sort -/
def knw (x so : Int32) : Bool := decide ((x >>> (so &&& 31)) &&& 1 = 1)
def hasA (ap : Nat) (y : Int32) : Bool := decide (0 ≤ y ∧ y < nI ap)
theorem hasA_x {y : Int32} (hap : ap ≤ 4) (h : hasA ap y = true) : ∃ i, i < ap ∧ y = nI i := app_x hap (of_decide_eq_true h)
theorem c_knowsS {y so : Int32} (h : StC M 3 ap lim S) : am_big (d + 2) mX8_knows [.ref 3, .int y, .int so] 488 M Q = Q (some (.int (bz (hasA ap y && knw (S.2.1 y.toNatClampNeg) so)))) M := by
  have hap := h.2.2.2.2.2.2.2.1
  rw [c_knows h.1 h.2.2.1 hap]
  unfold hasA knw
  by_cases c : 0 ≤ y ∧ y < nI ap
  · obtain ⟨i, hi, rfl⟩ := app_x hap c
    have g := (h.2.2.2.2.2.1 i hi).1
    rw [nI_clamp (by omega)]
    rw [show gI M (3 + 5) i = S.2.1 i from g]
    simp only [bits01, Classical.not_not]
  · rw [decide_eq_false c, Bool.false_and, Bool.false_and]
theorem c_hasS {y : Int32} (h : StC M 3 ap lim S) : am_big (d + 1) mX8_hasApprentice [.ref 3, .int y] 488 M Q = Q (some (.int (bz (hasA ap y)))) M := c_hasApp h.1 h.2.2.1
def tksA (ap : Nat) (S : Sg) (ya y : Int32) : Bool := decide (0 ≤ y ∧ y < nI S.1.length) && (hasA ap ya && knw (S.2.1 ya.toNatClampNeg) (sf S.1 y.toNatClampNeg))
theorem c_takes {ya y : Int32} (hW : WR M) (hP : PaC M ap lim P) (h : StC M 3 ap lim S) : ∃ M', (∀ d (Q : am_Q), am_big (d + 6) mX10_takes [.ref 0, .int ya, .int y] 488 M Q = Q (some (.int (if tksA ap S ya y = true ∧ tkA ap S y.toNatClampNeg = true then nI (S.1.length - 1) else -1))) M') ∧ StC M' 3 ap lim (if tksA ap S ya y = true ∧ tkA ap S y.toNatClampNeg = true then tkS (tS S) y.toNatClampNeg else S) ∧ PaC M' ap lim (if tksA ap S ya y = true ∧ tkA ap S y.toNatClampNeg = true then paA P S else P) ∧ Fw XA M M' := by
  have hLH := StC_LH h
  have hsz : gI M 4 3 = nI S.1.length := hLH.1.2.1
  have hl16 := hLH.1.2.2
  have hh : ∀ d (Q : am_Q), am_big (d + 1) mX0_has [.ref 4, .int y] 488 M Q = Q (some (.int (bz (decide (0 ≤ y ∧ y < nI S.1.length))))) M := fun d Q => by rw [c_has hLH.1.1, hsz]
  by_cases c2 : 0 ≤ y ∧ y < nI S.1.length
  · obtain ⟨e, he, rfl⟩ : ∃ e, e < S.1.length ∧ y = nI e := by
      obtain ⟨j, hj, ej⟩ := nI_of (Int32.not_lt.mpr c2.1)
      have := c2.2
      rw [ej, nI_ltE hj (by omega)] at this
      exact ⟨j, this, ej⟩
    have gs : gI M 5 e = sf S.1 e := (LH_s hLH e he).1
    have kn := fun d (Q : am_Q) so => c_knowsS (d := d) (Q := Q) (y := ya) (so := so) h
    cases c3 : (hasA ap ya && knw (S.2.1 ya.toNatClampNeg) (sf S.1 e)) with
    | false =>
      have hz : ¬ (tksA ap S ya (nI e) = true ∧ tkA ap S (nI e).toNatClampNeg = true) := fun z => by have := z.1; unfold tksA at this; rw [nI_clamp (by omega), c3, Bool.and_false] at this; cases this
      rw [if_neg hz, if_neg hz, if_neg hz]
      refine ⟨M, fun d Q => ?_, h, hP, Fw.rf⟩
      rw [eX10_takes]
      simp (disch := (first | assumption | omega | decide)) only [sX10_takes_0, sX10_takes_1, sX10_takes_4, sX10_takes_7, sX10_takes_8, sX10_takes_11, sX10_takes_14, sX10_takes_15, sX10_takes_18, sX10_takes_19, sX10_takes_20, sX10_takes_23, sX10_takes_26, sX10_takes_29, sX10_takes_30, sX10_takes_31, sX10_takes_34, sX10_takes_37, sX10_takes_38, sX10_takes_39, sX10_takes_40, sX10_takes_41, sX10_takes_44, kI_i, kL_l, kV_v, am_rv_s, am_kl_i, am_kl_r, am_kl_n, am_kl_l, true_and, and_true, and_self, true_or, or_true, implies_true, forall_const, not_true_eq_false, not_false_eq_true, false_implies, true_implies, if_true, if_false, Bool.true_eq_false, Bool.false_eq_true, ob_0, ob_3, ob_4, r_0_1, r_3_0, r_4_0, hh, c2, decide_true, bz_t, i01, in_5, nI_clamp, gs, kn, c3, bz_f]
    | true =>
      have hz : (tksA ap S ya (nI e) = true ∧ tkA ap S (nI e).toNatClampNeg = true) = (0 ≤ nI e ∧ tkA ap S (nI e).toNatClampNeg = true) := by
        have : tksA ap S ya (nI e) = true := by unfold tksA; rw [nI_clamp (by omega), c3, decide_eq_true c2]; rfl
        simp only [this, true_and, c2.1]
      obtain ⟨M', e1, r⟩ := c_undoes (y := nI e) hW hP h
      simp only [hz]
      refine ⟨M', fun d Q => ?_, r⟩
      rw [eX10_takes]
      simp (disch := (first | assumption | omega | decide)) only [sX10_takes_0, sX10_takes_1, sX10_takes_4, sX10_takes_7, sX10_takes_8, sX10_takes_11, sX10_takes_14, sX10_takes_15, sX10_takes_18, sX10_takes_19, sX10_takes_20, sX10_takes_23, sX10_takes_26, sX10_takes_29, sX10_takes_30, sX10_takes_31, sX10_takes_34, sX10_takes_37, sX10_takes_38, sX10_takes_39, sX10_takes_40, sX10_takes_41, sX10_takes_44, kI_i, kL_l, kV_v, am_rv_s, am_kl_i, am_kl_r, am_kl_n, am_kl_l, true_and, and_true, and_self, true_or, or_true, implies_true, forall_const, not_true_eq_false, not_false_eq_true, false_implies, true_implies, if_true, if_false, Bool.true_eq_false, Bool.false_eq_true, ob_0, ob_3, ob_4, r_0_1, r_3_0, r_4_0, hh, c2, decide_true, bz_t, i01, in_5, nI_clamp, gs, kn, c3, e1]
  · have hz : ¬ (tksA ap S ya y = true ∧ tkA ap S y.toNatClampNeg = true) := fun z => by have := z.1; unfold tksA at this; rw [decide_eq_false c2] at this; cases this
    rw [if_neg hz, if_neg hz, if_neg hz]
    refine ⟨M, fun d Q => ?_, h, hP, Fw.rf⟩
    rw [eX10_takes]
    simp (disch := (first | assumption | omega | decide)) only [sX10_takes_0, sX10_takes_1, sX10_takes_4, sX10_takes_7, sX10_takes_8, sX10_takes_11, sX10_takes_14, sX10_takes_15, sX10_takes_18, sX10_takes_19, sX10_takes_20, sX10_takes_23, sX10_takes_26, sX10_takes_29, sX10_takes_30, sX10_takes_31, sX10_takes_34, sX10_takes_37, sX10_takes_38, sX10_takes_39, sX10_takes_40, sX10_takes_41, sX10_takes_44, kI_i, kL_l, kV_v, am_rv_s, am_kl_i, am_kl_r, am_kl_n, am_kl_l, true_and, and_true, and_self, true_or, or_true, implies_true, forall_const, not_true_eq_false, not_false_eq_true, false_implies, true_implies, if_true, if_false, Bool.true_eq_false, Bool.false_eq_true, ob_0, ob_3, ob_4, r_0_1, r_3_0, hh, c2, decide_false, bz_f]
theorem cac_t (h : cac ap S = true) : S.2.2.2.1 < 9999 := by
  unfold cac at h
  rw [Bool.and_eq_true, decide_eq_true_eq] at h; exact h.2
theorem StN_kn {i : Nat} {v : Int32} (h : StN M 3 ap lim S n) (hi : i < 4) : StN (sI M 8 i v) 3 ap lim (S.1, up S.2.1 i v, S.2.2) n := by
  obtain ⟨h1, h2, h3, h4, h5, h6, ⟨h7, h9⟩, h10, h11⟩ := h
  refine ⟨h1, LH_of (M := M) (fun c j x y => gI_o (by omega)) (fun _ _ _ _ => rfl) h2, by rw [gI_o (by omega)]; exact h3, by rw [gI_o (by omega)]; exact h4, by rw [gI_o (by omega)]; exact h5, fun k hk => ⟨?_, ?_⟩, ⟨by rw [gI_o (by omega)]; exact h7, h9.1, fun k hk => ?_⟩, h10, h11⟩
  · show gI (sI M 8 i v) 8 k = up S.2.1 i v k
    rw [gI_sI]
    unfold up
    by_cases z : k = i
    · rw [if_pos ⟨rfl, z⟩, if_pos z]
    · rw [if_neg (fun w => z w.2), if_neg z]; exact (h6 k hk).1
  · rw [gI_o (by omega)]; exact (h6 k hk).2
  · rw [gI_o (by omega), gI_o (by omega)]; exact h9.2 k hk
theorem rb_flip : ∀ rb, rb < 16 → ∀ a, a < 4 → (rb ^^^ 2 ^ a) < 16 ∧ (1 - bz (rb.testBit a) = bz ((rb ^^^ 2 ^ a).testBit a)) ∧ ∀ k, k < 4 → ¬ k = a → (rb ^^^ 2 ^ a).testBit k = rb.testBit k := by decide +kernel
theorem StN_rm {i : Nat} (h : StN M 3 ap lim S n) (hi : i < 4) (hrb : S.2.2.1 < 16) : StN (sI M 9 i (bz ((S.2.2.1 ^^^ 2 ^ i).testBit i))) 3 ap lim (S.1, S.2.1, S.2.2.1 ^^^ 2 ^ i, S.2.2.2) n := by
  obtain ⟨h1, h2, h3, h4, h5, h6, ⟨h7, h9⟩, h10, h11⟩ := h
  refine ⟨h1, LH_of (M := M) (fun c j x y => gI_o (by omega)) (fun _ _ _ _ => rfl) h2, by rw [gI_o (by omega)]; exact h3, by rw [gI_o (by omega)]; exact h4, by rw [gI_o (by omega)]; exact h5, fun k hk => ⟨?_, ?_⟩, ⟨by rw [gI_o (by omega)]; exact h7, h9.1, fun k hk => ?_⟩, h10, h11⟩
  · rw [gI_o (by omega)]; exact (h6 k hk).1
  · show gI (sI M 9 i _) 9 k = bz ((S.2.2.1 ^^^ 2 ^ i).testBit k)
    rw [gI_sI]
    by_cases z : k = i
    · rw [if_pos ⟨rfl, z⟩, z]
    · rw [if_neg (fun w => z w.2), (rb_flip _ hrb i hi).2.2 k (by omega) z]; exact (h6 k hk).2
  · rw [gI_o (by omega), gI_o (by omega)]; exact h9.2 k hk
def enS (S : Sg) (i : Nat) : Sg := (S.1, S.2.1, S.2.2.1 ^^^ 2 ^ i, S.2.2.2)
theorem c_enter {y : Int32} (hW : WR M) (hrb : S.2.2.1 < 16) (hP : PaC M ap lim P) (h : StC M 3 ap lim S) : ∃ M', (∀ d (Q : am_Q), am_big (d + 5) mX10_enter [.ref 0, .int y] 488 M Q = Q (some (.int (if (cac ap S && hasA ap y) = true then bz ((S.2.2.1 ^^^ 2 ^ y.toNatClampNeg).testBit y.toNatClampNeg) else -1))) M') ∧ StC M' 3 ap lim (if (cac ap S && hasA ap y) = true then enS (tS S) y.toNatClampNeg else S) ∧ PaC M' ap lim (if (cac ap S && hasA ap y) = true then paA P S else P) ∧ Fw XA M M' := by
  have hap := h.2.2.2.2.2.2.2.1
  cases c1 : cac ap S with
  | false =>
    refine ⟨M, fun d Q => ?_, by simpa using h, by simpa using hP, Fw.rf⟩
    rw [eX10_enter]
    simp (disch := (first | assumption | omega | decide)) only [sX10_enter_0, sX10_enter_1, sX10_enter_4, sX10_enter_7, sX10_enter_8, sX10_enter_11, sX10_enter_12, sX10_enter_15, sX10_enter_18, sX10_enter_19, sX10_enter_20, sX10_enter_21, sX10_enter_24, sX10_enter_25, sX10_enter_28, sX10_enter_31, sX10_enter_32, sX10_enter_33, sX10_enter_34, sX10_enter_37, sX10_enter_40, sX10_enter_41, sX10_enter_42, sX10_enter_43, sX10_enter_44, sX10_enter_45, sX10_enter_48, sX10_enter_51, sX10_enter_52, sX10_enter_53, kI_i, kL_l, kV_v, am_rv_s, am_kl_i, am_kl_r, am_kl_n, am_kl_l, true_and, and_true, and_self, true_or, or_true, implies_true, forall_const, not_true_eq_false, not_false_eq_true, false_implies, true_implies, if_true, if_false, Bool.true_eq_false, Bool.false_eq_true, ob_0, c_canAct hW h, c1, bz_f, Bool.false_and]
  | true =>
    cases c2 : hasA ap y with
    | false =>
      refine ⟨M, fun d Q => ?_, by simpa using h, by simpa using hP, Fw.rf⟩
      rw [eX10_enter]
      simp (disch := (first | assumption | omega | decide)) only [sX10_enter_0, sX10_enter_1, sX10_enter_4, sX10_enter_7, sX10_enter_8, sX10_enter_11, sX10_enter_12, sX10_enter_15, sX10_enter_18, sX10_enter_19, sX10_enter_20, sX10_enter_21, sX10_enter_24, sX10_enter_25, sX10_enter_28, sX10_enter_31, sX10_enter_32, sX10_enter_33, sX10_enter_34, sX10_enter_37, sX10_enter_40, sX10_enter_41, sX10_enter_42, sX10_enter_43, sX10_enter_44, sX10_enter_45, sX10_enter_48, sX10_enter_51, sX10_enter_52, sX10_enter_53, kI_i, kL_l, kV_v, am_rv_s, am_kl_i, am_kl_r, am_kl_n, am_kl_l, true_and, and_true, and_self, true_or, or_true, implies_true, forall_const, not_true_eq_false, not_false_eq_true, false_implies, true_implies, if_true, if_false, Bool.true_eq_false, Bool.false_eq_true, ob_0, ob_3, r_0_1, c_canAct hW h, c1, bz_t, i01, c_hasS h, c2, bz_f, Bool.and_false]
    | true =>
      obtain ⟨i, hi, rfl⟩ := hasA_x hap c2
      have hact := cac_t c1
      obtain ⟨M1, n, e1, s1, hn, p1, f1, w1⟩ := c_begin hW hP h
      have s2 := StN_rm (i := i) s1 (by omega) hrb
      have s2 := s2.c (by show n ≤ S.2.2.2.1 + 1; omega) (by show S.2.2.2.1 + 1 ≤ 9999; omega)
      have g9 : gI M1 9 i = bz (S.2.2.1.testBit i) := (s1.2.2.2.2.2.1 i hi).2
      have hfl := (rb_flip _ hrb i (by omega)).2.1
      rw [nI_clamp (by omega)]
      have f2 : Fw (fun c j => c = 9) M1 (sI M1 9 i (bz ((S.2.2.1 ^^^ 2 ^ i).testBit i))) := Fw.s (by omega)
      refine ⟨sI M1 9 i (bz ((S.2.2.1 ^^^ 2 ^ i).testBit i)), fun d Q => ?_, (by rw [if_pos (by rfl)]; exact s2), by simpa using PaC_Fw f2 (fun c j z => by omega) p1, f1.tr (f2.mo (fun c j z => Or.inl (by omega)))⟩
      rw [eX10_enter]
      simp (disch := (first | assumption | omega | decide)) only [sX10_enter_0, sX10_enter_1, sX10_enter_4, sX10_enter_7, sX10_enter_8, sX10_enter_11, sX10_enter_12, sX10_enter_15, sX10_enter_18, sX10_enter_19, sX10_enter_20, sX10_enter_21, sX10_enter_24, sX10_enter_25, sX10_enter_28, sX10_enter_31, sX10_enter_32, sX10_enter_33, sX10_enter_34, sX10_enter_37, sX10_enter_40, sX10_enter_41, sX10_enter_42, sX10_enter_43, sX10_enter_44, sX10_enter_45, sX10_enter_48, sX10_enter_51, sX10_enter_52, sX10_enter_53, kI_i, kL_l, kV_v, am_rv_s, am_kl_i, am_kl_r, am_kl_n, am_kl_l, true_and, and_true, and_self, true_or, or_true, implies_true, forall_const, not_true_eq_false, not_false_eq_true, false_implies, true_implies, if_true, if_false, Bool.true_eq_false, Bool.false_eq_true, ob_0, ob_3, r_0_1, r_3_2, c_canAct hW h, c1, bz_t, i01, c_hasS h, c2, e1, in_9, iw_9, nI_clamp, g9, hfl, gR_sI, gI_e, Bool.and_self]
theorem c_isSort {x : Int32} : am_big (d + 1) mX10_isSort [.int x] 488 M Q = Q (some (.int (bz (decide (0 ≤ x ∧ x ≤ 4))))) M := by
  have e : (5 ≤ x) = ¬ x ≤ 4 := by
    rw [Int32.le_iff_toInt_le, Int32.le_iff_toInt_le]
    have e1 : (5 : Int32).toInt = 5 := by decide
    have e2 : (4 : Int32).toInt = 4 := by decide
    rw [e1, e2]; exact propext (by omega)
  rw [eX10_isSort]
  simp only [sX10_isSort_0, sX10_isSort_1, sX10_isSort_4, sX10_isSort_5, sX10_isSort_6, sX10_isSort_9, sX10_isSort_10, sX10_isSort_13, sX10_isSort_14, kI_i, kL_l, kV_v, am_rv_s, am_kl_i, am_kl_r, am_kl_n, am_kl_l, true_and, and_true, and_self, true_or, or_true, implies_true, forall_const, not_true_eq_false, not_false_eq_true, false_implies, true_implies, if_true, if_false, Bool.true_eq_false, Bool.false_eq_true, e, ← Int32.not_lt]
  by_cases q1 : x < 0
  · simp [q1, bz]
  · by_cases q2 : 4 < x
    · simp [q1, q2, bz]
    · simp [q1, q2, bz]
def fgA (ap : Nat) (S : Sg) (y so : Int32) : Bool := cac ap S && (decide (0 ≤ so ∧ so ≤ 4) && (hasA ap y && knw (S.2.1 y.toNatClampNeg) so))
def fgV (v so : Int32) : Int32 := v &&& ((1 <<< (so &&& 31)) ^^^ (-1))
def fgS (S : Sg) (i : Nat) (so : Int32) : Sg := (S.1, up S.2.1 i (fgV (S.2.1 i) so), S.2.2)
theorem c_forgets {y so : Int32} (hW : WR M) (hP : PaC M ap lim P) (h : StC M 3 ap lim S) : ∃ M', (∀ d (Q : am_Q), am_big (d + 5) mX10_forgets [.ref 0, .int y, .int so] 488 M Q = Q (some (.int (if fgA ap S y so = true then fgV (S.2.1 y.toNatClampNeg) so else -1))) M') ∧ StC M' 3 ap lim (if fgA ap S y so = true then fgS (tS S) y.toNatClampNeg so else S) ∧ PaC M' ap lim (if fgA ap S y so = true then paA P S else P) ∧ Fw XA M M' := by
  have hap := h.2.2.2.2.2.2.2.1
  unfold fgA
  cases c1 : cac ap S with
  | false =>
    refine ⟨M, fun d Q => ?_, by simpa using h, by simpa using hP, Fw.rf⟩
    rw [eX10_forgets]
    simp (disch := (first | assumption | omega | decide)) only [sX10_forgets_0, sX10_forgets_1, sX10_forgets_4, sX10_forgets_7, sX10_forgets_8, sX10_forgets_11, sX10_forgets_14, sX10_forgets_15, sX10_forgets_18, sX10_forgets_19, sX10_forgets_20, sX10_forgets_23, sX10_forgets_26, sX10_forgets_27, sX10_forgets_28, sX10_forgets_29, sX10_forgets_32, sX10_forgets_33, sX10_forgets_36, sX10_forgets_39, sX10_forgets_40, sX10_forgets_41, sX10_forgets_42, sX10_forgets_43, sX10_forgets_44, sX10_forgets_45, sX10_forgets_46, sX10_forgets_47, sX10_forgets_48, sX10_forgets_49, sX10_forgets_50, sX10_forgets_53, sX10_forgets_56, sX10_forgets_57, sX10_forgets_58, kI_i, kL_l, kV_v, am_rv_s, am_kl_i, am_kl_r, am_kl_n, am_kl_l, true_and, and_true, and_self, true_or, or_true, implies_true, forall_const, not_true_eq_false, not_false_eq_true, false_implies, true_implies, if_true, if_false, Bool.true_eq_false, Bool.false_eq_true, ob_0, c_canAct hW h, c1, bz_f, Bool.false_and]
  | true =>
    cases c2 : decide (0 ≤ so ∧ so ≤ 4) with
    | false =>
      refine ⟨M, fun d Q => ?_, by simpa using h, by simpa using hP, Fw.rf⟩
      rw [eX10_forgets]
      simp (disch := (first | assumption | omega | decide)) only [sX10_forgets_0, sX10_forgets_1, sX10_forgets_4, sX10_forgets_7, sX10_forgets_8, sX10_forgets_11, sX10_forgets_14, sX10_forgets_15, sX10_forgets_18, sX10_forgets_19, sX10_forgets_20, sX10_forgets_23, sX10_forgets_26, sX10_forgets_27, sX10_forgets_28, sX10_forgets_29, sX10_forgets_32, sX10_forgets_33, sX10_forgets_36, sX10_forgets_39, sX10_forgets_40, sX10_forgets_41, sX10_forgets_42, sX10_forgets_43, sX10_forgets_44, sX10_forgets_45, sX10_forgets_46, sX10_forgets_47, sX10_forgets_48, sX10_forgets_49, sX10_forgets_50, sX10_forgets_53, sX10_forgets_56, sX10_forgets_57, sX10_forgets_58, kI_i, kL_l, kV_v, am_rv_s, am_kl_i, am_kl_r, am_kl_n, am_kl_l, true_and, and_true, and_self, true_or, or_true, implies_true, forall_const, not_true_eq_false, not_false_eq_true, false_implies, true_implies, if_true, if_false, Bool.true_eq_false, Bool.false_eq_true, ob_0, c_canAct hW h, c1, bz_t, i01, c_isSort, c2, bz_f, Bool.false_and, Bool.and_false]
    | true =>
      cases c3 : (hasA ap y && knw (S.2.1 y.toNatClampNeg) so) with
      | false =>
        refine ⟨M, fun d Q => ?_, by simpa using h, by simpa using hP, Fw.rf⟩
        rw [eX10_forgets]
        simp (disch := (first | assumption | omega | decide)) only [sX10_forgets_0, sX10_forgets_1, sX10_forgets_4, sX10_forgets_7, sX10_forgets_8, sX10_forgets_11, sX10_forgets_14, sX10_forgets_15, sX10_forgets_18, sX10_forgets_19, sX10_forgets_20, sX10_forgets_23, sX10_forgets_26, sX10_forgets_27, sX10_forgets_28, sX10_forgets_29, sX10_forgets_32, sX10_forgets_33, sX10_forgets_36, sX10_forgets_39, sX10_forgets_40, sX10_forgets_41, sX10_forgets_42, sX10_forgets_43, sX10_forgets_44, sX10_forgets_45, sX10_forgets_46, sX10_forgets_47, sX10_forgets_48, sX10_forgets_49, sX10_forgets_50, sX10_forgets_53, sX10_forgets_56, sX10_forgets_57, sX10_forgets_58, kI_i, kL_l, kV_v, am_rv_s, am_kl_i, am_kl_r, am_kl_n, am_kl_l, true_and, and_true, and_self, true_or, or_true, implies_true, forall_const, not_true_eq_false, not_false_eq_true, false_implies, true_implies, if_true, if_false, Bool.true_eq_false, Bool.false_eq_true, ob_0, ob_3, r_0_1, c_canAct hW h, c1, bz_t, i01, c_isSort, c2, c_knowsS h, c3, bz_f, Bool.and_false]
      | true =>
        have c3' : hasA ap y = true := (Bool.and_eq_true _ _ ▸ c3).1
        obtain ⟨i, hi, rfl⟩ := hasA_x hap c3'
        have hact := cac_t c1
        obtain ⟨M1, n, e1, s1, hn, p1, f1, w1⟩ := c_begin hW hP h
        have g8 : gI M1 8 i = S.2.1 i := (s1.2.2.2.2.2.1 i hi).1
        have s2 := StN_kn (i := i) (v := fgV (S.2.1 i) so) s1 (by omega)
        have s2 := s2.c (by show n ≤ S.2.2.2.1 + 1; omega) (by show S.2.2.2.1 + 1 ≤ 9999; omega)
        have f2 : Fw (fun c j => c = 8) M1 (sI M1 8 i (fgV (S.2.1 i) so)) := Fw.s (by omega)
        rw [nI_clamp (by omega)] at c3 ⊢
        have kn := fun d (Q : am_Q) => c_knowsS (d := d) (Q := Q) (y := nI i) (so := so) h
        rw [nI_clamp (by omega)] at kn
        refine ⟨sI M1 8 i (fgV (S.2.1 i) so), fun d Q => ?_, (by rw [if_pos (by rfl)]; exact s2), by simpa using PaC_Fw f2 (fun c j z => by omega) p1, f1.tr (f2.mo (fun c j z => Or.inl (by omega)))⟩
        rw [eX10_forgets]
        unfold fgV
        simp (disch := (first | assumption | omega | decide)) only [sX10_forgets_0, sX10_forgets_1, sX10_forgets_4, sX10_forgets_7, sX10_forgets_8, sX10_forgets_11, sX10_forgets_14, sX10_forgets_15, sX10_forgets_18, sX10_forgets_19, sX10_forgets_20, sX10_forgets_23, sX10_forgets_26, sX10_forgets_27, sX10_forgets_28, sX10_forgets_29, sX10_forgets_32, sX10_forgets_33, sX10_forgets_36, sX10_forgets_39, sX10_forgets_40, sX10_forgets_41, sX10_forgets_42, sX10_forgets_43, sX10_forgets_44, sX10_forgets_45, sX10_forgets_46, sX10_forgets_47, sX10_forgets_48, sX10_forgets_49, sX10_forgets_50, sX10_forgets_53, sX10_forgets_56, sX10_forgets_57, sX10_forgets_58, kI_i, kL_l, kV_v, am_rv_s, am_kl_i, am_kl_r, am_kl_n, am_kl_l, true_and, and_true, and_self, true_or, or_true, implies_true, forall_const, not_true_eq_false, not_false_eq_true, false_implies, true_implies, if_true, if_false, Bool.true_eq_false, Bool.false_eq_true, ob_0, ob_3, r_0_1, r_3_1, c_canAct hW h, c1, bz_t, i01, c_isSort, c2, kn, c3, e1, in_8, iw_8, nI_clamp, g8, gR_sI, gI_e, Bool.and_self]
def slS (S : Sg) : Sg := ([], S.2.1, S.2.2.1, S.2.2.2.1, lgA S.2.2.2.2 10 0)
theorem c_sell (hW : WR M) (hP : PaC M ap lim P) (h : StC M 3 ap lim S) : ∃ M', (∀ d (Q : am_Q), am_big (d + 5) mX10_sell [.ref 0] 488 M Q = Q (some (.int (if (cac ap S && decide (0 < S.1.length)) = true then nI S.1.length else -1))) M') ∧ StC M' 3 ap lim (if (cac ap S && decide (0 < S.1.length)) = true then slS (tS S) else S) ∧ PaC M' ap lim (if (cac ap S && decide (0 < S.1.length)) = true then paA P S else P) ∧ Fw XA M M' := by
  have hLH := StC_LH h
  have hsz : gI M 4 3 = nI S.1.length := hLH.1.2.1
  have hl16 := hLH.1.2.2
  cases c1 : cac ap S with
  | false =>
    refine ⟨M, fun d Q => ?_, by simpa using h, by simpa using hP, Fw.rf⟩
    rw [eX10_sell]
    simp (disch := (first | assumption | omega | decide)) only [sX10_sell_0, sX10_sell_1, sX10_sell_4, sX10_sell_7, sX10_sell_10, sX10_sell_11, sX10_sell_12, sX10_sell_15, sX10_sell_18, sX10_sell_19, sX10_sell_22, sX10_sell_23, sX10_sell_24, sX10_sell_25, sX10_sell_28, sX10_sell_29, sX10_sell_32, sX10_sell_35, sX10_sell_36, sX10_sell_39, sX10_sell_40, sX10_sell_43, sX10_sell_45, sX10_sell_48, sX10_sell_49, kI_i, kL_l, kV_v, am_rv_s, am_kl_i, am_kl_r, am_kl_n, am_kl_l, true_and, and_true, and_self, true_or, or_true, implies_true, forall_const, not_true_eq_false, not_false_eq_true, false_implies, true_implies, if_true, if_false, Bool.true_eq_false, Bool.false_eq_true, ob_0, ob_3, ob_4, r_0_1, r_3_0, hsz, c_canAct hW h, c1, bz_f, Bool.false_and]
  | true =>
    by_cases c2 : 0 < S.1.length
    · have e0 : (nI S.1.length = 0) = False := by rw [nI_z (by omega)]; exact eq_false (by omega)
      have hact := cac_t c1
      obtain ⟨M1, n, e1, s1, hn, p1, f1, w1⟩ := c_begin hW hP h
      have s2 : StN (sI M1 4 3 0) 3 ap lim ([], (tS S).2) n := by
        obtain ⟨h1, h2, h3, h4, h5, h6, ⟨h7, h9⟩, h10, h11⟩ := s1
        refine ⟨h1, ⟨⟨h2.1.1, gI_e, by simp⟩, fun k t hk => by cases hk⟩, by rw [gI_o (by omega)]; exact h3, by rw [gI_o (by omega)]; exact h4, by rw [gI_o (by omega)]; exact h5, fun k hk => by rw [gI_o (by omega), gI_o (by omega)]; exact h6 k hk, ⟨by rw [gI_o (by omega)]; exact h7, h9.1, fun k hk => by rw [gI_o (by omega), gI_o (by omega)]; exact h9.2 k hk⟩, h10, h11⟩
      obtain ⟨M2, e2, s3, f3⟩ := c_note (x := 10) s2
      have s3 := (s3 (by omega)).c (by show n + 1 ≤ S.2.2.2.1 + 1; omega) (by show S.2.2.2.1 + 1 ≤ 9999; omega)
      have f2 : Fw (fun c j => 3 ≤ c ∧ c ≤ 11) M1 (sI M1 4 3 0) := Fw.s (by omega)
      have f23 := f2.tr (f3.mo (fun c j z => by omega))
      refine ⟨M2, fun d Q => ?_, ?_, by simpa [c2] using PaC_Fw f23 (fun c j z => by omega) p1, f1.tr (f23.mo (fun c j z => Or.inl z))⟩
      · rw [eX10_sell]
        simp (disch := (first | assumption | omega | decide)) only [sX10_sell_0, sX10_sell_1, sX10_sell_4, sX10_sell_7, sX10_sell_10, sX10_sell_11, sX10_sell_12, sX10_sell_15, sX10_sell_18, sX10_sell_19, sX10_sell_22, sX10_sell_23, sX10_sell_24, sX10_sell_25, sX10_sell_28, sX10_sell_29, sX10_sell_32, sX10_sell_35, sX10_sell_36, sX10_sell_39, sX10_sell_40, sX10_sell_43, sX10_sell_45, sX10_sell_48, sX10_sell_49, kI_i, kL_l, kV_v, am_rv_s, am_kl_i, am_kl_r, am_kl_n, am_kl_l, true_and, and_true, and_self, true_or, or_true, implies_true, forall_const, not_true_eq_false, not_false_eq_true, false_implies, true_implies, if_true, if_false, Bool.true_eq_false, Bool.false_eq_true, ob_0, ob_3, ob_4, r_0_1, r_3_0, hsz, c_canAct hW h, c1, bz_t, i01, e0, c2, e1, e2, gR_sI, decide_true, Bool.and_self]
      · simp only [c2, decide_true, Bool.and_self, if_true]
        exact s3
    · have e0 : (nI S.1.length = 0) = True := by rw [nI_z (by omega)]; exact eq_true (by omega)
      refine ⟨M, fun d Q => ?_, by simpa [c2] using h, by simpa [c2] using hP, Fw.rf⟩
      rw [eX10_sell]
      simp (disch := (first | assumption | omega | decide)) only [sX10_sell_0, sX10_sell_1, sX10_sell_4, sX10_sell_7, sX10_sell_10, sX10_sell_11, sX10_sell_12, sX10_sell_15, sX10_sell_18, sX10_sell_19, sX10_sell_22, sX10_sell_23, sX10_sell_24, sX10_sell_25, sX10_sell_28, sX10_sell_29, sX10_sell_32, sX10_sell_35, sX10_sell_36, sX10_sell_39, sX10_sell_40, sX10_sell_43, sX10_sell_45, sX10_sell_48, sX10_sell_49, kI_i, kL_l, kV_v, am_rv_s, am_kl_i, am_kl_r, am_kl_n, am_kl_l, true_and, and_true, and_self, true_or, or_true, implies_true, forall_const, not_true_eq_false, not_false_eq_true, false_implies, true_implies, if_true, if_false, Bool.true_eq_false, Bool.false_eq_true, ob_0, ob_3, ob_4, r_0_1, r_3_0, hsz, c_canAct hW h, c1, bz_t, i01, e0, c2, decide_false, Bool.and_false, Bool.false_eq_true]
end
