/-! the steps of a making, done up to the first that can't be -/
def fow (lim : Nat) (pl : List Dd) : Nat → Nat → List Dd → Nat × List Dd
  | 0, i, l => (i, l)
  | j + 1, i, l => if (decide (l.length < lim) && cbL l (sf pl i) (pf pl i) (xf pl i)) = true then fow lim pl j (i + 1) (l ++ [(sf pl i, pf pl i, xdd (sf pl i) (xf pl i))]) else (i, l)
theorem fow_t {lim : Nat} {pl : List Dd} {j i : Nat} {l : List Dd} (h : (decide (l.length < lim) && cbL l (sf pl i) (pf pl i) (xf pl i)) = true) : fow lim pl (j + 1) i l = fow lim pl j (i + 1) (l ++ [(sf pl i, pf pl i, xdd (sf pl i) (xf pl i))]) := if_pos h
theorem fow_f {lim : Nat} {pl : List Dd} {j i : Nat} {l : List Dd} (h : (decide (l.length < lim) && cbL l (sf pl i) (pf pl i) (xf pl i)) = false) : fow lim pl (j + 1) i l = (i, l) := if_neg (by rw [h]; decide)
theorem fow_ok {lim : Nat} {pl : List Dd} (hlim : lim ≤ 12) : ∀ j i l, WFl l → l.length ≤ 12 → WFl (fow lim pl j i l).2 ∧ (fow lim pl j i l).2.length ≤ 12 ∧ (fow lim pl j i l).1 ≤ i + j
  | 0, i, l, hw, hl => ⟨hw, hl, Nat.le_refl _⟩
  | j + 1, i, l, hw, hl => by
    cases c : (decide (l.length < lim) && cbL l (sf pl i) (pf pl i) (xf pl i)) with
    | true =>
      rw [fow_t c]
      rw [Bool.and_eq_true, decide_eq_true_eq] at c
      have := fow_ok (pl := pl) hlim j (i + 1) _ (WF_add hw c.2).1 (by simp; omega)
      exact ⟨this.1, this.2.1, by omega⟩
    | false => rw [fow_f c]; exact ⟨hw, hl, by simp⟩
section
variable {M N : am_M} {ap lim : Nat} {S : Sg} {P : List Sg} {pl l : List Dd} {PL : List (List Dd)} {a b : Nat}
theorem LH_cpy (h : DLs M a) (hb : LH M b l) (hd : a + 3 < b ∨ b + 3 < a) : LH (cpyM M a b l.length) a l := by
  obtain ⟨⟨h1, h2, h3⟩, h4⟩ := hb
  refine ⟨⟨DLs_of (fun c j _ _ => rfl) h, ?_, h3⟩, fun k t e => ?_⟩
  · unfold cpyM
    rw [gI_cpo (by omega), gI_cpo (by omega), gI_cpo (by omega), gI_e]
  · have hk : k < l.length := (List.getElem?_eq_some_iff.mp e).1
    obtain ⟨e1, e2, e3⟩ := h4 k t e
    unfold cpyM
    refine ⟨?_, ?_, ?_⟩
    · rw [gI_cpo (by omega), gI_cpo (by omega), gI_cpi (Nat.zero_le _) (by omega), gI_o (by omega)]
      simpa using e1
    · rw [gI_cpo (by omega), gI_cpi (Nat.zero_le _) (by omega), gI_cpo (by omega), gI_o (by omega)]
      simpa using e2
    · rw [gI_cpi (Nat.zero_le _) (by omega), gI_cpo (by omega), gI_cpo (by omega), gI_o (by omega)]
      simpa using e3
theorem Fw_cpy {n : Nat} : Fw (fun c _ => a ≤ c ∧ c ≤ a + 3) M (cpyM M a b n) := by
  unfold cpyM
  exact (((Fw.s (by omega)).tr (Fw.c (fun _ => by omega))).tr (Fw.c (fun _ => by omega))).tr (Fw.c (fun _ => by omega))
theorem l_follow (hlim : lim ≤ 12) (hd : a + 3 < b ∨ b + 3 < a) : ∀ (j i : Nat) (l : List Dd) (M : am_M), i + j = pl.length → LH M a l → LH M b pl → l.length ≤ 12 → ∃ M', (∀ d (Q : am_Q), ok (d + 4) mX0_follow 488 Q 488 0 0 2 [some (.ref a), some (.ref b), some (.int (nI lim)), some (.int (nI i))] [] M = Q (some (.int (nI (fow lim pl j i l).1))) M') ∧ LH M' a (fow lim pl j i l).2 ∧ Fw (fun c _ => a ≤ c ∧ c ≤ a + 3) M M' := by
  intro j
  induction j with
  | zero =>
    intro i l M hi hA hB hl
    refine ⟨M, fun d Q => ?_, hA, Fw.rf⟩
    have e0 : (nI pl.length ≤ nI i) = True := by rw [nI_leE (by have := hB.1.2.2; omega) (by have := hB.1.2.2; omega)]; exact eq_true (by omega)
    have oa := ob (a := b) (c := 0) (by have := hB.1.1.1; omega) hB.1.1.2.1
    have sz := hB.1.2.1
    rw [sX0_follow_2]
    simp (disch := (first | assumption | omega | decide)) only [sX0_follow_0, sX0_follow_1, sX0_follow_3, sX0_follow_4, sX0_follow_7, sX0_follow_10, sX0_follow_11, sX0_follow_12, sX0_follow_15, sX0_follow_16, sX0_follow_17, sX0_follow_18, sX0_follow_21, sX0_follow_22, sX0_follow_23, sX0_follow_24, sX0_follow_27, sX0_follow_28, sX0_follow_29, sX0_follow_30, sX0_follow_33, sX0_follow_36, sX0_follow_37, sX0_follow_38, sX0_follow_39, sX0_follow_40, sX0_follow_43, sX0_follow_44, sX0_follow_45, sX0_follow_46, sX0_follow_49, sX0_follow_50, sX0_follow_51, sX0_follow_52, sX0_follow_55, sX0_follow_56, sX0_follow_57, sX0_follow_60, sX0_follow_63, sX0_follow_66, sX0_follow_67, sX0_follow_70, kI_i, kL_l, kV_v, am_rv_s, am_kl_i, am_kl_r, am_kl_n, am_kl_l, true_and, and_true, and_self, true_or, or_true, implies_true, forall_const, not_true_eq_false, not_false_eq_true, false_implies, true_implies, if_true, if_false, Bool.true_eq_false, Bool.false_eq_true, oa, sz, e0]
    rw [show i = pl.length by omega]
    rfl
  | succ j ih =>
    intro i l M hi hA hB hl
    have h16 := hB.1.2.2
    have hip : i < pl.length := by omega
    have e0 : (nI pl.length ≤ nI i) = False := by rw [nI_leE (by omega) (by omega)]; exact eq_false (by omega)
    obtain ⟨⟨b1, b2, b3, b4, b5, b6, b7, b8⟩, sz, _⟩ := id hB.1
    obtain ⟨⟨a1, a2, a3, a4, a5, a6, a7, a8⟩, asz, _⟩ := id hA.1
    have oa := ob (a := a) (c := 0) (by omega) a2
    have oB := ob (a := b) (c := 0) (by omega) b2
    have ci : (nI i).toNatClampNeg = i := nI_clamp (by omega)
    have n1 := in1 (M := M) (a := b + 1) (k := i) (by omega) b3 (by omega) (by omega)
    have n2 := in1 (M := M) (a := b + 2) (k := i) (by omega) b4 (by omega) (by omega)
    have n3 := in1 (M := M) (a := b + 3) (k := i) (by omega) b5 (by omega) (by omega)
    obtain ⟨q1, q2⟩ := LH_s hB i hip
    have q3 := LH_x hB i hip
    have cb : ∀ d (Q : am_Q), am_big (d + 4) mX0_canBe [.ref a, .int (sf pl i), .int (pf pl i), .int (xf pl i), .int (nI lim)] 488 M Q = Q (some (.int (bz (decide (l.length < lim) && cbL l (sf pl i) (pf pl i) (xf pl i))))) M := fun d Q => by
      rw [c_canBe hA.1, cbf_L hA, asz]
      simp only [nI_ltE (show l.length < 2 ^ 31 by omega) (show lim < 2 ^ 31 by omega)]
    cases c : (decide (l.length < lim) && cbL l (sf pl i) (pf pl i) (xf pl i)) with
    | false =>
      rw [fow_f c]
      refine ⟨M, fun d Q => ?_, hA, Fw.rf⟩
      rw [sX0_follow_2]
      simp (disch := (first | assumption | omega | decide)) only [sX0_follow_0, sX0_follow_1, sX0_follow_3, sX0_follow_4, sX0_follow_7, sX0_follow_10, sX0_follow_11, sX0_follow_12, sX0_follow_15, sX0_follow_16, sX0_follow_17, sX0_follow_18, sX0_follow_21, sX0_follow_22, sX0_follow_23, sX0_follow_24, sX0_follow_27, sX0_follow_28, sX0_follow_29, sX0_follow_30, sX0_follow_33, sX0_follow_36, sX0_follow_37, sX0_follow_38, sX0_follow_39, sX0_follow_40, sX0_follow_43, sX0_follow_44, sX0_follow_45, sX0_follow_46, sX0_follow_49, sX0_follow_50, sX0_follow_51, sX0_follow_52, sX0_follow_55, sX0_follow_56, sX0_follow_57, sX0_follow_60, sX0_follow_63, sX0_follow_66, sX0_follow_67, sX0_follow_70, kI_i, kL_l, kV_v, am_rv_s, am_kl_i, am_kl_r, am_kl_n, am_kl_l, true_and, and_true, and_self, true_or, or_true, implies_true, forall_const, not_true_eq_false, not_false_eq_true, false_implies, true_implies, if_true, if_false, Bool.true_eq_false, Bool.false_eq_true, oa, oB, sz, e0, b6, b7, b8, n1, n2, n3, ci, q1, q2, q3, cb, c, bz_f]
    | true =>
      have hlt : l.length < lim := by rw [Bool.and_eq_true, decide_eq_true_eq] at c; exact c.1
      have ad := fun d (Q : am_Q) => c_add (d := d) (Q := Q) (so := sf pl i) (pa := pf pl i) (x := xf pl i) hA.1 (by omega)
      have hA2 := LH_addx (so := sf pl i) (pa := pf pl i) (x := xf pl i) hA (by omega)
      have hB2 : LH (addM M a l.length (sf pl i) (pf pl i) (xf pl i)) b pl := LH_of (fun c j _ _ => gI_addo (by omega)) (fun c j _ _ => rfl) hB
      rw [fow_t c]
      obtain ⟨M', e, r1, f1⟩ := ih (i + 1) _ _ (by omega) hA2 hB2 (by simp; omega)
      refine ⟨M', fun d Q => ?_, r1, Fw_add.tr f1⟩
      have e' := e d Q
      rw [sX0_follow_2]
      simp (disch := (first | assumption | omega | decide)) only [sX0_follow_0, sX0_follow_1, sX0_follow_3, sX0_follow_4, sX0_follow_7, sX0_follow_10, sX0_follow_11, sX0_follow_12, sX0_follow_15, sX0_follow_16, sX0_follow_17, sX0_follow_18, sX0_follow_21, sX0_follow_22, sX0_follow_23, sX0_follow_24, sX0_follow_27, sX0_follow_28, sX0_follow_29, sX0_follow_30, sX0_follow_33, sX0_follow_36, sX0_follow_37, sX0_follow_38, sX0_follow_39, sX0_follow_40, sX0_follow_43, sX0_follow_44, sX0_follow_45, sX0_follow_46, sX0_follow_49, sX0_follow_50, sX0_follow_51, sX0_follow_52, sX0_follow_55, sX0_follow_56, sX0_follow_57, sX0_follow_60, sX0_follow_63, sX0_follow_66, sX0_follow_67, sX0_follow_70, kI_i, kL_l, kV_v, am_rv_s, am_kl_i, am_kl_r, am_kl_n, am_kl_l, true_and, and_true, and_self, true_or, or_true, implies_true, forall_const, not_true_eq_false, not_false_eq_true, false_implies, true_implies, if_true, if_false, Bool.true_eq_false, Bool.false_eq_true, oa, oB, sz, e0, b6, b7, b8, n1, n2, n3, ci, q1, q2, q3, cb, c, bz_t, i01, ad, nI_1, e']
theorem c_follow (hlim : lim ≤ 12) (hd : a + 3 < b ∨ b + 3 < a) (hA : LH M a l) (hB : LH M b pl) (hl : l.length ≤ 12) : ∃ M', (∀ d (Q : am_Q), am_big (d + 5) mX0_follow [.ref a, .ref b, .int (nI lim)] 488 M Q = Q (some (.int (nI (fow lim pl pl.length 0 l).1))) M') ∧ LH M' a (fow lim pl pl.length 0 l).2 ∧ Fw (fun c _ => a ≤ c ∧ c ≤ a + 3) M M' := by
  obtain ⟨M', e, r, f⟩ := l_follow (pl := pl) hlim hd pl.length 0 l M (by omega) hA hB hl
  refine ⟨M', fun d Q => ?_, r, f⟩
  have e' : ok (d + 4) mX0_follow 488 Q 488 0 0 2 [some (.ref a), some (.ref b), some (.int (nI lim)), some (.int 0)] [] M = _ := e d Q
  rw [eX0_follow]
  simp (disch := (first | assumption | omega | decide)) only [sX0_follow_0, sX0_follow_1, sX0_follow_3, sX0_follow_4, sX0_follow_7, sX0_follow_10, sX0_follow_11, sX0_follow_12, sX0_follow_15, sX0_follow_16, sX0_follow_17, sX0_follow_18, sX0_follow_21, sX0_follow_22, sX0_follow_23, sX0_follow_24, sX0_follow_27, sX0_follow_28, sX0_follow_29, sX0_follow_30, sX0_follow_33, sX0_follow_36, sX0_follow_37, sX0_follow_38, sX0_follow_39, sX0_follow_40, sX0_follow_43, sX0_follow_44, sX0_follow_45, sX0_follow_46, sX0_follow_49, sX0_follow_50, sX0_follow_51, sX0_follow_52, sX0_follow_55, sX0_follow_56, sX0_follow_57, sX0_follow_60, sX0_follow_63, sX0_follow_66, sX0_follow_67, sX0_follow_70, kI_i, kL_l, kV_v, am_rv_s, am_kl_i, am_kl_r, am_kl_n, am_kl_l, true_and, and_true, and_self, true_or, or_true, implies_true, forall_const, not_true_eq_false, not_false_eq_true, false_implies, true_implies, if_true, if_false, Bool.true_eq_false, Bool.false_eq_true, e']
def runA (ap lim : Nat) (S : Sg) (PL : List (List Dd)) (k w : Int32) : Int32 := if opn ap = true ∧ (0 ≤ k ∧ k < nI PL.length) ∧ (w = 0 ∨ w = 1) then (if w = 1 then nI (fow lim (PL.getD k.toNatClampNeg []) (PL.getD k.toNatClampNeg []).length 0 S.1).2.length else if (fow lim (PL.getD k.toNatClampNeg []) (PL.getD k.toNatClampNeg []).length 0 S.1).1 = (PL.getD k.toNatClampNeg []).length then -1 else nI (fow lim (PL.getD k.toNatClampNeg []) (PL.getD k.toNatClampNeg []).length 0 S.1).1) else -1000000
theorem DLs_416 (h : WR M) : DLs M 416 := ⟨by omega, rfl, rfl, rfl, rfl, h _ _ _ rfl, h _ _ _ rfl, h _ _ _ rfl⟩
theorem DLs_420 (h : WR M) : DLs M 420 := ⟨by omega, rfl, rfl, rfl, rfl, h _ _ _ rfl, h _ _ _ rfl, h _ _ _ rfl⟩
theorem w01 {w : Int32} (h0 : ¬ w < 0) (h1 : w ≤ 1) : w = 0 ∨ w = 1 := by
  rw [i32e w 0, i32e w 1]
  rw [Int32.lt_iff_toInt_lt] at h0
  rw [Int32.le_iff_toInt_le] at h1
  have t0 : (0 : Int32).toInt = 0 := by decide
  have t1 : (1 : Int32).toInt = 1 := by decide
  omega
theorem c_run {k w : Int32} (hW : WR M) (hs : StC M 3 ap lim S) (hl : S.1.length ≤ 12) (hw : WFl S.1) (hlim : lim ≤ 12) (hP : PlC M PL) : ∃ M', (∀ d (Q : am_Q), am_big (d + 6) mX10_run [.ref 0, .int k, .int w] 488 M Q = Q (some (.int (runA ap lim S PL k w))) M') ∧ Fw (fun c _ => 416 ≤ c ∧ c ≤ 419) M M' := by
  have io := fun d (Q : am_Q) => c_isOpen (d := d) (Q := Q) hW hs
  have im := fun d (Q : am_Q) => c_isMaking (d := d) (Q := Q) (k := k) hP
  unfold runA
  cases c1 : opn ap with
  | false =>
    refine ⟨M, fun d Q => ?_, Fw.rf⟩
    rw [if_neg (fun z => by cases z.1), eX10_run]
    simp (disch := (first | assumption | omega | decide)) only [sX10_run_0, sX10_run_1, sX10_run_4, sX10_run_7, sX10_run_8, sX10_run_9, sX10_run_12, sX10_run_15, sX10_run_16, sX10_run_19, sX10_run_20, sX10_run_21, sX10_run_24, sX10_run_27, sX10_run_28, sX10_run_29, sX10_run_32, sX10_run_33, sX10_run_36, sX10_run_39, sX10_run_42, sX10_run_43, sX10_run_46, sX10_run_47, sX10_run_50, sX10_run_51, sX10_run_52, sX10_run_53, sX10_run_56, sX10_run_59, sX10_run_62, sX10_run_63, sX10_run_64, sX10_run_65, sX10_run_68, sX10_run_69, sX10_run_72, sX10_run_75, sX10_run_76, sX10_run_77, sX10_run_78, sX10_run_81, sX10_run_82, sX10_run_83, sX10_run_86, sX10_run_89, sX10_run_90, sX10_run_93, sX10_run_94, kI_i, kL_l, kV_v, am_rv_s, am_kl_i, am_kl_r, am_kl_n, am_kl_l, true_and, and_true, and_self, true_or, or_true, implies_true, forall_const, not_true_eq_false, not_false_eq_true, false_implies, true_implies, if_true, if_false, Bool.true_eq_false, Bool.false_eq_true, ob_0, io, c1, bz_f]
  | true =>
    by_cases c2 : 0 ≤ k ∧ k < nI PL.length
    · have cd := decide_eq_true c2
      by_cases c3 : w < 0
      · refine ⟨M, fun d Q => ?_, Fw.rf⟩
        have n : ¬ (w = 0 ∨ w = 1) := fun z => by rcases z with rfl | rfl <;> exact absurd c3 (by decide)
        rw [if_neg (fun z => n z.2.2), eX10_run]
        simp (disch := (first | assumption | omega | decide)) only [sX10_run_0, sX10_run_1, sX10_run_4, sX10_run_7, sX10_run_8, sX10_run_9, sX10_run_12, sX10_run_15, sX10_run_16, sX10_run_19, sX10_run_20, sX10_run_21, sX10_run_24, sX10_run_27, sX10_run_28, sX10_run_29, sX10_run_32, sX10_run_33, sX10_run_36, sX10_run_39, sX10_run_42, sX10_run_43, sX10_run_46, sX10_run_47, sX10_run_50, sX10_run_51, sX10_run_52, sX10_run_53, sX10_run_56, sX10_run_59, sX10_run_62, sX10_run_63, sX10_run_64, sX10_run_65, sX10_run_68, sX10_run_69, sX10_run_72, sX10_run_75, sX10_run_76, sX10_run_77, sX10_run_78, sX10_run_81, sX10_run_82, sX10_run_83, sX10_run_86, sX10_run_89, sX10_run_90, sX10_run_93, sX10_run_94, kI_i, kL_l, kV_v, am_rv_s, am_kl_i, am_kl_r, am_kl_n, am_kl_l, true_and, and_true, and_self, true_or, or_true, implies_true, forall_const, not_true_eq_false, not_false_eq_true, false_implies, true_implies, if_true, if_false, Bool.true_eq_false, Bool.false_eq_true, ob_0, io, c1, bz_t, i01, im, cd, c3]
      · by_cases c4 : w ≤ 1
        · have hw01 := w01 c3 c4
          obtain ⟨i, hi, rfl⟩ := pl_x hP.2.1 c2
          have hp4 := hP.2.1
          have hB := hP.2.2 i hi
          have ci : (nI i).toNatClampNeg = i := nI_clamp (by omega)
          rw [if_pos ⟨rfl, c2, hw01⟩, ci, pl_get hi]
          generalize hpl : PL[i] = pl at *
          have hL := StC_LH hs
          have cp := fun d (Q : am_Q) => c_copyDL (d := d) (Q := Q) (DLs_416 hW) hL.1 (by omega)
          have hA := LH_cpy (DLs_416 hW) hL (by omega)
          have fA := Fw_cpy (M := M) (a := 416) (b := 4) (n := S.1.length)
          have hB2 : LH (cpyM M 416 4 S.1.length) (441 + 4 * i) pl := LH_of (fun c j _ _ => gI_cpyo (by omega)) (fun c j _ _ => rfl) hB
          obtain ⟨M', e, r, f⟩ := c_follow hlim (by omega) hA hB2 hl
          have hW' := f.2 (fA.2 hW)
          have iz : (am_iw 488 411 5 (nI i) ∨ am_iw 488 411 6 (nI i) ∨ am_iw 488 411 7 (nI i)) = True := by rw [iw_411 (by omega)]; simp
          have oo := ob (a := 441 + 4 * i) (c := 0) (by omega) hB.1.1.2.1
          have r1 := r_411 (fA.2 hW) (show i < 4 by omega)
          have r2 := r_411 hW' (show i < 4 by omega)
          have g4 : gI (cpyM M 416 4 S.1.length) 3 4 = nI lim := by rw [gI_cpyo (by omega)]; exact hs.2.2.2.1
          have sz := r.1.2.1
          have szb : gI M' (441 + 4 * i) 3 = nI pl.length := by rw [f.I (by omega)]; exact hB2.1.2.1
          have hfo := (fow_ok (pl := pl) hlim pl.length 0 S.1 hw hl).2.2
          have hpl16 := hB.1.2.2
          have en : (nI (fow lim pl pl.length 0 S.1).1 = nI pl.length) = ((fow lim pl pl.length 0 S.1).1 = pl.length) := nI_eqE (by omega) (by omega)
          refine ⟨M', fun d Q => ?_, fA.tr f⟩
          have hWc := fA.2 hW
          rw [eX10_run]
          rcases hw01 with rfl | rfl
          · rw [if_neg (by decide)]
            by_cases c5 : (fow lim pl pl.length 0 S.1).1 = pl.length
            · rw [if_pos c5]
              simp (disch := (first | assumption | omega | decide)) only [sX10_run_0, sX10_run_1, sX10_run_4, sX10_run_7, sX10_run_8, sX10_run_9, sX10_run_12, sX10_run_15, sX10_run_16, sX10_run_19, sX10_run_20, sX10_run_21, sX10_run_24, sX10_run_27, sX10_run_28, sX10_run_29, sX10_run_32, sX10_run_33, sX10_run_36, sX10_run_39, sX10_run_42, sX10_run_43, sX10_run_46, sX10_run_47, sX10_run_50, sX10_run_51, sX10_run_52, sX10_run_53, sX10_run_56, sX10_run_59, sX10_run_62, sX10_run_63, sX10_run_64, sX10_run_65, sX10_run_68, sX10_run_69, sX10_run_72, sX10_run_75, sX10_run_76, sX10_run_77, sX10_run_78, sX10_run_81, sX10_run_82, sX10_run_83, sX10_run_86, sX10_run_89, sX10_run_90, sX10_run_93, sX10_run_94, kI_i, kL_l, kV_v, am_rv_s, am_kl_i, am_kl_r, am_kl_n, am_kl_l, true_and, and_true, and_self, true_or, or_true, implies_true, forall_const, not_true_eq_false, not_false_eq_true, false_implies, true_implies, if_true, if_false, Bool.true_eq_false, Bool.false_eq_true, ob_0, ob_3, ob_4, ob_416, io, c1, bz_t, i01, im, cd, c3, c4, i10, r_0_11, r_0_1, r_3_0, cp, r_0_8, iz, ci, r1, r2, oo, g4, e, szb, en, c5]
            · rw [if_neg c5]
              simp (disch := (first | assumption | omega | decide)) only [sX10_run_0, sX10_run_1, sX10_run_4, sX10_run_7, sX10_run_8, sX10_run_9, sX10_run_12, sX10_run_15, sX10_run_16, sX10_run_19, sX10_run_20, sX10_run_21, sX10_run_24, sX10_run_27, sX10_run_28, sX10_run_29, sX10_run_32, sX10_run_33, sX10_run_36, sX10_run_39, sX10_run_42, sX10_run_43, sX10_run_46, sX10_run_47, sX10_run_50, sX10_run_51, sX10_run_52, sX10_run_53, sX10_run_56, sX10_run_59, sX10_run_62, sX10_run_63, sX10_run_64, sX10_run_65, sX10_run_68, sX10_run_69, sX10_run_72, sX10_run_75, sX10_run_76, sX10_run_77, sX10_run_78, sX10_run_81, sX10_run_82, sX10_run_83, sX10_run_86, sX10_run_89, sX10_run_90, sX10_run_93, sX10_run_94, kI_i, kL_l, kV_v, am_rv_s, am_kl_i, am_kl_r, am_kl_n, am_kl_l, true_and, and_true, and_self, true_or, or_true, implies_true, forall_const, not_true_eq_false, not_false_eq_true, false_implies, true_implies, if_true, if_false, Bool.true_eq_false, Bool.false_eq_true, ob_0, ob_3, ob_4, ob_416, io, c1, bz_t, i01, im, cd, c3, c4, i10, r_0_11, r_0_1, r_3_0, cp, r_0_8, iz, ci, r1, r2, oo, g4, e, szb, en, c5]
          · rw [if_pos rfl]
            simp (disch := (first | assumption | omega | decide)) only [sX10_run_0, sX10_run_1, sX10_run_4, sX10_run_7, sX10_run_8, sX10_run_9, sX10_run_12, sX10_run_15, sX10_run_16, sX10_run_19, sX10_run_20, sX10_run_21, sX10_run_24, sX10_run_27, sX10_run_28, sX10_run_29, sX10_run_32, sX10_run_33, sX10_run_36, sX10_run_39, sX10_run_42, sX10_run_43, sX10_run_46, sX10_run_47, sX10_run_50, sX10_run_51, sX10_run_52, sX10_run_53, sX10_run_56, sX10_run_59, sX10_run_62, sX10_run_63, sX10_run_64, sX10_run_65, sX10_run_68, sX10_run_69, sX10_run_72, sX10_run_75, sX10_run_76, sX10_run_77, sX10_run_78, sX10_run_81, sX10_run_82, sX10_run_83, sX10_run_86, sX10_run_89, sX10_run_90, sX10_run_93, sX10_run_94, kI_i, kL_l, kV_v, am_rv_s, am_kl_i, am_kl_r, am_kl_n, am_kl_l, true_and, and_true, and_self, true_or, or_true, implies_true, forall_const, not_true_eq_false, not_false_eq_true, false_implies, true_implies, if_true, if_false, Bool.true_eq_false, Bool.false_eq_true, ob_0, ob_3, ob_4, ob_416, io, c1, bz_t, i01, im, cd, c3, c4, r_0_11, r_0_1, r_3_0, cp, r_0_8, iz, ci, r1, r2, oo, g4, e, sz]
        · refine ⟨M, fun d Q => ?_, Fw.rf⟩
          have n : ¬ (w = 0 ∨ w = 1) := fun z => by rcases z with rfl | rfl <;> exact absurd (by decide) c4
          rw [if_neg (fun z => n z.2.2), eX10_run]
          simp (disch := (first | assumption | omega | decide)) only [sX10_run_0, sX10_run_1, sX10_run_4, sX10_run_7, sX10_run_8, sX10_run_9, sX10_run_12, sX10_run_15, sX10_run_16, sX10_run_19, sX10_run_20, sX10_run_21, sX10_run_24, sX10_run_27, sX10_run_28, sX10_run_29, sX10_run_32, sX10_run_33, sX10_run_36, sX10_run_39, sX10_run_42, sX10_run_43, sX10_run_46, sX10_run_47, sX10_run_50, sX10_run_51, sX10_run_52, sX10_run_53, sX10_run_56, sX10_run_59, sX10_run_62, sX10_run_63, sX10_run_64, sX10_run_65, sX10_run_68, sX10_run_69, sX10_run_72, sX10_run_75, sX10_run_76, sX10_run_77, sX10_run_78, sX10_run_81, sX10_run_82, sX10_run_83, sX10_run_86, sX10_run_89, sX10_run_90, sX10_run_93, sX10_run_94, kI_i, kL_l, kV_v, am_rv_s, am_kl_i, am_kl_r, am_kl_n, am_kl_l, true_and, and_true, and_self, true_or, or_true, implies_true, forall_const, not_true_eq_false, not_false_eq_true, false_implies, true_implies, if_true, if_false, Bool.true_eq_false, Bool.false_eq_true, ob_0, io, c1, bz_t, i01, im, cd, c3, c4]
    · have cd := decide_eq_false c2
      refine ⟨M, fun d Q => ?_, Fw.rf⟩
      rw [if_neg (fun z => c2 z.2.1), eX10_run]
      simp (disch := (first | assumption | omega | decide)) only [sX10_run_0, sX10_run_1, sX10_run_4, sX10_run_7, sX10_run_8, sX10_run_9, sX10_run_12, sX10_run_15, sX10_run_16, sX10_run_19, sX10_run_20, sX10_run_21, sX10_run_24, sX10_run_27, sX10_run_28, sX10_run_29, sX10_run_32, sX10_run_33, sX10_run_36, sX10_run_39, sX10_run_42, sX10_run_43, sX10_run_46, sX10_run_47, sX10_run_50, sX10_run_51, sX10_run_52, sX10_run_53, sX10_run_56, sX10_run_59, sX10_run_62, sX10_run_63, sX10_run_64, sX10_run_65, sX10_run_68, sX10_run_69, sX10_run_72, sX10_run_75, sX10_run_76, sX10_run_77, sX10_run_78, sX10_run_81, sX10_run_82, sX10_run_83, sX10_run_86, sX10_run_89, sX10_run_90, sX10_run_93, sX10_run_94, kI_i, kL_l, kV_v, am_rv_s, am_kl_i, am_kl_r, am_kl_n, am_kl_l, true_and, and_true, and_self, true_or, or_true, implies_true, forall_const, not_true_eq_false, not_false_eq_true, false_implies, true_implies, if_true, if_false, Bool.true_eq_false, Bool.false_eq_true, ob_0, io, c1, bz_t, bz_f, i01, im, cd]
/-! performing -/
def pfo (ap lim : Nat) (pl : List Dd) : Nat → Nat → Sg → List Sg → Nat × Sg × List Sg
  | 0, i, S, P => (i, S, P)
  | j + 1, i, S, P => if mkA ap lim S (sf pl i) (pf pl i) (xf pl i) = true then pfo ap lim pl j (i + 1) (doS (tS S) (sf pl i) (pf pl i) (xf pl i)) (paA P S) else (i, S, P)
theorem pfo_t {j i : Nat} (h : mkA ap lim S (sf pl i) (pf pl i) (xf pl i) = true) : pfo ap lim pl (j + 1) i S P = pfo ap lim pl j (i + 1) (doS (tS S) (sf pl i) (pf pl i) (xf pl i)) (paA P S) := if_pos h
theorem pfo_f {j i : Nat} (h : mkA ap lim S (sf pl i) (pf pl i) (xf pl i) = false) : pfo ap lim pl (j + 1) i S P = (i, S, P) := if_neg (by rw [h]; decide)
def perfA (ap lim : Nat) (S : Sg) (P : List Sg) (PL : List (List Dd)) (k : Int32) : Int32 × Sg × List Sg := if opn ap = true ∧ (0 ≤ k ∧ k < nI PL.length) then (nI (pfo ap lim (PL.getD k.toNatClampNeg []) (PL.getD k.toNatClampNeg []).length 0 S P).1, (pfo ap lim (PL.getD k.toNatClampNeg []) (PL.getD k.toNatClampNeg []).length 0 S P).2) else (-1, S, P)
theorem l_perform {k : Int32} (hlim : lim ≤ 12) (hb : 441 ≤ b) : ∀ (j i : Nat) (S : Sg) (P : List Sg) (M : am_M), i + j = pl.length → WR M → StC M 3 ap lim S → PaC M ap lim P → LH M b pl → ∃ M', (∀ d (Q : am_Q), ok (d + 6) mX10_perform 488 Q 488 0 0 26 [some (.ref 0), some (.int k), some (.ref b), some (.int (nI i))] [] M = Q (some (.int (nI (pfo ap lim pl j i S P).1))) M') ∧ StC M' 3 ap lim (pfo ap lim pl j i S P).2.1 ∧ PaC M' ap lim (pfo ap lim pl j i S P).2.2 ∧ Fw XA M M' := by
  intro j
  induction j with
  | zero =>
    intro i S P M hi hW hS hP hB
    refine ⟨M, fun d Q => ?_, hS, hP, Fw.rf⟩
    have h16 := hB.1.2.2
    have e0 : (nI pl.length ≤ nI i) = True := by rw [nI_leE (by omega) (by omega)]; exact eq_true (by omega)
    have oa := ob (a := b) (c := 0) (by have := hB.1.1.1; omega) hB.1.1.2.1
    have sz := hB.1.2.1
    rw [sX10_perform_26]
    simp (disch := (first | assumption | omega | decide)) only [sX10_perform_0, sX10_perform_1, sX10_perform_4, sX10_perform_7, sX10_perform_8, sX10_perform_9, sX10_perform_12, sX10_perform_15, sX10_perform_16, sX10_perform_17, sX10_perform_18, sX10_perform_21, sX10_perform_22, sX10_perform_23, sX10_perform_24, sX10_perform_25, sX10_perform_27, sX10_perform_28, sX10_perform_31, sX10_perform_34, sX10_perform_35, sX10_perform_36, sX10_perform_39, sX10_perform_40, sX10_perform_41, sX10_perform_42, sX10_perform_45, sX10_perform_46, sX10_perform_47, sX10_perform_48, sX10_perform_51, sX10_perform_52, sX10_perform_53, sX10_perform_56, sX10_perform_57, sX10_perform_60, sX10_perform_61, sX10_perform_62, sX10_perform_65, sX10_perform_68, sX10_perform_69, sX10_perform_72, kI_i, kL_l, kV_v, am_rv_s, am_kl_i, am_kl_r, am_kl_n, am_kl_l, true_and, and_true, and_self, true_or, or_true, implies_true, forall_const, not_true_eq_false, not_false_eq_true, false_implies, true_implies, if_true, if_false, Bool.true_eq_false, Bool.false_eq_true, oa, sz, e0]
    rw [show i = pl.length by omega]
    rfl
  | succ j ih =>
    intro i S P M hi hW hS hP hB
    have h16 := hB.1.2.2
    have hip : i < pl.length := by omega
    have e0 : (nI pl.length ≤ nI i) = False := by rw [nI_leE (by omega) (by omega)]; exact eq_false (by omega)
    obtain ⟨⟨b1, b2, b3, b4, b5, b6, b7, b8⟩, sz, _⟩ := id hB.1
    have oB := ob (a := b) (c := 0) (by omega) b2
    have ci : (nI i).toNatClampNeg = i := nI_clamp (by omega)
    have n1 := in1 (M := M) (a := b + 1) (k := i) (by omega) b3 (by omega) (by omega)
    have n2 := in1 (M := M) (a := b + 2) (k := i) (by omega) b4 (by omega) (by omega)
    have n3 := in1 (M := M) (a := b + 3) (k := i) (by omega) b5 (by omega) (by omega)
    obtain ⟨q1, q2⟩ := LH_s hB i hip
    have q3 := LH_x hB i hip
    obtain ⟨M1, e1, s1, p1, f1⟩ := c_make (so := sf pl i) (pa := pf pl i) (x := xf pl i) hW hlim hP hS
    have hl16 := StC_sz hS
    cases c : mkA ap lim S (sf pl i) (pf pl i) (xf pl i) with
    | false =>
      rw [pfo_f c]
      rw [c, if_neg (by decide)] at s1 p1
      refine ⟨M1, fun d Q => ?_, s1, p1, f1⟩
      have e1' := fun (Q : am_Q) => e1 d Q
      rw [c, if_neg (by decide)] at e1'
      rw [sX10_perform_26]
      simp (disch := (first | assumption | omega | decide)) only [sX10_perform_0, sX10_perform_1, sX10_perform_4, sX10_perform_7, sX10_perform_8, sX10_perform_9, sX10_perform_12, sX10_perform_15, sX10_perform_16, sX10_perform_17, sX10_perform_18, sX10_perform_21, sX10_perform_22, sX10_perform_23, sX10_perform_24, sX10_perform_25, sX10_perform_27, sX10_perform_28, sX10_perform_31, sX10_perform_34, sX10_perform_35, sX10_perform_36, sX10_perform_39, sX10_perform_40, sX10_perform_41, sX10_perform_42, sX10_perform_45, sX10_perform_46, sX10_perform_47, sX10_perform_48, sX10_perform_51, sX10_perform_52, sX10_perform_53, sX10_perform_56, sX10_perform_57, sX10_perform_60, sX10_perform_61, sX10_perform_62, sX10_perform_65, sX10_perform_68, sX10_perform_69, sX10_perform_72, kI_i, kL_l, kV_v, am_rv_s, am_kl_i, am_kl_r, am_kl_n, am_kl_l, true_and, and_true, and_self, true_or, or_true, implies_true, forall_const, not_true_eq_false, not_false_eq_true, false_implies, true_implies, if_true, if_false, Bool.true_eq_false, Bool.false_eq_true, ob_0, oB, sz, e0, b6, b7, b8, n1, n2, n3, ci, q1, q2, q3, e1']
    | true =>
      rw [pfo_t c]
      rw [c, if_pos rfl] at s1 p1
      have hB1 : LH M1 b pl := LH_of (fun c j h1 h2 => f1.I (by unfold XA XP2; omega)) (fun c j h1 h2 => f1.R (by unfold XA XP2; omega)) hB
      obtain ⟨M', e, r1, r2, f⟩ := ih (i + 1) _ _ M1 (by omega) (f1.2 hW) s1 p1 hB1
      refine ⟨M', fun d Q => ?_, r1, r2, f1.tr f⟩
      have e1' := fun (Q : am_Q) => e1 d Q
      rw [c, if_pos rfl] at e1'
      have m1 : (nI (S.1.length + 1) = -1) = False := nI_m1 (by omega)
      have e' := e d Q
      rw [sX10_perform_26]
      simp (disch := (first | assumption | omega | decide)) only [sX10_perform_0, sX10_perform_1, sX10_perform_4, sX10_perform_7, sX10_perform_8, sX10_perform_9, sX10_perform_12, sX10_perform_15, sX10_perform_16, sX10_perform_17, sX10_perform_18, sX10_perform_21, sX10_perform_22, sX10_perform_23, sX10_perform_24, sX10_perform_25, sX10_perform_27, sX10_perform_28, sX10_perform_31, sX10_perform_34, sX10_perform_35, sX10_perform_36, sX10_perform_39, sX10_perform_40, sX10_perform_41, sX10_perform_42, sX10_perform_45, sX10_perform_46, sX10_perform_47, sX10_perform_48, sX10_perform_51, sX10_perform_52, sX10_perform_53, sX10_perform_56, sX10_perform_57, sX10_perform_60, sX10_perform_61, sX10_perform_62, sX10_perform_65, sX10_perform_68, sX10_perform_69, sX10_perform_72, kI_i, kL_l, kV_v, am_rv_s, am_kl_i, am_kl_r, am_kl_n, am_kl_l, true_and, and_true, and_self, true_or, or_true, implies_true, forall_const, not_true_eq_false, not_false_eq_true, false_implies, true_implies, if_true, if_false, Bool.true_eq_false, Bool.false_eq_true, ob_0, oB, sz, e0, b6, b7, b8, n1, n2, n3, ci, q1, q2, q3, e1', m1, nI_1, e']
theorem c_perform {k : Int32} (hW : WR M) (hs : StC M 3 ap lim S) (hlim : lim ≤ 12) (hp : PaC M ap lim P) (hP : PlC M PL) : ∃ M', (∀ d (Q : am_Q), am_big (d + 7) mX10_perform [.ref 0, .int k] 488 M Q = Q (some (.int (perfA ap lim S P PL k).1)) M') ∧ StC M' 3 ap lim (perfA ap lim S P PL k).2.1 ∧ PaC M' ap lim (perfA ap lim S P PL k).2.2 ∧ Fw XA M M' := by
  have io := fun d (Q : am_Q) => c_isOpen (d := d) (Q := Q) hW hs
  have im := fun d (Q : am_Q) => c_isMaking (d := d) (Q := Q) (k := k) hP
  unfold perfA
  cases c1 : opn ap with
  | false =>
    rw [if_neg (fun z => by cases z.1)]
    refine ⟨M, fun d Q => ?_, hs, hp, Fw.rf⟩
    rw [eX10_perform]
    simp (disch := (first | assumption | omega | decide)) only [sX10_perform_0, sX10_perform_1, sX10_perform_4, sX10_perform_7, sX10_perform_8, sX10_perform_9, sX10_perform_12, sX10_perform_15, sX10_perform_16, sX10_perform_17, sX10_perform_18, sX10_perform_21, sX10_perform_22, sX10_perform_23, sX10_perform_24, sX10_perform_25, sX10_perform_27, sX10_perform_28, sX10_perform_31, sX10_perform_34, sX10_perform_35, sX10_perform_36, sX10_perform_39, sX10_perform_40, sX10_perform_41, sX10_perform_42, sX10_perform_45, sX10_perform_46, sX10_perform_47, sX10_perform_48, sX10_perform_51, sX10_perform_52, sX10_perform_53, sX10_perform_56, sX10_perform_57, sX10_perform_60, sX10_perform_61, sX10_perform_62, sX10_perform_65, sX10_perform_68, sX10_perform_69, sX10_perform_72, kI_i, kL_l, kV_v, am_rv_s, am_kl_i, am_kl_r, am_kl_n, am_kl_l, true_and, and_true, and_self, true_or, or_true, implies_true, forall_const, not_true_eq_false, not_false_eq_true, false_implies, true_implies, if_true, if_false, Bool.true_eq_false, Bool.false_eq_true, ob_0, io, c1, bz_f]
  | true =>
    by_cases c2 : 0 ≤ k ∧ k < nI PL.length
    · have cd := decide_eq_true c2
      obtain ⟨i, hi, rfl⟩ := pl_x hP.2.1 c2
      have hp4 := hP.2.1
      have hB := hP.2.2 i hi
      have ci : (nI i).toNatClampNeg = i := nI_clamp (by omega)
      rw [if_pos ⟨rfl, c2⟩, ci, pl_get hi]
      generalize hpl : PL[i] = pl at *
      obtain ⟨M', e, r1, r2, f⟩ := l_perform (k := nI i) hlim (show 441 ≤ 441 + 4 * i by omega) pl.length 0 S P M (by omega) hW hs hp hB
      refine ⟨M', fun d Q => ?_, r1, r2, f⟩
      have iz : (am_iw 488 411 5 (nI i) ∨ am_iw 488 411 6 (nI i) ∨ am_iw 488 411 7 (nI i)) = True := by rw [iw_411 (by omega)]; simp
      have rr := r_411 hW (show i < 4 by omega)
      have e' : ok (d + 6) mX10_perform 488 Q 488 0 0 26 [some (.ref 0), some (.int (nI i)), some (.ref (441 + 4 * i)), some (.int 0)] [] M = _ := e d Q
      rw [eX10_perform]
      simp (disch := (first | assumption | omega | decide)) only [sX10_perform_0, sX10_perform_1, sX10_perform_4, sX10_perform_7, sX10_perform_8, sX10_perform_9, sX10_perform_12, sX10_perform_15, sX10_perform_16, sX10_perform_17, sX10_perform_18, sX10_perform_21, sX10_perform_22, sX10_perform_23, sX10_perform_24, sX10_perform_25, sX10_perform_27, sX10_perform_28, sX10_perform_31, sX10_perform_34, sX10_perform_35, sX10_perform_36, sX10_perform_39, sX10_perform_40, sX10_perform_41, sX10_perform_42, sX10_perform_45, sX10_perform_46, sX10_perform_47, sX10_perform_48, sX10_perform_51, sX10_perform_52, sX10_perform_53, sX10_perform_56, sX10_perform_57, sX10_perform_60, sX10_perform_61, sX10_perform_62, sX10_perform_65, sX10_perform_68, sX10_perform_69, sX10_perform_72, kI_i, kL_l, kV_v, am_rv_s, am_kl_i, am_kl_r, am_kl_n, am_kl_l, true_and, and_true, and_self, true_or, or_true, implies_true, forall_const, not_true_eq_false, not_false_eq_true, false_implies, true_implies, if_true, if_false, Bool.true_eq_false, Bool.false_eq_true, ob_0, io, c1, bz_t, i01, im, cd, r_0_8, iz, ci, rr, e']
    · have cd := decide_eq_false c2
      rw [if_neg (fun z => c2 z.2)]
      refine ⟨M, fun d Q => ?_, hs, hp, Fw.rf⟩
      rw [eX10_perform]
      simp (disch := (first | assumption | omega | decide)) only [sX10_perform_0, sX10_perform_1, sX10_perform_4, sX10_perform_7, sX10_perform_8, sX10_perform_9, sX10_perform_12, sX10_perform_15, sX10_perform_16, sX10_perform_17, sX10_perform_18, sX10_perform_21, sX10_perform_22, sX10_perform_23, sX10_perform_24, sX10_perform_25, sX10_perform_27, sX10_perform_28, sX10_perform_31, sX10_perform_34, sX10_perform_35, sX10_perform_36, sX10_perform_39, sX10_perform_40, sX10_perform_41, sX10_perform_42, sX10_perform_45, sX10_perform_46, sX10_perform_47, sX10_perform_48, sX10_perform_51, sX10_perform_52, sX10_perform_53, sX10_perform_56, sX10_perform_57, sX10_perform_60, sX10_perform_61, sX10_perform_62, sX10_perform_65, sX10_perform_68, sX10_perform_69, sX10_perform_72, kI_i, kL_l, kV_v, am_rv_s, am_kl_i, am_kl_r, am_kl_n, am_kl_l, true_and, and_true, and_self, true_or, or_true, implies_true, forall_const, not_true_eq_false, not_false_eq_true, false_implies, true_implies, if_true, if_false, Bool.true_eq_false, Bool.false_eq_true, ob_0, io, c1, bz_t, bz_f, i01, im, cd]
end
