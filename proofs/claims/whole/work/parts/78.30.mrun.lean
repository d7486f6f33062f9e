section
variable {M N : am_M} {ap lim : Nat} {S : Sg} {P : List Sg} {pl l : List Dd} {PL : List (List Dd)} {a b : Nat} {d : Nat} {Q : am_Q}
def XGo (c j : Nat) : Prop := XS c j ∨ c = 466
theorem PcM_of {o o' : Nat} (hI : ∀ j, j ≤ 36 → gI N o' j = gI M o j) (h : PcM M o 0 l) : PcM N o' 0 l := by
  obtain ⟨h1, h2, h3⟩ := h
  refine ⟨h1, ?_, fun k t e => ?_⟩
  · rw [Nat.zero_add] at h2 ⊢
    rw [hI _ (by omega)]; exact h2
  · have hk : k < l.length := (List.getElem?_eq_some_iff.mp e).1
    have := h3 k t e
    rw [Nat.zero_add] at this ⊢
    rw [hI _ (by omega), hI _ (by omega), hI _ (by omega)]
    exact this
/-- the plan k stands where the reference keeps it -/
def PkM (M : am_M) (k : Nat) (pl : List Dd) : Prop := gI M 464 k = nI pl.length ∧ pl.length ≤ 16 ∧ plh (gI M 463) (48 * k) pl
theorem PkM_Fw {X : Nat → Nat → Prop} {k : Nat} (hF : Fw X M N) (hX : ∀ j, ¬ X 463 j ∧ ¬ X 464 j) (h : PkM M k pl) : PkM N k pl := by
  obtain ⟨h1, h2, h3⟩ := h
  refine ⟨by rw [hF.I (hX _).2]; exact h1, h2, fun i t e => ?_⟩
  rw [hF.I (hX _).1, hF.I (hX _).1, hF.I (hX _).1]
  exact h3 i t e
theorem n48 (k : Nat) : (48 : Int32) * nI k = nI (48 * k) := by rw [show (48 : Int32) = nI 48 from rfl, pk_mul]
theorem l_goPlan {k : Nat} (hk : k < 4) (hlim : lim ≤ 12) : ∀ (j i : Nat) (l : List Dd) (M : am_M), i + j = pl.length → WR M → PcM M 466 0 l → WFl l → PkM M k pl → gI M 457 21 = nI lim → ∃ M', (∀ d (Q : am_Q), ok (d + 4) mX11_goPlan 488 Q 488 0 0 8 [some (.ref 457), some (.ref 466), some (.int (nI k)), some (.int (nI i)), some (.int (nI (48 * k + 3 * i)))] [] M = Q (some (.int (nI (fow lim pl j i l).1))) M') ∧ PcM M' 466 0 (fow lim pl j i l).2 ∧ Fw XGo M M' := by
  intro j
  induction j with
  | zero =>
    intro i l M hi hW hp hw hK hm
    obtain ⟨g1, g2, g3⟩ := hK
    refine ⟨M, fun d Q => ?_, hp, Fw.rf⟩
    have e0 : (nI pl.length ≤ nI i) = True := by rw [nI_leE (by omega) (by omega)]; exact eq_true (by omega)
    have i4 := in_464 (M := M) (k := k) (by omega)
    have ck : (nI k).toNatClampNeg = k := nI_clamp (by omega)
    rw [sX11_goPlan_8]
    simp (disch := (first | assumption | omega | decide)) only [sX11_goPlan_0, sX11_goPlan_1, sX11_goPlan_2, sX11_goPlan_4, sX11_goPlan_5, sX11_goPlan_6, sX11_goPlan_9, sX11_goPlan_10, sX11_goPlan_13, sX11_goPlan_14, sX11_goPlan_15, sX11_goPlan_18, sX11_goPlan_19, sX11_goPlan_20, sX11_goPlan_21, sX11_goPlan_24, sX11_goPlan_26, sX11_goPlan_27, sX11_goPlan_28, sX11_goPlan_31, sX11_goPlan_33, sX11_goPlan_34, sX11_goPlan_35, sX11_goPlan_36, sX11_goPlan_37, sX11_goPlan_40, sX11_goPlan_42, sX11_goPlan_43, sX11_goPlan_44, sX11_goPlan_45, sX11_goPlan_48, sX11_goPlan_51, sX11_goPlan_52, sX11_goPlan_53, sX11_goPlan_56, sX11_goPlan_58, sX11_goPlan_59, sX11_goPlan_60, sX11_goPlan_63, sX11_goPlan_65, sX11_goPlan_66, sX11_goPlan_67, sX11_goPlan_68, sX11_goPlan_69, sX11_goPlan_72, sX11_goPlan_74, sX11_goPlan_75, sX11_goPlan_76, sX11_goPlan_77, sX11_goPlan_80, sX11_goPlan_83, sX11_goPlan_86, sX11_goPlan_89, sX11_goPlan_90, kI_i, kL_l, kV_v, am_rv_s, am_kl_i, am_kl_r, am_kl_n, am_kl_l, true_and, and_true, and_self, true_or, or_true, implies_true, forall_const, not_true_eq_false, not_false_eq_true, false_implies, true_implies, if_true, if_false, Bool.true_eq_false, Bool.false_eq_true, ob_457, r_457_20, i4, ck, g1, e0]
    rfl
  | succ j ih =>
    intro i l M hi hW hp hw hK hm
    obtain ⟨g1, g2, g3⟩ := id hK
    have hip : i < pl.length := by omega
    have e0 : (nI pl.length ≤ nI i) = False := by rw [nI_leE (by omega) (by omega)]; exact eq_false (by omega)
    have i4 := fun (M : am_M) => in_464 (M := M) (k := k) (by omega)
    have ck : (nI k).toNatClampNeg = k := nI_clamp (by omega)
    have n0 := fun (M : am_M) => in_463 (M := M) (k := 48 * k + 3 * i) (by omega)
    have n1 := fun (M : am_M) => in_463 (M := M) (k := 48 * k + 3 * i + 1) (by omega)
    have n2 := fun (M : am_M) => in_463 (M := M) (k := 48 * k + 3 * i + 2) (by omega)
    have c0 : (nI (48 * k + 3 * i)).toNatClampNeg = 48 * k + 3 * i := nI_clamp (by omega)
    have c1 : (nI (48 * k + 3 * i + 1)).toNatClampNeg = 48 * k + 3 * i + 1 := nI_clamp (by omega)
    have c2 : (nI (48 * k + 3 * i + 2)).toNatClampNeg = 48 * k + 3 * i + 2 := nI_clamp (by omega)
    obtain ⟨q1, q2, q3⟩ := plh_g g3 hip
    obtain ⟨M1, e1, f1⟩ := m_canDo (so := sf pl i) (pa := pf pl i) (x := xf pl i) hW (Or.inr rfl) hp hw hm hlim
    have hW1 := f1.2 hW
    have hK1 : PkM M1 k pl := PkM_Fw f1 (fun j => by unfold XS; omega) hK
    obtain ⟨u1, u2, u3⟩ := plh_g hK1.2.2 hip
    have hp1 : PcM M1 466 0 l := PcM_of (fun j _ => f1.I (by unfold XS; omega)) hp
    have hm1 : gI M1 457 21 = nI lim := (f1.I (by unfold XS; omega)).trans hm
    cases c : (decide (l.length < lim) && cbL l (sf pl i) (pf pl i) (xf pl i)) with
    | false =>
      rw [fow_f c]
      refine ⟨M1, fun d Q => ?_, hp1, f1.mo (fun c j z => Or.inl z)⟩
      have e1' := e1 d
      rw [c] at e1'
      rw [sX11_goPlan_8]
      simp (disch := (first | assumption | omega | decide)) only [sX11_goPlan_0, sX11_goPlan_1, sX11_goPlan_2, sX11_goPlan_4, sX11_goPlan_5, sX11_goPlan_6, sX11_goPlan_9, sX11_goPlan_10, sX11_goPlan_13, sX11_goPlan_14, sX11_goPlan_15, sX11_goPlan_18, sX11_goPlan_19, sX11_goPlan_20, sX11_goPlan_21, sX11_goPlan_24, sX11_goPlan_26, sX11_goPlan_27, sX11_goPlan_28, sX11_goPlan_31, sX11_goPlan_33, sX11_goPlan_34, sX11_goPlan_35, sX11_goPlan_36, sX11_goPlan_37, sX11_goPlan_40, sX11_goPlan_42, sX11_goPlan_43, sX11_goPlan_44, sX11_goPlan_45, sX11_goPlan_48, sX11_goPlan_51, sX11_goPlan_52, sX11_goPlan_53, sX11_goPlan_56, sX11_goPlan_58, sX11_goPlan_59, sX11_goPlan_60, sX11_goPlan_63, sX11_goPlan_65, sX11_goPlan_66, sX11_goPlan_67, sX11_goPlan_68, sX11_goPlan_69, sX11_goPlan_72, sX11_goPlan_74, sX11_goPlan_75, sX11_goPlan_76, sX11_goPlan_77, sX11_goPlan_80, sX11_goPlan_83, sX11_goPlan_86, sX11_goPlan_89, sX11_goPlan_90, kI_i, kL_l, kV_v, am_rv_s, am_kl_i, am_kl_r, am_kl_n, am_kl_l, true_and, and_true, and_self, true_or, or_true, implies_true, forall_const, not_true_eq_false, not_false_eq_true, false_implies, true_implies, if_true, if_false, Bool.true_eq_false, Bool.false_eq_true, ob_457, r_457_20, r_457_19, i4, ck, g1, e0, nI_1, nI_2, n0, n1, n2, c0, c1, c2, q1, q2, q3, e1', bz_f]
    | true =>
      have cc := c
      rw [Bool.and_eq_true, decide_eq_true_eq] at cc
      obtain ⟨hw2, hs5⟩ := WF_add hw cc.2
      have hlt : l.length < 12 := by omega
      have dd := fun d (Q : am_Q) => m_does (d := d) (Q := Q) (so := sf pl i) (pa := pf pl i) (x := xf pl i) (Or.inr rfl) hs5 hp1 hlt
      have hp2 := PcM_add (so := sf pl i) (pa := pf pl i) (x := xdd (sf pl i) (xf pl i)) hp1 hlt
      have f2 : Fw XGo M1 (sI (sI (sI (sI M1 466 (3 * l.length) (sf pl i)) 466 (3 * l.length + 1) (pf pl i)) 466 (3 * l.length + 2) (xdd (sf pl i) (xf pl i))) 466 36 (nI (l.length + 1))) := (((Fw.s (Or.inr rfl)).tr (Fw.s (Or.inr rfl))).tr (Fw.s (Or.inr rfl))).tr (Fw.s (Or.inr rfl))
      generalize hM2 : sI (sI (sI (sI M1 466 (3 * l.length) (sf pl i)) 466 (3 * l.length + 1) (pf pl i)) 466 (3 * l.length + 2) (xdd (sf pl i) (xf pl i))) 466 36 (nI (l.length + 1)) = M2 at *
      have hm2 : gI M2 457 21 = nI lim := (f2.I (by unfold XGo XS; omega)).trans hm1
      have hK2 : PkM M2 k pl := PkM_Fw f2 (fun j => by unfold XGo XS; omega) hK1
      rw [fow_t c]
      obtain ⟨M', e, r1, f⟩ := ih (i + 1) _ M2 (by omega) (f2.2 hW1) hp2 hw2 hK2 hm2
      refine ⟨M', fun d Q => ?_, r1, ((f1.mo (fun c j z => Or.inl z)).tr f2).tr f⟩
      have e1' := e1 d
      rw [c] at e1'
      have e' := e d Q
      rw [show 48 * k + 3 * (i + 1) = 48 * k + 3 * i + 3 by omega] at e'
      rw [sX11_goPlan_8]
      simp (disch := (first | assumption | omega | decide)) only [sX11_goPlan_0, sX11_goPlan_1, sX11_goPlan_2, sX11_goPlan_4, sX11_goPlan_5, sX11_goPlan_6, sX11_goPlan_9, sX11_goPlan_10, sX11_goPlan_13, sX11_goPlan_14, sX11_goPlan_15, sX11_goPlan_18, sX11_goPlan_19, sX11_goPlan_20, sX11_goPlan_21, sX11_goPlan_24, sX11_goPlan_26, sX11_goPlan_27, sX11_goPlan_28, sX11_goPlan_31, sX11_goPlan_33, sX11_goPlan_34, sX11_goPlan_35, sX11_goPlan_36, sX11_goPlan_37, sX11_goPlan_40, sX11_goPlan_42, sX11_goPlan_43, sX11_goPlan_44, sX11_goPlan_45, sX11_goPlan_48, sX11_goPlan_51, sX11_goPlan_52, sX11_goPlan_53, sX11_goPlan_56, sX11_goPlan_58, sX11_goPlan_59, sX11_goPlan_60, sX11_goPlan_63, sX11_goPlan_65, sX11_goPlan_66, sX11_goPlan_67, sX11_goPlan_68, sX11_goPlan_69, sX11_goPlan_72, sX11_goPlan_74, sX11_goPlan_75, sX11_goPlan_76, sX11_goPlan_77, sX11_goPlan_80, sX11_goPlan_83, sX11_goPlan_86, sX11_goPlan_89, sX11_goPlan_90, kI_i, kL_l, kV_v, am_rv_s, am_kl_i, am_kl_r, am_kl_n, am_kl_l, true_and, and_true, and_self, true_or, or_true, implies_true, forall_const, not_true_eq_false, not_false_eq_true, false_implies, true_implies, if_true, if_false, Bool.true_eq_false, Bool.false_eq_true, ob_457, r_457_20, r_457_19, i4, ck, g1, e0, nI_1, nI_2, nI_3, n0, n1, n2, c0, c1, c2, q1, q2, q3, e1', bz_t, i01, u1, u2, u3, dd, e']
theorem m_goPlan {k : Nat} (hk : k < 4) (hlim : lim ≤ 12) (hW : WR M) (hp : PcM M 466 0 l) (hw : WFl l) (hK : PkM M k pl) (hm : gI M 457 21 = nI lim) : ∃ M', (∀ d (Q : am_Q), am_big (d + 5) mX11_goPlan [.ref 457, .ref 466, .int (nI k)] 488 M Q = Q (some (.int (nI (fow lim pl pl.length 0 l).1))) M') ∧ PcM M' 466 0 (fow lim pl pl.length 0 l).2 ∧ Fw XGo M M' := by
  obtain ⟨M', e, r, f⟩ := l_goPlan (pl := pl) hk hlim pl.length 0 l M (by omega) hW hp hw hK hm
  refine ⟨M', fun d Q => ?_, r, f⟩
  have e' : ok (d + 4) mX11_goPlan 488 Q 488 0 0 8 [some (.ref 457), some (.ref 466), some (.int (nI k)), some (.int 0), some (.int (nI (48 * k)))] [] M = _ := e d Q
  rw [eX11_goPlan]
  simp (disch := (first | assumption | omega | decide)) only [sX11_goPlan_0, sX11_goPlan_1, sX11_goPlan_2, sX11_goPlan_4, sX11_goPlan_5, sX11_goPlan_6, sX11_goPlan_9, sX11_goPlan_10, sX11_goPlan_13, sX11_goPlan_14, sX11_goPlan_15, sX11_goPlan_18, sX11_goPlan_19, sX11_goPlan_20, sX11_goPlan_21, sX11_goPlan_24, sX11_goPlan_26, sX11_goPlan_27, sX11_goPlan_28, sX11_goPlan_31, sX11_goPlan_33, sX11_goPlan_34, sX11_goPlan_35, sX11_goPlan_36, sX11_goPlan_37, sX11_goPlan_40, sX11_goPlan_42, sX11_goPlan_43, sX11_goPlan_44, sX11_goPlan_45, sX11_goPlan_48, sX11_goPlan_51, sX11_goPlan_52, sX11_goPlan_53, sX11_goPlan_56, sX11_goPlan_58, sX11_goPlan_59, sX11_goPlan_60, sX11_goPlan_63, sX11_goPlan_65, sX11_goPlan_66, sX11_goPlan_67, sX11_goPlan_68, sX11_goPlan_69, sX11_goPlan_72, sX11_goPlan_74, sX11_goPlan_75, sX11_goPlan_76, sX11_goPlan_77, sX11_goPlan_80, sX11_goPlan_83, sX11_goPlan_86, sX11_goPlan_89, sX11_goPlan_90, kI_i, kL_l, kV_v, am_rv_s, am_kl_i, am_kl_r, am_kl_n, am_kl_l, true_and, and_true, and_self, true_or, or_true, implies_true, forall_const, not_true_eq_false, not_false_eq_true, false_implies, true_implies, if_true, if_false, Bool.true_eq_false, Bool.false_eq_true, n48, e']
theorem m_copy : am_big (d + 1) mX11_copy [.ref 465, .ref 466] 488 M Q = Q none (cpI M 465 0 466 0 37) := by
  have l0 := loop0 (P := fun k => ok d mX11_copy 488 Q 488 0 0 2 [some (.ref 465), some (.ref 466), some (.int (nI k))] [] (cpI M 465 0 466 0 k)) (n := 37) (fun k hk => by
    have e0 : ((36 : Int32) < nI k) = False := by rw [show (36 : Int32) = nI 36 from rfl, nI_ltE (by omega) (by omega)]; exact eq_false (by omega)
    have i5 := fun (M : am_M) => in_465 (M := M) (k := k) (by omega)
    have w6 := iw_466 (k := k) (by omega)
    have ck : (nI k).toNatClampNeg = k := nI_clamp (by omega)
    have cs := cp_s (a := 466) (a0 := 465) (off := 0) (off' := 0) (k := k) (N := M) (by omega)
    rw [Nat.zero_add] at cs
    have cg : gI (cpI M 465 0 466 0 k) 465 k = gI M 465 k := gI_cpo (by omega)
    show ok d mX11_copy 488 Q 488 0 0 2 _ [] _ = _
    rw [sX11_copy_2]
    simp (disch := (first | assumption | omega | decide)) only [sX11_copy_0, sX11_copy_1, sX11_copy_3, sX11_copy_5, sX11_copy_8, sX11_copy_9, sX11_copy_10, sX11_copy_11, sX11_copy_12, sX11_copy_13, sX11_copy_14, sX11_copy_17, sX11_copy_20, kI_i, kL_l, kV_v, am_rv_s, am_kl_i, am_kl_r, am_kl_n, am_kl_l, true_and, and_true, and_self, true_or, or_true, implies_true, forall_const, not_true_eq_false, not_false_eq_true, false_implies, true_implies, if_true, if_false, Bool.true_eq_false, Bool.false_eq_true, e0, i5, w6, ck, cg, cs, nI_1])
  rw [cp_0] at l0
  have l1 : ok d mX11_copy 488 Q 488 0 0 2 [some (.ref 465), some (.ref 466), some (.int 0)] [] M = _ := l0
  have e0 : ((36 : Int32) < nI 37) = True := eq_true (by decide)
  rw [eX11_copy]
  simp (disch := (first | assumption | omega | decide)) only [sX11_copy_0, sX11_copy_1, sX11_copy_3, sX11_copy_5, sX11_copy_8, sX11_copy_9, sX11_copy_10, sX11_copy_11, sX11_copy_12, sX11_copy_13, sX11_copy_14, sX11_copy_17, sX11_copy_20, kI_i, kL_l, kV_v, am_rv_s, am_kl_i, am_kl_r, am_kl_n, am_kl_l, true_and, and_true, and_self, true_or, or_true, implies_true, forall_const, not_true_eq_false, not_false_eq_true, false_implies, true_implies, if_true, if_false, Bool.true_eq_false, Bool.false_eq_true, l1]
  rw [sX11_copy_2]
  simp (disch := (first | assumption | omega | decide)) only [sX11_copy_0, sX11_copy_1, sX11_copy_3, sX11_copy_5, sX11_copy_8, sX11_copy_9, sX11_copy_10, sX11_copy_11, sX11_copy_12, sX11_copy_13, sX11_copy_14, sX11_copy_17, sX11_copy_20, kI_i, kL_l, kV_v, am_rv_s, am_kl_i, am_kl_r, am_kl_n, am_kl_l, true_and, and_true, and_self, true_or, or_true, implies_true, forall_const, not_true_eq_false, not_false_eq_true, false_implies, true_implies, if_true, if_false, Bool.true_eq_false, Bool.false_eq_true, e0]
theorem PlM_k {i : Nat} (h : PlM M PL) (hi : i < PL.length) : PkM M i PL[i] := h.2.2 i hi
theorem m_run {k w : Int32} (hr : RS M ap lim S P) (hP : PlM M PL) : ∃ M', (∀ d (Q : am_Q), am_big (d + 6) mX11_run [.ref 457, .int k, .int w] 488 M Q = Q (some (.int (runA ap lim S PL k w))) M') ∧ Fw (fun c j => XGo c j ∨ (c = 457 ∧ j = 0)) M M' := by
  have f0 : Fw (fun c j => XGo c j ∨ (c = 457 ∧ j = 0)) M (sI M 457 0 0) := Fw.s (Or.inr ⟨rfl, rfl⟩)
  obtain ⟨hW, hS, hPa, hf, hm, hw, hlim, ht⟩ := RS_th hr
  have hP0 : PlM (sI M 457 0 0) PL := ⟨by rw [gI_j (by omega)]; exact hP.1, hP.2.1, fun i hi => by
    have := hP.2.2 i hi
    exact ⟨by rw [gI_o (by omega)]; exact this.1, this.2.1, fun j t e => by rw [gI_o (by omega), gI_o (by omega), gI_o (by omega)]; exact this.2.2 j t e⟩⟩
  generalize hM0 : sI M 457 0 0 = M0 at *
  have hap := hS.2.2.2.2.1.2.2
  have ol := opn_0 hap
  have hl := hS.1
  have ip := fun d (Q : am_Q) => m_isPlan (d := d) (Q := Q) (k := k) hP0
  have e01 := in01 (w := w)
  unfold runA
  by_cases c2 : 0 ≤ k ∧ k < nI PL.length
  · have cd := decide_eq_true c2
    cases c1 : opn ap with
    | false =>
      refine ⟨M0, fun d Q => ?_, f0⟩
      rw [if_neg (fun z => by cases z.1), eX11_run]
      simp (disch := (first | assumption | omega | decide)) only [sX11_run_0, sX11_run_1, sX11_run_2, sX11_run_5, sX11_run_6, sX11_run_7, sX11_run_10, sX11_run_13, sX11_run_14, sX11_run_17, sX11_run_20, sX11_run_21, sX11_run_22, sX11_run_23, sX11_run_24, sX11_run_27, sX11_run_30, sX11_run_33, sX11_run_34, sX11_run_35, sX11_run_38, sX11_run_39, sX11_run_42, sX11_run_45, sX11_run_46, sX11_run_47, sX11_run_50, sX11_run_51, sX11_run_54, sX11_run_55, sX11_run_56, sX11_run_57, sX11_run_60, sX11_run_61, sX11_run_64, sX11_run_66, sX11_run_67, sX11_run_68, sX11_run_69, sX11_run_70, sX11_run_73, sX11_run_74, sX11_run_75, sX11_run_78, sX11_run_79, sX11_run_82, sX11_run_83, kI_i, kL_l, kV_v, am_rv_s, am_kl_i, am_kl_r, am_kl_n, am_kl_l, true_and, and_true, and_self, true_or, or_true, implies_true, forall_const, not_true_eq_false, not_false_eq_true, false_implies, true_implies, if_true, if_false, Bool.true_eq_false, Bool.false_eq_true, ob_457, hM0, ip, cd, bz_t, i01, hf, ol, c1]
    | true =>
      by_cases c3 : w = 0 ∨ w = 1
      · rw [decide_eq_true c3] at e01
        obtain ⟨i, hi, rfl⟩ := pl_x hP0.2.1 c2
        have hp4 := hP0.2.1
        have hK := PlM_k hP0 hi
        have ci : (nI i).toNatClampNeg = i := nI_clamp (by omega)
        rw [if_pos ⟨rfl, c2, c3⟩, ci, pl_get hi]
        generalize hpl : PL[i] = pl at *
        have fc : Fw (fun c j => XGo c j ∨ (c = 457 ∧ j = 0)) M0 (cpI M0 465 0 466 0 37) := Fw.c (fun _ => Or.inl (Or.inr rfl))
        have hp1 : PcM (cpI M0 465 0 466 0 37) 466 0 S.1 := PcM_of (fun j hj => by rw [gI_cpi (Nat.zero_le _) (by omega), Nat.zero_add, Nat.sub_zero]) hS.p
        have hK1 : PkM (cpI M0 465 0 466 0 37) i pl := PkM_Fw (X := fun c _ => c = 466) (Fw.c (fun _ => rfl)) (fun j => by omega) hK
        have hm1 : gI (cpI M0 465 0 466 0 37) 457 21 = nI lim := (gI_cpo (by omega)).trans hm
        obtain ⟨M', e, r, f⟩ := m_goPlan (show i < 4 by omega) hlim (fc.2 hW) hp1 hw hK1 hm1
        have hW' := f.2 (fc.2 hW)
        have hWc := fc.2 hW
        have g36 : gI M' 466 36 = nI (fow lim pl pl.length 0 S.1).2.length := by have := r.2.1; rwa [Nat.zero_add] at this
        have szb := (PkM_Fw f (fun j => by unfold XGo XS; omega) hK1).1
        have hfo := (fow_ok (pl := pl) hlim pl.length 0 S.1 hw hl).2.2
        have hpl16 := hK.2.1
        have en : (nI (fow lim pl pl.length 0 S.1).1 = nI pl.length) = ((fow lim pl pl.length 0 S.1).1 = pl.length) := nI_eqE (by omega) (by omega)
        have i4 := fun (M : am_M) => in_464 (M := M) (k := i) (by omega)
        have i36 := fun (M : am_M) => in_466 (M := M) (k := 36) (by omega)
        refine ⟨M', fun d Q => ?_, (f0.tr fc).tr (f.mo (fun c j z => Or.inl z))⟩
        rw [eX11_run]
        rcases c3 with rfl | rfl
        · rw [if_neg (by decide)]
          by_cases c5 : (fow lim pl pl.length 0 S.1).1 = pl.length
          · rw [if_pos c5]
            simp (disch := (first | assumption | omega | decide)) only [sX11_run_0, sX11_run_1, sX11_run_2, sX11_run_5, sX11_run_6, sX11_run_7, sX11_run_10, sX11_run_13, sX11_run_14, sX11_run_17, sX11_run_20, sX11_run_21, sX11_run_22, sX11_run_23, sX11_run_24, sX11_run_27, sX11_run_30, sX11_run_33, sX11_run_34, sX11_run_35, sX11_run_38, sX11_run_39, sX11_run_42, sX11_run_45, sX11_run_46, sX11_run_47, sX11_run_50, sX11_run_51, sX11_run_54, sX11_run_55, sX11_run_56, sX11_run_57, sX11_run_60, sX11_run_61, sX11_run_64, sX11_run_66, sX11_run_67, sX11_run_68, sX11_run_69, sX11_run_70, sX11_run_73, sX11_run_74, sX11_run_75, sX11_run_78, sX11_run_79, sX11_run_82, sX11_run_83, kI_i, kL_l, kV_v, am_rv_s, am_kl_i, am_kl_r, am_kl_n, am_kl_l, true_and, and_true, and_self, true_or, or_true, implies_true, forall_const, not_true_eq_false, not_false_eq_true, false_implies, true_implies, if_true, if_false, Bool.true_eq_false, Bool.false_eq_true, ob_457, hM0, ip, cd, bz_t, i01, i10, hf, ol, c1, c64_0, c64_1, m_isIn, e01, r_457_27, r_457_28, m_copy, e, r_457_20, i4, ci, szb, en, c5]
          · rw [if_neg c5]
            simp (disch := (first | assumption | omega | decide)) only [sX11_run_0, sX11_run_1, sX11_run_2, sX11_run_5, sX11_run_6, sX11_run_7, sX11_run_10, sX11_run_13, sX11_run_14, sX11_run_17, sX11_run_20, sX11_run_21, sX11_run_22, sX11_run_23, sX11_run_24, sX11_run_27, sX11_run_30, sX11_run_33, sX11_run_34, sX11_run_35, sX11_run_38, sX11_run_39, sX11_run_42, sX11_run_45, sX11_run_46, sX11_run_47, sX11_run_50, sX11_run_51, sX11_run_54, sX11_run_55, sX11_run_56, sX11_run_57, sX11_run_60, sX11_run_61, sX11_run_64, sX11_run_66, sX11_run_67, sX11_run_68, sX11_run_69, sX11_run_70, sX11_run_73, sX11_run_74, sX11_run_75, sX11_run_78, sX11_run_79, sX11_run_82, sX11_run_83, kI_i, kL_l, kV_v, am_rv_s, am_kl_i, am_kl_r, am_kl_n, am_kl_l, true_and, and_true, and_self, true_or, or_true, implies_true, forall_const, not_true_eq_false, not_false_eq_true, false_implies, true_implies, if_true, if_false, Bool.true_eq_false, Bool.false_eq_true, ob_457, hM0, ip, cd, bz_t, i01, i10, hf, ol, c1, c64_0, c64_1, m_isIn, e01, r_457_27, r_457_28, m_copy, e, r_457_20, i4, ci, szb, en, c5]
        · rw [if_pos rfl]
          simp (disch := (first | assumption | omega | decide)) only [sX11_run_0, sX11_run_1, sX11_run_2, sX11_run_5, sX11_run_6, sX11_run_7, sX11_run_10, sX11_run_13, sX11_run_14, sX11_run_17, sX11_run_20, sX11_run_21, sX11_run_22, sX11_run_23, sX11_run_24, sX11_run_27, sX11_run_30, sX11_run_33, sX11_run_34, sX11_run_35, sX11_run_38, sX11_run_39, sX11_run_42, sX11_run_45, sX11_run_46, sX11_run_47, sX11_run_50, sX11_run_51, sX11_run_54, sX11_run_55, sX11_run_56, sX11_run_57, sX11_run_60, sX11_run_61, sX11_run_64, sX11_run_66, sX11_run_67, sX11_run_68, sX11_run_69, sX11_run_70, sX11_run_73, sX11_run_74, sX11_run_75, sX11_run_78, sX11_run_79, sX11_run_82, sX11_run_83, kI_i, kL_l, kV_v, am_rv_s, am_kl_i, am_kl_r, am_kl_n, am_kl_l, true_and, and_true, and_self, true_or, or_true, implies_true, forall_const, not_true_eq_false, not_false_eq_true, false_implies, true_implies, if_true, if_false, Bool.true_eq_false, Bool.false_eq_true, ob_457, hM0, ip, cd, bz_t, i01, hf, ol, c1, c64_0, c64_1, m_isIn, e01, r_457_27, r_457_28, m_copy, e, n36, i36, nI_clamp (show 36 < 2147483648 by omega), g36]
      · rw [decide_eq_false c3] at e01
        refine ⟨M0, fun d Q => ?_, f0⟩
        rw [if_neg (fun z => c3 z.2.2), eX11_run]
        simp (disch := (first | assumption | omega | decide)) only [sX11_run_0, sX11_run_1, sX11_run_2, sX11_run_5, sX11_run_6, sX11_run_7, sX11_run_10, sX11_run_13, sX11_run_14, sX11_run_17, sX11_run_20, sX11_run_21, sX11_run_22, sX11_run_23, sX11_run_24, sX11_run_27, sX11_run_30, sX11_run_33, sX11_run_34, sX11_run_35, sX11_run_38, sX11_run_39, sX11_run_42, sX11_run_45, sX11_run_46, sX11_run_47, sX11_run_50, sX11_run_51, sX11_run_54, sX11_run_55, sX11_run_56, sX11_run_57, sX11_run_60, sX11_run_61, sX11_run_64, sX11_run_66, sX11_run_67, sX11_run_68, sX11_run_69, sX11_run_70, sX11_run_73, sX11_run_74, sX11_run_75, sX11_run_78, sX11_run_79, sX11_run_82, sX11_run_83, kI_i, kL_l, kV_v, am_rv_s, am_kl_i, am_kl_r, am_kl_n, am_kl_l, true_and, and_true, and_self, true_or, or_true, implies_true, forall_const, not_true_eq_false, not_false_eq_true, false_implies, true_implies, if_true, if_false, Bool.true_eq_false, Bool.false_eq_true, ob_457, hM0, ip, cd, bz_t, bz_f, i01, hf, ol, c1, c64_0, c64_1, m_isIn, e01]
  · have cd := decide_eq_false c2
    refine ⟨M0, fun d Q => ?_, f0⟩
    rw [if_neg (fun z => c2 z.2.1), eX11_run]
    simp (disch := (first | assumption | omega | decide)) only [sX11_run_0, sX11_run_1, sX11_run_2, sX11_run_5, sX11_run_6, sX11_run_7, sX11_run_10, sX11_run_13, sX11_run_14, sX11_run_17, sX11_run_20, sX11_run_21, sX11_run_22, sX11_run_23, sX11_run_24, sX11_run_27, sX11_run_30, sX11_run_33, sX11_run_34, sX11_run_35, sX11_run_38, sX11_run_39, sX11_run_42, sX11_run_45, sX11_run_46, sX11_run_47, sX11_run_50, sX11_run_51, sX11_run_54, sX11_run_55, sX11_run_56, sX11_run_57, sX11_run_60, sX11_run_61, sX11_run_64, sX11_run_66, sX11_run_67, sX11_run_68, sX11_run_69, sX11_run_70, sX11_run_73, sX11_run_74, sX11_run_75, sX11_run_78, sX11_run_79, sX11_run_82, sX11_run_83, kI_i, kL_l, kV_v, am_rv_s, am_kl_i, am_kl_r, am_kl_n, am_kl_l, true_and, and_true, and_self, true_or, or_true, implies_true, forall_const, not_true_eq_false, not_false_eq_true, false_implies, true_implies, if_true, if_false, Bool.true_eq_false, Bool.false_eq_true, ob_457, hM0, ip, cd, bz_f]
theorem l_mperform {k : Nat} (hk : k < 4) : ∀ (j i : Nat) (S : Sg) (P : List Sg) (M : am_M), i + j = pl.length → RS M ap lim S P → PkM M k pl → ∃ M', (∀ d (Q : am_Q), ok (d + 4) mX11_perform 488 Q 488 0 0 29 [some (.ref 457), some (.int (nI k)), some (.int (nI i)), some (.int (nI (48 * k + 3 * i)))] [] M = Q (some (.int (nI (pfo ap lim pl j i S P).1))) M') ∧ StM M' 465 0 ap (pfo ap lim pl j i S P).2.1 ∧ PaM M' ap (pfo ap lim pl j i S P).2.2 ∧ Fw XM M M' := by
  intro j
  induction j with
  | zero =>
    intro i S P M hi hr hK
    obtain ⟨g1, g2, g3⟩ := hK
    obtain ⟨hW, hS, hPa, _⟩ := hr
    refine ⟨M, fun d Q => ?_, hS, hPa, Fw.rf⟩
    have e0 : (nI pl.length ≤ nI i) = True := by rw [nI_leE (by omega) (by omega)]; exact eq_true (by omega)
    have i4 := in_464 (M := M) (k := k) (by omega)
    have ck : (nI k).toNatClampNeg = k := nI_clamp (by omega)
    rw [sX11_perform_29]
    simp (disch := (first | assumption | omega | decide)) only [sX11_perform_0, sX11_perform_1, sX11_perform_2, sX11_perform_5, sX11_perform_6, sX11_perform_7, sX11_perform_10, sX11_perform_13, sX11_perform_14, sX11_perform_17, sX11_perform_20, sX11_perform_21, sX11_perform_22, sX11_perform_23, sX11_perform_24, sX11_perform_26, sX11_perform_27, sX11_perform_28, sX11_perform_30, sX11_perform_31, sX11_perform_34, sX11_perform_35, sX11_perform_36, sX11_perform_39, sX11_perform_40, sX11_perform_43, sX11_perform_46, sX11_perform_47, sX11_perform_48, sX11_perform_51, sX11_perform_52, sX11_perform_55, sX11_perform_56, sX11_perform_57, sX11_perform_58, sX11_perform_61, sX11_perform_62, sX11_perform_63, sX11_perform_64, sX11_perform_65, sX11_perform_66, sX11_perform_69, sX11_perform_70, sX11_perform_71, sX11_perform_72, sX11_perform_73, sX11_perform_76, sX11_perform_79, sX11_perform_80, sX11_perform_83, sX11_perform_84, sX11_perform_85, sX11_perform_88, sX11_perform_89, sX11_perform_90, sX11_perform_91, sX11_perform_94, sX11_perform_95, sX11_perform_96, sX11_perform_97, sX11_perform_98, sX11_perform_99, sX11_perform_102, sX11_perform_103, sX11_perform_104, sX11_perform_105, sX11_perform_106, sX11_perform_109, sX11_perform_112, sX11_perform_115, sX11_perform_118, sX11_perform_119, kI_i, kL_l, kV_v, am_rv_s, am_kl_i, am_kl_r, am_kl_n, am_kl_l, true_and, and_true, and_self, true_or, or_true, implies_true, forall_const, not_true_eq_false, not_false_eq_true, false_implies, true_implies, if_true, if_false, Bool.true_eq_false, Bool.false_eq_true, ob_457, r_457_20, i4, ck, g1, e0]
    rfl
  | succ j ih =>
    intro i S P M hi hr hK
    obtain ⟨hW, hS, hPa, hf, hm, hw, hlim, ht⟩ := id hr
    obtain ⟨g1, g2, g3⟩ := id hK
    have hip : i < pl.length := by omega
    have e0 : (nI pl.length ≤ nI i) = False := by rw [nI_leE (by omega) (by omega)]; exact eq_false (by omega)
    have i4 := fun (M : am_M) => in_464 (M := M) (k := k) (by omega)
    have ck : (nI k).toNatClampNeg = k := nI_clamp (by omega)
    have n0 := fun (M : am_M) => in_463 (M := M) (k := 48 * k + 3 * i) (by omega)
    have n1 := fun (M : am_M) => in_463 (M := M) (k := 48 * k + 3 * i + 1) (by omega)
    have n2 := fun (M : am_M) => in_463 (M := M) (k := 48 * k + 3 * i + 2) (by omega)
    have c0 : (nI (48 * k + 3 * i)).toNatClampNeg = 48 * k + 3 * i := nI_clamp (by omega)
    have c1 : (nI (48 * k + 3 * i + 1)).toNatClampNeg = 48 * k + 3 * i + 1 := nI_clamp (by omega)
    have c2 : (nI (48 * k + 3 * i + 2)).toNatClampNeg = 48 * k + 3 * i + 2 := nI_clamp (by omega)
    obtain ⟨q1, q2, q3⟩ := plh_g g3 hip
    have il := fun d (Q : am_Q) => m_isLate (d := d) (Q := Q) hW hf ht hS
    have hmk : mkA ap lim S (sf pl i) (pf pl i) (xf pl i) = (cac ap S && (decide (S.1.length < lim) && cbL S.1 (sf pl i) (pf pl i) (xf pl i))) := rfl
    cases c3 : cac ap S with
    | false =>
      have cm : mkA ap lim S (sf pl i) (pf pl i) (xf pl i) = false := by rw [hmk, c3]; rfl
      rw [pfo_f cm]
      refine ⟨M, fun d Q => ?_, hS, hPa, Fw.rf⟩
      rw [sX11_perform_29]
      simp (disch := (first | assumption | omega | decide)) only [sX11_perform_0, sX11_perform_1, sX11_perform_2, sX11_perform_5, sX11_perform_6, sX11_perform_7, sX11_perform_10, sX11_perform_13, sX11_perform_14, sX11_perform_17, sX11_perform_20, sX11_perform_21, sX11_perform_22, sX11_perform_23, sX11_perform_24, sX11_perform_26, sX11_perform_27, sX11_perform_28, sX11_perform_30, sX11_perform_31, sX11_perform_34, sX11_perform_35, sX11_perform_36, sX11_perform_39, sX11_perform_40, sX11_perform_43, sX11_perform_46, sX11_perform_47, sX11_perform_48, sX11_perform_51, sX11_perform_52, sX11_perform_55, sX11_perform_56, sX11_perform_57, sX11_perform_58, sX11_perform_61, sX11_perform_62, sX11_perform_63, sX11_perform_64, sX11_perform_65, sX11_perform_66, sX11_perform_69, sX11_perform_70, sX11_perform_71, sX11_perform_72, sX11_perform_73, sX11_perform_76, sX11_perform_79, sX11_perform_80, sX11_perform_83, sX11_perform_84, sX11_perform_85, sX11_perform_88, sX11_perform_89, sX11_perform_90, sX11_perform_91, sX11_perform_94, sX11_perform_95, sX11_perform_96, sX11_perform_97, sX11_perform_98, sX11_perform_99, sX11_perform_102, sX11_perform_103, sX11_perform_104, sX11_perform_105, sX11_perform_106, sX11_perform_109, sX11_perform_112, sX11_perform_115, sX11_perform_118, sX11_perform_119, kI_i, kL_l, kV_v, am_rv_s, am_kl_i, am_kl_r, am_kl_n, am_kl_l, true_and, and_true, and_self, true_or, or_true, implies_true, forall_const, not_true_eq_false, not_false_eq_true, false_implies, true_implies, if_true, if_false, Bool.true_eq_false, Bool.false_eq_true, ob_457, r_457_20, i4, ck, g1, e0, il, c3, Bool.not_false, bz_t, i01]
    | true =>
      obtain ⟨M1, e1, f1⟩ := m_canDo (so := sf pl i) (pa := pf pl i) (x := xf pl i) hW (Or.inl rfl) hS.p hw hm hlim
      have hW1 := f1.2 hW
      have hS1 := StM_Fw f1 (fun j => by unfold XS; omega) hS
      have hP1 := PaM_Fw f1 (fun j => by unfold XS; omega) (by unfold XS; omega) hPa
      cases c : (decide (S.1.length < lim) && cbL S.1 (sf pl i) (pf pl i) (xf pl i)) with
      | false =>
        have cm : mkA ap lim S (sf pl i) (pf pl i) (xf pl i) = false := by rw [hmk, c3, c]; rfl
        rw [pfo_f cm]
        refine ⟨M1, fun d Q => ?_, hS1, hP1, f1.mo XS_XM⟩
        have e1' := e1 d
        rw [c] at e1'
        rw [sX11_perform_29]
        simp (disch := (first | assumption | omega | decide)) only [sX11_perform_0, sX11_perform_1, sX11_perform_2, sX11_perform_5, sX11_perform_6, sX11_perform_7, sX11_perform_10, sX11_perform_13, sX11_perform_14, sX11_perform_17, sX11_perform_20, sX11_perform_21, sX11_perform_22, sX11_perform_23, sX11_perform_24, sX11_perform_26, sX11_perform_27, sX11_perform_28, sX11_perform_30, sX11_perform_31, sX11_perform_34, sX11_perform_35, sX11_perform_36, sX11_perform_39, sX11_perform_40, sX11_perform_43, sX11_perform_46, sX11_perform_47, sX11_perform_48, sX11_perform_51, sX11_perform_52, sX11_perform_55, sX11_perform_56, sX11_perform_57, sX11_perform_58, sX11_perform_61, sX11_perform_62, sX11_perform_63, sX11_perform_64, sX11_perform_65, sX11_perform_66, sX11_perform_69, sX11_perform_70, sX11_perform_71, sX11_perform_72, sX11_perform_73, sX11_perform_76, sX11_perform_79, sX11_perform_80, sX11_perform_83, sX11_perform_84, sX11_perform_85, sX11_perform_88, sX11_perform_89, sX11_perform_90, sX11_perform_91, sX11_perform_94, sX11_perform_95, sX11_perform_96, sX11_perform_97, sX11_perform_98, sX11_perform_99, sX11_perform_102, sX11_perform_103, sX11_perform_104, sX11_perform_105, sX11_perform_106, sX11_perform_109, sX11_perform_112, sX11_perform_115, sX11_perform_118, sX11_perform_119, kI_i, kL_l, kV_v, am_rv_s, am_kl_i, am_kl_r, am_kl_n, am_kl_l, true_and, and_true, and_self, true_or, or_true, implies_true, forall_const, not_true_eq_false, not_false_eq_true, false_implies, true_implies, if_true, if_false, Bool.true_eq_false, Bool.false_eq_true, ob_457, r_457_20, r_457_19, r_457_27, i4, ck, g1, e0, il, c3, Bool.not_true, bz_f, nI_1, nI_2, n0, n1, n2, c0, c1, c2, q1, q2, q3, e1']
      | true =>
        have cm : mkA ap lim S (sf pl i) (pf pl i) (xf pl i) = true := by rw [hmk, c3, c]; rfl
        have cc := c
        rw [Bool.and_eq_true, decide_eq_true_eq] at cc
        obtain ⟨hw2, hs5⟩ := WF_add hw cc.2
        obtain ⟨M2, e2, p2, s2, f2⟩ := m_begins hW1 hP1 hS1
        have hW2 := f2.2 hW1
        have hK2 : PkM M2 k pl := PkM_Fw f2 (fun j => by unfold XB; omega) (PkM_Fw f1 (fun j => by unfold XS; omega) hK)
        obtain ⟨u1, u2, u3⟩ := plh_g hK2.2.2 hip
        obtain ⟨M3, e3, s3, f3⟩ := m_actMake (so := sf pl i) (pa := pf pl i) (x := xf pl i) hW2 hs5 s2 (by show S.1.length < 12; omega)
        have p3 := PaM_Fw f3 (fun j => by omega) (by omega) p2
        have hW3 := f3.2 hW2
        have g23 : gI M3 457 23 = nI ap := by rw [f3.I (by omega), f2.I (by unfold XB; omega), f1.I (by unfold XS; omega)]; exact hf
        have g21 : gI M3 457 21 = nI lim := by rw [f3.I (by omega), f2.I (by unfold XB; omega), f1.I (by unfold XS; omega)]; exact hm
        have hr3 : RS M3 ap lim (doS (tS S) (sf pl i) (pf pl i) (xf pl i)) (paA P S) := ⟨hW3, s3, p3, g23, g21, hw2, hlim, by show S.2.2.2.1 + 1 ≤ 9999; have := cac_t c3; omega⟩
        have hK3 : PkM M3 k pl := PkM_Fw f3 (fun j => by omega) hK2
        rw [pfo_t cm]
        obtain ⟨M', e, r1, r2, f⟩ := ih (i + 1) _ _ M3 (by omega) hr3 hK3
        refine ⟨M', fun d Q => ?_, r1, r2, (((f1.mo XS_XM).tr (f2.mo (fun c j z => by unfold XB at z; unfold XM; omega))).tr (f3.mo (fun c j z => by unfold XM; omega))).tr f⟩
        have e1' := e1 d
        rw [c] at e1'
        have e' := e d Q
        rw [show 48 * k + 3 * (i + 1) = 48 * k + 3 * i + 3 by omega] at e'
        rw [sX11_perform_29]
        simp (disch := (first | assumption | omega | decide)) only [sX11_perform_0, sX11_perform_1, sX11_perform_2, sX11_perform_5, sX11_perform_6, sX11_perform_7, sX11_perform_10, sX11_perform_13, sX11_perform_14, sX11_perform_17, sX11_perform_20, sX11_perform_21, sX11_perform_22, sX11_perform_23, sX11_perform_24, sX11_perform_26, sX11_perform_27, sX11_perform_28, sX11_perform_30, sX11_perform_31, sX11_perform_34, sX11_perform_35, sX11_perform_36, sX11_perform_39, sX11_perform_40, sX11_perform_43, sX11_perform_46, sX11_perform_47, sX11_perform_48, sX11_perform_51, sX11_perform_52, sX11_perform_55, sX11_perform_56, sX11_perform_57, sX11_perform_58, sX11_perform_61, sX11_perform_62, sX11_perform_63, sX11_perform_64, sX11_perform_65, sX11_perform_66, sX11_perform_69, sX11_perform_70, sX11_perform_71, sX11_perform_72, sX11_perform_73, sX11_perform_76, sX11_perform_79, sX11_perform_80, sX11_perform_83, sX11_perform_84, sX11_perform_85, sX11_perform_88, sX11_perform_89, sX11_perform_90, sX11_perform_91, sX11_perform_94, sX11_perform_95, sX11_perform_96, sX11_perform_97, sX11_perform_98, sX11_perform_99, sX11_perform_102, sX11_perform_103, sX11_perform_104, sX11_perform_105, sX11_perform_106, sX11_perform_109, sX11_perform_112, sX11_perform_115, sX11_perform_118, sX11_perform_119, kI_i, kL_l, kV_v, am_rv_s, am_kl_i, am_kl_r, am_kl_n, am_kl_l, true_and, and_true, and_self, true_or, or_true, implies_true, forall_const, not_true_eq_false, not_false_eq_true, false_implies, true_implies, if_true, if_false, Bool.true_eq_false, Bool.false_eq_true, ob_457, r_457_20, r_457_19, r_457_27, i4, ck, g1, e0, il, c3, Bool.not_true, bz_f, bz_t, i01, nI_1, nI_2, nI_3, n0, n1, n2, c0, c1, c2, q1, q2, q3, e1', e2, u1, u2, u3, e3, e']
theorem m_perform {k : Int32} (hr : RS M ap lim S P) (hP : PlM M PL) : ∃ M', (∀ d (Q : am_Q), am_big (d + 5) mX11_perform [.ref 457, .int k] 488 M Q = Q (some (.int (perfA ap lim S P PL k).1)) M') ∧ StM M' 465 0 ap (perfA ap lim S P PL k).2.1 ∧ PaM M' ap (perfA ap lim S P PL k).2.2 ∧ Fw XM M M' := by
  have f0 := Fw_th (M := M)
  have hr0 := RS_th hr
  have hP0 : PlM (sI M 457 0 0) PL := ⟨by rw [gI_j (by omega)]; exact hP.1, hP.2.1, fun i hi => by
    have := hP.2.2 i hi
    exact ⟨by rw [gI_o (by omega)]; exact this.1, this.2.1, fun j t e => by rw [gI_o (by omega), gI_o (by omega), gI_o (by omega)]; exact this.2.2 j t e⟩⟩
  generalize hM0 : sI M 457 0 0 = M0 at *
  obtain ⟨hW, hS, hPa, hf, hm, hw, hlim, ht⟩ := id hr0
  have hap := hS.2.2.2.2.1.2.2
  have ol := opn_0 hap
  have ip := fun d (Q : am_Q) => m_isPlan (d := d) (Q := Q) (k := k) hP0
  unfold perfA
  by_cases c2 : 0 ≤ k ∧ k < nI PL.length
  · have cd := decide_eq_true c2
    cases c1 : opn ap with
    | false =>
      rw [if_neg (fun z => by cases z.1)]
      refine ⟨M0, fun d Q => ?_, hS, hPa, f0⟩
      rw [eX11_perform]
      simp (disch := (first | assumption | omega | decide)) only [sX11_perform_0, sX11_perform_1, sX11_perform_2, sX11_perform_5, sX11_perform_6, sX11_perform_7, sX11_perform_10, sX11_perform_13, sX11_perform_14, sX11_perform_17, sX11_perform_20, sX11_perform_21, sX11_perform_22, sX11_perform_23, sX11_perform_24, sX11_perform_26, sX11_perform_27, sX11_perform_28, sX11_perform_30, sX11_perform_31, sX11_perform_34, sX11_perform_35, sX11_perform_36, sX11_perform_39, sX11_perform_40, sX11_perform_43, sX11_perform_46, sX11_perform_47, sX11_perform_48, sX11_perform_51, sX11_perform_52, sX11_perform_55, sX11_perform_56, sX11_perform_57, sX11_perform_58, sX11_perform_61, sX11_perform_62, sX11_perform_63, sX11_perform_64, sX11_perform_65, sX11_perform_66, sX11_perform_69, sX11_perform_70, sX11_perform_71, sX11_perform_72, sX11_perform_73, sX11_perform_76, sX11_perform_79, sX11_perform_80, sX11_perform_83, sX11_perform_84, sX11_perform_85, sX11_perform_88, sX11_perform_89, sX11_perform_90, sX11_perform_91, sX11_perform_94, sX11_perform_95, sX11_perform_96, sX11_perform_97, sX11_perform_98, sX11_perform_99, sX11_perform_102, sX11_perform_103, sX11_perform_104, sX11_perform_105, sX11_perform_106, sX11_perform_109, sX11_perform_112, sX11_perform_115, sX11_perform_118, sX11_perform_119, kI_i, kL_l, kV_v, am_rv_s, am_kl_i, am_kl_r, am_kl_n, am_kl_l, true_and, and_true, and_self, true_or, or_true, implies_true, forall_const, not_true_eq_false, not_false_eq_true, false_implies, true_implies, if_true, if_false, Bool.true_eq_false, Bool.false_eq_true, ob_457, hM0, ip, cd, bz_t, i01, hf, ol, c1]
    | true =>
      obtain ⟨i, hi, rfl⟩ := pl_x hP0.2.1 c2
      have hp4 := hP0.2.1
      have hK := PlM_k hP0 hi
      have ci : (nI i).toNatClampNeg = i := nI_clamp (by omega)
      rw [if_pos ⟨rfl, c2⟩, ci, pl_get hi]
      generalize hpl : PL[i] = pl at *
      obtain ⟨M', e, r1, r2, f⟩ := l_mperform (show i < 4 by omega) pl.length 0 S P M0 (by omega) hr0 hK
      refine ⟨M', fun d Q => ?_, r1, r2, f0.tr f⟩
      have e' : ok (d + 4) mX11_perform 488 Q 488 0 0 29 [some (.ref 457), some (.int (nI i)), some (.int 0), some (.int (nI (48 * i)))] [] M0 = _ := e d Q
      rw [eX11_perform]
      simp (disch := (first | assumption | omega | decide)) only [sX11_perform_0, sX11_perform_1, sX11_perform_2, sX11_perform_5, sX11_perform_6, sX11_perform_7, sX11_perform_10, sX11_perform_13, sX11_perform_14, sX11_perform_17, sX11_perform_20, sX11_perform_21, sX11_perform_22, sX11_perform_23, sX11_perform_24, sX11_perform_26, sX11_perform_27, sX11_perform_28, sX11_perform_30, sX11_perform_31, sX11_perform_34, sX11_perform_35, sX11_perform_36, sX11_perform_39, sX11_perform_40, sX11_perform_43, sX11_perform_46, sX11_perform_47, sX11_perform_48, sX11_perform_51, sX11_perform_52, sX11_perform_55, sX11_perform_56, sX11_perform_57, sX11_perform_58, sX11_perform_61, sX11_perform_62, sX11_perform_63, sX11_perform_64, sX11_perform_65, sX11_perform_66, sX11_perform_69, sX11_perform_70, sX11_perform_71, sX11_perform_72, sX11_perform_73, sX11_perform_76, sX11_perform_79, sX11_perform_80, sX11_perform_83, sX11_perform_84, sX11_perform_85, sX11_perform_88, sX11_perform_89, sX11_perform_90, sX11_perform_91, sX11_perform_94, sX11_perform_95, sX11_perform_96, sX11_perform_97, sX11_perform_98, sX11_perform_99, sX11_perform_102, sX11_perform_103, sX11_perform_104, sX11_perform_105, sX11_perform_106, sX11_perform_109, sX11_perform_112, sX11_perform_115, sX11_perform_118, sX11_perform_119, kI_i, kL_l, kV_v, am_rv_s, am_kl_i, am_kl_r, am_kl_n, am_kl_l, true_and, and_true, and_self, true_or, or_true, implies_true, forall_const, not_true_eq_false, not_false_eq_true, false_implies, true_implies, if_true, if_false, Bool.true_eq_false, Bool.false_eq_true, ob_457, hM0, ip, cd, bz_t, i01, hf, ol, c1, n48, e']
  · have cd := decide_eq_false c2
    rw [if_neg (fun z => c2 z.2)]
    refine ⟨M0, fun d Q => ?_, hS, hPa, f0⟩
    rw [eX11_perform]
    simp (disch := (first | assumption | omega | decide)) only [sX11_perform_0, sX11_perform_1, sX11_perform_2, sX11_perform_5, sX11_perform_6, sX11_perform_7, sX11_perform_10, sX11_perform_13, sX11_perform_14, sX11_perform_17, sX11_perform_20, sX11_perform_21, sX11_perform_22, sX11_perform_23, sX11_perform_24, sX11_perform_26, sX11_perform_27, sX11_perform_28, sX11_perform_30, sX11_perform_31, sX11_perform_34, sX11_perform_35, sX11_perform_36, sX11_perform_39, sX11_perform_40, sX11_perform_43, sX11_perform_46, sX11_perform_47, sX11_perform_48, sX11_perform_51, sX11_perform_52, sX11_perform_55, sX11_perform_56, sX11_perform_57, sX11_perform_58, sX11_perform_61, sX11_perform_62, sX11_perform_63, sX11_perform_64, sX11_perform_65, sX11_perform_66, sX11_perform_69, sX11_perform_70, sX11_perform_71, sX11_perform_72, sX11_perform_73, sX11_perform_76, sX11_perform_79, sX11_perform_80, sX11_perform_83, sX11_perform_84, sX11_perform_85, sX11_perform_88, sX11_perform_89, sX11_perform_90, sX11_perform_91, sX11_perform_94, sX11_perform_95, sX11_perform_96, sX11_perform_97, sX11_perform_98, sX11_perform_99, sX11_perform_102, sX11_perform_103, sX11_perform_104, sX11_perform_105, sX11_perform_106, sX11_perform_109, sX11_perform_112, sX11_perform_115, sX11_perform_118, sX11_perform_119, kI_i, kL_l, kV_v, am_rv_s, am_kl_i, am_kl_r, am_kl_n, am_kl_l, true_and, and_true, and_self, true_or, or_true, implies_true, forall_const, not_true_eq_false, not_false_eq_true, false_implies, true_implies, if_true, if_false, Bool.true_eq_false, Bool.false_eq_true, ob_457, hM0, ip, cd, bz_f]
end
