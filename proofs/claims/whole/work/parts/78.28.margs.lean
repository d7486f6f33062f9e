section
variable {M N : am_M} {ap lim : Nat} {S : Sg} {P : List Sg} {L : List Sn} {LL : List (List Nat)} {h : Int32} {X : Nat → Nat → Prop}
theorem SeM_Fw (hF : Fw X M N) (hX : ∀ c j, ((c = 457 ∧ j = 52) ∨ c = 485) → ¬ X c j) (hL : SeM M L) : SeM N L := by
  obtain ⟨h1, h2, h3⟩ := hL
  exact ⟨by rw [hF.I (hX _ _ (by omega))]; exact h1, h2, fun i hi => by rw [hF.I (hX _ _ (by omega)), hF.I (hX _ _ (by omega)), hF.I (hX _ _ (by omega))]; exact h3 i hi⟩
theorem SeM_XC (hF : Fw XC M N) (hL : SeM M L) : SeM N L := SeM_Fw hF (fun c j hc => by unfold XC XC0 XG; omega) hL
theorem s5 {s : Nat} (hs : s < 5) : nI s = 0 ∨ nI s = 1 ∨ nI s = 2 ∨ nI s = 3 ∨ nI s = 4 := sw_is hs
theorem m_firstCost {s v : Nat} (hs : s < 5) (hv : v < 10) (hW : WR M) (hb : LbM M LL h) : ∃ M', (∀ d (Q : am_Q), 32 ≤ d → am_big d mX11_firstCost [.ref 457, .int (nI s), .int (nI v)] 488 M Q = Q (some (.int (fcs LL h (nI s) v))) M') ∧ LbM M' LL h ∧ Fw XC M M' := by
  have hx := fun d (Q : am_Q) (N : am_M) => m_hasX (d := d) (Q := Q) (M := N) (s5 hs)
  obtain ⟨M', e, lb, f⟩ := m_costOf (so := s) (pa := 0) (x := if tlx (nI s) = true then v else 0) (n := 0) (b := 5) (t := 0) hW hb (by unfold agB; split <;> omega)
  refine ⟨M', fun d Q hd => ?_, lb, f⟩
  obtain ⟨d', rfl⟩ : ∃ d', d = d' + 2 := ⟨d - 2, by omega⟩
  have e2' : ∀ (u : Int32), u = nI (if tlx (nI s) = true then v else 0) → ∀ (Q : am_Q), am_big (d' + 1) mX11_costOf [.ref 457, .int (nI s), .int 0, .int u, .int 0, .int 5, .int 0] 488 M Q = Q (some (.int (fcs LL h (nI s) v))) M' := fun u hu Q => by rw [hu]; exact e (d' + 1) Q (by omega)
  rw [eX11_firstCost]
  cases ct : tlx (nI s) with
  | true =>
    have e3 := e2' (nI v) (by rw [ct]; rfl)
    simp (disch := (first | assumption | omega | decide)) only [sX11_firstCost_0, sX11_firstCost_1, sX11_firstCost_2, sX11_firstCost_3, sX11_firstCost_4, sX11_firstCost_7, sX11_firstCost_10, sX11_firstCost_11, sX11_firstCost_14, sX11_firstCost_15, sX11_firstCost_16, sX11_firstCost_17, sX11_firstCost_18, sX11_firstCost_21, kI_i, kL_l, kV_v, am_rv_s, am_kl_i, am_kl_r, am_kl_n, am_kl_l, true_and, and_true, and_self, true_or, or_true, implies_true, forall_const, not_true_eq_false, not_false_eq_true, false_implies, true_implies, if_true, if_false, Bool.true_eq_false, Bool.false_eq_true, ob_457, hx, ct, bz_t, i01, e3]
  | false =>
    have e3 := e2' 0 (by rw [ct]; rfl)
    simp (disch := (first | assumption | omega | decide)) only [sX11_firstCost_0, sX11_firstCost_1, sX11_firstCost_2, sX11_firstCost_3, sX11_firstCost_4, sX11_firstCost_7, sX11_firstCost_10, sX11_firstCost_11, sX11_firstCost_14, sX11_firstCost_15, sX11_firstCost_16, sX11_firstCost_17, sX11_firstCost_18, sX11_firstCost_21, kI_i, kL_l, kV_v, am_rv_s, am_kl_i, am_kl_r, am_kl_n, am_kl_l, true_and, and_true, and_self, true_or, or_true, implies_true, forall_const, not_true_eq_false, not_false_eq_true, false_implies, true_implies, if_true, if_false, Bool.true_eq_false, Bool.false_eq_true, ob_457, hx, ct, bz_f, e3]
theorem alf_r {f : Nat → Bool} : ∀ (k i : Nat), alf f i (k + 1) = (alf f i k && f (i + k))
  | 0, i => by simp [alf]
  | k + 1, i => by
    show (f i && alf f (i + 1) (k + 1)) = (f i && alf f (i + 1) k && f (i + (k + 1)))
    rw [alf_r k (i + 1), Bool.and_assoc, show i + 1 + k = i + (k + 1) by omega]
theorem m_argsIn {s v : Nat} {B : Int32} (hs : s < 5) (hv : v < 10) (hW : WR M) (hb : LbM M LL h) (hL : SeM M L) : ∀ k, k ≤ L.length → ∃ M', (∀ d (Q : am_Q), 32 ≤ d → ok d mX11_argsOf 488 Q 488 0 0 16 [some (.ref 457), some (.int (nI s)), some (.int B), some (.int (nI v)), some (.int 1), some (.int 0)] [] M = ok d mX11_argsOf 488 Q 488 0 0 16 [some (.ref 457), some (.int (nI s)), some (.int B), some (.int (nI v)), some (.int (bz (alf (fok L (nI s) (fcs LL h (nI s) v)) 0 k))), some (.int (nI k))] [] M') ∧ LbM M' LL h ∧ Fw XC M M' := by
  intro k
  induction k with
  | zero => exact fun _ => ⟨M, fun d Q _ => rfl, hb, Fw.rf⟩
  | succ k ih =>
    intro hk
    obtain ⟨M1, e1, lb1, f1⟩ := ih (by omega)
    have hW1 := f1.2 hW
    obtain ⟨g1, g2, g3⟩ := SeM_XC f1 hL
    have hkl : k < L.length := by omega
    obtain ⟨q1, q2, q3⟩ := g3 k hkl
    rw [← snD_get hkl] at q1 q2 q3
    have ck : (nI (3 * k)).toNatClampNeg = 3 * k := nI_clamp (by omega)
    have ck1 : (nI (3 * k + 1)).toNatClampNeg = 3 * k + 1 := nI_clamp (by omega)
    have ck2 : (nI (3 * k + 2)).toNatClampNeg = 3 * k + 2 := nI_clamp (by omega)
    have e0 : (nI L.length ≤ nI k) = False := by rw [nI_leE (by omega) (by omega)]; exact eq_false (by omega)
    have i0 := fun (M : am_M) => in_485 (M := M) (k := 3 * k) (by omega)
    have i1 := fun (M : am_M) => in_485 (M := M) (k := 3 * k + 1) (by omega)
    have i2 := fun (M : am_M) => in_485 (M := M) (k := 3 * k + 2) (by omega)
    rw [alf_r, Nat.zero_add]
    generalize ha : alf (fok L (nI s) (fcs LL h (nI s) v)) 0 k = a at *
    have hf : fok L (nI s) (fcs LL h (nI s) v) k = !(decide ((snD L k).1 = nI s) && (decide ((snD L k).2.1 ≤ fcs LL h (nI s) v) != (snD L k).2.2)) := rfl
    rw [hf]
    generalize snD L k = t at *
    obtain ⟨t1, t2, t3⟩ := t
    simp only at q1 q2 q3
    by_cases c1 : t1 = nI s
    · obtain ⟨M2, e2, lb2, f2⟩ := m_firstCost hs hv hW1 lb1
      have hW2 := f2.2 hW1
      have p2 : gI M2 485 (3 * k + 1) = t2 := (f2.I (by unfold XC XC0 XG; omega)).trans q2
      have p3 : gI M2 485 (3 * k + 2) = bz t3 := (f2.I (by unfold XC XC0 XG; omega)).trans q3
      refine ⟨M2, fun d Q hd => ?_, lb2, f1.tr f2⟩
      have e2' := fun (Q : am_Q) => e2 d Q hd
      rw [e1 d Q hd, sX11_argsOf_16]
      by_cases c2 : t2 ≤ fcs LL h (nI s) v
      · have c2' : ¬ fcs LL h (nI s) v < t2 := Int32.not_lt.mpr c2
        cases t3
        · simp (disch := (first | assumption | omega | decide)) only [sX11_argsOf_0, sX11_argsOf_1, sX11_argsOf_2, sX11_argsOf_3, sX11_argsOf_5, sX11_argsOf_7, sX11_argsOf_10, sX11_argsOf_11, sX11_argsOf_13, sX11_argsOf_14, sX11_argsOf_18, sX11_argsOf_19, sX11_argsOf_22, sX11_argsOf_25, sX11_argsOf_26, sX11_argsOf_29, sX11_argsOf_30, sX11_argsOf_32, sX11_argsOf_33, sX11_argsOf_34, sX11_argsOf_35, sX11_argsOf_38, sX11_argsOf_39, sX11_argsOf_40, sX11_argsOf_41, sX11_argsOf_44, sX11_argsOf_45, sX11_argsOf_48, sX11_argsOf_49, sX11_argsOf_51, sX11_argsOf_52, sX11_argsOf_53, sX11_argsOf_54, sX11_argsOf_55, sX11_argsOf_58, sX11_argsOf_59, sX11_argsOf_62, sX11_argsOf_63, sX11_argsOf_64, sX11_argsOf_67, sX11_argsOf_68, sX11_argsOf_70, sX11_argsOf_71, sX11_argsOf_72, sX11_argsOf_73, sX11_argsOf_74, sX11_argsOf_75, sX11_argsOf_78, sX11_argsOf_79, sX11_argsOf_82, sX11_argsOf_83, sX11_argsOf_86, sX11_argsOf_87, sX11_argsOf_89, sX11_argsOf_92, sX11_argsOf_95, sX11_argsOf_96, sX11_argsOf_98, sX11_argsOf_101, sX11_argsOf_102, sX11_argsOf_103, sX11_argsOf_104, sX11_argsOf_107, sX11_argsOf_108, sX11_argsOf_109, sX11_argsOf_110, sX11_argsOf_113, sX11_argsOf_116, sX11_argsOf_117, kI_i, kL_l, kV_v, am_rv_s, am_kl_i, am_kl_r, am_kl_n, am_kl_l, true_and, and_true, and_self, true_or, or_true, implies_true, forall_const, not_true_eq_false, not_false_eq_true, false_implies, true_implies, if_true, if_false, Bool.true_eq_false, Bool.false_eq_true, ob_457, g1, e0, r_457_51, nI_m3, nI_1, nI_2, i0, i1, i2, ck, ck1, ck2, q1, c1, e2', p2, p3, c2, c2', bz_f, i01, i10, decide_true]
          cases a <;> rfl
        · simp (disch := (first | assumption | omega | decide)) only [sX11_argsOf_0, sX11_argsOf_1, sX11_argsOf_2, sX11_argsOf_3, sX11_argsOf_5, sX11_argsOf_7, sX11_argsOf_10, sX11_argsOf_11, sX11_argsOf_13, sX11_argsOf_14, sX11_argsOf_18, sX11_argsOf_19, sX11_argsOf_22, sX11_argsOf_25, sX11_argsOf_26, sX11_argsOf_29, sX11_argsOf_30, sX11_argsOf_32, sX11_argsOf_33, sX11_argsOf_34, sX11_argsOf_35, sX11_argsOf_38, sX11_argsOf_39, sX11_argsOf_40, sX11_argsOf_41, sX11_argsOf_44, sX11_argsOf_45, sX11_argsOf_48, sX11_argsOf_49, sX11_argsOf_51, sX11_argsOf_52, sX11_argsOf_53, sX11_argsOf_54, sX11_argsOf_55, sX11_argsOf_58, sX11_argsOf_59, sX11_argsOf_62, sX11_argsOf_63, sX11_argsOf_64, sX11_argsOf_67, sX11_argsOf_68, sX11_argsOf_70, sX11_argsOf_71, sX11_argsOf_72, sX11_argsOf_73, sX11_argsOf_74, sX11_argsOf_75, sX11_argsOf_78, sX11_argsOf_79, sX11_argsOf_82, sX11_argsOf_83, sX11_argsOf_86, sX11_argsOf_87, sX11_argsOf_89, sX11_argsOf_92, sX11_argsOf_95, sX11_argsOf_96, sX11_argsOf_98, sX11_argsOf_101, sX11_argsOf_102, sX11_argsOf_103, sX11_argsOf_104, sX11_argsOf_107, sX11_argsOf_108, sX11_argsOf_109, sX11_argsOf_110, sX11_argsOf_113, sX11_argsOf_116, sX11_argsOf_117, kI_i, kL_l, kV_v, am_rv_s, am_kl_i, am_kl_r, am_kl_n, am_kl_l, true_and, and_true, and_self, true_or, or_true, implies_true, forall_const, not_true_eq_false, not_false_eq_true, false_implies, true_implies, if_true, if_false, Bool.true_eq_false, Bool.false_eq_true, ob_457, g1, e0, r_457_51, nI_m3, nI_1, nI_2, i0, i1, i2, ck, ck1, ck2, q1, c1, e2', p2, p3, c2, c2', bz_t, i01, i10, decide_true]
          cases a <;> rfl
      · have c2' : fcs LL h (nI s) v < t2 := Int32.not_le.mp c2
        cases t3
        · simp (disch := (first | assumption | omega | decide)) only [sX11_argsOf_0, sX11_argsOf_1, sX11_argsOf_2, sX11_argsOf_3, sX11_argsOf_5, sX11_argsOf_7, sX11_argsOf_10, sX11_argsOf_11, sX11_argsOf_13, sX11_argsOf_14, sX11_argsOf_18, sX11_argsOf_19, sX11_argsOf_22, sX11_argsOf_25, sX11_argsOf_26, sX11_argsOf_29, sX11_argsOf_30, sX11_argsOf_32, sX11_argsOf_33, sX11_argsOf_34, sX11_argsOf_35, sX11_argsOf_38, sX11_argsOf_39, sX11_argsOf_40, sX11_argsOf_41, sX11_argsOf_44, sX11_argsOf_45, sX11_argsOf_48, sX11_argsOf_49, sX11_argsOf_51, sX11_argsOf_52, sX11_argsOf_53, sX11_argsOf_54, sX11_argsOf_55, sX11_argsOf_58, sX11_argsOf_59, sX11_argsOf_62, sX11_argsOf_63, sX11_argsOf_64, sX11_argsOf_67, sX11_argsOf_68, sX11_argsOf_70, sX11_argsOf_71, sX11_argsOf_72, sX11_argsOf_73, sX11_argsOf_74, sX11_argsOf_75, sX11_argsOf_78, sX11_argsOf_79, sX11_argsOf_82, sX11_argsOf_83, sX11_argsOf_86, sX11_argsOf_87, sX11_argsOf_89, sX11_argsOf_92, sX11_argsOf_95, sX11_argsOf_96, sX11_argsOf_98, sX11_argsOf_101, sX11_argsOf_102, sX11_argsOf_103, sX11_argsOf_104, sX11_argsOf_107, sX11_argsOf_108, sX11_argsOf_109, sX11_argsOf_110, sX11_argsOf_113, sX11_argsOf_116, sX11_argsOf_117, kI_i, kL_l, kV_v, am_rv_s, am_kl_i, am_kl_r, am_kl_n, am_kl_l, true_and, and_true, and_self, true_or, or_true, implies_true, forall_const, not_true_eq_false, not_false_eq_true, false_implies, true_implies, if_true, if_false, Bool.true_eq_false, Bool.false_eq_true, ob_457, g1, e0, r_457_51, nI_m3, nI_1, nI_2, i0, i1, i2, ck, ck1, ck2, q1, c1, e2', p2, p3, c2, c2', bz_f, i01, i10, decide_true, decide_false]
          cases a <;> rfl
        · simp (disch := (first | assumption | omega | decide)) only [sX11_argsOf_0, sX11_argsOf_1, sX11_argsOf_2, sX11_argsOf_3, sX11_argsOf_5, sX11_argsOf_7, sX11_argsOf_10, sX11_argsOf_11, sX11_argsOf_13, sX11_argsOf_14, sX11_argsOf_18, sX11_argsOf_19, sX11_argsOf_22, sX11_argsOf_25, sX11_argsOf_26, sX11_argsOf_29, sX11_argsOf_30, sX11_argsOf_32, sX11_argsOf_33, sX11_argsOf_34, sX11_argsOf_35, sX11_argsOf_38, sX11_argsOf_39, sX11_argsOf_40, sX11_argsOf_41, sX11_argsOf_44, sX11_argsOf_45, sX11_argsOf_48, sX11_argsOf_49, sX11_argsOf_51, sX11_argsOf_52, sX11_argsOf_53, sX11_argsOf_54, sX11_argsOf_55, sX11_argsOf_58, sX11_argsOf_59, sX11_argsOf_62, sX11_argsOf_63, sX11_argsOf_64, sX11_argsOf_67, sX11_argsOf_68, sX11_argsOf_70, sX11_argsOf_71, sX11_argsOf_72, sX11_argsOf_73, sX11_argsOf_74, sX11_argsOf_75, sX11_argsOf_78, sX11_argsOf_79, sX11_argsOf_82, sX11_argsOf_83, sX11_argsOf_86, sX11_argsOf_87, sX11_argsOf_89, sX11_argsOf_92, sX11_argsOf_95, sX11_argsOf_96, sX11_argsOf_98, sX11_argsOf_101, sX11_argsOf_102, sX11_argsOf_103, sX11_argsOf_104, sX11_argsOf_107, sX11_argsOf_108, sX11_argsOf_109, sX11_argsOf_110, sX11_argsOf_113, sX11_argsOf_116, sX11_argsOf_117, kI_i, kL_l, kV_v, am_rv_s, am_kl_i, am_kl_r, am_kl_n, am_kl_l, true_and, and_true, and_self, true_or, or_true, implies_true, forall_const, not_true_eq_false, not_false_eq_true, false_implies, true_implies, if_true, if_false, Bool.true_eq_false, Bool.false_eq_true, ob_457, g1, e0, r_457_51, nI_m3, nI_1, nI_2, i0, i1, i2, ck, ck1, ck2, q1, c1, e2', p2, p3, c2, c2', bz_t, i01, i10, decide_true, decide_false]
          cases a <;> rfl
    · refine ⟨M1, fun d Q hd => ?_, lb1, f1⟩
      rw [e1 d Q hd, sX11_argsOf_16]
      simp (disch := (first | assumption | omega | decide)) only [sX11_argsOf_0, sX11_argsOf_1, sX11_argsOf_2, sX11_argsOf_3, sX11_argsOf_5, sX11_argsOf_7, sX11_argsOf_10, sX11_argsOf_11, sX11_argsOf_13, sX11_argsOf_14, sX11_argsOf_18, sX11_argsOf_19, sX11_argsOf_22, sX11_argsOf_25, sX11_argsOf_26, sX11_argsOf_29, sX11_argsOf_30, sX11_argsOf_32, sX11_argsOf_33, sX11_argsOf_34, sX11_argsOf_35, sX11_argsOf_38, sX11_argsOf_39, sX11_argsOf_40, sX11_argsOf_41, sX11_argsOf_44, sX11_argsOf_45, sX11_argsOf_48, sX11_argsOf_49, sX11_argsOf_51, sX11_argsOf_52, sX11_argsOf_53, sX11_argsOf_54, sX11_argsOf_55, sX11_argsOf_58, sX11_argsOf_59, sX11_argsOf_62, sX11_argsOf_63, sX11_argsOf_64, sX11_argsOf_67, sX11_argsOf_68, sX11_argsOf_70, sX11_argsOf_71, sX11_argsOf_72, sX11_argsOf_73, sX11_argsOf_74, sX11_argsOf_75, sX11_argsOf_78, sX11_argsOf_79, sX11_argsOf_82, sX11_argsOf_83, sX11_argsOf_86, sX11_argsOf_87, sX11_argsOf_89, sX11_argsOf_92, sX11_argsOf_95, sX11_argsOf_96, sX11_argsOf_98, sX11_argsOf_101, sX11_argsOf_102, sX11_argsOf_103, sX11_argsOf_104, sX11_argsOf_107, sX11_argsOf_108, sX11_argsOf_109, sX11_argsOf_110, sX11_argsOf_113, sX11_argsOf_116, sX11_argsOf_117, kI_i, kL_l, kV_v, am_rv_s, am_kl_i, am_kl_r, am_kl_n, am_kl_l, true_and, and_true, and_self, true_or, or_true, implies_true, forall_const, not_true_eq_false, not_false_eq_true, false_implies, true_implies, if_true, if_false, Bool.true_eq_false, Bool.false_eq_true, ob_457, g1, e0, r_457_51, nI_m3, nI_1, nI_2, i0, i1, i2, ck, ck1, ck2, q1, c1, decide_false]
      cases a <;> rfl
theorem m_argsOf {s : Nat} (hs : s < 5) (hW : WR M) (hb : LbM M LL h) (hL : SeM M L) : ∃ M', (∀ d (Q : am_Q), 33 ≤ d → am_big d mX11_argsOf [.ref 457, .int (nI s)] 488 M Q = Q (some (.int (nI (ftN L (nI s) (fcs LL h (nI s)) 10)))) M') ∧ LbM M' LL h ∧ Fw XC M M' := by
  have key : ∀ x, x ≤ 10 → ∀ l4 l5 : Option Value, ∃ M' l4' l5', (∀ d (Q : am_Q), 32 ≤ d → ok d mX11_argsOf 488 Q 488 0 0 4 [some (.ref 457), some (.int (nI s)), some (.int (nI 0)), some (.int (nI 0)), l4, l5] [] M = ok d mX11_argsOf 488 Q 488 0 0 4 [some (.ref 457), some (.int (nI s)), some (.int (nI (ftN L (nI s) (fcs LL h (nI s)) x))), some (.int (nI x)), l4', l5'] [] M') ∧ LbM M' LL h ∧ Fw XC M M' := by
    intro x
    induction x with
    | zero => exact fun _ l4 l5 => ⟨M, l4, l5, fun d Q _ => rfl, hb, Fw.rf⟩
    | succ x ih =>
      intro hx l4 l5
      obtain ⟨M1, l4', l5', e1, lb1, f1⟩ := ih (by omega) l4 l5
      have hW1 := f1.2 hW
      have hL1 := SeM_XC f1 hL
      obtain ⟨M2, e2, lb2, f2⟩ := m_argsIn (B := nI (ftN L (nI s) (fcs LL h (nI s)) x)) hs (show x < 10 by omega) hW1 lb1 hL1 L.length (Nat.le_refl _)
      have g1 := (SeM_XC f2 hL1).1
      refine ⟨M2, some (.int (bz (ftA L (nI s) (fcs LL h (nI s) x)))), some (.int (nI L.length)), fun d Q hd => ?_, lb2, f1.tr f2⟩
      have e0 : ((10 : Int32) ≤ nI x) = False := by rw [show (10 : Int32) = nI 10 from rfl, nI_leE (by omega) (by omega)]; exact eq_false (by omega)
      have e00 : (nI L.length ≤ nI L.length) = True := eq_true (Int32.le_refl _)
      have sh := shl1 x (by omega)
      have o0 : ∀ a : Nat, nI a ||| 0 = nI (a ||| 0) := fun a => nI_or a 0
      rw [e1 d Q hd, sX11_argsOf_4]
      show _ = ok d mX11_argsOf 488 Q 488 0 0 4 [some (.ref 457), some (.int (nI s)), some (.int (nI (ftN L (nI s) (fcs LL h (nI s)) x ||| (if ftA L (nI s) (fcs LL h (nI s) x) = true then 2 ^ x else 0)))), some (.int (nI (x + 1))), _, _] [] _
      simp (disch := (first | assumption | omega | decide)) only [sX11_argsOf_0, sX11_argsOf_1, sX11_argsOf_2, sX11_argsOf_3, sX11_argsOf_5, sX11_argsOf_7, sX11_argsOf_10, sX11_argsOf_11, sX11_argsOf_13, sX11_argsOf_14, sX11_argsOf_18, sX11_argsOf_19, sX11_argsOf_22, sX11_argsOf_25, sX11_argsOf_26, sX11_argsOf_29, sX11_argsOf_30, sX11_argsOf_32, sX11_argsOf_33, sX11_argsOf_34, sX11_argsOf_35, sX11_argsOf_38, sX11_argsOf_39, sX11_argsOf_40, sX11_argsOf_41, sX11_argsOf_44, sX11_argsOf_45, sX11_argsOf_48, sX11_argsOf_49, sX11_argsOf_51, sX11_argsOf_52, sX11_argsOf_53, sX11_argsOf_54, sX11_argsOf_55, sX11_argsOf_58, sX11_argsOf_59, sX11_argsOf_62, sX11_argsOf_63, sX11_argsOf_64, sX11_argsOf_67, sX11_argsOf_68, sX11_argsOf_70, sX11_argsOf_71, sX11_argsOf_72, sX11_argsOf_73, sX11_argsOf_74, sX11_argsOf_75, sX11_argsOf_78, sX11_argsOf_79, sX11_argsOf_82, sX11_argsOf_83, sX11_argsOf_86, sX11_argsOf_87, sX11_argsOf_89, sX11_argsOf_92, sX11_argsOf_95, sX11_argsOf_96, sX11_argsOf_98, sX11_argsOf_101, sX11_argsOf_102, sX11_argsOf_103, sX11_argsOf_104, sX11_argsOf_107, sX11_argsOf_108, sX11_argsOf_109, sX11_argsOf_110, sX11_argsOf_113, sX11_argsOf_116, sX11_argsOf_117, kI_i, kL_l, kV_v, am_rv_s, am_kl_i, am_kl_r, am_kl_n, am_kl_l, true_and, and_true, and_self, true_or, or_true, implies_true, forall_const, not_true_eq_false, not_false_eq_true, false_implies, true_implies, if_true, if_false, Bool.true_eq_false, Bool.false_eq_true, e0, e2 d Q hd]
      rw [sX11_argsOf_16]
      have hA : alf (fok L (nI s) (fcs LL h (nI s) x)) 0 L.length = ftA L (nI s) (fcs LL h (nI s) x) := rfl
      rw [hA]
      cases ca : ftA L (nI s) (fcs LL h (nI s) x) with
      | true => simp (disch := (first | assumption | omega | decide)) only [sX11_argsOf_0, sX11_argsOf_1, sX11_argsOf_2, sX11_argsOf_3, sX11_argsOf_5, sX11_argsOf_7, sX11_argsOf_10, sX11_argsOf_11, sX11_argsOf_13, sX11_argsOf_14, sX11_argsOf_18, sX11_argsOf_19, sX11_argsOf_22, sX11_argsOf_25, sX11_argsOf_26, sX11_argsOf_29, sX11_argsOf_30, sX11_argsOf_32, sX11_argsOf_33, sX11_argsOf_34, sX11_argsOf_35, sX11_argsOf_38, sX11_argsOf_39, sX11_argsOf_40, sX11_argsOf_41, sX11_argsOf_44, sX11_argsOf_45, sX11_argsOf_48, sX11_argsOf_49, sX11_argsOf_51, sX11_argsOf_52, sX11_argsOf_53, sX11_argsOf_54, sX11_argsOf_55, sX11_argsOf_58, sX11_argsOf_59, sX11_argsOf_62, sX11_argsOf_63, sX11_argsOf_64, sX11_argsOf_67, sX11_argsOf_68, sX11_argsOf_70, sX11_argsOf_71, sX11_argsOf_72, sX11_argsOf_73, sX11_argsOf_74, sX11_argsOf_75, sX11_argsOf_78, sX11_argsOf_79, sX11_argsOf_82, sX11_argsOf_83, sX11_argsOf_86, sX11_argsOf_87, sX11_argsOf_89, sX11_argsOf_92, sX11_argsOf_95, sX11_argsOf_96, sX11_argsOf_98, sX11_argsOf_101, sX11_argsOf_102, sX11_argsOf_103, sX11_argsOf_104, sX11_argsOf_107, sX11_argsOf_108, sX11_argsOf_109, sX11_argsOf_110, sX11_argsOf_113, sX11_argsOf_116, sX11_argsOf_117, kI_i, kL_l, kV_v, am_rv_s, am_kl_i, am_kl_r, am_kl_n, am_kl_l, true_and, and_true, and_self, true_or, or_true, implies_true, forall_const, not_true_eq_false, not_false_eq_true, false_implies, true_implies, if_true, if_false, Bool.true_eq_false, Bool.false_eq_true, ob_457, g1, e00, bz_t, i01, sh, nI_or, nI_1]
      | false => simp (disch := (first | assumption | omega | decide)) only [sX11_argsOf_0, sX11_argsOf_1, sX11_argsOf_2, sX11_argsOf_3, sX11_argsOf_5, sX11_argsOf_7, sX11_argsOf_10, sX11_argsOf_11, sX11_argsOf_13, sX11_argsOf_14, sX11_argsOf_18, sX11_argsOf_19, sX11_argsOf_22, sX11_argsOf_25, sX11_argsOf_26, sX11_argsOf_29, sX11_argsOf_30, sX11_argsOf_32, sX11_argsOf_33, sX11_argsOf_34, sX11_argsOf_35, sX11_argsOf_38, sX11_argsOf_39, sX11_argsOf_40, sX11_argsOf_41, sX11_argsOf_44, sX11_argsOf_45, sX11_argsOf_48, sX11_argsOf_49, sX11_argsOf_51, sX11_argsOf_52, sX11_argsOf_53, sX11_argsOf_54, sX11_argsOf_55, sX11_argsOf_58, sX11_argsOf_59, sX11_argsOf_62, sX11_argsOf_63, sX11_argsOf_64, sX11_argsOf_67, sX11_argsOf_68, sX11_argsOf_70, sX11_argsOf_71, sX11_argsOf_72, sX11_argsOf_73, sX11_argsOf_74, sX11_argsOf_75, sX11_argsOf_78, sX11_argsOf_79, sX11_argsOf_82, sX11_argsOf_83, sX11_argsOf_86, sX11_argsOf_87, sX11_argsOf_89, sX11_argsOf_92, sX11_argsOf_95, sX11_argsOf_96, sX11_argsOf_98, sX11_argsOf_101, sX11_argsOf_102, sX11_argsOf_103, sX11_argsOf_104, sX11_argsOf_107, sX11_argsOf_108, sX11_argsOf_109, sX11_argsOf_110, sX11_argsOf_113, sX11_argsOf_116, sX11_argsOf_117, kI_i, kL_l, kV_v, am_rv_s, am_kl_i, am_kl_r, am_kl_n, am_kl_l, true_and, and_true, and_self, true_or, or_true, implies_true, forall_const, not_true_eq_false, not_false_eq_true, false_implies, true_implies, if_true, if_false, Bool.true_eq_false, Bool.false_eq_true, ob_457, g1, e00, bz_f, o0, nI_1]
  obtain ⟨M', l4', l5', e, lb, f⟩ := key 10 (by omega) none none
  refine ⟨M', fun d Q hd => ?_, lb, f⟩
  obtain ⟨d', rfl⟩ : ∃ d', d = d' + 1 := ⟨d - 1, by omega⟩
  have e' : ok d' mX11_argsOf 488 Q 488 0 0 4 [some (.ref 457), some (.int (nI s)), some (.int 0), some (.int 0), none, none] [] M = _ := e d' Q (by omega)
  have e0 : ((10 : Int32) ≤ nI 10) = True := eq_true (by decide)
  rw [eX11_argsOf]
  simp (disch := (first | assumption | omega | decide)) only [sX11_argsOf_0, sX11_argsOf_1, sX11_argsOf_2, sX11_argsOf_3, sX11_argsOf_5, sX11_argsOf_7, sX11_argsOf_10, sX11_argsOf_11, sX11_argsOf_13, sX11_argsOf_14, sX11_argsOf_18, sX11_argsOf_19, sX11_argsOf_22, sX11_argsOf_25, sX11_argsOf_26, sX11_argsOf_29, sX11_argsOf_30, sX11_argsOf_32, sX11_argsOf_33, sX11_argsOf_34, sX11_argsOf_35, sX11_argsOf_38, sX11_argsOf_39, sX11_argsOf_40, sX11_argsOf_41, sX11_argsOf_44, sX11_argsOf_45, sX11_argsOf_48, sX11_argsOf_49, sX11_argsOf_51, sX11_argsOf_52, sX11_argsOf_53, sX11_argsOf_54, sX11_argsOf_55, sX11_argsOf_58, sX11_argsOf_59, sX11_argsOf_62, sX11_argsOf_63, sX11_argsOf_64, sX11_argsOf_67, sX11_argsOf_68, sX11_argsOf_70, sX11_argsOf_71, sX11_argsOf_72, sX11_argsOf_73, sX11_argsOf_74, sX11_argsOf_75, sX11_argsOf_78, sX11_argsOf_79, sX11_argsOf_82, sX11_argsOf_83, sX11_argsOf_86, sX11_argsOf_87, sX11_argsOf_89, sX11_argsOf_92, sX11_argsOf_95, sX11_argsOf_96, sX11_argsOf_98, sX11_argsOf_101, sX11_argsOf_102, sX11_argsOf_103, sX11_argsOf_104, sX11_argsOf_107, sX11_argsOf_108, sX11_argsOf_109, sX11_argsOf_110, sX11_argsOf_113, sX11_argsOf_116, sX11_argsOf_117, kI_i, kL_l, kV_v, am_rv_s, am_kl_i, am_kl_r, am_kl_n, am_kl_l, true_and, and_true, and_self, true_or, or_true, implies_true, forall_const, not_true_eq_false, not_false_eq_true, false_implies, true_implies, if_true, if_false, Bool.true_eq_false, Bool.false_eq_true, e']
  rw [sX11_argsOf_4]
  simp (disch := (first | assumption | omega | decide)) only [sX11_argsOf_0, sX11_argsOf_1, sX11_argsOf_2, sX11_argsOf_3, sX11_argsOf_5, sX11_argsOf_7, sX11_argsOf_10, sX11_argsOf_11, sX11_argsOf_13, sX11_argsOf_14, sX11_argsOf_18, sX11_argsOf_19, sX11_argsOf_22, sX11_argsOf_25, sX11_argsOf_26, sX11_argsOf_29, sX11_argsOf_30, sX11_argsOf_32, sX11_argsOf_33, sX11_argsOf_34, sX11_argsOf_35, sX11_argsOf_38, sX11_argsOf_39, sX11_argsOf_40, sX11_argsOf_41, sX11_argsOf_44, sX11_argsOf_45, sX11_argsOf_48, sX11_argsOf_49, sX11_argsOf_51, sX11_argsOf_52, sX11_argsOf_53, sX11_argsOf_54, sX11_argsOf_55, sX11_argsOf_58, sX11_argsOf_59, sX11_argsOf_62, sX11_argsOf_63, sX11_argsOf_64, sX11_argsOf_67, sX11_argsOf_68, sX11_argsOf_70, sX11_argsOf_71, sX11_argsOf_72, sX11_argsOf_73, sX11_argsOf_74, sX11_argsOf_75, sX11_argsOf_78, sX11_argsOf_79, sX11_argsOf_82, sX11_argsOf_83, sX11_argsOf_86, sX11_argsOf_87, sX11_argsOf_89, sX11_argsOf_92, sX11_argsOf_95, sX11_argsOf_96, sX11_argsOf_98, sX11_argsOf_101, sX11_argsOf_102, sX11_argsOf_103, sX11_argsOf_104, sX11_argsOf_107, sX11_argsOf_108, sX11_argsOf_109, sX11_argsOf_110, sX11_argsOf_113, sX11_argsOf_116, sX11_argsOf_117, kI_i, kL_l, kV_v, am_rv_s, am_kl_i, am_kl_r, am_kl_n, am_kl_l, true_and, and_true, and_self, true_or, or_true, implies_true, forall_const, not_true_eq_false, not_false_eq_true, false_implies, true_implies, if_true, if_false, Bool.true_eq_false, Bool.false_eq_true, e0]
def XC9 (c j : Nat) : Prop := XC c j ∨ (c = 457 ∧ j = 0)
theorem opn_le : ((nI ap ≤ 0) = (opn ap = false)) ∨ 4 < ap := by
  by_cases z : ap ≤ 4
  · left
    rw [show (0 : Int32) = nI 0 from rfl, nI_leE (by omega) (by omega)]
    unfold opn
    rw [decide_eq_false_iff_not]
    exact propext (by omega)
  · right; omega
theorem m_args {so : Int32} (hb : LbM M LL h) (hL : SeM M L) (hr : RS M ap lim S P) : ∃ M', (∀ d (Q : am_Q), 34 ≤ d → am_big d mX11_args [.ref 457, .int so] 488 M Q = Q (some (.int (argsA ap LL h L so))) M') ∧ LbM M' LL h ∧ Fw XC9 M M' := by
  have f0 : Fw XC9 M (sI M 457 0 0) := Fw.s (Or.inr ⟨rfl, rfl⟩)
  have hb0 : LbM (sI M 457 0 0) LL h := LbM_Fw (X := fun c j => c = 457 ∧ j = 0) (Fw.s ⟨rfl, rfl⟩) (fun c j hc => by omega) hb
  have hL0 : SeM (sI M 457 0 0) L := SeM_Fw (X := fun c j => c = 457 ∧ j = 0) (Fw.s ⟨rfl, rfl⟩) (fun c j hc => by omega) hL
  obtain ⟨hW, hS, hP, hf, hm, hw, hlim, ht⟩ := RS_th hr
  have hap := hS.2.2.2.2.1.2.2
  have ol := (opn_le (ap := ap)).resolve_right (by omega)
  generalize hM0 : sI M 457 0 0 = M0 at *
  unfold argsA
  cases c1 : opn ap with
  | false =>
    refine ⟨M0, fun d Q hd => ?_, hb0, f0⟩
    obtain ⟨d', rfl⟩ : ∃ d', d = d' + 3 := ⟨d - 3, by omega⟩
    rw [if_neg (fun z => by cases z.1), eX11_args]
    simp (disch := (first | assumption | omega | decide)) only [sX11_args_0, sX11_args_1, sX11_args_2, sX11_args_5, sX11_args_6, sX11_args_9, sX11_args_12, sX11_args_13, sX11_args_16, sX11_args_19, sX11_args_20, sX11_args_21, sX11_args_24, sX11_args_27, sX11_args_28, kI_i, kL_l, kV_v, am_rv_s, am_kl_i, am_kl_r, am_kl_n, am_kl_l, true_and, and_true, and_self, true_or, or_true, implies_true, forall_const, not_true_eq_false, not_false_eq_true, false_implies, true_implies, if_true, if_false, Bool.true_eq_false, Bool.false_eq_true, ob_457, hM0, hf, ol, c1]
  | true =>
    by_cases c2 : 0 ≤ so ∧ so ≤ 4
    · obtain ⟨s, hs, rfl⟩ := sort_x c2
      obtain ⟨M', e, lb, f⟩ := m_argsOf hs hW hb0 hL0
      refine ⟨M', fun d Q hd => ?_, lb, f0.tr (f.mo (fun c j z => Or.inl z))⟩
      obtain ⟨d', rfl⟩ : ∃ d', d = d' + 3 := ⟨d - 3, by omega⟩
      have e' := fun (Q : am_Q) => e (d' + 2) Q (by omega)
      rw [if_pos ⟨rfl, c2⟩, eX11_args]
      simp (disch := (first | assumption | omega | decide)) only [sX11_args_0, sX11_args_1, sX11_args_2, sX11_args_5, sX11_args_6, sX11_args_9, sX11_args_12, sX11_args_13, sX11_args_16, sX11_args_19, sX11_args_20, sX11_args_21, sX11_args_24, sX11_args_27, sX11_args_28, kI_i, kL_l, kV_v, am_rv_s, am_kl_i, am_kl_r, am_kl_n, am_kl_l, true_and, and_true, and_self, true_or, or_true, implies_true, forall_const, not_true_eq_false, not_false_eq_true, false_implies, true_implies, if_true, if_false, Bool.true_eq_false, Bool.false_eq_true, ob_457, hM0, hf, ol, c1, m_isSort, c2, decide_true, bz_t, i01, e']
    · refine ⟨M0, fun d Q hd => ?_, hb0, f0⟩
      obtain ⟨d', rfl⟩ : ∃ d', d = d' + 3 := ⟨d - 3, by omega⟩
      rw [if_neg (fun z => c2 z.2), eX11_args]
      simp (disch := (first | assumption | omega | decide)) only [sX11_args_0, sX11_args_1, sX11_args_2, sX11_args_5, sX11_args_6, sX11_args_9, sX11_args_12, sX11_args_13, sX11_args_16, sX11_args_19, sX11_args_20, sX11_args_21, sX11_args_24, sX11_args_27, sX11_args_28, kI_i, kL_l, kV_v, am_rv_s, am_kl_i, am_kl_r, am_kl_n, am_kl_l, true_and, and_true, and_self, true_or, or_true, implies_true, forall_const, not_true_eq_false, not_false_eq_true, false_implies, true_implies, if_true, if_false, Bool.true_eq_false, Bool.false_eq_true, ob_457, hM0, hf, ol, c1, m_isSort, c2, decide_false, bz_f]
/-- the best question as the reference goes on -/
def bqM (g : Nat → Int32) (v : Nat) : Int32 × Int32 := if v = 0 then (-1, 0) else bq g v
theorem bq_1 {g : Nat → Int32} (hg : ∀ v, g v < 11) : ∀ v, ∃ k, k ≤ v ∧ (bq g (v + 1)).1 = nI k
  | 0 => ⟨0, Nat.le_refl _, by unfold bq bq; rw [if_pos (hg 0)]⟩
  | v + 1 => by
    obtain ⟨k, hk, e⟩ := bq_1 hg v
    rw [bq]
    split
    · exact ⟨v + 1, Nat.le_refl _, rfl⟩
    · exact ⟨k, by omega, e⟩
theorem bqM_s {g : Nat → Int32} (hg : ∀ v, g v < 11) (v : Nat) (hv : v < 1000) : bqM g (v + 1) = if ¬ (bqM g v).1 = -1 ∧ (bqM g v).2 ≤ g v then bqM g v else (nI v, g v) := by
  unfold bqM
  rw [if_neg (by omega)]
  cases v with
  | zero =>
    rw [if_pos rfl, if_neg (fun z => z.1 rfl)]
    unfold bq bq
    rw [if_pos (hg 0)]
  | succ v =>
    have e0 : (if v + 1 = 0 then ((-1 : Int32), (0 : Int32)) else bq g (v + 1)) = bq g (v + 1) := if_neg (by omega)
    rw [e0]
    show (if g (v + 1) < (bq g (v + 1)).2 then (nI (v + 1), g (v + 1)) else bq g (v + 1)) = _
    obtain ⟨k, hk, e⟩ := bq_1 hg v
    have n1 : ¬ (bq g (v + 1)).1 = -1 := by rw [e, nI_m1 (by omega)]; exact id
    by_cases c : g (v + 1) < (bq g (v + 1)).2
    · have z : ¬ (¬ (bq g (v + 1)).1 = -1 ∧ (bq g (v + 1)).2 ≤ g (v + 1)) := fun z => absurd c (Int32.not_lt.mpr z.2)
      rw [if_pos c, if_neg z]
    · have z : ¬ (bq g (v + 1)).1 = -1 ∧ (bq g (v + 1)).2 ≤ g (v + 1) := ⟨n1, Int32.not_lt.mp c⟩
      rw [if_neg c, if_pos z]
theorem m_lean {s v B : Nat} {b3 b4 : Int32} (hs : s < 5) (hB : B < 2 ^ 10) (hW : WR M) (hb : LbM M LL h) : ∀ k, k ≤ 10 → ∃ M', (∀ d (Q : am_Q), 32 ≤ d → ok d mX11_ask 488 Q 488 0 0 54 [some (.ref 457), some (.int (nI s)), some (.int (nI B)), some (.int b3), some (.int b4), some (.int (nI v)), some (.int 0), some (.int 0)] [] M = ok d mX11_ask 488 Q 488 0 0 54 [some (.ref 457), some (.int (nI s)), some (.int (nI B)), some (.int b3), some (.int b4), some (.int (nI v)), some (.int (mtl (fcs LL h (nI s)) B (nI v) k)), some (.int (nI k))] [] M') ∧ LbM M' LL h ∧ Fw XC M M' := by
  intro k
  induction k with
  | zero => exact fun _ => ⟨M, fun d Q _ => rfl, hb, Fw.rf⟩
  | succ k ih =>
    intro hk
    obtain ⟨M1, e1, lb1, f1⟩ := ih (by omega)
    have hW1 := f1.2 hW
    have e0 : ((10 : Int32) ≤ nI k) = False := by rw [show (10 : Int32) = nI 10 from rfl, nI_leE (by omega) (by omega)]; exact eq_false (by omega)
    have nb : decide ((nI B >>> (nI k &&& 31)) &&& 1 = 1) = B.testBit k := by rw [nI_bit (by omega) (by omega)]; cases B.testBit k <;> rfl
    cases cb : B.testBit k with
    | false =>
      refine ⟨M1, fun d Q hd => ?_, lb1, f1⟩
      obtain ⟨d', rfl⟩ : ∃ d', d = d' + 1 := ⟨d - 1, by omega⟩
      rw [e1 _ Q hd, sX11_ask_54, mtl, if_neg (by rw [cb]; decide)]
      simp (disch := (first | assumption | omega | decide)) only [sX11_ask_0, sX11_ask_1, sX11_ask_2, sX11_ask_5, sX11_ask_6, sX11_ask_9, sX11_ask_12, sX11_ask_13, sX11_ask_16, sX11_ask_19, sX11_ask_20, sX11_ask_21, sX11_ask_22, sX11_ask_23, sX11_ask_26, sX11_ask_27, sX11_ask_28, sX11_ask_31, sX11_ask_32, sX11_ask_33, sX11_ask_34, sX11_ask_35, sX11_ask_36, sX11_ask_38, sX11_ask_39, sX11_ask_43, sX11_ask_45, sX11_ask_48, sX11_ask_49, sX11_ask_51, sX11_ask_52, sX11_ask_56, sX11_ask_58, sX11_ask_61, sX11_ask_62, sX11_ask_64, sX11_ask_67, sX11_ask_70, sX11_ask_72, sX11_ask_73, sX11_ask_74, sX11_ask_76, sX11_ask_79, sX11_ask_81, sX11_ask_84, sX11_ask_85, sX11_ask_88, sX11_ask_89, sX11_ask_90, sX11_ask_92, sX11_ask_95, sX11_ask_98, sX11_ask_100, sX11_ask_103, sX11_ask_105, sX11_ask_106, sX11_ask_107, sX11_ask_110, sX11_ask_112, sX11_ask_114, sX11_ask_117, sX11_ask_120, sX11_ask_122, sX11_ask_123, sX11_ask_125, sX11_ask_127, sX11_ask_130, sX11_ask_133, sX11_ask_134, kI_i, kL_l, kV_v, am_rv_s, am_kl_i, am_kl_r, am_kl_n, am_kl_l, true_and, and_true, and_self, true_or, or_true, implies_true, forall_const, not_true_eq_false, not_false_eq_true, false_implies, true_implies, if_true, if_false, Bool.true_eq_false, Bool.false_eq_true, e0, m_has, nb, cb, bz_f, nI_1]
    | true =>
      obtain ⟨M2, e2, lb2, f2⟩ := m_firstCost hs (show k < 10 by omega) hW1 lb1
      refine ⟨M2, fun d Q hd => ?_, lb2, f1.tr f2⟩
      have e2' := fun (Q : am_Q) => e2 d Q hd
      obtain ⟨d', rfl⟩ : ∃ d', d = d' + 1 := ⟨d - 1, by omega⟩
      rw [e1 _ Q hd, sX11_ask_54, mtl, if_pos cb]
      by_cases c : nI v ≤ fcs LL h (nI s) k
      · have c' : ¬ fcs LL h (nI s) k < nI v := Int32.not_lt.mpr c
        simp (disch := (first | assumption | omega | decide)) only [sX11_ask_0, sX11_ask_1, sX11_ask_2, sX11_ask_5, sX11_ask_6, sX11_ask_9, sX11_ask_12, sX11_ask_13, sX11_ask_16, sX11_ask_19, sX11_ask_20, sX11_ask_21, sX11_ask_22, sX11_ask_23, sX11_ask_26, sX11_ask_27, sX11_ask_28, sX11_ask_31, sX11_ask_32, sX11_ask_33, sX11_ask_34, sX11_ask_35, sX11_ask_36, sX11_ask_38, sX11_ask_39, sX11_ask_43, sX11_ask_45, sX11_ask_48, sX11_ask_49, sX11_ask_51, sX11_ask_52, sX11_ask_56, sX11_ask_58, sX11_ask_61, sX11_ask_62, sX11_ask_64, sX11_ask_67, sX11_ask_70, sX11_ask_72, sX11_ask_73, sX11_ask_74, sX11_ask_76, sX11_ask_79, sX11_ask_81, sX11_ask_84, sX11_ask_85, sX11_ask_88, sX11_ask_89, sX11_ask_90, sX11_ask_92, sX11_ask_95, sX11_ask_98, sX11_ask_100, sX11_ask_103, sX11_ask_105, sX11_ask_106, sX11_ask_107, sX11_ask_110, sX11_ask_112, sX11_ask_114, sX11_ask_117, sX11_ask_120, sX11_ask_122, sX11_ask_123, sX11_ask_125, sX11_ask_127, sX11_ask_130, sX11_ask_133, sX11_ask_134, kI_i, kL_l, kV_v, am_rv_s, am_kl_i, am_kl_r, am_kl_n, am_kl_l, true_and, and_true, and_self, true_or, or_true, implies_true, forall_const, not_true_eq_false, not_false_eq_true, false_implies, true_implies, if_true, if_false, Bool.true_eq_false, Bool.false_eq_true, ob_457, e0, m_has, nb, cb, bz_t, i01, e2', c, c', nI_1]
      · have c' : fcs LL h (nI s) k < nI v := Int32.not_le.mp c
        simp (disch := (first | assumption | omega | decide)) only [sX11_ask_0, sX11_ask_1, sX11_ask_2, sX11_ask_5, sX11_ask_6, sX11_ask_9, sX11_ask_12, sX11_ask_13, sX11_ask_16, sX11_ask_19, sX11_ask_20, sX11_ask_21, sX11_ask_22, sX11_ask_23, sX11_ask_26, sX11_ask_27, sX11_ask_28, sX11_ask_31, sX11_ask_32, sX11_ask_33, sX11_ask_34, sX11_ask_35, sX11_ask_36, sX11_ask_38, sX11_ask_39, sX11_ask_43, sX11_ask_45, sX11_ask_48, sX11_ask_49, sX11_ask_51, sX11_ask_52, sX11_ask_56, sX11_ask_58, sX11_ask_61, sX11_ask_62, sX11_ask_64, sX11_ask_67, sX11_ask_70, sX11_ask_72, sX11_ask_73, sX11_ask_74, sX11_ask_76, sX11_ask_79, sX11_ask_81, sX11_ask_84, sX11_ask_85, sX11_ask_88, sX11_ask_89, sX11_ask_90, sX11_ask_92, sX11_ask_95, sX11_ask_98, sX11_ask_100, sX11_ask_103, sX11_ask_105, sX11_ask_106, sX11_ask_107, sX11_ask_110, sX11_ask_112, sX11_ask_114, sX11_ask_117, sX11_ask_120, sX11_ask_122, sX11_ask_123, sX11_ask_125, sX11_ask_127, sX11_ask_130, sX11_ask_133, sX11_ask_134, kI_i, kL_l, kV_v, am_rv_s, am_kl_i, am_kl_r, am_kl_n, am_kl_l, true_and, and_true, and_self, true_or, or_true, implies_true, forall_const, not_true_eq_false, not_false_eq_true, false_implies, true_implies, if_true, if_false, Bool.true_eq_false, Bool.false_eq_true, ob_457, e0, m_has, nb, cb, bz_t, i01, e2', c, c', nI_1]
theorem m_askV {s B : Nat} (hs : s < 5) (hB : B < 2 ^ 10) (hW : WR M) (hb : LbM M LL h) : ∀ v, v ≤ 100 → ∀ l6 l7 : Option Value, ∃ M' l6' l7', (∀ d (Q : am_Q), 32 ≤ d → ok d mX11_ask 488 Q 488 0 0 41 [some (.ref 457), some (.int (nI s)), some (.int (nI B)), some (.int (-1)), some (.int 0), some (.int 0), l6, l7] [] M = ok d mX11_ask 488 Q 488 0 0 41 [some (.ref 457), some (.int (nI s)), some (.int (nI B)), some (.int (bqM (fun v => ab32 (mtl (fcs LL h (nI s)) B (nI v) 10)) v).1), some (.int (bqM (fun v => ab32 (mtl (fcs LL h (nI s)) B (nI v) 10)) v).2), some (.int (nI v)), l6', l7'] [] M') ∧ LbM M' LL h ∧ Fw XC M M' := by
  intro v
  induction v with
  | zero => exact fun _ l6 l7 => ⟨M, l6, l7, fun d Q _ => rfl, hb, Fw.rf⟩
  | succ v ih =>
    intro hv l6 l7
    obtain ⟨M1, l6', l7', e1, lb1, f1⟩ := ih (by omega) l6 l7
    have hW1 := f1.2 hW
    have hg : ∀ v, (fun v => ab32 (mtl (fcs LL h (nI s)) B (nI v) 10)) v < 11 := fun v => ab32_bd (mtl_bd 10 (by omega))
    have st := bqM_s hg v (by omega)
    generalize hq : bqM (fun v => ab32 (mtl (fcs LL h (nI s)) B (nI v) 10)) v = q at *
    obtain ⟨q1, q2⟩ := q
    obtain ⟨M2, e2, lb2, f2⟩ := m_lean (v := v) (b3 := q1) (b4 := q2) hs hB hW1 lb1 10 (by omega)
    have e0 : ((99 : Int32) < nI v) = False := by rw [show (99 : Int32) = nI 99 from rfl, nI_ltE (by omega) (by omega)]; exact eq_false (by omega)
    have e00 : ((10 : Int32) ≤ nI 10) = True := eq_true (by decide)
    have ea : ∀ x : Int32, (if 0 ≤ x then x else 0 - x) = ab32 x := fun x => rfl
    refine ⟨M2, some (.int (ab32 (mtl (fcs LL h (nI s)) B (nI v) 10))), some (.int (nI 10)), fun d Q hd => ?_, lb2, f1.tr f2⟩
    rw [e1 d Q hd, sX11_ask_41, st]
    simp (disch := (first | assumption | omega | decide)) only [sX11_ask_0, sX11_ask_1, sX11_ask_2, sX11_ask_5, sX11_ask_6, sX11_ask_9, sX11_ask_12, sX11_ask_13, sX11_ask_16, sX11_ask_19, sX11_ask_20, sX11_ask_21, sX11_ask_22, sX11_ask_23, sX11_ask_26, sX11_ask_27, sX11_ask_28, sX11_ask_31, sX11_ask_32, sX11_ask_33, sX11_ask_34, sX11_ask_35, sX11_ask_36, sX11_ask_38, sX11_ask_39, sX11_ask_43, sX11_ask_45, sX11_ask_48, sX11_ask_49, sX11_ask_51, sX11_ask_52, sX11_ask_56, sX11_ask_58, sX11_ask_61, sX11_ask_62, sX11_ask_64, sX11_ask_67, sX11_ask_70, sX11_ask_72, sX11_ask_73, sX11_ask_74, sX11_ask_76, sX11_ask_79, sX11_ask_81, sX11_ask_84, sX11_ask_85, sX11_ask_88, sX11_ask_89, sX11_ask_90, sX11_ask_92, sX11_ask_95, sX11_ask_98, sX11_ask_100, sX11_ask_103, sX11_ask_105, sX11_ask_106, sX11_ask_107, sX11_ask_110, sX11_ask_112, sX11_ask_114, sX11_ask_117, sX11_ask_120, sX11_ask_122, sX11_ask_123, sX11_ask_125, sX11_ask_127, sX11_ask_130, sX11_ask_133, sX11_ask_134, kI_i, kL_l, kV_v, am_rv_s, am_kl_i, am_kl_r, am_kl_n, am_kl_l, true_and, and_true, and_self, true_or, or_true, implies_true, forall_const, not_true_eq_false, not_false_eq_true, false_implies, true_implies, if_true, if_false, Bool.true_eq_false, Bool.false_eq_true, e0, e2 d Q hd]
    rw [sX11_ask_54]
    by_cases c1 : q1 = -1
    · rw [if_neg (fun z => z.1 c1)]
      simp (disch := (first | assumption | omega | decide)) only [sX11_ask_0, sX11_ask_1, sX11_ask_2, sX11_ask_5, sX11_ask_6, sX11_ask_9, sX11_ask_12, sX11_ask_13, sX11_ask_16, sX11_ask_19, sX11_ask_20, sX11_ask_21, sX11_ask_22, sX11_ask_23, sX11_ask_26, sX11_ask_27, sX11_ask_28, sX11_ask_31, sX11_ask_32, sX11_ask_33, sX11_ask_34, sX11_ask_35, sX11_ask_36, sX11_ask_38, sX11_ask_39, sX11_ask_43, sX11_ask_45, sX11_ask_48, sX11_ask_49, sX11_ask_51, sX11_ask_52, sX11_ask_56, sX11_ask_58, sX11_ask_61, sX11_ask_62, sX11_ask_64, sX11_ask_67, sX11_ask_70, sX11_ask_72, sX11_ask_73, sX11_ask_74, sX11_ask_76, sX11_ask_79, sX11_ask_81, sX11_ask_84, sX11_ask_85, sX11_ask_88, sX11_ask_89, sX11_ask_90, sX11_ask_92, sX11_ask_95, sX11_ask_98, sX11_ask_100, sX11_ask_103, sX11_ask_105, sX11_ask_106, sX11_ask_107, sX11_ask_110, sX11_ask_112, sX11_ask_114, sX11_ask_117, sX11_ask_120, sX11_ask_122, sX11_ask_123, sX11_ask_125, sX11_ask_127, sX11_ask_130, sX11_ask_133, sX11_ask_134, kI_i, kL_l, kV_v, am_rv_s, am_kl_i, am_kl_r, am_kl_n, am_kl_l, true_and, and_true, and_self, true_or, or_true, implies_true, forall_const, not_true_eq_false, not_false_eq_true, false_implies, true_implies, if_true, if_false, Bool.true_eq_false, Bool.false_eq_true, e00, ea, c1, nI_1]
    · by_cases c2 : q2 ≤ ab32 (mtl (fcs LL h (nI s)) B (nI v) 10)
      · have c2' := Int32.not_lt.mpr c2
        rw [if_pos ⟨c1, c2⟩]
        simp (disch := (first | assumption | omega | decide)) only [sX11_ask_0, sX11_ask_1, sX11_ask_2, sX11_ask_5, sX11_ask_6, sX11_ask_9, sX11_ask_12, sX11_ask_13, sX11_ask_16, sX11_ask_19, sX11_ask_20, sX11_ask_21, sX11_ask_22, sX11_ask_23, sX11_ask_26, sX11_ask_27, sX11_ask_28, sX11_ask_31, sX11_ask_32, sX11_ask_33, sX11_ask_34, sX11_ask_35, sX11_ask_36, sX11_ask_38, sX11_ask_39, sX11_ask_43, sX11_ask_45, sX11_ask_48, sX11_ask_49, sX11_ask_51, sX11_ask_52, sX11_ask_56, sX11_ask_58, sX11_ask_61, sX11_ask_62, sX11_ask_64, sX11_ask_67, sX11_ask_70, sX11_ask_72, sX11_ask_73, sX11_ask_74, sX11_ask_76, sX11_ask_79, sX11_ask_81, sX11_ask_84, sX11_ask_85, sX11_ask_88, sX11_ask_89, sX11_ask_90, sX11_ask_92, sX11_ask_95, sX11_ask_98, sX11_ask_100, sX11_ask_103, sX11_ask_105, sX11_ask_106, sX11_ask_107, sX11_ask_110, sX11_ask_112, sX11_ask_114, sX11_ask_117, sX11_ask_120, sX11_ask_122, sX11_ask_123, sX11_ask_125, sX11_ask_127, sX11_ask_130, sX11_ask_133, sX11_ask_134, kI_i, kL_l, kV_v, am_rv_s, am_kl_i, am_kl_r, am_kl_n, am_kl_l, true_and, and_true, and_self, true_or, or_true, implies_true, forall_const, not_true_eq_false, not_false_eq_true, false_implies, true_implies, if_true, if_false, Bool.true_eq_false, Bool.false_eq_true, e00, ea, c1, c2', nI_1]
      · have c2' := Int32.not_le.mp c2
        rw [if_neg (fun z => c2 z.2)]
        simp (disch := (first | assumption | omega | decide)) only [sX11_ask_0, sX11_ask_1, sX11_ask_2, sX11_ask_5, sX11_ask_6, sX11_ask_9, sX11_ask_12, sX11_ask_13, sX11_ask_16, sX11_ask_19, sX11_ask_20, sX11_ask_21, sX11_ask_22, sX11_ask_23, sX11_ask_26, sX11_ask_27, sX11_ask_28, sX11_ask_31, sX11_ask_32, sX11_ask_33, sX11_ask_34, sX11_ask_35, sX11_ask_36, sX11_ask_38, sX11_ask_39, sX11_ask_43, sX11_ask_45, sX11_ask_48, sX11_ask_49, sX11_ask_51, sX11_ask_52, sX11_ask_56, sX11_ask_58, sX11_ask_61, sX11_ask_62, sX11_ask_64, sX11_ask_67, sX11_ask_70, sX11_ask_72, sX11_ask_73, sX11_ask_74, sX11_ask_76, sX11_ask_79, sX11_ask_81, sX11_ask_84, sX11_ask_85, sX11_ask_88, sX11_ask_89, sX11_ask_90, sX11_ask_92, sX11_ask_95, sX11_ask_98, sX11_ask_100, sX11_ask_103, sX11_ask_105, sX11_ask_106, sX11_ask_107, sX11_ask_110, sX11_ask_112, sX11_ask_114, sX11_ask_117, sX11_ask_120, sX11_ask_122, sX11_ask_123, sX11_ask_125, sX11_ask_127, sX11_ask_130, sX11_ask_133, sX11_ask_134, kI_i, kL_l, kV_v, am_rv_s, am_kl_i, am_kl_r, am_kl_n, am_kl_l, true_and, and_true, and_self, true_or, or_true, implies_true, forall_const, not_true_eq_false, not_false_eq_true, false_implies, true_implies, if_true, if_false, Bool.true_eq_false, Bool.false_eq_true, e00, ea, c1, c2', nI_1]
theorem opn_0 (hap : ap ≤ 4) : (nI ap = 0) = (opn ap = false) := by
  rw [nI_z (by omega)]
  unfold opn
  rw [decide_eq_false_iff_not]
  exact propext (by omega)
theorem m_ask {so : Int32} (hb : LbM M LL h) (hL : SeM M L) (hr : RS M ap lim S P) : ∃ M', (∀ d (Q : am_Q), 34 ≤ d → am_big d mX11_ask [.ref 457, .int so] 488 M Q = Q (some (.int (askA ap LL h L so))) M') ∧ LbM M' LL h ∧ Fw XC9 M M' := by
  have f0 : Fw XC9 M (sI M 457 0 0) := Fw.s (Or.inr ⟨rfl, rfl⟩)
  have hb0 : LbM (sI M 457 0 0) LL h := LbM_Fw (X := fun c j => c = 457 ∧ j = 0) (Fw.s ⟨rfl, rfl⟩) (fun c j hc => by omega) hb
  have hL0 : SeM (sI M 457 0 0) L := SeM_Fw (X := fun c j => c = 457 ∧ j = 0) (Fw.s ⟨rfl, rfl⟩) (fun c j hc => by omega) hL
  obtain ⟨hW, hS, hP, hf, hm, hw, hlim, ht⟩ := RS_th hr
  have hap := hS.2.2.2.2.1.2.2
  have ol := opn_0 hap
  generalize hM0 : sI M 457 0 0 = M0 at *
  unfold askA
  cases c1 : opn ap with
  | false =>
    refine ⟨M0, fun d Q hd => ?_, hb0, f0⟩
    obtain ⟨d', rfl⟩ : ∃ d', d = d' + 3 := ⟨d - 3, by omega⟩
    rw [if_neg (fun z => by cases z.1), eX11_ask]
    simp (disch := (first | assumption | omega | decide)) only [sX11_ask_0, sX11_ask_1, sX11_ask_2, sX11_ask_5, sX11_ask_6, sX11_ask_9, sX11_ask_12, sX11_ask_13, sX11_ask_16, sX11_ask_19, sX11_ask_20, sX11_ask_21, sX11_ask_22, sX11_ask_23, sX11_ask_26, sX11_ask_27, sX11_ask_28, sX11_ask_31, sX11_ask_32, sX11_ask_33, sX11_ask_34, sX11_ask_35, sX11_ask_36, sX11_ask_38, sX11_ask_39, sX11_ask_43, sX11_ask_45, sX11_ask_48, sX11_ask_49, sX11_ask_51, sX11_ask_52, sX11_ask_56, sX11_ask_58, sX11_ask_61, sX11_ask_62, sX11_ask_64, sX11_ask_67, sX11_ask_70, sX11_ask_72, sX11_ask_73, sX11_ask_74, sX11_ask_76, sX11_ask_79, sX11_ask_81, sX11_ask_84, sX11_ask_85, sX11_ask_88, sX11_ask_89, sX11_ask_90, sX11_ask_92, sX11_ask_95, sX11_ask_98, sX11_ask_100, sX11_ask_103, sX11_ask_105, sX11_ask_106, sX11_ask_107, sX11_ask_110, sX11_ask_112, sX11_ask_114, sX11_ask_117, sX11_ask_120, sX11_ask_122, sX11_ask_123, sX11_ask_125, sX11_ask_127, sX11_ask_130, sX11_ask_133, sX11_ask_134, kI_i, kL_l, kV_v, am_rv_s, am_kl_i, am_kl_r, am_kl_n, am_kl_l, true_and, and_true, and_self, true_or, or_true, implies_true, forall_const, not_true_eq_false, not_false_eq_true, false_implies, true_implies, if_true, if_false, Bool.true_eq_false, Bool.false_eq_true, ob_457, hM0, hf, ol, c1]
  | true =>
    by_cases c2 : 0 ≤ so ∧ so ≤ 4
    · obtain ⟨s, hs, rfl⟩ := sort_x c2
      obtain ⟨M1, e1, lb1, f1⟩ := m_argsOf hs hW hb0 hL0
      have hW1 := f1.2 hW
      rw [if_pos ⟨rfl, c2⟩]
      unfold askV
      have lt := ftN_lt (L := L) (so := nI s) (f := fcs LL h (nI s)) 10
      generalize hB : ftN L (nI s) (fcs LL h (nI s)) 10 = B at *
      by_cases z : B = 0
      · subst z
        rw [if_pos rfl]
        refine ⟨M1, fun d Q hd => ?_, lb1, f0.tr (f1.mo (fun c j z => Or.inl z))⟩
        obtain ⟨d', rfl⟩ : ∃ d', d = d' + 3 := ⟨d - 3, by omega⟩
        have e1' := fun (Q : am_Q) => e1 (d' + 2) Q (by omega)
        have n0 : nI 0 = 0 := rfl
        rw [eX11_ask]
        simp (disch := (first | assumption | omega | decide)) only [sX11_ask_0, sX11_ask_1, sX11_ask_2, sX11_ask_5, sX11_ask_6, sX11_ask_9, sX11_ask_12, sX11_ask_13, sX11_ask_16, sX11_ask_19, sX11_ask_20, sX11_ask_21, sX11_ask_22, sX11_ask_23, sX11_ask_26, sX11_ask_27, sX11_ask_28, sX11_ask_31, sX11_ask_32, sX11_ask_33, sX11_ask_34, sX11_ask_35, sX11_ask_36, sX11_ask_38, sX11_ask_39, sX11_ask_43, sX11_ask_45, sX11_ask_48, sX11_ask_49, sX11_ask_51, sX11_ask_52, sX11_ask_56, sX11_ask_58, sX11_ask_61, sX11_ask_62, sX11_ask_64, sX11_ask_67, sX11_ask_70, sX11_ask_72, sX11_ask_73, sX11_ask_74, sX11_ask_76, sX11_ask_79, sX11_ask_81, sX11_ask_84, sX11_ask_85, sX11_ask_88, sX11_ask_89, sX11_ask_90, sX11_ask_92, sX11_ask_95, sX11_ask_98, sX11_ask_100, sX11_ask_103, sX11_ask_105, sX11_ask_106, sX11_ask_107, sX11_ask_110, sX11_ask_112, sX11_ask_114, sX11_ask_117, sX11_ask_120, sX11_ask_122, sX11_ask_123, sX11_ask_125, sX11_ask_127, sX11_ask_130, sX11_ask_133, sX11_ask_134, kI_i, kL_l, kV_v, am_rv_s, am_kl_i, am_kl_r, am_kl_n, am_kl_l, true_and, and_true, and_self, true_or, or_true, implies_true, forall_const, not_true_eq_false, not_false_eq_true, false_implies, true_implies, if_true, if_false, Bool.true_eq_false, Bool.false_eq_true, ob_457, hM0, hf, ol, c1, m_isSort, c2, decide_true, bz_t, i01, e1', n0]
      · rw [if_neg z]
        have nz : (nI B = 0) = False := by rw [nI_z (by omega)]; exact eq_false z
        obtain ⟨M2, l6', l7', e2, lb2, f2⟩ := m_askV hs lt hW1 lb1 100 (by omega) none none
        refine ⟨M2, fun d Q hd => ?_, lb2, f0.tr ((f1.tr f2).mo (fun c j z => Or.inl z))⟩
        obtain ⟨d', rfl⟩ : ∃ d', d = d' + 3 := ⟨d - 3, by omega⟩
        have e1' := fun (Q : am_Q) => e1 (d' + 2) Q (by omega)
        have e0 : ((99 : Int32) < nI 100) = True := eq_true (by decide)
        rw [eX11_ask]
        simp (disch := (first | assumption | omega | decide)) only [sX11_ask_0, sX11_ask_1, sX11_ask_2, sX11_ask_5, sX11_ask_6, sX11_ask_9, sX11_ask_12, sX11_ask_13, sX11_ask_16, sX11_ask_19, sX11_ask_20, sX11_ask_21, sX11_ask_22, sX11_ask_23, sX11_ask_26, sX11_ask_27, sX11_ask_28, sX11_ask_31, sX11_ask_32, sX11_ask_33, sX11_ask_34, sX11_ask_35, sX11_ask_36, sX11_ask_38, sX11_ask_39, sX11_ask_43, sX11_ask_45, sX11_ask_48, sX11_ask_49, sX11_ask_51, sX11_ask_52, sX11_ask_56, sX11_ask_58, sX11_ask_61, sX11_ask_62, sX11_ask_64, sX11_ask_67, sX11_ask_70, sX11_ask_72, sX11_ask_73, sX11_ask_74, sX11_ask_76, sX11_ask_79, sX11_ask_81, sX11_ask_84, sX11_ask_85, sX11_ask_88, sX11_ask_89, sX11_ask_90, sX11_ask_92, sX11_ask_95, sX11_ask_98, sX11_ask_100, sX11_ask_103, sX11_ask_105, sX11_ask_106, sX11_ask_107, sX11_ask_110, sX11_ask_112, sX11_ask_114, sX11_ask_117, sX11_ask_120, sX11_ask_122, sX11_ask_123, sX11_ask_125, sX11_ask_127, sX11_ask_130, sX11_ask_133, sX11_ask_134, kI_i, kL_l, kV_v, am_rv_s, am_kl_i, am_kl_r, am_kl_n, am_kl_l, true_and, and_true, and_self, true_or, or_true, implies_true, forall_const, not_true_eq_false, not_false_eq_true, false_implies, true_implies, if_true, if_false, Bool.true_eq_false, Bool.false_eq_true, ob_457, hM0, hf, ol, c1, m_isSort, c2, decide_true, bz_t, i01, e1', nz, e2 (d' + 2) Q (by omega)]
        rw [sX11_ask_41]
        have eb : ∀ g, bqM g 100 = bq g 100 := fun g => if_neg (by omega)
        simp (disch := (first | assumption | omega | decide)) only [sX11_ask_0, sX11_ask_1, sX11_ask_2, sX11_ask_5, sX11_ask_6, sX11_ask_9, sX11_ask_12, sX11_ask_13, sX11_ask_16, sX11_ask_19, sX11_ask_20, sX11_ask_21, sX11_ask_22, sX11_ask_23, sX11_ask_26, sX11_ask_27, sX11_ask_28, sX11_ask_31, sX11_ask_32, sX11_ask_33, sX11_ask_34, sX11_ask_35, sX11_ask_36, sX11_ask_38, sX11_ask_39, sX11_ask_43, sX11_ask_45, sX11_ask_48, sX11_ask_49, sX11_ask_51, sX11_ask_52, sX11_ask_56, sX11_ask_58, sX11_ask_61, sX11_ask_62, sX11_ask_64, sX11_ask_67, sX11_ask_70, sX11_ask_72, sX11_ask_73, sX11_ask_74, sX11_ask_76, sX11_ask_79, sX11_ask_81, sX11_ask_84, sX11_ask_85, sX11_ask_88, sX11_ask_89, sX11_ask_90, sX11_ask_92, sX11_ask_95, sX11_ask_98, sX11_ask_100, sX11_ask_103, sX11_ask_105, sX11_ask_106, sX11_ask_107, sX11_ask_110, sX11_ask_112, sX11_ask_114, sX11_ask_117, sX11_ask_120, sX11_ask_122, sX11_ask_123, sX11_ask_125, sX11_ask_127, sX11_ask_130, sX11_ask_133, sX11_ask_134, kI_i, kL_l, kV_v, am_rv_s, am_kl_i, am_kl_r, am_kl_n, am_kl_l, true_and, and_true, and_self, true_or, or_true, implies_true, forall_const, not_true_eq_false, not_false_eq_true, false_implies, true_implies, if_true, if_false, Bool.true_eq_false, Bool.false_eq_true, e0, eb]
    · refine ⟨M0, fun d Q hd => ?_, hb0, f0⟩
      obtain ⟨d', rfl⟩ : ∃ d', d = d' + 3 := ⟨d - 3, by omega⟩
      rw [if_neg (fun z => c2 z.2), eX11_ask]
      simp (disch := (first | assumption | omega | decide)) only [sX11_ask_0, sX11_ask_1, sX11_ask_2, sX11_ask_5, sX11_ask_6, sX11_ask_9, sX11_ask_12, sX11_ask_13, sX11_ask_16, sX11_ask_19, sX11_ask_20, sX11_ask_21, sX11_ask_22, sX11_ask_23, sX11_ask_26, sX11_ask_27, sX11_ask_28, sX11_ask_31, sX11_ask_32, sX11_ask_33, sX11_ask_34, sX11_ask_35, sX11_ask_36, sX11_ask_38, sX11_ask_39, sX11_ask_43, sX11_ask_45, sX11_ask_48, sX11_ask_49, sX11_ask_51, sX11_ask_52, sX11_ask_56, sX11_ask_58, sX11_ask_61, sX11_ask_62, sX11_ask_64, sX11_ask_67, sX11_ask_70, sX11_ask_72, sX11_ask_73, sX11_ask_74, sX11_ask_76, sX11_ask_79, sX11_ask_81, sX11_ask_84, sX11_ask_85, sX11_ask_88, sX11_ask_89, sX11_ask_90, sX11_ask_92, sX11_ask_95, sX11_ask_98, sX11_ask_100, sX11_ask_103, sX11_ask_105, sX11_ask_106, sX11_ask_107, sX11_ask_110, sX11_ask_112, sX11_ask_114, sX11_ask_117, sX11_ask_120, sX11_ask_122, sX11_ask_123, sX11_ask_125, sX11_ask_127, sX11_ask_130, sX11_ask_133, sX11_ask_134, kI_i, kL_l, kV_v, am_rv_s, am_kl_i, am_kl_r, am_kl_n, am_kl_l, true_and, and_true, and_self, true_or, or_true, implies_true, forall_const, not_true_eq_false, not_false_eq_true, false_implies, true_implies, if_true, if_false, Bool.true_eq_false, Bool.false_eq_true, ob_457, hM0, hf, ol, c1, m_isSort, c2, decide_false, bz_f]
end
