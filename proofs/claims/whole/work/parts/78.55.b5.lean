section
variable {M N : am_M} {sc : Nat → Int32}
theorem B_text {so : Int32} (hI : IV sc M) : BB sc M mX10_text mX11_text [.int so] := by
  obtain ⟨hW, hs, tp, ap, lim, lm, S, P, im, LL, h, PL, hv, L, hC, hM, hO⟩ := hI
  obtain ⟨y1, y2, y3, y4, y5, y6, y7, y8, y9⟩ := id hC
  have l240 := y1.2.1
  have hk := hO.1
  have no : ∀ (M1 : am_M) (X : Nat → Nat → Prop), Fw X M M1 → (∀ c j, X c j → c < 457) → IC M1 tp ap lim S P im LL h PL hv L → (∀ Q, am_big 40 mX10_text (.ref 0 :: [.int so]) 488 M Q = Q (some (.int (-1))) M1) → (¬ (so = 0 ∧ (wkT tp).1 = true) ∧ ¬ (so = 1 ∧ (lwT tp).1 = true ∧ LL.length < 4) ∧ ¬ (so = 2 ∧ (plT tp).1 = true ∧ PL.length < 4)) → BB sc M mX10_text mX11_text [.int so] := by
    intro M1 X f1 hX hC1 e1 hn
    have W1 := f1.2 hW
    have hM1 := IM_C f1 hX hM
    have hs1 := SC_F f1 (fun j z => by have := hX _ _ z; omega) hs
    obtain ⟨M2, e2, f2⟩ := m_textNo (so := so) (d := 40) (by omega) W1 hM1.1 hk hM1.2.2.2.2.2.1.2.2.2.2.2.2.2 hM1.2.2.2.2.2.1.1 y6.2.2.1 hM1.2.2.2.2.2.2.1.1 y7.2.1 hn (fun z hz e => by subst e; exact fz l240 hz)
    exact ⟨_, M1, M2, e1, e2, hs1, IV_q W1 hs1 hC1 hM1 hO f2 (fun c j w => by unfold XFm at w; unfold KM0 KML; omega)⟩
  by_cases c0 : so = 0 ∧ (wkT tp).1 = true
  · obtain ⟨rfl, hok⟩ := c0
    obtain ⟨b1, ⟨lk, hlk, elk⟩, b3⟩ := wkT_B hok
    obtain ⟨M1, e1, t1, r1, se1, f1⟩ := c_text0 (d := 40) (by omega) hW y1 y2 y4 hok
    obtain ⟨s1, p1, i1⟩ := r1 lk elk
    have W1 := f1.2 hW
    have hM1 := IM_C f1 (fun c j z => by unfold XT0 XRd at z; omega) hM
    have hs1 := SC_F f1 (fun j z => by unfold XT0 XRd at z; omega) hs
    have hC1 : IC M1 [] (wkT tp).2.1.length lk (sgT (wkT tp).2.1) [] none LL h PL hv [] := ⟨t1, DrC_Fw f1 (fun c j z => by unfold XT0 XRd; omega) y2, s1, p1, i1, LbC_Fw f1 (fun c j z => by unfold XT0 XRd; omega) y6, PlC_Fw f1 (fun c j z => by unfold XT0 XRd; omega) y7, (f1.I (by unfold XT0 XRd; omega)).trans y8, se1⟩
    obtain ⟨M2, e2, t2, s2, p2, g23, g21, i2, se2, f2⟩ := m_text0 (d := 40) (by omega) W1 hM1.1 hk hok
    obtain ⟨z1, z2, z3, ⟨z4, z4'⟩, z5, z6, z7, z8, z9⟩ := hM1
    exact ⟨_, M1, M2, e1, e2, hs1, f2.2 W1, SC_F f2 (fun j z => by unfold XM0 XFm at z; omega) hs1, [], (wkT tp).2.1.length, lk, lk, sgT (wkT tp).2.1, [], none, LL, h, PL, hv, [], IC_M f2 (fun c j z => by unfold XM0 XFm at z; omega) hC1, ⟨t2, s2, p2, ⟨g23, g21.trans elk⟩, i2, LbM_Fw f2 (fun c j z => by unfold XM0 XFm; omega) z6, PlM_Fw f2 (fun c j z => by unfold XM0 XFm; omega) z7, (f2.I (by unfold XM0 XFm; omega)).trans z8, se2⟩, ⟨(fun c hc => by cases hc), hlk, hlk, Or.inr rfl, ⟨WF_nil, T3_nil⟩, (fun p hp => by cases hp), (fun I hI => by cases hI)⟩⟩
  · by_cases c1 : so = 1 ∧ (lwT tp).1 = true
    · obtain ⟨rfl, hok⟩ := c1
      obtain ⟨M1, e1, t1, lb1, f1⟩ := c_text1 (d := 40) (by omega) hW y1 hk y6 hok
      by_cases c4 : LL.length < 4
      · rw [if_pos c4] at e1 t1 lb1
        have W1 := f1.2 hW
        have hM1 := IM_C f1 (fun c j z => by unfold XT1 XRd at z; omega) hM
        have hs1 := SC_F f1 (fun j z => by unfold XT1 XRd at z; omega) hs
        have hC1 : IC M1 [] ap lim S P im (LL ++ [tp]) h PL hv L := ⟨t1, DrC_Fw f1 (fun c j z => by unfold XT1 XRd; omega) y2, StC_Fw f1 (fun c j x y => by unfold XT1 XRd; omega) y3, PaC_Fw f1 (fun c j z => by unfold XT1 XRd; omega) y4, ImC_Fw f1 (fun c j z => by unfold XT1 XRd; omega) y5, lb1, PlC_Fw f1 (fun c j z => by unfold XT1 XRd; omega) y7, (f1.I (by unfold XT1 XRd; omega)).trans y8, SeC_Fw f1 (fun c j z => by unfold XT1 XRd; omega) y9⟩
        obtain ⟨M2, e2, t2, lb2, f2⟩ := m_text1 (d := 40) (by omega) W1 hM1.1 hk hM1.2.2.2.2.2.1 hok c4
        obtain ⟨z1, z2, z3, ⟨z4, z4'⟩, z5, z6, z7, z8, z9⟩ := hM1
        exact ⟨_, M1, M2, e1, e2, hs1, f2.2 W1, SC_F f2 (fun j z => by unfold XM1 XFm at z; omega) hs1, [], ap, lim, lm, S, P, im, LL ++ [tp], h, PL, hv, L, IC_M f2 (fun c j z => by unfold XM1 XFm at z; omega) hC1, ⟨t2, StM_Fw f2 (fun j => by unfold XM1 XFm; omega) z2, PaM_Fw f2 (fun j => by unfold XM1 XFm; omega) (by unfold XM1 XFm; omega) z3, ⟨(f2.I (by unfold XM1 XFm; omega)).trans z4, (f2.I (by unfold XM1 XFm; omega)).trans z4'⟩, ImM_Fw f2 (fun c j z => by unfold XM1 XFm; omega) z5, lb2, PlM_Fw f2 (fun c j z => by unfold XM1 XFm; omega) z7, (f2.I (by unfold XM1 XFm; omega)).trans z8, SeM_Fw f2 (fun c j z => by unfold XM1 XFm; omega) z9⟩, ⟨(fun c hc => by cases hc), hO.2⟩⟩
      · rw [if_neg c4] at e1 t1 lb1
        have hC1 : IC M1 tp ap lim S P im LL h PL hv L := ⟨t1, DrC_Fw f1 (fun c j z => by unfold XT1 XRd; omega) y2, StC_Fw f1 (fun c j x y => by unfold XT1 XRd; omega) y3, PaC_Fw f1 (fun c j z => by unfold XT1 XRd; omega) y4, ImC_Fw f1 (fun c j z => by unfold XT1 XRd; omega) y5, lb1, PlC_Fw f1 (fun c j z => by unfold XT1 XRd; omega) y7, (f1.I (by unfold XT1 XRd; omega)).trans y8, SeC_Fw f1 (fun c j z => by unfold XT1 XRd; omega) y9⟩
        exact no M1 XT1 f1 (fun c j z => by unfold XT1 XRd at z; omega) hC1 e1 ⟨c0, fun z => c4 z.2.2, fun z => absurd z.1 (by decide)⟩
    · by_cases c2 : so = 2 ∧ (plT tp).1 = true
      · obtain ⟨rfl, hok⟩ := c2
        obtain ⟨_, _, _, lh, _⟩ := c_reads2 (d := 0) hW y1
        have hln := lh.1.2.2
        obtain ⟨M1, e1, t1, pl1, f1⟩ := c_text2 (d := 40) (by omega) hW y1 y7 hok
        by_cases c4 : PL.length < 4
        · rw [if_pos c4] at e1 t1 pl1
          have W1 := f1.2 hW
          have hM1 := IM_C f1 (fun c j z => by unfold XT2 XRd at z; omega) hM
          have hs1 := SC_F f1 (fun j z => by unfold XT2 XRd at z; omega) hs
          have hC1 : IC M1 [] ap lim S P im LL h (PL ++ [(plT tp).2.1]) hv L := ⟨t1, DrC_Fw f1 (fun c j z => by unfold XT2 XRd; omega) y2, StC_Fw f1 (fun c j x y => by unfold XT2 XRd; omega) y3, PaC_Fw f1 (fun c j z => by unfold XT2 XRd; omega) y4, ImC_Fw f1 (fun c j z => by unfold XT2 XRd; omega) y5, LbC_Fw f1 (fun c j z => by unfold XT2 XRd; omega) y6, pl1, (f1.I (by unfold XT2 XRd; omega)).trans y8, SeC_Fw f1 (fun c j z => by unfold XT2 XRd; omega) y9⟩
          obtain ⟨M2, e2, t2, pl2, f2⟩ := m_text2 (d := 40) (by omega) W1 hM1.1 hk hM1.2.2.2.2.2.2.1 hok hln c4
          obtain ⟨z1, z2, z3, ⟨z4, z4'⟩, z5, z6, z7, z8, z9⟩ := hM1
          exact ⟨_, M1, M2, e1, e2, hs1, f2.2 W1, SC_F f2 (fun j z => by unfold XM2 XFm at z; omega) hs1, [], ap, lim, lm, S, P, im, LL, h, PL ++ [(plT tp).2.1], hv, L, IC_M f2 (fun c j z => by unfold XM2 XFm at z; omega) hC1, ⟨t2, StM_Fw f2 (fun j => by unfold XM2 XFm; omega) z2, PaM_Fw f2 (fun j => by unfold XM2 XFm; omega) (by unfold XM2 XFm; omega) z3, ⟨(f2.I (by unfold XM2 XFm; omega)).trans z4, (f2.I (by unfold XM2 XFm; omega)).trans z4'⟩, ImM_Fw f2 (fun c j z => by unfold XM2 XFm; omega) z5, LbM_Fw f2 (fun c j z => by unfold XM2 XFm; omega) z6, pl2, (f2.I (by unfold XM2 XFm; omega)).trans z8, SeM_Fw f2 (fun c j z => by unfold XM2 XFm; omega) z9⟩, ⟨(fun c hc => by cases hc), hO.2⟩⟩
        · rw [if_neg c4] at e1 t1 pl1
          have hC1 : IC M1 tp ap lim S P im LL h PL hv L := ⟨t1, DrC_Fw f1 (fun c j z => by unfold XT2 XRd; omega) y2, StC_Fw f1 (fun c j x y => by unfold XT2 XRd; omega) y3, PaC_Fw f1 (fun c j z => by unfold XT2 XRd; omega) y4, ImC_Fw f1 (fun c j z => by unfold XT2 XRd; omega) y5, LbC_Fw f1 (fun c j z => by unfold XT2 XRd; omega) y6, pl1, (f1.I (by unfold XT2 XRd; omega)).trans y8, SeC_Fw f1 (fun c j z => by unfold XT2 XRd; omega) y9⟩
          exact no M1 XT2 f1 (fun c j z => by unfold XT2 XRd at z; omega) hC1 e1 ⟨c0, fun z => absurd z.1 (by decide), fun z => c4 z.2.2⟩
      · obtain ⟨M1, e1, t1, f1⟩ := c_textNo (so := so) (d := 40) (by omega) hW y1 ⟨c0, c1, c2⟩
        have hC1 := IC_K f1 (fun c j z w => by unfold XRd at w; unfold KC at z; omega) hC
        exact no M1 XRd f1 (fun c j z => by unfold XRd at z; omega) hC1 e1 ⟨c0, fun z => c1 ⟨z.1, z.2.1⟩, fun z => c2 ⟨z.1, z.2.1⟩⟩
theorem m_apprentice {p0 p1 : Int32} {ap lim : Nat} {S : Sg} {P : List Sg} (h : RS M ap lim S P) : ∃ v, (∀ d (Q : am_Q), am_big (d + 2) mX11_apprentice [.ref 457, .int p0, .int p1] 488 M Q = Q (some (.int v)) (sI M 457 0 (if hasA ap p0 = true ∧ 0 ≤ p1 ∧ p1 ≤ 1 then 0 else 1))) ∧ (hasA ap p0 = true ∧ 0 ≤ p1 ∧ p1 ≤ 1 → v = if p1 = 0 then S.2.1 p0.toNatClampNeg else bz (S.2.2.1.testBit p0.toNatClampNeg)) := by
  obtain ⟨hW, hS, hP, hf, hm, hw, hlim, ht⟩ := h
  have hap := hS.2.2.2.2.1.2.2
  have ih := fun d (Q : am_Q) => m_isHand (d := d) (Q := Q) (y := p0) hf
  have i01' : (decide ((0 : Int32) ≤ p1) && decide (p1 ≤ (1 : Int32))) = decide (0 ≤ p1 ∧ p1 ≤ 1) := by
    rw [Bool.eq_iff_iff, Bool.and_eq_true, decide_eq_true_eq, decide_eq_true_eq, decide_eq_true_eq]
  have c64_1' : (1 : Int64) = (1 : Int32).toInt64 := by decide
  have o0 : ((0 : Int32) ≤ 0) = True := eq_true (by decide)
  have o1 : ((1 : Int32) ≤ 0) = False := eq_false (by decide)
  cases c : hasA ap p0 with
  | false =>
    refine ⟨0, fun d Q => ?_, fun z => by cases z.1⟩
    have ge : gI (sI M 457 0 1) 457 0 = 1 := gI_e
    rw [if_neg (fun z => by cases z.1), eX11_apprentice]
    simp (disch := (first | assumption | omega | decide)) only [sX11_apprentice_0, sX11_apprentice_1, sX11_apprentice_2, sX11_apprentice_3, sX11_apprentice_6, sX11_apprentice_9, sX11_apprentice_10, sX11_apprentice_11, sX11_apprentice_12, sX11_apprentice_13, sX11_apprentice_16, sX11_apprentice_19, sX11_apprentice_20, sX11_apprentice_23, sX11_apprentice_24, sX11_apprentice_27, sX11_apprentice_28, sX11_apprentice_31, sX11_apprentice_34, sX11_apprentice_35, sX11_apprentice_36, sX11_apprentice_37, sX11_apprentice_40, sX11_apprentice_41, sX11_apprentice_44, sX11_apprentice_46, sX11_apprentice_47, sX11_apprentice_48, sX11_apprentice_49, sX11_apprentice_52, sX11_apprentice_53, sX11_apprentice_56, sX11_apprentice_58, sX11_apprentice_59, sX11_apprentice_60, sX11_apprentice_61, sX11_apprentice_62, sX11_apprentice_63, kI_i, kL_l, kV_v, am_rv_s, am_kl_i, am_kl_r, am_kl_n, am_kl_l, true_and, and_true, and_self, true_or, or_true, implies_true, forall_const, not_true_eq_false, not_false_eq_true, false_implies, true_implies, if_true, if_false, Bool.true_eq_false, Bool.false_eq_true, ob_457, ih, c, bz_f, ge, o1]
  | true =>
    by_cases c2 : 0 ≤ p1 ∧ p1 ≤ 1
    · obtain ⟨i, hi, rfl⟩ := hasA_x hap c
      have cd := decide_eq_true c2
      have ge : gI (sI M 457 0 0) 457 0 = 0 := gI_e
      have W1 : WR (sI M 457 0 0) := hW
      have g37 : gI (sI M 457 0 0) 465 (37 + i) = S.2.1 i := by
        rw [gI_o (by omega)]
        have := hS.2.2.2.1 i hi
        rwa [Nat.zero_add] at this
      have g41 : gI (sI M 457 0 0) 465 41 = nI S.2.2.1 := by
        rw [gI_o (by omega)]
        have := hS.2.2.2.2.1.1
        rwa [Nat.zero_add] at this
      have rb := hS.2.2.2.2.1.2.1
      have cx : (nI (37 + i)).toNatClampNeg = 37 + i := nI_clamp (by omega)
      have i37 := in_465 (M := sI M 457 0 0) (k := 37 + i) (by omega)
      have i41 := in_465 (M := sI M 457 0 0) (k := 41) (by omega)
      have c41 : (nI 41).toNatClampNeg = 41 := nI_clamp (by omega)
      have bt := nI_bit (b := S.2.2.1) (e := i) (by omega) (by omega)
      refine ⟨if p1 = 0 then S.2.1 (nI i).toNatClampNeg else bz (S.2.2.1.testBit (nI i).toNatClampNeg), fun d Q => ?_, fun _ => rfl⟩
      have ce : true = true ∧ 0 ≤ p1 ∧ p1 ≤ 1 := ⟨rfl, c2⟩
      rw [if_pos ce, eX11_apprentice, nI_clamp (show i < 2147483648 by omega)]
      by_cases z : p1 = 0
      · subst z
        have cd0 : (decide ((0 : Int32) ≤ 0) && decide ((0 : Int32) ≤ 1)) = true := by decide
        have z0 : ((0 : Int32) = 0) = True := eq_true rfl
        rw [if_pos rfl]
        simp (disch := (first | assumption | omega | decide)) only [sX11_apprentice_0, sX11_apprentice_1, sX11_apprentice_2, sX11_apprentice_3, sX11_apprentice_6, sX11_apprentice_9, sX11_apprentice_10, sX11_apprentice_11, sX11_apprentice_12, sX11_apprentice_13, sX11_apprentice_16, sX11_apprentice_19, sX11_apprentice_20, sX11_apprentice_23, sX11_apprentice_24, sX11_apprentice_27, sX11_apprentice_28, sX11_apprentice_31, sX11_apprentice_34, sX11_apprentice_35, sX11_apprentice_36, sX11_apprentice_37, sX11_apprentice_40, sX11_apprentice_41, sX11_apprentice_44, sX11_apprentice_46, sX11_apprentice_47, sX11_apprentice_48, sX11_apprentice_49, sX11_apprentice_52, sX11_apprentice_53, sX11_apprentice_56, sX11_apprentice_58, sX11_apprentice_59, sX11_apprentice_60, sX11_apprentice_61, sX11_apprentice_62, sX11_apprentice_63, kI_i, kL_l, kV_v, am_rv_s, am_kl_i, am_kl_r, am_kl_n, am_kl_l, true_and, and_true, and_self, true_or, or_true, implies_true, forall_const, not_true_eq_false, not_false_eq_true, false_implies, true_implies, if_true, if_false, Bool.true_eq_false, Bool.false_eq_true, ob_457, ih, c, bz_t, i01, c64_0, c64_1', m_isIn, ge, o0, q01, decide_true, Bool.and_self, z0, r_457_27, n37, nI_add, i37, cx, g37]
      · rw [if_neg z]
        simp (disch := (first | assumption | omega | decide)) only [sX11_apprentice_0, sX11_apprentice_1, sX11_apprentice_2, sX11_apprentice_3, sX11_apprentice_6, sX11_apprentice_9, sX11_apprentice_10, sX11_apprentice_11, sX11_apprentice_12, sX11_apprentice_13, sX11_apprentice_16, sX11_apprentice_19, sX11_apprentice_20, sX11_apprentice_23, sX11_apprentice_24, sX11_apprentice_27, sX11_apprentice_28, sX11_apprentice_31, sX11_apprentice_34, sX11_apprentice_35, sX11_apprentice_36, sX11_apprentice_37, sX11_apprentice_40, sX11_apprentice_41, sX11_apprentice_44, sX11_apprentice_46, sX11_apprentice_47, sX11_apprentice_48, sX11_apprentice_49, sX11_apprentice_52, sX11_apprentice_53, sX11_apprentice_56, sX11_apprentice_58, sX11_apprentice_59, sX11_apprentice_60, sX11_apprentice_61, sX11_apprentice_62, sX11_apprentice_63, kI_i, kL_l, kV_v, am_rv_s, am_kl_i, am_kl_r, am_kl_n, am_kl_l, true_and, and_true, and_self, true_or, or_true, implies_true, forall_const, not_true_eq_false, not_false_eq_true, false_implies, true_implies, if_true, if_false, Bool.true_eq_false, Bool.false_eq_true, ob_457, ih, c, bz_t, i01, c64_0, c64_1', m_isIn, i01', cd, ge, o0, z, r_457_27, n41, i41, c41, g41, bt]
    · refine ⟨0, fun d Q => ?_, fun z => absurd z.2 c2⟩
      have cd := decide_eq_false c2
      have ge : gI (sI M 457 0 1) 457 0 = 1 := gI_e
      rw [if_neg (fun z => c2 z.2), eX11_apprentice]
      simp (disch := (first | assumption | omega | decide)) only [sX11_apprentice_0, sX11_apprentice_1, sX11_apprentice_2, sX11_apprentice_3, sX11_apprentice_6, sX11_apprentice_9, sX11_apprentice_10, sX11_apprentice_11, sX11_apprentice_12, sX11_apprentice_13, sX11_apprentice_16, sX11_apprentice_19, sX11_apprentice_20, sX11_apprentice_23, sX11_apprentice_24, sX11_apprentice_27, sX11_apprentice_28, sX11_apprentice_31, sX11_apprentice_34, sX11_apprentice_35, sX11_apprentice_36, sX11_apprentice_37, sX11_apprentice_40, sX11_apprentice_41, sX11_apprentice_44, sX11_apprentice_46, sX11_apprentice_47, sX11_apprentice_48, sX11_apprentice_49, sX11_apprentice_52, sX11_apprentice_53, sX11_apprentice_56, sX11_apprentice_58, sX11_apprentice_59, sX11_apprentice_60, sX11_apprentice_61, sX11_apprentice_62, sX11_apprentice_63, kI_i, kL_l, kV_v, am_rv_s, am_kl_i, am_kl_r, am_kl_n, am_kl_l, true_and, and_true, and_self, true_or, or_true, implies_true, forall_const, not_true_eq_false, not_false_eq_true, false_implies, true_implies, if_true, if_false, Bool.true_eq_false, Bool.false_eq_true, ob_457, ih, c, bz_t, bz_f, i01, c64_0, c64_1', m_isIn, i01', cd, ge, o1]
theorem B_app {p0 p1 : Int32} (hI : IV sc M) : ∃ k v M1 M2, (∀ Q, am_big 40 mL_apprentice [.ref 0, .int p0, .int p1, .ref 487] 488 M Q = Q (some (.int k)) M1) ∧ (∀ Q, am_big 40 mX11_apprentice [.ref 457, .int p0, .int p1] 488 M1 Q = Q (some (.int v)) M2) ∧ (∀ j, gI M1 2000000 j = sc j) ∧ gI M2 457 0 = k ∧ (k = 0 ∨ k = 1) ∧ (k = 0 → gL M2 487 0 = v.toInt64) ∧ IV sc M2 := by
  obtain ⟨hW, hs, tp, ap, lim, lm, S, P, im, LL, h, PL, hv, L, hC, hM, hO⟩ := hI
  have st := hC.2.2.1
  have g3 : gI M 3 3 = nI ap := st.2.2.1
  have hap := st.2.2.2.2.2.2.2.1
  have pre : (0 : Nat) = 0 ∧ (487 : Nat) = 487 ∧ am_NN ≤ 488 ∧ gR M 0 1 = some 3 ∧ gR M 3 1 = some 8 ∧ gR M 3 2 = some 9 ∧ (gI M 3 3).toInt ≤ 4 := ⟨rfl, rfl, Nat.le_refl _, hW _ _ _ rfl, hW _ _ _ rfl, hW _ _ _ rfl, by rw [g3, nI_toInt (by omega)]; omega⟩
  have run : ∀ Q, am_big 40 mL_apprentice [.ref 0, .int p0, .int p1, .ref 487] 488 M Q = am_app [.ref 0, .int p0, .int p1, .ref 487] 488 M Q := fun Q => rfl
  by_cases c : hasA ap p0 = true ∧ 0 ≤ p1 ∧ p1 ≤ 1
  · have c' : 0 ≤ p0 ∧ p0 < gI M 3 3 ∧ 0 ≤ p1 ∧ p1 ≤ 1 := by
      have := of_decide_eq_true c.1
      rw [g3]
      exact ⟨this.1, this.2, c.2⟩
    have f1 : Fw (fun c _ => c = 487) M (sL M 487 0 (if p1 = 0 then gI M 8 p0.toNatClampNeg else gI M 9 p0.toNatClampNeg).toInt64) := Fw.l rfl
    have gl : gL (sL M 487 0 (if p1 = 0 then gI M 8 p0.toNatClampNeg else gI M 9 p0.toNatClampNeg).toInt64) 487 0 = (if p1 = 0 then gI M 8 p0.toNatClampNeg else gI M 9 p0.toNatClampNeg).toInt64 := gL_e
    have e1 : ∀ Q, am_big 40 mL_apprentice [.ref 0, .int p0, .int p1, .ref 487] 488 M Q = Q (some (.int 0)) (sL M 487 0 (if p1 = 0 then gI M 8 p0.toNatClampNeg else gI M 9 p0.toNatClampNeg).toInt64) := fun (Q : am_Q) => by
      rw [run]
      exact propext ⟨fun z => z.2.1 c', fun z => ⟨pre, fun _ => z, fun w => absurd c' w⟩⟩
    generalize sL M 487 0 (if p1 = 0 then gI M 8 p0.toNatClampNeg else gI M 9 p0.toNatClampNeg).toInt64 = M1 at *
    have W1 := f1.2 hW
    have hs1 := SC_F f1 (fun j z => by omega) hs
    have hC1 := IC_K f1 (fun c j z w => by unfold KC at z; omega) hC
    have hM1 := IM_K f1 (fun c j z w => by unfold KM0 KML at z; omega) hM
    obtain ⟨v, e2, r2⟩ := m_apprentice (p0 := p0) (p1 := p1) (RS_of W1 hC1 hM1 hO)
    rw [if_pos c] at e2
    refine ⟨0, v, M1, sI M1 457 0 0, e1, fun Q => e2 38 Q, hs1, gI_e, Or.inl rfl, fun _ => ?_, IV_th W1 hs1 hC1 hM1 hO⟩
    rw [gL_sI, gl, r2 c]
    obtain ⟨i, hi, rfl⟩ := hasA_x hap c.1
    rw [nI_clamp (by omega)]
    have q := st.2.2.2.2.2.1 i hi
    have q1 : gI M 8 i = S.2.1 i := q.1
    have q2 : gI M 9 i = bz (S.2.2.1.testBit i) := q.2
    rw [q1, q2]
  · have c' : ¬ (0 ≤ p0 ∧ p0 < gI M 3 3 ∧ 0 ≤ p1 ∧ p1 ≤ 1) := fun z => by
      rw [g3] at z
      exact c ⟨decide_eq_true ⟨z.1, z.2.1⟩, z.2.2⟩
    have e1 : ∀ Q, am_big 40 mL_apprentice [.ref 0, .int p0, .int p1, .ref 487] 488 M Q = Q (some (.int 1)) M := fun (Q : am_Q) => by
      rw [run]
      exact propext ⟨fun z => z.2.2 c', fun z => ⟨pre, fun w => absurd w c', fun _ => z⟩⟩
    obtain ⟨v, e2, r2⟩ := m_apprentice (p0 := p0) (p1 := p1) (RS_of hW hC hM hO)
    rw [if_neg c] at e2
    refine ⟨1, v, M, sI M 457 0 1, e1, fun Q => e2 38 Q, hs, gI_e, Or.inr rfl, fun z => absurd z (by decide), ?_⟩
    exact IV_q (X := fun c j => c = 457 ∧ j = 0) hW hs hC hM hO (Fw.s ⟨rfl, rfl⟩) (fun c j w => by unfold KM0 KML; omega)
end
