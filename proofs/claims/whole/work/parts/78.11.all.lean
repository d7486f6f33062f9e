theorem tir_c {f g : Nat → Int32} : ∀ {n : Nat}, (∀ i, i < n → f i = g i) → tir f n = tir g n
  | 0, _ => rfl
  | n + 1, h => by unfold tir; rw [tir_c (fun i hi => h i (by omega)), h n (by omega)]
theorem tir_rb : ∀ rb, rb < 16 → ∀ ap, ap < 5 → tir (fun i => bz (rb.testBit i)) ap = nI (rb % 2 ^ ap) := by decide +kernel
theorem kt_x {f : Nat → Int32} {x y : Int32} : ∀ {n : Nat}, (∀ k, k < n → (x >>> (nI k &&& 31)) &&& 1 = (y >>> (nI k &&& 31)) &&& 1) → kt f x n = kt f y n
  | 0, _ => rfl
  | n + 1, h => by
    show kt f x n ||| (if (x >>> (nI n &&& 31)) &&& 1 = 0 then 0 else f n) = kt f y n ||| (if (y >>> (nI n &&& 31)) &&& 1 = 0 then 0 else f n)
    rw [kt_x (fun k hk => h k (by omega)), h n (by omega)]
def allA (ap : Nat) (S : Sg) (v : Int32) : Int32 := if opn ap = true then (if v = 0 then nI (edF S.1 0 S.1.length) else if v = 1 then nI (edF S.1 1 S.1.length) else if v = 2 then nI (edF S.1 2 S.1.length) else if v = 3 then nI (hiA S.1 6) else if v = 4 then ptA S.1 true else if v = 5 then ptA S.1 false else if v = 6 then kt S.2.1 (nI S.2.2.1) ap else -1) else -1
section
variable {M N : am_M} {ap lim n : Nat} {S : Sg} {P : List Sg} {l : List Dd} {d : Nat} {Q : am_Q} {K : Int32}
theorem kt_rb {f g : Nat → Int32} {rb : Nat} (hr : rb < 16) (hap : ap ≤ 4) (hg : ∀ i, i < ap → g i = bz (rb.testBit i)) : kt f (tir g ap) ap = kt f (nI rb) ap := by
  rw [tir_c hg, tir_rb rb hr ap (by omega)]
  refine kt_x (fun k hk => ?_)
  have le : rb % 2 ^ ap ≤ rb := Nat.mod_le _ _
  rw [nI_bit (by omega) (by omega), nI_bit (by omega) (by omega), Nat.testBit_mod_two_pow, decide_eq_true hk, Bool.true_and]
theorem c_heightL (hL : LH N 4 l) : am_big (d + 4) mX0_height [.ref 4] 488 N Q = Q (some (.int (nI (hiA l 6)))) N := by
  have e1 : (fun k => thr N 4 l.length (nI k)) = (fun k => thL l (nI k)) := funext (fun k => thr_L hL (nI k))
  have e2 : stF N 4 l.length = (fun k => 1 + sty (unL l) 6 (unL l (nI k))) := funext (fun k => by unfold stF; rw [und_L hL])
  rw [c_height hL.1, e1, e2]; rfl
theorem ptA_f : ptA l false = ptf (fun k => thL l (nI k)) 6 := by
  unfold ptA
  simp only [Bool.not_false, Bool.true_or, Bool.and_true]
theorem ptA_t : ptA l true = lpf (ptf (fun k => thL l (nI k)) 6) (fun k => decide (unL l (nI k) = 9)) 6 := by
  rw [lp_eq]
  unfold ptA
  simp only [Bool.not_true, Bool.false_or]
theorem c_partsL (hL : LH N 4 l) : am_big (d + 3) mX0_partsThere [.ref 4] 488 N Q = Q (some (.int (ptA l false))) N := by
  have e1 : (fun k => thr N 4 l.length (nI k)) = (fun k => thL l (nI k)) := funext (fun k => thr_L hL (nI k))
  rw [c_partsThere hL.1, e1, ptA_f]
theorem c_looseL (hL : LH N 4 l) : am_big (d + 4) mX0_looseParts [.ref 4] 488 N Q = Q (some (.int (ptA l true))) N := by
  have e1 : (fun k => thr N 4 l.length (nI k)) = (fun k => thL l (nI k)) := funext (fun k => thr_L hL (nI k))
  have e2 : lof N 4 l.length = (fun k => decide (unL l (nI k) = 9)) := funext (fun k => by unfold lof; rw [und_L hL])
  rw [c_loose hL.1, e1, e2, ptA_t]
theorem c_all {v : Int32} (hW : WR M) (h : StC M 3 ap lim S) (hl : S.1.length ≤ 12) (hr : S.2.2.1 < 16) : ∃ M', (∀ d (Q : am_Q), am_big (d + 5) mX10_all [.ref 0, .int v] 488 M Q = Q (some (.int (allA ap S v))) M') ∧ Fw XL M M' := by
  obtain ⟨wl, hs, lk, kn, lf⟩ := c_lks hW h hl
  have hL := StC_LH hs
  unfold allA
  cases co : opn ap with
  | false =>
    refine ⟨M, fun d Q => ?_, Fw.rf⟩
    rw [eX10_all]
    simp (disch := (first | assumption | omega | decide)) only [sX10_all_0, sX10_all_1, sX10_all_4, sX10_all_7, sX10_all_8, sX10_all_9, sX10_all_10, sX10_all_13, sX10_all_14, sX10_all_17, sX10_all_20, sX10_all_23, sX10_all_24, sX10_all_68, sX10_all_69, sX10_all_72, sX10_all_75, sX10_all_76, sX10_all_77, sX10_all_80, sX10_all_83, sX10_all_84, sX10_all_85, sX10_all_88, sX10_all_91, sX10_all_92, sX10_all_93, sX10_all_96, sX10_all_99, sX10_all_102, sX10_all_103, sX10_all_104, sX10_all_107, sX10_all_110, sX10_all_113, sX10_all_114, sX10_all_115, sX10_all_118, sX10_all_121, sX10_all_124, sX10_all_125, sX10_all_126, sX10_all_129, sX10_all_130, sX10_all_133, sX10_all_136, sX10_all_139, sX10_all_140, sX10_all_141, kI_i, kL_l, kV_v, am_rv_s, am_kl_i, am_kl_r, am_kl_n, am_kl_l, true_and, and_true, and_self, true_or, or_true, implies_true, forall_const, not_true_eq_false, not_false_eq_true, false_implies, true_implies, if_true, if_false, Bool.true_eq_false, Bool.false_eq_true, ob_0, c_isOpen hW h, co, bz_f, Bool.false_eq_true]
  | true =>
    refine ⟨lkM M S.1, fun d Q => ?_, Fw_lk⟩
    have b0 := fun d (Q : am_Q) => c_lasts (d := d) (Q := Q) (l := S.1) hW hl
    have b1 := fun d (Q : am_Q) => c_firsts (d := d) (Q := Q) (l := S.1) hW hl
    have b2 := fun d (Q : am_Q) => c_fixed (d := d) (Q := Q) (l := S.1) hW hl
    have b3 := fun d (Q : am_Q) => c_heightL (d := d) (Q := Q) hL
    have b4 := fun d (Q : am_Q) => c_looseL (d := d) (Q := Q) hL
    have b5 := fun d (Q : am_Q) => c_partsL (d := d) (Q := Q) hL
    obtain ⟨h1, h2, h3, h4, h5, h6, h7, h10, h11⟩ := id hs
    have b6 := fun d (Q : am_Q) => c_thoseIn (d := d) (Q := Q) h1 h3 h10
    have k6 : kt S.2.1 (tir (gI (lkM M S.1) (3 + 6)) ap) ap = kt S.2.1 (nI S.2.2.1) ap := kt_rb hr h10 (fun i hi => (h6 i hi).2)
    rw [eX10_all, if_pos rfl]
    by_cases c0 : v = 0
    · have t := eq_true c0
      have n1 := vne (b := 1) c0 (by decide)
      have n2 := vne (b := 2) c0 (by decide)
      have n3 := vne (b := 3) c0 (by decide)
      have n4 := vne (b := 4) c0 (by decide)
      have n5 := vne (b := 5) c0 (by decide)
      have n6 := vne (b := 6) c0 (by decide)
      simp (disch := (first | assumption | omega | decide)) only [sX10_all_0, sX10_all_1, sX10_all_4, sX10_all_7, sX10_all_8, sX10_all_9, sX10_all_10, sX10_all_13, sX10_all_14, sX10_all_17, sX10_all_20, sX10_all_23, sX10_all_24, sX10_all_68, sX10_all_69, sX10_all_72, sX10_all_75, sX10_all_76, sX10_all_77, sX10_all_80, sX10_all_83, sX10_all_84, sX10_all_85, sX10_all_88, sX10_all_91, sX10_all_92, sX10_all_93, sX10_all_96, sX10_all_99, sX10_all_102, sX10_all_103, sX10_all_104, sX10_all_107, sX10_all_110, sX10_all_113, sX10_all_114, sX10_all_115, sX10_all_118, sX10_all_121, sX10_all_124, sX10_all_125, sX10_all_126, sX10_all_129, sX10_all_130, sX10_all_133, sX10_all_136, sX10_all_139, sX10_all_140, sX10_all_141, kI_i, kL_l, kV_v, am_rv_s, am_kl_i, am_kl_r, am_kl_n, am_kl_l, true_and, and_true, and_self, true_or, or_true, implies_true, forall_const, not_true_eq_false, not_false_eq_true, false_implies, true_implies, if_true, if_false, Bool.true_eq_false, Bool.false_eq_true, ob_0, ob_3, ob_4, ob_424, r_0_1, r_3_0, r_0_13, c_isOpen hW h, co, bz_t, i01, lk, b0, b1, b2, b3, b4, b5, b6, kn, k6, t, n1, n2, n3, n4, n5, n6, sw0_6]
    · skip
      by_cases c1 : v = 1
      · have t := eq_true c1
        have n0 := vne (b := 0) c1 (by decide)
        have n2 := vne (b := 2) c1 (by decide)
        have n3 := vne (b := 3) c1 (by decide)
        have n4 := vne (b := 4) c1 (by decide)
        have n5 := vne (b := 5) c1 (by decide)
        have n6 := vne (b := 6) c1 (by decide)
        simp (disch := (first | assumption | omega | decide)) only [sX10_all_0, sX10_all_1, sX10_all_4, sX10_all_7, sX10_all_8, sX10_all_9, sX10_all_10, sX10_all_13, sX10_all_14, sX10_all_17, sX10_all_20, sX10_all_23, sX10_all_24, sX10_all_68, sX10_all_69, sX10_all_72, sX10_all_75, sX10_all_76, sX10_all_77, sX10_all_80, sX10_all_83, sX10_all_84, sX10_all_85, sX10_all_88, sX10_all_91, sX10_all_92, sX10_all_93, sX10_all_96, sX10_all_99, sX10_all_102, sX10_all_103, sX10_all_104, sX10_all_107, sX10_all_110, sX10_all_113, sX10_all_114, sX10_all_115, sX10_all_118, sX10_all_121, sX10_all_124, sX10_all_125, sX10_all_126, sX10_all_129, sX10_all_130, sX10_all_133, sX10_all_136, sX10_all_139, sX10_all_140, sX10_all_141, kI_i, kL_l, kV_v, am_rv_s, am_kl_i, am_kl_r, am_kl_n, am_kl_l, true_and, and_true, and_self, true_or, or_true, implies_true, forall_const, not_true_eq_false, not_false_eq_true, false_implies, true_implies, if_true, if_false, Bool.true_eq_false, Bool.false_eq_true, ob_0, ob_3, ob_4, ob_424, r_0_1, r_3_0, r_0_13, c_isOpen hW h, co, bz_t, i01, lk, b0, b1, b2, b3, b4, b5, b6, kn, k6, t, n0, n2, n3, n4, n5, n6, sw0_6]
      · skip
        by_cases c2 : v = 2
        · have t := eq_true c2
          have n0 := vne (b := 0) c2 (by decide)
          have n1 := vne (b := 1) c2 (by decide)
          have n3 := vne (b := 3) c2 (by decide)
          have n4 := vne (b := 4) c2 (by decide)
          have n5 := vne (b := 5) c2 (by decide)
          have n6 := vne (b := 6) c2 (by decide)
          simp (disch := (first | assumption | omega | decide)) only [sX10_all_0, sX10_all_1, sX10_all_4, sX10_all_7, sX10_all_8, sX10_all_9, sX10_all_10, sX10_all_13, sX10_all_14, sX10_all_17, sX10_all_20, sX10_all_23, sX10_all_24, sX10_all_68, sX10_all_69, sX10_all_72, sX10_all_75, sX10_all_76, sX10_all_77, sX10_all_80, sX10_all_83, sX10_all_84, sX10_all_85, sX10_all_88, sX10_all_91, sX10_all_92, sX10_all_93, sX10_all_96, sX10_all_99, sX10_all_102, sX10_all_103, sX10_all_104, sX10_all_107, sX10_all_110, sX10_all_113, sX10_all_114, sX10_all_115, sX10_all_118, sX10_all_121, sX10_all_124, sX10_all_125, sX10_all_126, sX10_all_129, sX10_all_130, sX10_all_133, sX10_all_136, sX10_all_139, sX10_all_140, sX10_all_141, kI_i, kL_l, kV_v, am_rv_s, am_kl_i, am_kl_r, am_kl_n, am_kl_l, true_and, and_true, and_self, true_or, or_true, implies_true, forall_const, not_true_eq_false, not_false_eq_true, false_implies, true_implies, if_true, if_false, Bool.true_eq_false, Bool.false_eq_true, ob_0, ob_3, ob_4, ob_424, r_0_1, r_3_0, r_0_13, c_isOpen hW h, co, bz_t, i01, lk, b0, b1, b2, b3, b4, b5, b6, kn, k6, t, n0, n1, n3, n4, n5, n6, sw0_6]
        · skip
          by_cases c3 : v = 3
          · have t := eq_true c3
            have n0 := vne (b := 0) c3 (by decide)
            have n1 := vne (b := 1) c3 (by decide)
            have n2 := vne (b := 2) c3 (by decide)
            have n4 := vne (b := 4) c3 (by decide)
            have n5 := vne (b := 5) c3 (by decide)
            have n6 := vne (b := 6) c3 (by decide)
            simp (disch := (first | assumption | omega | decide)) only [sX10_all_0, sX10_all_1, sX10_all_4, sX10_all_7, sX10_all_8, sX10_all_9, sX10_all_10, sX10_all_13, sX10_all_14, sX10_all_17, sX10_all_20, sX10_all_23, sX10_all_24, sX10_all_68, sX10_all_69, sX10_all_72, sX10_all_75, sX10_all_76, sX10_all_77, sX10_all_80, sX10_all_83, sX10_all_84, sX10_all_85, sX10_all_88, sX10_all_91, sX10_all_92, sX10_all_93, sX10_all_96, sX10_all_99, sX10_all_102, sX10_all_103, sX10_all_104, sX10_all_107, sX10_all_110, sX10_all_113, sX10_all_114, sX10_all_115, sX10_all_118, sX10_all_121, sX10_all_124, sX10_all_125, sX10_all_126, sX10_all_129, sX10_all_130, sX10_all_133, sX10_all_136, sX10_all_139, sX10_all_140, sX10_all_141, kI_i, kL_l, kV_v, am_rv_s, am_kl_i, am_kl_r, am_kl_n, am_kl_l, true_and, and_true, and_self, true_or, or_true, implies_true, forall_const, not_true_eq_false, not_false_eq_true, false_implies, true_implies, if_true, if_false, Bool.true_eq_false, Bool.false_eq_true, ob_0, ob_3, ob_4, ob_424, r_0_1, r_3_0, r_0_13, c_isOpen hW h, co, bz_t, i01, lk, b0, b1, b2, b3, b4, b5, b6, kn, k6, t, n0, n1, n2, n4, n5, n6, sw0_6]
          · skip
            by_cases c4 : v = 4
            · have t := eq_true c4
              have n0 := vne (b := 0) c4 (by decide)
              have n1 := vne (b := 1) c4 (by decide)
              have n2 := vne (b := 2) c4 (by decide)
              have n3 := vne (b := 3) c4 (by decide)
              have n5 := vne (b := 5) c4 (by decide)
              have n6 := vne (b := 6) c4 (by decide)
              simp (disch := (first | assumption | omega | decide)) only [sX10_all_0, sX10_all_1, sX10_all_4, sX10_all_7, sX10_all_8, sX10_all_9, sX10_all_10, sX10_all_13, sX10_all_14, sX10_all_17, sX10_all_20, sX10_all_23, sX10_all_24, sX10_all_68, sX10_all_69, sX10_all_72, sX10_all_75, sX10_all_76, sX10_all_77, sX10_all_80, sX10_all_83, sX10_all_84, sX10_all_85, sX10_all_88, sX10_all_91, sX10_all_92, sX10_all_93, sX10_all_96, sX10_all_99, sX10_all_102, sX10_all_103, sX10_all_104, sX10_all_107, sX10_all_110, sX10_all_113, sX10_all_114, sX10_all_115, sX10_all_118, sX10_all_121, sX10_all_124, sX10_all_125, sX10_all_126, sX10_all_129, sX10_all_130, sX10_all_133, sX10_all_136, sX10_all_139, sX10_all_140, sX10_all_141, kI_i, kL_l, kV_v, am_rv_s, am_kl_i, am_kl_r, am_kl_n, am_kl_l, true_and, and_true, and_self, true_or, or_true, implies_true, forall_const, not_true_eq_false, not_false_eq_true, false_implies, true_implies, if_true, if_false, Bool.true_eq_false, Bool.false_eq_true, ob_0, ob_3, ob_4, ob_424, r_0_1, r_3_0, r_0_13, c_isOpen hW h, co, bz_t, i01, lk, b0, b1, b2, b3, b4, b5, b6, kn, k6, t, n0, n1, n2, n3, n5, n6, sw0_6]
            · skip
              by_cases c5 : v = 5
              · have t := eq_true c5
                have n0 := vne (b := 0) c5 (by decide)
                have n1 := vne (b := 1) c5 (by decide)
                have n2 := vne (b := 2) c5 (by decide)
                have n3 := vne (b := 3) c5 (by decide)
                have n4 := vne (b := 4) c5 (by decide)
                have n6 := vne (b := 6) c5 (by decide)
                simp (disch := (first | assumption | omega | decide)) only [sX10_all_0, sX10_all_1, sX10_all_4, sX10_all_7, sX10_all_8, sX10_all_9, sX10_all_10, sX10_all_13, sX10_all_14, sX10_all_17, sX10_all_20, sX10_all_23, sX10_all_24, sX10_all_68, sX10_all_69, sX10_all_72, sX10_all_75, sX10_all_76, sX10_all_77, sX10_all_80, sX10_all_83, sX10_all_84, sX10_all_85, sX10_all_88, sX10_all_91, sX10_all_92, sX10_all_93, sX10_all_96, sX10_all_99, sX10_all_102, sX10_all_103, sX10_all_104, sX10_all_107, sX10_all_110, sX10_all_113, sX10_all_114, sX10_all_115, sX10_all_118, sX10_all_121, sX10_all_124, sX10_all_125, sX10_all_126, sX10_all_129, sX10_all_130, sX10_all_133, sX10_all_136, sX10_all_139, sX10_all_140, sX10_all_141, kI_i, kL_l, kV_v, am_rv_s, am_kl_i, am_kl_r, am_kl_n, am_kl_l, true_and, and_true, and_self, true_or, or_true, implies_true, forall_const, not_true_eq_false, not_false_eq_true, false_implies, true_implies, if_true, if_false, Bool.true_eq_false, Bool.false_eq_true, ob_0, ob_3, ob_4, ob_424, r_0_1, r_3_0, r_0_13, c_isOpen hW h, co, bz_t, i01, lk, b0, b1, b2, b3, b4, b5, b6, kn, k6, t, n0, n1, n2, n3, n4, n6, sw0_6]
              · skip
                by_cases c6 : v = 6
                · have t := eq_true c6
                  have n0 := vne (b := 0) c6 (by decide)
                  have n1 := vne (b := 1) c6 (by decide)
                  have n2 := vne (b := 2) c6 (by decide)
                  have n3 := vne (b := 3) c6 (by decide)
                  have n4 := vne (b := 4) c6 (by decide)
                  have n5 := vne (b := 5) c6 (by decide)
                  simp (disch := (first | assumption | omega | decide)) only [sX10_all_0, sX10_all_1, sX10_all_4, sX10_all_7, sX10_all_8, sX10_all_9, sX10_all_10, sX10_all_13, sX10_all_14, sX10_all_17, sX10_all_20, sX10_all_23, sX10_all_24, sX10_all_68, sX10_all_69, sX10_all_72, sX10_all_75, sX10_all_76, sX10_all_77, sX10_all_80, sX10_all_83, sX10_all_84, sX10_all_85, sX10_all_88, sX10_all_91, sX10_all_92, sX10_all_93, sX10_all_96, sX10_all_99, sX10_all_102, sX10_all_103, sX10_all_104, sX10_all_107, sX10_all_110, sX10_all_113, sX10_all_114, sX10_all_115, sX10_all_118, sX10_all_121, sX10_all_124, sX10_all_125, sX10_all_126, sX10_all_129, sX10_all_130, sX10_all_133, sX10_all_136, sX10_all_139, sX10_all_140, sX10_all_141, kI_i, kL_l, kV_v, am_rv_s, am_kl_i, am_kl_r, am_kl_n, am_kl_l, true_and, and_true, and_self, true_or, or_true, implies_true, forall_const, not_true_eq_false, not_false_eq_true, false_implies, true_implies, if_true, if_false, Bool.true_eq_false, Bool.false_eq_true, ob_0, ob_3, ob_4, ob_424, r_0_1, r_3_0, r_0_13, c_isOpen hW h, co, bz_t, i01, lk, b0, b1, b2, b3, b4, b5, b6, kn, k6, t, n0, n1, n2, n3, n4, n5, sw0_6]
                · skip
                  simp (disch := (first | assumption | omega | decide)) only [sX10_all_0, sX10_all_1, sX10_all_4, sX10_all_7, sX10_all_8, sX10_all_9, sX10_all_10, sX10_all_13, sX10_all_14, sX10_all_17, sX10_all_20, sX10_all_23, sX10_all_24, sX10_all_68, sX10_all_69, sX10_all_72, sX10_all_75, sX10_all_76, sX10_all_77, sX10_all_80, sX10_all_83, sX10_all_84, sX10_all_85, sX10_all_88, sX10_all_91, sX10_all_92, sX10_all_93, sX10_all_96, sX10_all_99, sX10_all_102, sX10_all_103, sX10_all_104, sX10_all_107, sX10_all_110, sX10_all_113, sX10_all_114, sX10_all_115, sX10_all_118, sX10_all_121, sX10_all_124, sX10_all_125, sX10_all_126, sX10_all_129, sX10_all_130, sX10_all_133, sX10_all_136, sX10_all_139, sX10_all_140, sX10_all_141, kI_i, kL_l, kV_v, am_rv_s, am_kl_i, am_kl_r, am_kl_n, am_kl_l, true_and, and_true, and_self, true_or, or_true, implies_true, forall_const, not_true_eq_false, not_false_eq_true, false_implies, true_implies, if_true, if_false, Bool.true_eq_false, Bool.false_eq_true, ob_0, ob_3, ob_4, ob_424, r_0_1, r_3_0, r_0_13, c_isOpen hW h, co, bz_t, i01, lk, b0, b1, b2, b3, b4, b5, b6, kn, k6, c0, c1, c2, c3, c4, c5, c6, sw0_6]
theorem m_all {v : Int32} (h : RS M ap lim S P) : ∃ M', (∀ d (Q : am_Q), am_big (d + 4) mX11_all [.ref 457, .int v] 488 M Q = Q (some (.int (allA ap S v))) M') ∧ Fw XMN M M' := by
  have f0 : Fw XMN M (sI M 457 0 0) := Fw_thr.mo (fun c j z => Or.inl z)
  obtain ⟨hW, hS, hP, hf, hm, hw, hlim, ht⟩ := RS_th h
  generalize hM0 : sI M 457 0 0 = M0 at *
  have hap := hS.2.2.2.2.1.2.2
  have f1 : Fw XMN M (nd3 M0 S.1) := f0.tr (Fw_nd.mo (fun c j z => Or.inr z))
  have f2 : Fw XMN M (stL M0 S.1 S.1.length) := f0.tr (Fw_stL.mo (fun c j z => Or.inl (XS_XMr c j z)))
  have g41 : gI M0 465 41 = nI S.2.2.1 := by have := hS.2.2.2.2.1.1; rwa [Nat.zero_add] at this
  have ez : (nI ap = 0) = (opn ap = false) := by
    rw [show (0 : Int32) = nI 0 from rfl, nI_eqE (by omega) (by omega)]; unfold opn; simp
  unfold allA
  cases co : opn ap with
  | false =>
    refine ⟨M0, fun d Q => ?_, f0⟩
    rw [eX11_all]
    simp (disch := (first | assumption | omega | decide)) only [sX11_all_0, sX11_all_1, sX11_all_2, sX11_all_5, sX11_all_6, sX11_all_9, sX11_all_12, sX11_all_13, sX11_all_14, sX11_all_15, sX11_all_56, sX11_all_57, sX11_all_58, sX11_all_61, sX11_all_62, sX11_all_63, sX11_all_66, sX11_all_67, sX11_all_68, sX11_all_69, sX11_all_72, sX11_all_73, sX11_all_74, sX11_all_75, sX11_all_78, sX11_all_79, sX11_all_80, sX11_all_81, sX11_all_84, sX11_all_86, sX11_all_87, sX11_all_90, sX11_all_91, sX11_all_92, kI_i, kL_l, kV_v, am_rv_s, am_kl_i, am_kl_r, am_kl_n, am_kl_l, true_and, and_true, and_self, true_or, or_true, implies_true, forall_const, not_true_eq_false, not_false_eq_true, false_implies, true_implies, if_true, if_false, Bool.true_eq_false, Bool.false_eq_true, ob_457, hM0, hf, ez, co, Bool.false_eq_true]
  | true =>
    have b0 : ∀ d (Q : am_Q), am_big (d + 3) mX11_ends0 [.ref 457, .int 0] 488 M0 Q = _ := fun d Q => m_ends0 (v := 0) (by omega) hW hS.p hw
    have b1 : ∀ d (Q : am_Q), am_big (d + 3) mX11_ends0 [.ref 457, .int 1] 488 M0 Q = _ := fun d Q => m_ends0 (v := 1) (by omega) hW hS.p hw
    have b2 : ∀ d (Q : am_Q), am_big (d + 3) mX11_ends0 [.ref 457, .int 2] 488 M0 Q = _ := fun d Q => m_ends0 (v := 2) (by omega) hW hS.p hw
    have b3 := fun d (Q : am_Q) => m_high (d := d) (Q := Q) hW hS.p hw
    have b4 : ∀ d (Q : am_Q), am_big (d + 2) mX11_partsOf [.ref 457, .int 1] 488 M0 Q = _ := fun d Q => m_partsOf (b := true) hW hS.p hw
    have b5 : ∀ d (Q : am_Q), am_big (d + 2) mX11_partsOf [.ref 457, .int 0] 488 M0 Q = _ := fun d Q => m_partsOf (b := false) hW hS.p hw
    have b6 := fun d (Q : am_Q) x => m_knownBy (d := d) (Q := Q) (x := x) (f := S.2.1) hW hf (fun i hi => by have := hS.2.2.2.1 i hi; rwa [Nat.zero_add] at this) hap
    rw [if_pos rfl]
    by_cases c0 : v = 0
    · subst c0
      have t : ((0 : Int32) = 0) = True := eq_true rfl
      have n1 : ((0 : Int32) = 1) = False := eq_false (by decide)
      have n2 : ((0 : Int32) = 2) = False := eq_false (by decide)
      have n3 : ((0 : Int32) = 3) = False := eq_false (by decide)
      have n4 : ((0 : Int32) = 4) = False := eq_false (by decide)
      have n5 : ((0 : Int32) = 5) = False := eq_false (by decide)
      have n6 : ((0 : Int32) = 6) = False := eq_false (by decide)
      refine ⟨nd3 M0 S.1, fun d Q => ?_, f1⟩
      rw [eX11_all]
      simp (disch := (first | assumption | omega | decide)) only [sX11_all_0, sX11_all_1, sX11_all_2, sX11_all_5, sX11_all_6, sX11_all_9, sX11_all_12, sX11_all_13, sX11_all_14, sX11_all_15, sX11_all_56, sX11_all_57, sX11_all_58, sX11_all_61, sX11_all_62, sX11_all_63, sX11_all_66, sX11_all_67, sX11_all_68, sX11_all_69, sX11_all_72, sX11_all_73, sX11_all_74, sX11_all_75, sX11_all_78, sX11_all_79, sX11_all_80, sX11_all_81, sX11_all_84, sX11_all_86, sX11_all_87, sX11_all_90, sX11_all_91, sX11_all_92, kI_i, kL_l, kV_v, am_rv_s, am_kl_i, am_kl_r, am_kl_n, am_kl_l, true_and, and_true, and_self, true_or, or_true, implies_true, forall_const, not_true_eq_false, not_false_eq_true, false_implies, true_implies, if_true, if_false, Bool.true_eq_false, Bool.false_eq_true, ob_457, hM0, hf, ez, co, r_457_27, n41, in_465, nI_clamp, g41, b3, b4, b5, b6, Bool.true_eq_false, t, n1, n2, n3, n4, n5, n6, sw0_6, b0]
    · skip
      by_cases c1 : v = 1
      · subst c1
        have t : ((1 : Int32) = 1) = True := eq_true rfl
        have n0 : ((1 : Int32) = 0) = False := eq_false (by decide)
        have n2 : ((1 : Int32) = 2) = False := eq_false (by decide)
        have n3 : ((1 : Int32) = 3) = False := eq_false (by decide)
        have n4 : ((1 : Int32) = 4) = False := eq_false (by decide)
        have n5 : ((1 : Int32) = 5) = False := eq_false (by decide)
        have n6 : ((1 : Int32) = 6) = False := eq_false (by decide)
        refine ⟨nd3 M0 S.1, fun d Q => ?_, f1⟩
        rw [eX11_all]
        simp (disch := (first | assumption | omega | decide)) only [sX11_all_0, sX11_all_1, sX11_all_2, sX11_all_5, sX11_all_6, sX11_all_9, sX11_all_12, sX11_all_13, sX11_all_14, sX11_all_15, sX11_all_56, sX11_all_57, sX11_all_58, sX11_all_61, sX11_all_62, sX11_all_63, sX11_all_66, sX11_all_67, sX11_all_68, sX11_all_69, sX11_all_72, sX11_all_73, sX11_all_74, sX11_all_75, sX11_all_78, sX11_all_79, sX11_all_80, sX11_all_81, sX11_all_84, sX11_all_86, sX11_all_87, sX11_all_90, sX11_all_91, sX11_all_92, kI_i, kL_l, kV_v, am_rv_s, am_kl_i, am_kl_r, am_kl_n, am_kl_l, true_and, and_true, and_self, true_or, or_true, implies_true, forall_const, not_true_eq_false, not_false_eq_true, false_implies, true_implies, if_true, if_false, Bool.true_eq_false, Bool.false_eq_true, ob_457, hM0, hf, ez, co, r_457_27, n41, in_465, nI_clamp, g41, b3, b4, b5, b6, Bool.true_eq_false, t, n0, n2, n3, n4, n5, n6, sw0_6, b1]
      · skip
        by_cases c2 : v = 2
        · subst c2
          have t : ((2 : Int32) = 2) = True := eq_true rfl
          have n0 : ((2 : Int32) = 0) = False := eq_false (by decide)
          have n1 : ((2 : Int32) = 1) = False := eq_false (by decide)
          have n3 : ((2 : Int32) = 3) = False := eq_false (by decide)
          have n4 : ((2 : Int32) = 4) = False := eq_false (by decide)
          have n5 : ((2 : Int32) = 5) = False := eq_false (by decide)
          have n6 : ((2 : Int32) = 6) = False := eq_false (by decide)
          refine ⟨nd3 M0 S.1, fun d Q => ?_, f1⟩
          rw [eX11_all]
          simp (disch := (first | assumption | omega | decide)) only [sX11_all_0, sX11_all_1, sX11_all_2, sX11_all_5, sX11_all_6, sX11_all_9, sX11_all_12, sX11_all_13, sX11_all_14, sX11_all_15, sX11_all_56, sX11_all_57, sX11_all_58, sX11_all_61, sX11_all_62, sX11_all_63, sX11_all_66, sX11_all_67, sX11_all_68, sX11_all_69, sX11_all_72, sX11_all_73, sX11_all_74, sX11_all_75, sX11_all_78, sX11_all_79, sX11_all_80, sX11_all_81, sX11_all_84, sX11_all_86, sX11_all_87, sX11_all_90, sX11_all_91, sX11_all_92, kI_i, kL_l, kV_v, am_rv_s, am_kl_i, am_kl_r, am_kl_n, am_kl_l, true_and, and_true, and_self, true_or, or_true, implies_true, forall_const, not_true_eq_false, not_false_eq_true, false_implies, true_implies, if_true, if_false, Bool.true_eq_false, Bool.false_eq_true, ob_457, hM0, hf, ez, co, r_457_27, n41, in_465, nI_clamp, g41, b3, b4, b5, b6, Bool.true_eq_false, t, n0, n1, n3, n4, n5, n6, sw0_6, b2]
        · skip
          by_cases c3 : v = 3
          · subst c3
            have t : ((3 : Int32) = 3) = True := eq_true rfl
            have n0 : ((3 : Int32) = 0) = False := eq_false (by decide)
            have n1 : ((3 : Int32) = 1) = False := eq_false (by decide)
            have n2 : ((3 : Int32) = 2) = False := eq_false (by decide)
            have n4 : ((3 : Int32) = 4) = False := eq_false (by decide)
            have n5 : ((3 : Int32) = 5) = False := eq_false (by decide)
            have n6 : ((3 : Int32) = 6) = False := eq_false (by decide)
            refine ⟨stL M0 S.1 S.1.length, fun d Q => ?_, f2⟩
            rw [eX11_all]
            simp (disch := (first | assumption | omega | decide)) only [sX11_all_0, sX11_all_1, sX11_all_2, sX11_all_5, sX11_all_6, sX11_all_9, sX11_all_12, sX11_all_13, sX11_all_14, sX11_all_15, sX11_all_56, sX11_all_57, sX11_all_58, sX11_all_61, sX11_all_62, sX11_all_63, sX11_all_66, sX11_all_67, sX11_all_68, sX11_all_69, sX11_all_72, sX11_all_73, sX11_all_74, sX11_all_75, sX11_all_78, sX11_all_79, sX11_all_80, sX11_all_81, sX11_all_84, sX11_all_86, sX11_all_87, sX11_all_90, sX11_all_91, sX11_all_92, kI_i, kL_l, kV_v, am_rv_s, am_kl_i, am_kl_r, am_kl_n, am_kl_l, true_and, and_true, and_self, true_or, or_true, implies_true, forall_const, not_true_eq_false, not_false_eq_true, false_implies, true_implies, if_true, if_false, Bool.true_eq_false, Bool.false_eq_true, ob_457, hM0, hf, ez, co, r_457_27, n41, in_465, nI_clamp, g41, b3, b4, b5, b6, Bool.true_eq_false, t, n0, n1, n2, n4, n5, n6, sw0_6]
          · skip
            by_cases c4 : v = 4
            · subst c4
              have t : ((4 : Int32) = 4) = True := eq_true rfl
              have n0 : ((4 : Int32) = 0) = False := eq_false (by decide)
              have n1 : ((4 : Int32) = 1) = False := eq_false (by decide)
              have n2 : ((4 : Int32) = 2) = False := eq_false (by decide)
              have n3 : ((4 : Int32) = 3) = False := eq_false (by decide)
              have n5 : ((4 : Int32) = 5) = False := eq_false (by decide)
              have n6 : ((4 : Int32) = 6) = False := eq_false (by decide)
              refine ⟨stL M0 S.1 S.1.length, fun d Q => ?_, f2⟩
              rw [eX11_all]
              simp (disch := (first | assumption | omega | decide)) only [sX11_all_0, sX11_all_1, sX11_all_2, sX11_all_5, sX11_all_6, sX11_all_9, sX11_all_12, sX11_all_13, sX11_all_14, sX11_all_15, sX11_all_56, sX11_all_57, sX11_all_58, sX11_all_61, sX11_all_62, sX11_all_63, sX11_all_66, sX11_all_67, sX11_all_68, sX11_all_69, sX11_all_72, sX11_all_73, sX11_all_74, sX11_all_75, sX11_all_78, sX11_all_79, sX11_all_80, sX11_all_81, sX11_all_84, sX11_all_86, sX11_all_87, sX11_all_90, sX11_all_91, sX11_all_92, kI_i, kL_l, kV_v, am_rv_s, am_kl_i, am_kl_r, am_kl_n, am_kl_l, true_and, and_true, and_self, true_or, or_true, implies_true, forall_const, not_true_eq_false, not_false_eq_true, false_implies, true_implies, if_true, if_false, Bool.true_eq_false, Bool.false_eq_true, ob_457, hM0, hf, ez, co, r_457_27, n41, in_465, nI_clamp, g41, b3, b4, b5, b6, Bool.true_eq_false, t, n0, n1, n2, n3, n5, n6, sw0_6]
            · skip
              by_cases c5 : v = 5
              · subst c5
                have t : ((5 : Int32) = 5) = True := eq_true rfl
                have n0 : ((5 : Int32) = 0) = False := eq_false (by decide)
                have n1 : ((5 : Int32) = 1) = False := eq_false (by decide)
                have n2 : ((5 : Int32) = 2) = False := eq_false (by decide)
                have n3 : ((5 : Int32) = 3) = False := eq_false (by decide)
                have n4 : ((5 : Int32) = 4) = False := eq_false (by decide)
                have n6 : ((5 : Int32) = 6) = False := eq_false (by decide)
                refine ⟨stL M0 S.1 S.1.length, fun d Q => ?_, f2⟩
                rw [eX11_all]
                simp (disch := (first | assumption | omega | decide)) only [sX11_all_0, sX11_all_1, sX11_all_2, sX11_all_5, sX11_all_6, sX11_all_9, sX11_all_12, sX11_all_13, sX11_all_14, sX11_all_15, sX11_all_56, sX11_all_57, sX11_all_58, sX11_all_61, sX11_all_62, sX11_all_63, sX11_all_66, sX11_all_67, sX11_all_68, sX11_all_69, sX11_all_72, sX11_all_73, sX11_all_74, sX11_all_75, sX11_all_78, sX11_all_79, sX11_all_80, sX11_all_81, sX11_all_84, sX11_all_86, sX11_all_87, sX11_all_90, sX11_all_91, sX11_all_92, kI_i, kL_l, kV_v, am_rv_s, am_kl_i, am_kl_r, am_kl_n, am_kl_l, true_and, and_true, and_self, true_or, or_true, implies_true, forall_const, not_true_eq_false, not_false_eq_true, false_implies, true_implies, if_true, if_false, Bool.true_eq_false, Bool.false_eq_true, ob_457, hM0, hf, ez, co, r_457_27, n41, in_465, nI_clamp, g41, b3, b4, b5, b6, Bool.true_eq_false, t, n0, n1, n2, n3, n4, n6, sw0_6]
              · skip
                by_cases c6 : v = 6
                · subst c6
                  have t : ((6 : Int32) = 6) = True := eq_true rfl
                  have n0 : ((6 : Int32) = 0) = False := eq_false (by decide)
                  have n1 : ((6 : Int32) = 1) = False := eq_false (by decide)
                  have n2 : ((6 : Int32) = 2) = False := eq_false (by decide)
                  have n3 : ((6 : Int32) = 3) = False := eq_false (by decide)
                  have n4 : ((6 : Int32) = 4) = False := eq_false (by decide)
                  have n5 : ((6 : Int32) = 5) = False := eq_false (by decide)
                  refine ⟨M0, fun d Q => ?_, f0⟩
                  rw [eX11_all]
                  simp (disch := (first | assumption | omega | decide)) only [sX11_all_0, sX11_all_1, sX11_all_2, sX11_all_5, sX11_all_6, sX11_all_9, sX11_all_12, sX11_all_13, sX11_all_14, sX11_all_15, sX11_all_56, sX11_all_57, sX11_all_58, sX11_all_61, sX11_all_62, sX11_all_63, sX11_all_66, sX11_all_67, sX11_all_68, sX11_all_69, sX11_all_72, sX11_all_73, sX11_all_74, sX11_all_75, sX11_all_78, sX11_all_79, sX11_all_80, sX11_all_81, sX11_all_84, sX11_all_86, sX11_all_87, sX11_all_90, sX11_all_91, sX11_all_92, kI_i, kL_l, kV_v, am_rv_s, am_kl_i, am_kl_r, am_kl_n, am_kl_l, true_and, and_true, and_self, true_or, or_true, implies_true, forall_const, not_true_eq_false, not_false_eq_true, false_implies, true_implies, if_true, if_false, Bool.true_eq_false, Bool.false_eq_true, ob_457, hM0, hf, ez, co, r_457_27, n41, in_465, nI_clamp, g41, b3, b4, b5, b6, Bool.true_eq_false, t, n0, n1, n2, n3, n4, n5, sw0_6]
                · skip
                  refine ⟨M0, fun d Q => ?_, f0⟩
                  rw [eX11_all]
                  simp (disch := (first | assumption | omega | decide)) only [sX11_all_0, sX11_all_1, sX11_all_2, sX11_all_5, sX11_all_6, sX11_all_9, sX11_all_12, sX11_all_13, sX11_all_14, sX11_all_15, sX11_all_56, sX11_all_57, sX11_all_58, sX11_all_61, sX11_all_62, sX11_all_63, sX11_all_66, sX11_all_67, sX11_all_68, sX11_all_69, sX11_all_72, sX11_all_73, sX11_all_74, sX11_all_75, sX11_all_78, sX11_all_79, sX11_all_80, sX11_all_81, sX11_all_84, sX11_all_86, sX11_all_87, sX11_all_90, sX11_all_91, sX11_all_92, kI_i, kL_l, kV_v, am_rv_s, am_kl_i, am_kl_r, am_kl_n, am_kl_l, true_and, and_true, and_self, true_or, or_true, implies_true, forall_const, not_true_eq_false, not_false_eq_true, false_implies, true_implies, if_true, if_false, Bool.true_eq_false, Bool.false_eq_true, ob_457, hM0, hf, ez, co, r_457_27, n41, in_465, nI_clamp, g41, b3, b4, b5, b6, Bool.true_eq_false, c0, c1, c2, c3, c4, c5, c6, sw0_6]
end
