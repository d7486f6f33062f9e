/-- a part is coated three times at most -/
def T3 (l : List Dd) : Prop := ∀ q, tmL l 2 q ≤ 3
theorem tms_erase {l : List Dd} {e : Nat} (he : e < l.length) (so q : Int32) : tmL (l.eraseIdx e) so q ≤ tmL l so q := by
  have hlen : (l.eraseIdx e).length = l.length - 1 := by rw [List.length_eraseIdx, if_pos he]
  have key : ∀ n, n ≤ l.length - 1 → tms (sf (l.eraseIdx e)) (pf (l.eraseIdx e)) so q n ≤ tms (sf l) (pf l) so q (if n ≤ e then n else n + 1) := by
    intro n
    induction n with
    | zero => intro _; simp [tms]
    | succ n ih =>
      intro hn
      have ih := ih (by omega)
      obtain ⟨k', a1, a2, a3, a4, a5⟩ := sf_erase (e := e) he (k := n) (by omega)
      rw [tms_s, a3, a4]
      by_cases c : n < e
      · rw [if_pos c] at a2
        have z1 : (if n ≤ e then n else n + 1) = n := if_pos (by omega)
        have z2 : (if n + 1 ≤ e then n + 1 else n + 1 + 1) = n + 1 := if_pos (by omega)
        rw [z1] at ih
        rw [z2, tms_s, a2]
        omega
      · rw [if_neg c] at a2
        have z2 : (if n + 1 ≤ e then n + 1 else n + 1 + 1) = n + 1 + 1 := if_neg (by omega)
        rw [z2, tms_s (n := n + 1), a2]
        have : tms (sf l) (pf l) so q (if n ≤ e then n else n + 1) ≤ tms (sf l) (pf l) so q (n + 1) := by
          by_cases c2 : n ≤ e
          · rw [if_pos c2, tms_s]; omega
          · rw [if_neg c2]; omega
        omega
  unfold tmL
  rw [hlen]
  refine Nat.le_trans (key (l.length - 1) (by omega)) ?_
  by_cases c : l.length - 1 ≤ e
  · rw [if_pos c]
    have : l.length = l.length - 1 + 1 := by omega
    rw [this, tms_s]
    simp
  · rw [if_neg c, show l.length - 1 + 1 = l.length by omega]
    exact Nat.le_refl _
theorem T3_erase {l : List Dd} {e : Nat} (he : e < l.length) (h : T3 l) : T3 (l.eraseIdx e) := fun q => Nat.le_trans (tms_erase he 2 q) (h q)
theorem T3_nil : T3 [] := fun q => by unfold tmL tms; exact Nat.zero_le _
theorem tmL_app {l : List Dd} {t : Dd} {so q : Int32} : tmL (l ++ [t]) so q = tmL l so q + (if t.1 = so ∧ t.2.1 = q then 1 else 0) := by
  unfold tmL
  rw [List.length_append, List.length_singleton, tms_s, (sf_last (l := l) (t := t)).1, (sf_last (l := l) (t := t)).2.1]
  congr 1
  exact tms_congr (fun k hk => ⟨(sf_app hk).1, (sf_app hk).2.1⟩)
theorem T3_add {l : List Dd} {so pa x y : Int32} (h : T3 l) (hc : cbL l so pa x = true) : T3 (l ++ [(so, pa, y)]) := by
  intro q
  rw [tmL_app]
  by_cases c : so = 2 ∧ pa = q
  · rw [if_pos c]
    obtain ⟨c1, c2⟩ := c
    subst c1; subst c2
    unfold cbL at hc
    simp at hc
    omega
  · rw [if_neg c]
    exact h q
theorem cnm_B {l : List Dd} (hw : WFl l) (q : Int32) : ∀ n, n ≤ l.length → ∃ c, cnm (sf l) (pf l) (xf l) q n = nI c ∧ c < 10 ^ tms (sf l) (pf l) 2 q n ∧ lx (sf l) (pf l) (xf l) 2 q n 0 = nI (c % 10)
  | 0, _ => ⟨0, rfl, by simp [tms], rfl⟩
  | n + 1, hn => by
    obtain ⟨c, e1, e2, e3⟩ := cnm_B hw q n (by omega)
    rw [cnm_s, tms_s, lx_s]
    by_cases z : sf l n = 2 ∧ pf l n = q
    · obtain ⟨s, p, x, f1, f2, f3, b1, b2, b3, b4⟩ := WF_at hw (k := n) (by omega)
      rw [if_pos z, if_pos z, if_pos z, f3, e1, show (10 : Int32) = nI 10 from rfl, pk_mul, nI_add]
      refine ⟨c * 10 + x, rfl, ?_, by congr 1; omega⟩
      rw [Nat.pow_succ]
      omega
    · rw [if_neg z, if_neg z, if_neg z]
      exact ⟨c, e1, e2, e3⟩
section
variable {M N : am_M} {ap lim n : Nat} {S : Sg} {P : List Sg} {l : List Dd} {d : Nat} {Q : am_Q}
theorem cd_lc (hw : WFl l) (h3 : T3 l) (q : Nat) : cdF l l.length q - cdF l l.length q / 10 * 10 = lcL l (nI q) := by
  obtain ⟨c, e1, e2, e3⟩ := cnm_B hw (nI q) l.length (Nat.le_refl _)
  have h := h3 (nI q)
  unfold tmL at h
  have hc : c < 1000 := Nat.lt_of_lt_of_le e2 (Nat.le_trans (Nat.pow_le_pow_right (by omega) h) (by omega))
  unfold cdF lcL
  rw [e1, e3, show (10 : Int32) = nI 10 from rfl]
  exact pk_rem (by omega) (by omega) (by omega)
theorem kd_x {k : Nat} {q : Int32} (h : lst (sf l) (pf l) 0 q l.length = some k) : kdL l q = xf l k := by unfold kdL lx; rw [h]
theorem c_shape {y v : Int32} (hW : WR M) (h : StC M 3 ap lim S) : am_big (d + 3) mX10_shape [.ref 0, .int y, .int v] 488 M Q = Q (some (.int (shapeA S.1 y v))) M := by
  have hL := StC_LH h
  have hl := hL.1.2.2
  have lo : ∀ d (Q : am_Q) so, am_big (d + 1) mX0_lastOf [.ref 4, .int so, .int y] 488 M Q = Q (some (.int (oi (lst (sf S.1) (pf S.1) so y S.1.length)))) M := fun d Q so => by rw [c_lastOf hL.1, lst_congr (LH_s hL)]
  have to : ∀ d (Q : am_Q) so, am_big (d + 1) mX0_timesOf [.ref 4, .int so, .int y] 488 M Q = Q (some (.int (nI (tmL S.1 so y)))) M := fun d Q so => by rw [c_timesOf hL.1, tms_congr (LH_s hL)]; rfl
  have lc : ∀ d (Q : am_Q), am_big (d + 2) mX0_lastColour [.ref 4, .int y] 488 M Q = Q (some (.int (lcL S.1 y))) M := fun d Q => by rw [c_lastColour hL.1, lx_congr (LH_s hL) (LH_x hL)]; rfl
  have un : ∀ d (Q : am_Q), am_big (d + 2) mX0_under [.ref 4, .int y] 488 M Q = Q (some (.int (unL S.1 y))) M := fun d Q => by rw [c_under hL.1, lx_congr (LH_s hL) (LH_x hL)]; rfl
  have hi : ∀ d (Q : am_Q), am_big (d + 2) mX0_isHidden [.ref 4, .int y] 488 M Q = Q (some (.int (bz (hiL S.1 y)))) M := fun d Q => by rw [c_isHidden hL.1, hid_L hL]
  rw [eX10_shape]
  unfold shapeA thL
  cases c : lst (sf S.1) (pf S.1) 0 y S.1.length with
  | none =>
    have e : oi (none : Option Nat) = -1 := rfl
    have e2 := eq_true e
    simp (disch := (first | assumption | omega | decide)) only [sX10_shape_0, sX10_shape_1, sX10_shape_4, sX10_shape_7, sX10_shape_8, sX10_shape_9, sX10_shape_10, sX10_shape_11, sX10_shape_14, sX10_shape_16, sX10_shape_18, sX10_shape_19, sX10_shape_22, sX10_shape_23, sX10_shape_24, sX10_shape_25, sX10_shape_64, sX10_shape_65, sX10_shape_68, sX10_shape_70, sX10_shape_71, sX10_shape_72, sX10_shape_73, sX10_shape_74, sX10_shape_75, sX10_shape_78, sX10_shape_79, sX10_shape_80, sX10_shape_81, sX10_shape_82, sX10_shape_85, sX10_shape_86, sX10_shape_87, sX10_shape_88, sX10_shape_91, sX10_shape_92, sX10_shape_93, sX10_shape_94, sX10_shape_97, sX10_shape_98, sX10_shape_99, sX10_shape_100, sX10_shape_103, sX10_shape_106, sX10_shape_107, sX10_shape_110, sX10_shape_111, sX10_shape_112, sX10_shape_113, kI_i, kL_l, kV_v, am_rv_s, am_kl_i, am_kl_r, am_kl_n, am_kl_l, true_and, and_true, and_self, true_or, or_true, implies_true, forall_const, not_true_eq_false, not_false_eq_true, false_implies, true_implies, if_true, if_false, Bool.true_eq_false, Bool.false_eq_true, ob_0, ob_3, ob_4, r_0_1, r_3_0, lo, c, e, Option.isSome_none, Bool.false_eq_true]
  | some k =>
    obtain ⟨a1, a2, a3⟩ := lst_lt c
    have e : oi (some k) = nI k := rfl
    have e2 : (nI k = -1) = False := nI_m1 (by omega)
    have g7 : gI M 7 k = kdL S.1 y := by rw [kd_x c]; exact LH_x hL k a1
    have i7 := in_7 (M := M) (k := k) (by omega)
    have kc : (nI k).toNatClampNeg = k := nI_clamp (by omega)
    rw [if_pos (show (some k).isSome = true from rfl)]
    cases ch : hiL S.1 y
    case true =>
      by_cases c0 : v = 0
      · have t := eq_true c0
        have n1 := vne (b := 1) c0 (by decide)
        have n2 := vne (b := 2) c0 (by decide)
        have n3 := vne (b := 3) c0 (by decide)
        have n4 := vne (b := 4) c0 (by decide)
        have n5 := vne (b := 5) c0 (by decide)
        simp (disch := (first | assumption | omega | decide)) only [sX10_shape_0, sX10_shape_1, sX10_shape_4, sX10_shape_7, sX10_shape_8, sX10_shape_9, sX10_shape_10, sX10_shape_11, sX10_shape_14, sX10_shape_16, sX10_shape_18, sX10_shape_19, sX10_shape_22, sX10_shape_23, sX10_shape_24, sX10_shape_25, sX10_shape_64, sX10_shape_65, sX10_shape_68, sX10_shape_70, sX10_shape_71, sX10_shape_72, sX10_shape_73, sX10_shape_74, sX10_shape_75, sX10_shape_78, sX10_shape_79, sX10_shape_80, sX10_shape_81, sX10_shape_82, sX10_shape_85, sX10_shape_86, sX10_shape_87, sX10_shape_88, sX10_shape_91, sX10_shape_92, sX10_shape_93, sX10_shape_94, sX10_shape_97, sX10_shape_98, sX10_shape_99, sX10_shape_100, sX10_shape_103, sX10_shape_106, sX10_shape_107, sX10_shape_110, sX10_shape_111, sX10_shape_112, sX10_shape_113, kI_i, kL_l, kV_v, am_rv_s, am_kl_i, am_kl_r, am_kl_n, am_kl_l, true_and, and_true, and_self, true_or, or_true, implies_true, forall_const, not_true_eq_false, not_false_eq_true, false_implies, true_implies, if_true, if_false, Bool.true_eq_false, Bool.false_eq_true, ob_0, ob_3, ob_4, r_0_1, r_3_0, r_4_2, lo, c, e, e2, to, lc, un, hi, ch, bz_t, i01, i7, kc, g7, t, n1, n2, n3, n4, n5, sw0_5]
      · skip
        by_cases c1 : v = 1
        · have t := eq_true c1
          have n0 := vne (b := 0) c1 (by decide)
          have n2 := vne (b := 2) c1 (by decide)
          have n3 := vne (b := 3) c1 (by decide)
          have n4 := vne (b := 4) c1 (by decide)
          have n5 := vne (b := 5) c1 (by decide)
          simp (disch := (first | assumption | omega | decide)) only [sX10_shape_0, sX10_shape_1, sX10_shape_4, sX10_shape_7, sX10_shape_8, sX10_shape_9, sX10_shape_10, sX10_shape_11, sX10_shape_14, sX10_shape_16, sX10_shape_18, sX10_shape_19, sX10_shape_22, sX10_shape_23, sX10_shape_24, sX10_shape_25, sX10_shape_64, sX10_shape_65, sX10_shape_68, sX10_shape_70, sX10_shape_71, sX10_shape_72, sX10_shape_73, sX10_shape_74, sX10_shape_75, sX10_shape_78, sX10_shape_79, sX10_shape_80, sX10_shape_81, sX10_shape_82, sX10_shape_85, sX10_shape_86, sX10_shape_87, sX10_shape_88, sX10_shape_91, sX10_shape_92, sX10_shape_93, sX10_shape_94, sX10_shape_97, sX10_shape_98, sX10_shape_99, sX10_shape_100, sX10_shape_103, sX10_shape_106, sX10_shape_107, sX10_shape_110, sX10_shape_111, sX10_shape_112, sX10_shape_113, kI_i, kL_l, kV_v, am_rv_s, am_kl_i, am_kl_r, am_kl_n, am_kl_l, true_and, and_true, and_self, true_or, or_true, implies_true, forall_const, not_true_eq_false, not_false_eq_true, false_implies, true_implies, if_true, if_false, Bool.true_eq_false, Bool.false_eq_true, ob_0, ob_3, ob_4, r_0_1, r_3_0, r_4_2, lo, c, e, e2, to, lc, un, hi, ch, bz_t, i01, i7, kc, g7, t, n0, n2, n3, n4, n5, sw0_5]
        · skip
          by_cases c2 : v = 2
          · have t := eq_true c2
            have n0 := vne (b := 0) c2 (by decide)
            have n1 := vne (b := 1) c2 (by decide)
            have n3 := vne (b := 3) c2 (by decide)
            have n4 := vne (b := 4) c2 (by decide)
            have n5 := vne (b := 5) c2 (by decide)
            simp (disch := (first | assumption | omega | decide)) only [sX10_shape_0, sX10_shape_1, sX10_shape_4, sX10_shape_7, sX10_shape_8, sX10_shape_9, sX10_shape_10, sX10_shape_11, sX10_shape_14, sX10_shape_16, sX10_shape_18, sX10_shape_19, sX10_shape_22, sX10_shape_23, sX10_shape_24, sX10_shape_25, sX10_shape_64, sX10_shape_65, sX10_shape_68, sX10_shape_70, sX10_shape_71, sX10_shape_72, sX10_shape_73, sX10_shape_74, sX10_shape_75, sX10_shape_78, sX10_shape_79, sX10_shape_80, sX10_shape_81, sX10_shape_82, sX10_shape_85, sX10_shape_86, sX10_shape_87, sX10_shape_88, sX10_shape_91, sX10_shape_92, sX10_shape_93, sX10_shape_94, sX10_shape_97, sX10_shape_98, sX10_shape_99, sX10_shape_100, sX10_shape_103, sX10_shape_106, sX10_shape_107, sX10_shape_110, sX10_shape_111, sX10_shape_112, sX10_shape_113, kI_i, kL_l, kV_v, am_rv_s, am_kl_i, am_kl_r, am_kl_n, am_kl_l, true_and, and_true, and_self, true_or, or_true, implies_true, forall_const, not_true_eq_false, not_false_eq_true, false_implies, true_implies, if_true, if_false, Bool.true_eq_false, Bool.false_eq_true, ob_0, ob_3, ob_4, r_0_1, r_3_0, r_4_2, lo, c, e, e2, to, lc, un, hi, ch, bz_t, i01, i7, kc, g7, t, n0, n1, n3, n4, n5, sw0_5]
          · skip
            by_cases c3 : v = 3
            · have t := eq_true c3
              have n0 := vne (b := 0) c3 (by decide)
              have n1 := vne (b := 1) c3 (by decide)
              have n2 := vne (b := 2) c3 (by decide)
              have n4 := vne (b := 4) c3 (by decide)
              have n5 := vne (b := 5) c3 (by decide)
              simp (disch := (first | assumption | omega | decide)) only [sX10_shape_0, sX10_shape_1, sX10_shape_4, sX10_shape_7, sX10_shape_8, sX10_shape_9, sX10_shape_10, sX10_shape_11, sX10_shape_14, sX10_shape_16, sX10_shape_18, sX10_shape_19, sX10_shape_22, sX10_shape_23, sX10_shape_24, sX10_shape_25, sX10_shape_64, sX10_shape_65, sX10_shape_68, sX10_shape_70, sX10_shape_71, sX10_shape_72, sX10_shape_73, sX10_shape_74, sX10_shape_75, sX10_shape_78, sX10_shape_79, sX10_shape_80, sX10_shape_81, sX10_shape_82, sX10_shape_85, sX10_shape_86, sX10_shape_87, sX10_shape_88, sX10_shape_91, sX10_shape_92, sX10_shape_93, sX10_shape_94, sX10_shape_97, sX10_shape_98, sX10_shape_99, sX10_shape_100, sX10_shape_103, sX10_shape_106, sX10_shape_107, sX10_shape_110, sX10_shape_111, sX10_shape_112, sX10_shape_113, kI_i, kL_l, kV_v, am_rv_s, am_kl_i, am_kl_r, am_kl_n, am_kl_l, true_and, and_true, and_self, true_or, or_true, implies_true, forall_const, not_true_eq_false, not_false_eq_true, false_implies, true_implies, if_true, if_false, Bool.true_eq_false, Bool.false_eq_true, ob_0, ob_3, ob_4, r_0_1, r_3_0, r_4_2, lo, c, e, e2, to, lc, un, hi, ch, bz_t, i01, i7, kc, g7, t, n0, n1, n2, n4, n5, sw0_5]
            · skip
              by_cases c4 : v = 4
              · have t := eq_true c4
                have n0 := vne (b := 0) c4 (by decide)
                have n1 := vne (b := 1) c4 (by decide)
                have n2 := vne (b := 2) c4 (by decide)
                have n3 := vne (b := 3) c4 (by decide)
                have n5 := vne (b := 5) c4 (by decide)
                simp (disch := (first | assumption | omega | decide)) only [sX10_shape_0, sX10_shape_1, sX10_shape_4, sX10_shape_7, sX10_shape_8, sX10_shape_9, sX10_shape_10, sX10_shape_11, sX10_shape_14, sX10_shape_16, sX10_shape_18, sX10_shape_19, sX10_shape_22, sX10_shape_23, sX10_shape_24, sX10_shape_25, sX10_shape_64, sX10_shape_65, sX10_shape_68, sX10_shape_70, sX10_shape_71, sX10_shape_72, sX10_shape_73, sX10_shape_74, sX10_shape_75, sX10_shape_78, sX10_shape_79, sX10_shape_80, sX10_shape_81, sX10_shape_82, sX10_shape_85, sX10_shape_86, sX10_shape_87, sX10_shape_88, sX10_shape_91, sX10_shape_92, sX10_shape_93, sX10_shape_94, sX10_shape_97, sX10_shape_98, sX10_shape_99, sX10_shape_100, sX10_shape_103, sX10_shape_106, sX10_shape_107, sX10_shape_110, sX10_shape_111, sX10_shape_112, sX10_shape_113, kI_i, kL_l, kV_v, am_rv_s, am_kl_i, am_kl_r, am_kl_n, am_kl_l, true_and, and_true, and_self, true_or, or_true, implies_true, forall_const, not_true_eq_false, not_false_eq_true, false_implies, true_implies, if_true, if_false, Bool.true_eq_false, Bool.false_eq_true, ob_0, ob_3, ob_4, r_0_1, r_3_0, r_4_2, lo, c, e, e2, to, lc, un, hi, ch, bz_t, i01, i7, kc, g7, t, n0, n1, n2, n3, n5, sw0_5]
              · skip
                by_cases c5 : v = 5
                · have t := eq_true c5
                  have n0 := vne (b := 0) c5 (by decide)
                  have n1 := vne (b := 1) c5 (by decide)
                  have n2 := vne (b := 2) c5 (by decide)
                  have n3 := vne (b := 3) c5 (by decide)
                  have n4 := vne (b := 4) c5 (by decide)
                  simp (disch := (first | assumption | omega | decide)) only [sX10_shape_0, sX10_shape_1, sX10_shape_4, sX10_shape_7, sX10_shape_8, sX10_shape_9, sX10_shape_10, sX10_shape_11, sX10_shape_14, sX10_shape_16, sX10_shape_18, sX10_shape_19, sX10_shape_22, sX10_shape_23, sX10_shape_24, sX10_shape_25, sX10_shape_64, sX10_shape_65, sX10_shape_68, sX10_shape_70, sX10_shape_71, sX10_shape_72, sX10_shape_73, sX10_shape_74, sX10_shape_75, sX10_shape_78, sX10_shape_79, sX10_shape_80, sX10_shape_81, sX10_shape_82, sX10_shape_85, sX10_shape_86, sX10_shape_87, sX10_shape_88, sX10_shape_91, sX10_shape_92, sX10_shape_93, sX10_shape_94, sX10_shape_97, sX10_shape_98, sX10_shape_99, sX10_shape_100, sX10_shape_103, sX10_shape_106, sX10_shape_107, sX10_shape_110, sX10_shape_111, sX10_shape_112, sX10_shape_113, kI_i, kL_l, kV_v, am_rv_s, am_kl_i, am_kl_r, am_kl_n, am_kl_l, true_and, and_true, and_self, true_or, or_true, implies_true, forall_const, not_true_eq_false, not_false_eq_true, false_implies, true_implies, if_true, if_false, Bool.true_eq_false, Bool.false_eq_true, ob_0, ob_3, ob_4, r_0_1, r_3_0, r_4_2, lo, c, e, e2, to, lc, un, hi, ch, bz_t, i01, i7, kc, g7, t, n0, n1, n2, n3, n4, sw0_5]
                · skip
                  simp (disch := (first | assumption | omega | decide)) only [sX10_shape_0, sX10_shape_1, sX10_shape_4, sX10_shape_7, sX10_shape_8, sX10_shape_9, sX10_shape_10, sX10_shape_11, sX10_shape_14, sX10_shape_16, sX10_shape_18, sX10_shape_19, sX10_shape_22, sX10_shape_23, sX10_shape_24, sX10_shape_25, sX10_shape_64, sX10_shape_65, sX10_shape_68, sX10_shape_70, sX10_shape_71, sX10_shape_72, sX10_shape_73, sX10_shape_74, sX10_shape_75, sX10_shape_78, sX10_shape_79, sX10_shape_80, sX10_shape_81, sX10_shape_82, sX10_shape_85, sX10_shape_86, sX10_shape_87, sX10_shape_88, sX10_shape_91, sX10_shape_92, sX10_shape_93, sX10_shape_94, sX10_shape_97, sX10_shape_98, sX10_shape_99, sX10_shape_100, sX10_shape_103, sX10_shape_106, sX10_shape_107, sX10_shape_110, sX10_shape_111, sX10_shape_112, sX10_shape_113, kI_i, kL_l, kV_v, am_rv_s, am_kl_i, am_kl_r, am_kl_n, am_kl_l, true_and, and_true, and_self, true_or, or_true, implies_true, forall_const, not_true_eq_false, not_false_eq_true, false_implies, true_implies, if_true, if_false, Bool.true_eq_false, Bool.false_eq_true, ob_0, ob_3, ob_4, r_0_1, r_3_0, r_4_2, lo, c, e, e2, to, lc, un, hi, ch, bz_t, i01, i7, kc, g7, c0, c1, c2, c3, c4, c5, sw0_5]
    case false =>
      by_cases c0 : v = 0
      · have t := eq_true c0
        have n1 := vne (b := 1) c0 (by decide)
        have n2 := vne (b := 2) c0 (by decide)
        have n3 := vne (b := 3) c0 (by decide)
        have n4 := vne (b := 4) c0 (by decide)
        have n5 := vne (b := 5) c0 (by decide)
        simp (disch := (first | assumption | omega | decide)) only [sX10_shape_0, sX10_shape_1, sX10_shape_4, sX10_shape_7, sX10_shape_8, sX10_shape_9, sX10_shape_10, sX10_shape_11, sX10_shape_14, sX10_shape_16, sX10_shape_18, sX10_shape_19, sX10_shape_22, sX10_shape_23, sX10_shape_24, sX10_shape_25, sX10_shape_64, sX10_shape_65, sX10_shape_68, sX10_shape_70, sX10_shape_71, sX10_shape_72, sX10_shape_73, sX10_shape_74, sX10_shape_75, sX10_shape_78, sX10_shape_79, sX10_shape_80, sX10_shape_81, sX10_shape_82, sX10_shape_85, sX10_shape_86, sX10_shape_87, sX10_shape_88, sX10_shape_91, sX10_shape_92, sX10_shape_93, sX10_shape_94, sX10_shape_97, sX10_shape_98, sX10_shape_99, sX10_shape_100, sX10_shape_103, sX10_shape_106, sX10_shape_107, sX10_shape_110, sX10_shape_111, sX10_shape_112, sX10_shape_113, kI_i, kL_l, kV_v, am_rv_s, am_kl_i, am_kl_r, am_kl_n, am_kl_l, true_and, and_true, and_self, true_or, or_true, implies_true, forall_const, not_true_eq_false, not_false_eq_true, false_implies, true_implies, if_true, if_false, Bool.true_eq_false, Bool.false_eq_true, ob_0, ob_3, ob_4, r_0_1, r_3_0, r_4_2, lo, c, e, e2, to, lc, un, hi, ch, bz_f, i01, i7, kc, g7, t, n1, n2, n3, n4, n5, sw0_5]
      · skip
        by_cases c1 : v = 1
        · have t := eq_true c1
          have n0 := vne (b := 0) c1 (by decide)
          have n2 := vne (b := 2) c1 (by decide)
          have n3 := vne (b := 3) c1 (by decide)
          have n4 := vne (b := 4) c1 (by decide)
          have n5 := vne (b := 5) c1 (by decide)
          simp (disch := (first | assumption | omega | decide)) only [sX10_shape_0, sX10_shape_1, sX10_shape_4, sX10_shape_7, sX10_shape_8, sX10_shape_9, sX10_shape_10, sX10_shape_11, sX10_shape_14, sX10_shape_16, sX10_shape_18, sX10_shape_19, sX10_shape_22, sX10_shape_23, sX10_shape_24, sX10_shape_25, sX10_shape_64, sX10_shape_65, sX10_shape_68, sX10_shape_70, sX10_shape_71, sX10_shape_72, sX10_shape_73, sX10_shape_74, sX10_shape_75, sX10_shape_78, sX10_shape_79, sX10_shape_80, sX10_shape_81, sX10_shape_82, sX10_shape_85, sX10_shape_86, sX10_shape_87, sX10_shape_88, sX10_shape_91, sX10_shape_92, sX10_shape_93, sX10_shape_94, sX10_shape_97, sX10_shape_98, sX10_shape_99, sX10_shape_100, sX10_shape_103, sX10_shape_106, sX10_shape_107, sX10_shape_110, sX10_shape_111, sX10_shape_112, sX10_shape_113, kI_i, kL_l, kV_v, am_rv_s, am_kl_i, am_kl_r, am_kl_n, am_kl_l, true_and, and_true, and_self, true_or, or_true, implies_true, forall_const, not_true_eq_false, not_false_eq_true, false_implies, true_implies, if_true, if_false, Bool.true_eq_false, Bool.false_eq_true, ob_0, ob_3, ob_4, r_0_1, r_3_0, r_4_2, lo, c, e, e2, to, lc, un, hi, ch, bz_f, i01, i7, kc, g7, t, n0, n2, n3, n4, n5, sw0_5]
        · skip
          by_cases c2 : v = 2
          · have t := eq_true c2
            have n0 := vne (b := 0) c2 (by decide)
            have n1 := vne (b := 1) c2 (by decide)
            have n3 := vne (b := 3) c2 (by decide)
            have n4 := vne (b := 4) c2 (by decide)
            have n5 := vne (b := 5) c2 (by decide)
            simp (disch := (first | assumption | omega | decide)) only [sX10_shape_0, sX10_shape_1, sX10_shape_4, sX10_shape_7, sX10_shape_8, sX10_shape_9, sX10_shape_10, sX10_shape_11, sX10_shape_14, sX10_shape_16, sX10_shape_18, sX10_shape_19, sX10_shape_22, sX10_shape_23, sX10_shape_24, sX10_shape_25, sX10_shape_64, sX10_shape_65, sX10_shape_68, sX10_shape_70, sX10_shape_71, sX10_shape_72, sX10_shape_73, sX10_shape_74, sX10_shape_75, sX10_shape_78, sX10_shape_79, sX10_shape_80, sX10_shape_81, sX10_shape_82, sX10_shape_85, sX10_shape_86, sX10_shape_87, sX10_shape_88, sX10_shape_91, sX10_shape_92, sX10_shape_93, sX10_shape_94, sX10_shape_97, sX10_shape_98, sX10_shape_99, sX10_shape_100, sX10_shape_103, sX10_shape_106, sX10_shape_107, sX10_shape_110, sX10_shape_111, sX10_shape_112, sX10_shape_113, kI_i, kL_l, kV_v, am_rv_s, am_kl_i, am_kl_r, am_kl_n, am_kl_l, true_and, and_true, and_self, true_or, or_true, implies_true, forall_const, not_true_eq_false, not_false_eq_true, false_implies, true_implies, if_true, if_false, Bool.true_eq_false, Bool.false_eq_true, ob_0, ob_3, ob_4, r_0_1, r_3_0, r_4_2, lo, c, e, e2, to, lc, un, hi, ch, bz_f, i01, i7, kc, g7, t, n0, n1, n3, n4, n5, sw0_5]
          · skip
            by_cases c3 : v = 3
            · have t := eq_true c3
              have n0 := vne (b := 0) c3 (by decide)
              have n1 := vne (b := 1) c3 (by decide)
              have n2 := vne (b := 2) c3 (by decide)
              have n4 := vne (b := 4) c3 (by decide)
              have n5 := vne (b := 5) c3 (by decide)
              simp (disch := (first | assumption | omega | decide)) only [sX10_shape_0, sX10_shape_1, sX10_shape_4, sX10_shape_7, sX10_shape_8, sX10_shape_9, sX10_shape_10, sX10_shape_11, sX10_shape_14, sX10_shape_16, sX10_shape_18, sX10_shape_19, sX10_shape_22, sX10_shape_23, sX10_shape_24, sX10_shape_25, sX10_shape_64, sX10_shape_65, sX10_shape_68, sX10_shape_70, sX10_shape_71, sX10_shape_72, sX10_shape_73, sX10_shape_74, sX10_shape_75, sX10_shape_78, sX10_shape_79, sX10_shape_80, sX10_shape_81, sX10_shape_82, sX10_shape_85, sX10_shape_86, sX10_shape_87, sX10_shape_88, sX10_shape_91, sX10_shape_92, sX10_shape_93, sX10_shape_94, sX10_shape_97, sX10_shape_98, sX10_shape_99, sX10_shape_100, sX10_shape_103, sX10_shape_106, sX10_shape_107, sX10_shape_110, sX10_shape_111, sX10_shape_112, sX10_shape_113, kI_i, kL_l, kV_v, am_rv_s, am_kl_i, am_kl_r, am_kl_n, am_kl_l, true_and, and_true, and_self, true_or, or_true, implies_true, forall_const, not_true_eq_false, not_false_eq_true, false_implies, true_implies, if_true, if_false, Bool.true_eq_false, Bool.false_eq_true, ob_0, ob_3, ob_4, r_0_1, r_3_0, r_4_2, lo, c, e, e2, to, lc, un, hi, ch, bz_f, i01, i7, kc, g7, t, n0, n1, n2, n4, n5, sw0_5]
            · skip
              by_cases c4 : v = 4
              · have t := eq_true c4
                have n0 := vne (b := 0) c4 (by decide)
                have n1 := vne (b := 1) c4 (by decide)
                have n2 := vne (b := 2) c4 (by decide)
                have n3 := vne (b := 3) c4 (by decide)
                have n5 := vne (b := 5) c4 (by decide)
                simp (disch := (first | assumption | omega | decide)) only [sX10_shape_0, sX10_shape_1, sX10_shape_4, sX10_shape_7, sX10_shape_8, sX10_shape_9, sX10_shape_10, sX10_shape_11, sX10_shape_14, sX10_shape_16, sX10_shape_18, sX10_shape_19, sX10_shape_22, sX10_shape_23, sX10_shape_24, sX10_shape_25, sX10_shape_64, sX10_shape_65, sX10_shape_68, sX10_shape_70, sX10_shape_71, sX10_shape_72, sX10_shape_73, sX10_shape_74, sX10_shape_75, sX10_shape_78, sX10_shape_79, sX10_shape_80, sX10_shape_81, sX10_shape_82, sX10_shape_85, sX10_shape_86, sX10_shape_87, sX10_shape_88, sX10_shape_91, sX10_shape_92, sX10_shape_93, sX10_shape_94, sX10_shape_97, sX10_shape_98, sX10_shape_99, sX10_shape_100, sX10_shape_103, sX10_shape_106, sX10_shape_107, sX10_shape_110, sX10_shape_111, sX10_shape_112, sX10_shape_113, kI_i, kL_l, kV_v, am_rv_s, am_kl_i, am_kl_r, am_kl_n, am_kl_l, true_and, and_true, and_self, true_or, or_true, implies_true, forall_const, not_true_eq_false, not_false_eq_true, false_implies, true_implies, if_true, if_false, Bool.true_eq_false, Bool.false_eq_true, ob_0, ob_3, ob_4, r_0_1, r_3_0, r_4_2, lo, c, e, e2, to, lc, un, hi, ch, bz_f, i01, i7, kc, g7, t, n0, n1, n2, n3, n5, sw0_5]
              · skip
                by_cases c5 : v = 5
                · have t := eq_true c5
                  have n0 := vne (b := 0) c5 (by decide)
                  have n1 := vne (b := 1) c5 (by decide)
                  have n2 := vne (b := 2) c5 (by decide)
                  have n3 := vne (b := 3) c5 (by decide)
                  have n4 := vne (b := 4) c5 (by decide)
                  simp (disch := (first | assumption | omega | decide)) only [sX10_shape_0, sX10_shape_1, sX10_shape_4, sX10_shape_7, sX10_shape_8, sX10_shape_9, sX10_shape_10, sX10_shape_11, sX10_shape_14, sX10_shape_16, sX10_shape_18, sX10_shape_19, sX10_shape_22, sX10_shape_23, sX10_shape_24, sX10_shape_25, sX10_shape_64, sX10_shape_65, sX10_shape_68, sX10_shape_70, sX10_shape_71, sX10_shape_72, sX10_shape_73, sX10_shape_74, sX10_shape_75, sX10_shape_78, sX10_shape_79, sX10_shape_80, sX10_shape_81, sX10_shape_82, sX10_shape_85, sX10_shape_86, sX10_shape_87, sX10_shape_88, sX10_shape_91, sX10_shape_92, sX10_shape_93, sX10_shape_94, sX10_shape_97, sX10_shape_98, sX10_shape_99, sX10_shape_100, sX10_shape_103, sX10_shape_106, sX10_shape_107, sX10_shape_110, sX10_shape_111, sX10_shape_112, sX10_shape_113, kI_i, kL_l, kV_v, am_rv_s, am_kl_i, am_kl_r, am_kl_n, am_kl_l, true_and, and_true, and_self, true_or, or_true, implies_true, forall_const, not_true_eq_false, not_false_eq_true, false_implies, true_implies, if_true, if_false, Bool.true_eq_false, Bool.false_eq_true, ob_0, ob_3, ob_4, r_0_1, r_3_0, r_4_2, lo, c, e, e2, to, lc, un, hi, ch, bz_f, i01, i7, kc, g7, t, n0, n1, n2, n3, n4, sw0_5]
                · skip
                  simp (disch := (first | assumption | omega | decide)) only [sX10_shape_0, sX10_shape_1, sX10_shape_4, sX10_shape_7, sX10_shape_8, sX10_shape_9, sX10_shape_10, sX10_shape_11, sX10_shape_14, sX10_shape_16, sX10_shape_18, sX10_shape_19, sX10_shape_22, sX10_shape_23, sX10_shape_24, sX10_shape_25, sX10_shape_64, sX10_shape_65, sX10_shape_68, sX10_shape_70, sX10_shape_71, sX10_shape_72, sX10_shape_73, sX10_shape_74, sX10_shape_75, sX10_shape_78, sX10_shape_79, sX10_shape_80, sX10_shape_81, sX10_shape_82, sX10_shape_85, sX10_shape_86, sX10_shape_87, sX10_shape_88, sX10_shape_91, sX10_shape_92, sX10_shape_93, sX10_shape_94, sX10_shape_97, sX10_shape_98, sX10_shape_99, sX10_shape_100, sX10_shape_103, sX10_shape_106, sX10_shape_107, sX10_shape_110, sX10_shape_111, sX10_shape_112, sX10_shape_113, kI_i, kL_l, kV_v, am_rv_s, am_kl_i, am_kl_r, am_kl_n, am_kl_l, true_and, and_true, and_self, true_or, or_true, implies_true, forall_const, not_true_eq_false, not_false_eq_true, false_implies, true_implies, if_true, if_false, Bool.true_eq_false, Bool.false_eq_true, ob_0, ob_3, ob_4, r_0_1, r_3_0, r_4_2, lo, c, e, e2, to, lc, un, hi, ch, bz_f, i01, i7, kc, g7, c0, c1, c2, c3, c4, c5, sw0_5]
theorem in05 {w : Int32} : (decide (0 ≤ w) && decide (w ≤ 5)) = decide (w = 0 ∨ w = 1 ∨ w = 2 ∨ w = 3 ∨ w = 4 ∨ w = 5) := by
  by_cases z : 0 ≤ w
  · obtain ⟨j, hj, rfl⟩ := nI_of (Int32.not_lt.mpr z)
    rw [decide_eq_true z, Bool.true_and]
    have e5 : (nI j ≤ 5) = (j ≤ 5) := by rw [show (5 : Int32) = nI 5 from rfl]; exact nI_leE hj (by omega)
    have q : ∀ i, i < 6 → (nI j = nI i) = (j = i) := fun i hi => nI_eqE hj (by omega)
    have q0 : (nI j = 0) = (j = 0) := q 0 (by omega)
    have q1 : (nI j = 1) = (j = 1) := q 1 (by omega)
    have q2 : (nI j = 2) = (j = 2) := q 2 (by omega)
    have q3 : (nI j = 3) = (j = 3) := q 3 (by omega)
    have q4 : (nI j = 4) = (j = 4) := q 4 (by omega)
    have q5 : (nI j = 5) = (j = 5) := q 5 (by omega)
    simp only [e5, q0, q1, q2, q3, q4, q5]
    exact decide_eq_decide.mpr (by omega)
  · rw [decide_eq_false z, Bool.false_and]
    symm
    apply decide_eq_false
    intro h
    apply z
    rcases h with rfl | rfl | rfl | rfl | rfl | rfl <;> decide
theorem m_shape {y v : Int32} (h : RS M ap lim S P) (h3 : T3 S.1) : ∃ M', (∀ d (Q : am_Q), am_big (d + 4) mX11_shape [.ref 457, .int y, .int v] 488 M Q = Q (some (.int (shapeA S.1 y v))) M') ∧ Fw XMr M M' := by
  have f0 := Fw_thr (M := M)
  obtain ⟨hW, hS, hP, hf, hm, hw, hlim, ht⟩ := RS_th h
  generalize hM0 : sI M 457 0 0 = M0 at *
  have hp : PcM M0 465 0 S.1 := ⟨hS.1, hS.2.1, hS.2.2.1⟩
  have e1 := fun d (Q : am_Q) => m_stands (d := d) (Q := Q) hW (Or.inl rfl) hS.p hw
  have wS : WR (stL M0 S.1 S.1.length) := hW
  refine ⟨stL M0 S.1 S.1.length, fun d Q => ?_, f0.tr (Fw_stL.mo XS_XMr)⟩
  have th := fun d (Q : am_Q) => m_isThereL (d := d) (Q := Q) (x := y) hW hw
  rw [eX11_shape]
  unfold shapeA
  cases c : thL S.1 y with
  | false => simp (disch := (first | assumption | omega | decide)) only [sX11_shape_0, sX11_shape_1, sX11_shape_2, sX11_shape_5, sX11_shape_6, sX11_shape_7, sX11_shape_10, sX11_shape_13, sX11_shape_14, sX11_shape_15, sX11_shape_18, sX11_shape_21, sX11_shape_22, sX11_shape_23, sX11_shape_24, sX11_shape_27, sX11_shape_30, sX11_shape_33, sX11_shape_34, sX11_shape_35, sX11_shape_36, sX11_shape_72, sX11_shape_73, sX11_shape_76, sX11_shape_77, sX11_shape_78, sX11_shape_79, sX11_shape_80, sX11_shape_83, sX11_shape_84, sX11_shape_85, sX11_shape_86, sX11_shape_87, sX11_shape_90, sX11_shape_91, sX11_shape_92, sX11_shape_93, sX11_shape_94, sX11_shape_97, sX11_shape_98, sX11_shape_99, sX11_shape_101, sX11_shape_102, sX11_shape_103, sX11_shape_104, sX11_shape_107, sX11_shape_108, sX11_shape_109, sX11_shape_110, sX11_shape_113, sX11_shape_115, sX11_shape_118, sX11_shape_119, sX11_shape_122, sX11_shape_123, sX11_shape_124, sX11_shape_125, sX11_shape_126, sX11_shape_129, sX11_shape_130, sX11_shape_131, kI_i, kL_l, kV_v, am_rv_s, am_kl_i, am_kl_r, am_kl_n, am_kl_l, true_and, and_true, and_self, true_or, or_true, implies_true, forall_const, not_true_eq_false, not_false_eq_true, false_implies, true_implies, if_true, if_false, Bool.true_eq_false, Bool.false_eq_true, ob_457, hM0, r_457_27, e1, th, c, bz_f]
  | true =>
    obtain ⟨i, hi, rfl⟩ := th_x hw c
    rw [if_pos rfl]
    have k0 : gI (stL M0 S.1 S.1.length) 467 i = kdL S.1 (nI i) := gI_st0 hi
    have k1 : gI (stL M0 S.1 S.1.length) 468 i = nI (tmL S.1 1 (nI i)) := gI_st1 hi
    have k2 : gI (stL M0 S.1 S.1.length) 469 i = nI (tmL S.1 2 (nI i)) := gI_st2 hi
    have k3 : gI (stL M0 S.1 S.1.length) 470 i = cdF S.1 S.1.length i := gI_st3 hi
    have k4 : gI (stL M0 S.1 S.1.length) 471 i = if unL S.1 (nI i) = 9 then -1 else unL S.1 (nI i) := (gI_st4 hi).trans (on_un hw i)
    have k5 : gI (stL M0 S.1 S.1.length) 472 i = bz (hiL S.1 (nI i)) := gI_st5 hi
    have cd := cd_lc hw h3 i
    have z10 : ((10 : Int32) = 0) = False := eq_false (by decide)
    by_cases u9 : unL S.1 (nI i) = 9
    · rw [if_pos u9] at k4
      by_cases c0 : v = 0
      · have t := eq_true c0
        have n1 := vne (b := 1) c0 (by decide)
        have n2 := vne (b := 2) c0 (by decide)
        have n3 := vne (b := 3) c0 (by decide)
        have n4 := vne (b := 4) c0 (by decide)
        have n5 := vne (b := 5) c0 (by decide)
        simp (disch := (first | assumption | omega | decide)) only [sX11_shape_0, sX11_shape_1, sX11_shape_2, sX11_shape_5, sX11_shape_6, sX11_shape_7, sX11_shape_10, sX11_shape_13, sX11_shape_14, sX11_shape_15, sX11_shape_18, sX11_shape_21, sX11_shape_22, sX11_shape_23, sX11_shape_24, sX11_shape_27, sX11_shape_30, sX11_shape_33, sX11_shape_34, sX11_shape_35, sX11_shape_36, sX11_shape_72, sX11_shape_73, sX11_shape_76, sX11_shape_77, sX11_shape_78, sX11_shape_79, sX11_shape_80, sX11_shape_83, sX11_shape_84, sX11_shape_85, sX11_shape_86, sX11_shape_87, sX11_shape_90, sX11_shape_91, sX11_shape_92, sX11_shape_93, sX11_shape_94, sX11_shape_97, sX11_shape_98, sX11_shape_99, sX11_shape_101, sX11_shape_102, sX11_shape_103, sX11_shape_104, sX11_shape_107, sX11_shape_108, sX11_shape_109, sX11_shape_110, sX11_shape_113, sX11_shape_115, sX11_shape_118, sX11_shape_119, sX11_shape_122, sX11_shape_123, sX11_shape_124, sX11_shape_125, sX11_shape_126, sX11_shape_129, sX11_shape_130, sX11_shape_131, kI_i, kL_l, kV_v, am_rv_s, am_kl_i, am_kl_r, am_kl_n, am_kl_l, true_and, and_true, and_self, true_or, or_true, implies_true, forall_const, not_true_eq_false, not_false_eq_true, false_implies, true_implies, if_true, if_false, Bool.true_eq_false, Bool.false_eq_true, ob_457, hM0, r_457_27, e1, th, c, bz_t, i01, c64_0, c64_5, m_isIn, in05, or_true, true_or, or_self, decide_true, decide_false, bz_f, r_457_31, r_457_32, r_457_33, r_457_34, r_457_35, r_457_36, in_467, in_468, in_469, in_470, in_471, in_472, nI_clamp, k0, k1, k2, k3, k4, k5, cd, z10, u9, t, n1, n2, n3, n4, n5, sw0_4]
      · skip
        by_cases c1 : v = 1
        · have t := eq_true c1
          have n0 := vne (b := 0) c1 (by decide)
          have n2 := vne (b := 2) c1 (by decide)
          have n3 := vne (b := 3) c1 (by decide)
          have n4 := vne (b := 4) c1 (by decide)
          have n5 := vne (b := 5) c1 (by decide)
          simp (disch := (first | assumption | omega | decide)) only [sX11_shape_0, sX11_shape_1, sX11_shape_2, sX11_shape_5, sX11_shape_6, sX11_shape_7, sX11_shape_10, sX11_shape_13, sX11_shape_14, sX11_shape_15, sX11_shape_18, sX11_shape_21, sX11_shape_22, sX11_shape_23, sX11_shape_24, sX11_shape_27, sX11_shape_30, sX11_shape_33, sX11_shape_34, sX11_shape_35, sX11_shape_36, sX11_shape_72, sX11_shape_73, sX11_shape_76, sX11_shape_77, sX11_shape_78, sX11_shape_79, sX11_shape_80, sX11_shape_83, sX11_shape_84, sX11_shape_85, sX11_shape_86, sX11_shape_87, sX11_shape_90, sX11_shape_91, sX11_shape_92, sX11_shape_93, sX11_shape_94, sX11_shape_97, sX11_shape_98, sX11_shape_99, sX11_shape_101, sX11_shape_102, sX11_shape_103, sX11_shape_104, sX11_shape_107, sX11_shape_108, sX11_shape_109, sX11_shape_110, sX11_shape_113, sX11_shape_115, sX11_shape_118, sX11_shape_119, sX11_shape_122, sX11_shape_123, sX11_shape_124, sX11_shape_125, sX11_shape_126, sX11_shape_129, sX11_shape_130, sX11_shape_131, kI_i, kL_l, kV_v, am_rv_s, am_kl_i, am_kl_r, am_kl_n, am_kl_l, true_and, and_true, and_self, true_or, or_true, implies_true, forall_const, not_true_eq_false, not_false_eq_true, false_implies, true_implies, if_true, if_false, Bool.true_eq_false, Bool.false_eq_true, ob_457, hM0, r_457_27, e1, th, c, bz_t, i01, c64_0, c64_5, m_isIn, in05, or_true, true_or, or_self, decide_true, decide_false, bz_f, r_457_31, r_457_32, r_457_33, r_457_34, r_457_35, r_457_36, in_467, in_468, in_469, in_470, in_471, in_472, nI_clamp, k0, k1, k2, k3, k4, k5, cd, z10, u9, t, n0, n2, n3, n4, n5, sw0_4]
        · skip
          by_cases c2 : v = 2
          · have t := eq_true c2
            have n0 := vne (b := 0) c2 (by decide)
            have n1 := vne (b := 1) c2 (by decide)
            have n3 := vne (b := 3) c2 (by decide)
            have n4 := vne (b := 4) c2 (by decide)
            have n5 := vne (b := 5) c2 (by decide)
            simp (disch := (first | assumption | omega | decide)) only [sX11_shape_0, sX11_shape_1, sX11_shape_2, sX11_shape_5, sX11_shape_6, sX11_shape_7, sX11_shape_10, sX11_shape_13, sX11_shape_14, sX11_shape_15, sX11_shape_18, sX11_shape_21, sX11_shape_22, sX11_shape_23, sX11_shape_24, sX11_shape_27, sX11_shape_30, sX11_shape_33, sX11_shape_34, sX11_shape_35, sX11_shape_36, sX11_shape_72, sX11_shape_73, sX11_shape_76, sX11_shape_77, sX11_shape_78, sX11_shape_79, sX11_shape_80, sX11_shape_83, sX11_shape_84, sX11_shape_85, sX11_shape_86, sX11_shape_87, sX11_shape_90, sX11_shape_91, sX11_shape_92, sX11_shape_93, sX11_shape_94, sX11_shape_97, sX11_shape_98, sX11_shape_99, sX11_shape_101, sX11_shape_102, sX11_shape_103, sX11_shape_104, sX11_shape_107, sX11_shape_108, sX11_shape_109, sX11_shape_110, sX11_shape_113, sX11_shape_115, sX11_shape_118, sX11_shape_119, sX11_shape_122, sX11_shape_123, sX11_shape_124, sX11_shape_125, sX11_shape_126, sX11_shape_129, sX11_shape_130, sX11_shape_131, kI_i, kL_l, kV_v, am_rv_s, am_kl_i, am_kl_r, am_kl_n, am_kl_l, true_and, and_true, and_self, true_or, or_true, implies_true, forall_const, not_true_eq_false, not_false_eq_true, false_implies, true_implies, if_true, if_false, Bool.true_eq_false, Bool.false_eq_true, ob_457, hM0, r_457_27, e1, th, c, bz_t, i01, c64_0, c64_5, m_isIn, in05, or_true, true_or, or_self, decide_true, decide_false, bz_f, r_457_31, r_457_32, r_457_33, r_457_34, r_457_35, r_457_36, in_467, in_468, in_469, in_470, in_471, in_472, nI_clamp, k0, k1, k2, k3, k4, k5, cd, z10, u9, t, n0, n1, n3, n4, n5, sw0_4]
          · skip
            by_cases c3 : v = 3
            · have t := eq_true c3
              have n0 := vne (b := 0) c3 (by decide)
              have n1 := vne (b := 1) c3 (by decide)
              have n2 := vne (b := 2) c3 (by decide)
              have n4 := vne (b := 4) c3 (by decide)
              have n5 := vne (b := 5) c3 (by decide)
              simp (disch := (first | assumption | omega | decide)) only [sX11_shape_0, sX11_shape_1, sX11_shape_2, sX11_shape_5, sX11_shape_6, sX11_shape_7, sX11_shape_10, sX11_shape_13, sX11_shape_14, sX11_shape_15, sX11_shape_18, sX11_shape_21, sX11_shape_22, sX11_shape_23, sX11_shape_24, sX11_shape_27, sX11_shape_30, sX11_shape_33, sX11_shape_34, sX11_shape_35, sX11_shape_36, sX11_shape_72, sX11_shape_73, sX11_shape_76, sX11_shape_77, sX11_shape_78, sX11_shape_79, sX11_shape_80, sX11_shape_83, sX11_shape_84, sX11_shape_85, sX11_shape_86, sX11_shape_87, sX11_shape_90, sX11_shape_91, sX11_shape_92, sX11_shape_93, sX11_shape_94, sX11_shape_97, sX11_shape_98, sX11_shape_99, sX11_shape_101, sX11_shape_102, sX11_shape_103, sX11_shape_104, sX11_shape_107, sX11_shape_108, sX11_shape_109, sX11_shape_110, sX11_shape_113, sX11_shape_115, sX11_shape_118, sX11_shape_119, sX11_shape_122, sX11_shape_123, sX11_shape_124, sX11_shape_125, sX11_shape_126, sX11_shape_129, sX11_shape_130, sX11_shape_131, kI_i, kL_l, kV_v, am_rv_s, am_kl_i, am_kl_r, am_kl_n, am_kl_l, true_and, and_true, and_self, true_or, or_true, implies_true, forall_const, not_true_eq_false, not_false_eq_true, false_implies, true_implies, if_true, if_false, Bool.true_eq_false, Bool.false_eq_true, ob_457, hM0, r_457_27, e1, th, c, bz_t, i01, c64_0, c64_5, m_isIn, in05, or_true, true_or, or_self, decide_true, decide_false, bz_f, r_457_31, r_457_32, r_457_33, r_457_34, r_457_35, r_457_36, in_467, in_468, in_469, in_470, in_471, in_472, nI_clamp, k0, k1, k2, k3, k4, k5, cd, z10, u9, t, n0, n1, n2, n4, n5, sw0_4]
            · skip
              by_cases c4 : v = 4
              · have t := eq_true c4
                have n0 := vne (b := 0) c4 (by decide)
                have n1 := vne (b := 1) c4 (by decide)
                have n2 := vne (b := 2) c4 (by decide)
                have n3 := vne (b := 3) c4 (by decide)
                have n5 := vne (b := 5) c4 (by decide)
                simp (disch := (first | assumption | omega | decide)) only [sX11_shape_0, sX11_shape_1, sX11_shape_2, sX11_shape_5, sX11_shape_6, sX11_shape_7, sX11_shape_10, sX11_shape_13, sX11_shape_14, sX11_shape_15, sX11_shape_18, sX11_shape_21, sX11_shape_22, sX11_shape_23, sX11_shape_24, sX11_shape_27, sX11_shape_30, sX11_shape_33, sX11_shape_34, sX11_shape_35, sX11_shape_36, sX11_shape_72, sX11_shape_73, sX11_shape_76, sX11_shape_77, sX11_shape_78, sX11_shape_79, sX11_shape_80, sX11_shape_83, sX11_shape_84, sX11_shape_85, sX11_shape_86, sX11_shape_87, sX11_shape_90, sX11_shape_91, sX11_shape_92, sX11_shape_93, sX11_shape_94, sX11_shape_97, sX11_shape_98, sX11_shape_99, sX11_shape_101, sX11_shape_102, sX11_shape_103, sX11_shape_104, sX11_shape_107, sX11_shape_108, sX11_shape_109, sX11_shape_110, sX11_shape_113, sX11_shape_115, sX11_shape_118, sX11_shape_119, sX11_shape_122, sX11_shape_123, sX11_shape_124, sX11_shape_125, sX11_shape_126, sX11_shape_129, sX11_shape_130, sX11_shape_131, kI_i, kL_l, kV_v, am_rv_s, am_kl_i, am_kl_r, am_kl_n, am_kl_l, true_and, and_true, and_self, true_or, or_true, implies_true, forall_const, not_true_eq_false, not_false_eq_true, false_implies, true_implies, if_true, if_false, Bool.true_eq_false, Bool.false_eq_true, ob_457, hM0, r_457_27, e1, th, c, bz_t, i01, c64_0, c64_5, m_isIn, in05, or_true, true_or, or_self, decide_true, decide_false, bz_f, r_457_31, r_457_32, r_457_33, r_457_34, r_457_35, r_457_36, in_467, in_468, in_469, in_470, in_471, in_472, nI_clamp, k0, k1, k2, k3, k4, k5, cd, z10, u9, t, n0, n1, n2, n3, n5, sw0_4]
              · skip
                by_cases c5 : v = 5
                · have t := eq_true c5
                  have n0 := vne (b := 0) c5 (by decide)
                  have n1 := vne (b := 1) c5 (by decide)
                  have n2 := vne (b := 2) c5 (by decide)
                  have n3 := vne (b := 3) c5 (by decide)
                  have n4 := vne (b := 4) c5 (by decide)
                  simp (disch := (first | assumption | omega | decide)) only [sX11_shape_0, sX11_shape_1, sX11_shape_2, sX11_shape_5, sX11_shape_6, sX11_shape_7, sX11_shape_10, sX11_shape_13, sX11_shape_14, sX11_shape_15, sX11_shape_18, sX11_shape_21, sX11_shape_22, sX11_shape_23, sX11_shape_24, sX11_shape_27, sX11_shape_30, sX11_shape_33, sX11_shape_34, sX11_shape_35, sX11_shape_36, sX11_shape_72, sX11_shape_73, sX11_shape_76, sX11_shape_77, sX11_shape_78, sX11_shape_79, sX11_shape_80, sX11_shape_83, sX11_shape_84, sX11_shape_85, sX11_shape_86, sX11_shape_87, sX11_shape_90, sX11_shape_91, sX11_shape_92, sX11_shape_93, sX11_shape_94, sX11_shape_97, sX11_shape_98, sX11_shape_99, sX11_shape_101, sX11_shape_102, sX11_shape_103, sX11_shape_104, sX11_shape_107, sX11_shape_108, sX11_shape_109, sX11_shape_110, sX11_shape_113, sX11_shape_115, sX11_shape_118, sX11_shape_119, sX11_shape_122, sX11_shape_123, sX11_shape_124, sX11_shape_125, sX11_shape_126, sX11_shape_129, sX11_shape_130, sX11_shape_131, kI_i, kL_l, kV_v, am_rv_s, am_kl_i, am_kl_r, am_kl_n, am_kl_l, true_and, and_true, and_self, true_or, or_true, implies_true, forall_const, not_true_eq_false, not_false_eq_true, false_implies, true_implies, if_true, if_false, Bool.true_eq_false, Bool.false_eq_true, ob_457, hM0, r_457_27, e1, th, c, bz_t, i01, c64_0, c64_5, m_isIn, in05, or_true, true_or, or_self, decide_true, decide_false, bz_f, r_457_31, r_457_32, r_457_33, r_457_34, r_457_35, r_457_36, in_467, in_468, in_469, in_470, in_471, in_472, nI_clamp, k0, k1, k2, k3, k4, k5, cd, z10, u9, t, n0, n1, n2, n3, n4, sw0_4]
                · skip
                  simp (disch := (first | assumption | omega | decide)) only [sX11_shape_0, sX11_shape_1, sX11_shape_2, sX11_shape_5, sX11_shape_6, sX11_shape_7, sX11_shape_10, sX11_shape_13, sX11_shape_14, sX11_shape_15, sX11_shape_18, sX11_shape_21, sX11_shape_22, sX11_shape_23, sX11_shape_24, sX11_shape_27, sX11_shape_30, sX11_shape_33, sX11_shape_34, sX11_shape_35, sX11_shape_36, sX11_shape_72, sX11_shape_73, sX11_shape_76, sX11_shape_77, sX11_shape_78, sX11_shape_79, sX11_shape_80, sX11_shape_83, sX11_shape_84, sX11_shape_85, sX11_shape_86, sX11_shape_87, sX11_shape_90, sX11_shape_91, sX11_shape_92, sX11_shape_93, sX11_shape_94, sX11_shape_97, sX11_shape_98, sX11_shape_99, sX11_shape_101, sX11_shape_102, sX11_shape_103, sX11_shape_104, sX11_shape_107, sX11_shape_108, sX11_shape_109, sX11_shape_110, sX11_shape_113, sX11_shape_115, sX11_shape_118, sX11_shape_119, sX11_shape_122, sX11_shape_123, sX11_shape_124, sX11_shape_125, sX11_shape_126, sX11_shape_129, sX11_shape_130, sX11_shape_131, kI_i, kL_l, kV_v, am_rv_s, am_kl_i, am_kl_r, am_kl_n, am_kl_l, true_and, and_true, and_self, true_or, or_true, implies_true, forall_const, not_true_eq_false, not_false_eq_true, false_implies, true_implies, if_true, if_false, Bool.true_eq_false, Bool.false_eq_true, ob_457, hM0, r_457_27, e1, th, c, bz_t, i01, c64_0, c64_5, m_isIn, in05, or_true, true_or, or_self, decide_true, decide_false, bz_f, r_457_31, r_457_32, r_457_33, r_457_34, r_457_35, r_457_36, in_467, in_468, in_469, in_470, in_471, in_472, nI_clamp, k0, k1, k2, k3, k4, k5, cd, z10, u9, c0, c1, c2, c3, c4, c5, sw0_4]
    · rw [if_neg u9] at k4
      have z2 : (unL S.1 (nI i) = -1) = False := by
        rcases un_cases hw (nI i) with ⟨a, b⟩ | ⟨k, a1, a2, a3, a4⟩
        · exact absurd a u9
        · obtain ⟨s, p, x, f1, f2, f3, b1, b2, b3, b4⟩ := WF_at hw a1
          rw [a4, f3]; exact nI_m1 (by omega)
      by_cases c0 : v = 0
      · have t := eq_true c0
        have n1 := vne (b := 1) c0 (by decide)
        have n2 := vne (b := 2) c0 (by decide)
        have n3 := vne (b := 3) c0 (by decide)
        have n4 := vne (b := 4) c0 (by decide)
        have n5 := vne (b := 5) c0 (by decide)
        simp (disch := (first | assumption | omega | decide)) only [sX11_shape_0, sX11_shape_1, sX11_shape_2, sX11_shape_5, sX11_shape_6, sX11_shape_7, sX11_shape_10, sX11_shape_13, sX11_shape_14, sX11_shape_15, sX11_shape_18, sX11_shape_21, sX11_shape_22, sX11_shape_23, sX11_shape_24, sX11_shape_27, sX11_shape_30, sX11_shape_33, sX11_shape_34, sX11_shape_35, sX11_shape_36, sX11_shape_72, sX11_shape_73, sX11_shape_76, sX11_shape_77, sX11_shape_78, sX11_shape_79, sX11_shape_80, sX11_shape_83, sX11_shape_84, sX11_shape_85, sX11_shape_86, sX11_shape_87, sX11_shape_90, sX11_shape_91, sX11_shape_92, sX11_shape_93, sX11_shape_94, sX11_shape_97, sX11_shape_98, sX11_shape_99, sX11_shape_101, sX11_shape_102, sX11_shape_103, sX11_shape_104, sX11_shape_107, sX11_shape_108, sX11_shape_109, sX11_shape_110, sX11_shape_113, sX11_shape_115, sX11_shape_118, sX11_shape_119, sX11_shape_122, sX11_shape_123, sX11_shape_124, sX11_shape_125, sX11_shape_126, sX11_shape_129, sX11_shape_130, sX11_shape_131, kI_i, kL_l, kV_v, am_rv_s, am_kl_i, am_kl_r, am_kl_n, am_kl_l, true_and, and_true, and_self, true_or, or_true, implies_true, forall_const, not_true_eq_false, not_false_eq_true, false_implies, true_implies, if_true, if_false, Bool.true_eq_false, Bool.false_eq_true, ob_457, hM0, r_457_27, e1, th, c, bz_t, i01, c64_0, c64_5, m_isIn, in05, or_true, true_or, or_self, decide_true, decide_false, bz_f, r_457_31, r_457_32, r_457_33, r_457_34, r_457_35, r_457_36, in_467, in_468, in_469, in_470, in_471, in_472, nI_clamp, k0, k1, k2, k3, k4, k5, cd, z10, z2, t, n1, n2, n3, n4, n5, sw0_4]
      · skip
        by_cases c1 : v = 1
        · have t := eq_true c1
          have n0 := vne (b := 0) c1 (by decide)
          have n2 := vne (b := 2) c1 (by decide)
          have n3 := vne (b := 3) c1 (by decide)
          have n4 := vne (b := 4) c1 (by decide)
          have n5 := vne (b := 5) c1 (by decide)
          simp (disch := (first | assumption | omega | decide)) only [sX11_shape_0, sX11_shape_1, sX11_shape_2, sX11_shape_5, sX11_shape_6, sX11_shape_7, sX11_shape_10, sX11_shape_13, sX11_shape_14, sX11_shape_15, sX11_shape_18, sX11_shape_21, sX11_shape_22, sX11_shape_23, sX11_shape_24, sX11_shape_27, sX11_shape_30, sX11_shape_33, sX11_shape_34, sX11_shape_35, sX11_shape_36, sX11_shape_72, sX11_shape_73, sX11_shape_76, sX11_shape_77, sX11_shape_78, sX11_shape_79, sX11_shape_80, sX11_shape_83, sX11_shape_84, sX11_shape_85, sX11_shape_86, sX11_shape_87, sX11_shape_90, sX11_shape_91, sX11_shape_92, sX11_shape_93, sX11_shape_94, sX11_shape_97, sX11_shape_98, sX11_shape_99, sX11_shape_101, sX11_shape_102, sX11_shape_103, sX11_shape_104, sX11_shape_107, sX11_shape_108, sX11_shape_109, sX11_shape_110, sX11_shape_113, sX11_shape_115, sX11_shape_118, sX11_shape_119, sX11_shape_122, sX11_shape_123, sX11_shape_124, sX11_shape_125, sX11_shape_126, sX11_shape_129, sX11_shape_130, sX11_shape_131, kI_i, kL_l, kV_v, am_rv_s, am_kl_i, am_kl_r, am_kl_n, am_kl_l, true_and, and_true, and_self, true_or, or_true, implies_true, forall_const, not_true_eq_false, not_false_eq_true, false_implies, true_implies, if_true, if_false, Bool.true_eq_false, Bool.false_eq_true, ob_457, hM0, r_457_27, e1, th, c, bz_t, i01, c64_0, c64_5, m_isIn, in05, or_true, true_or, or_self, decide_true, decide_false, bz_f, r_457_31, r_457_32, r_457_33, r_457_34, r_457_35, r_457_36, in_467, in_468, in_469, in_470, in_471, in_472, nI_clamp, k0, k1, k2, k3, k4, k5, cd, z10, z2, t, n0, n2, n3, n4, n5, sw0_4]
        · skip
          by_cases c2 : v = 2
          · have t := eq_true c2
            have n0 := vne (b := 0) c2 (by decide)
            have n1 := vne (b := 1) c2 (by decide)
            have n3 := vne (b := 3) c2 (by decide)
            have n4 := vne (b := 4) c2 (by decide)
            have n5 := vne (b := 5) c2 (by decide)
            simp (disch := (first | assumption | omega | decide)) only [sX11_shape_0, sX11_shape_1, sX11_shape_2, sX11_shape_5, sX11_shape_6, sX11_shape_7, sX11_shape_10, sX11_shape_13, sX11_shape_14, sX11_shape_15, sX11_shape_18, sX11_shape_21, sX11_shape_22, sX11_shape_23, sX11_shape_24, sX11_shape_27, sX11_shape_30, sX11_shape_33, sX11_shape_34, sX11_shape_35, sX11_shape_36, sX11_shape_72, sX11_shape_73, sX11_shape_76, sX11_shape_77, sX11_shape_78, sX11_shape_79, sX11_shape_80, sX11_shape_83, sX11_shape_84, sX11_shape_85, sX11_shape_86, sX11_shape_87, sX11_shape_90, sX11_shape_91, sX11_shape_92, sX11_shape_93, sX11_shape_94, sX11_shape_97, sX11_shape_98, sX11_shape_99, sX11_shape_101, sX11_shape_102, sX11_shape_103, sX11_shape_104, sX11_shape_107, sX11_shape_108, sX11_shape_109, sX11_shape_110, sX11_shape_113, sX11_shape_115, sX11_shape_118, sX11_shape_119, sX11_shape_122, sX11_shape_123, sX11_shape_124, sX11_shape_125, sX11_shape_126, sX11_shape_129, sX11_shape_130, sX11_shape_131, kI_i, kL_l, kV_v, am_rv_s, am_kl_i, am_kl_r, am_kl_n, am_kl_l, true_and, and_true, and_self, true_or, or_true, implies_true, forall_const, not_true_eq_false, not_false_eq_true, false_implies, true_implies, if_true, if_false, Bool.true_eq_false, Bool.false_eq_true, ob_457, hM0, r_457_27, e1, th, c, bz_t, i01, c64_0, c64_5, m_isIn, in05, or_true, true_or, or_self, decide_true, decide_false, bz_f, r_457_31, r_457_32, r_457_33, r_457_34, r_457_35, r_457_36, in_467, in_468, in_469, in_470, in_471, in_472, nI_clamp, k0, k1, k2, k3, k4, k5, cd, z10, z2, t, n0, n1, n3, n4, n5, sw0_4]
          · skip
            by_cases c3 : v = 3
            · have t := eq_true c3
              have n0 := vne (b := 0) c3 (by decide)
              have n1 := vne (b := 1) c3 (by decide)
              have n2 := vne (b := 2) c3 (by decide)
              have n4 := vne (b := 4) c3 (by decide)
              have n5 := vne (b := 5) c3 (by decide)
              simp (disch := (first | assumption | omega | decide)) only [sX11_shape_0, sX11_shape_1, sX11_shape_2, sX11_shape_5, sX11_shape_6, sX11_shape_7, sX11_shape_10, sX11_shape_13, sX11_shape_14, sX11_shape_15, sX11_shape_18, sX11_shape_21, sX11_shape_22, sX11_shape_23, sX11_shape_24, sX11_shape_27, sX11_shape_30, sX11_shape_33, sX11_shape_34, sX11_shape_35, sX11_shape_36, sX11_shape_72, sX11_shape_73, sX11_shape_76, sX11_shape_77, sX11_shape_78, sX11_shape_79, sX11_shape_80, sX11_shape_83, sX11_shape_84, sX11_shape_85, sX11_shape_86, sX11_shape_87, sX11_shape_90, sX11_shape_91, sX11_shape_92, sX11_shape_93, sX11_shape_94, sX11_shape_97, sX11_shape_98, sX11_shape_99, sX11_shape_101, sX11_shape_102, sX11_shape_103, sX11_shape_104, sX11_shape_107, sX11_shape_108, sX11_shape_109, sX11_shape_110, sX11_shape_113, sX11_shape_115, sX11_shape_118, sX11_shape_119, sX11_shape_122, sX11_shape_123, sX11_shape_124, sX11_shape_125, sX11_shape_126, sX11_shape_129, sX11_shape_130, sX11_shape_131, kI_i, kL_l, kV_v, am_rv_s, am_kl_i, am_kl_r, am_kl_n, am_kl_l, true_and, and_true, and_self, true_or, or_true, implies_true, forall_const, not_true_eq_false, not_false_eq_true, false_implies, true_implies, if_true, if_false, Bool.true_eq_false, Bool.false_eq_true, ob_457, hM0, r_457_27, e1, th, c, bz_t, i01, c64_0, c64_5, m_isIn, in05, or_true, true_or, or_self, decide_true, decide_false, bz_f, r_457_31, r_457_32, r_457_33, r_457_34, r_457_35, r_457_36, in_467, in_468, in_469, in_470, in_471, in_472, nI_clamp, k0, k1, k2, k3, k4, k5, cd, z10, z2, t, n0, n1, n2, n4, n5, sw0_4]
            · skip
              by_cases c4 : v = 4
              · have t := eq_true c4
                have n0 := vne (b := 0) c4 (by decide)
                have n1 := vne (b := 1) c4 (by decide)
                have n2 := vne (b := 2) c4 (by decide)
                have n3 := vne (b := 3) c4 (by decide)
                have n5 := vne (b := 5) c4 (by decide)
                simp (disch := (first | assumption | omega | decide)) only [sX11_shape_0, sX11_shape_1, sX11_shape_2, sX11_shape_5, sX11_shape_6, sX11_shape_7, sX11_shape_10, sX11_shape_13, sX11_shape_14, sX11_shape_15, sX11_shape_18, sX11_shape_21, sX11_shape_22, sX11_shape_23, sX11_shape_24, sX11_shape_27, sX11_shape_30, sX11_shape_33, sX11_shape_34, sX11_shape_35, sX11_shape_36, sX11_shape_72, sX11_shape_73, sX11_shape_76, sX11_shape_77, sX11_shape_78, sX11_shape_79, sX11_shape_80, sX11_shape_83, sX11_shape_84, sX11_shape_85, sX11_shape_86, sX11_shape_87, sX11_shape_90, sX11_shape_91, sX11_shape_92, sX11_shape_93, sX11_shape_94, sX11_shape_97, sX11_shape_98, sX11_shape_99, sX11_shape_101, sX11_shape_102, sX11_shape_103, sX11_shape_104, sX11_shape_107, sX11_shape_108, sX11_shape_109, sX11_shape_110, sX11_shape_113, sX11_shape_115, sX11_shape_118, sX11_shape_119, sX11_shape_122, sX11_shape_123, sX11_shape_124, sX11_shape_125, sX11_shape_126, sX11_shape_129, sX11_shape_130, sX11_shape_131, kI_i, kL_l, kV_v, am_rv_s, am_kl_i, am_kl_r, am_kl_n, am_kl_l, true_and, and_true, and_self, true_or, or_true, implies_true, forall_const, not_true_eq_false, not_false_eq_true, false_implies, true_implies, if_true, if_false, Bool.true_eq_false, Bool.false_eq_true, ob_457, hM0, r_457_27, e1, th, c, bz_t, i01, c64_0, c64_5, m_isIn, in05, or_true, true_or, or_self, decide_true, decide_false, bz_f, r_457_31, r_457_32, r_457_33, r_457_34, r_457_35, r_457_36, in_467, in_468, in_469, in_470, in_471, in_472, nI_clamp, k0, k1, k2, k3, k4, k5, cd, z10, z2, t, n0, n1, n2, n3, n5, sw0_4]
              · skip
                by_cases c5 : v = 5
                · have t := eq_true c5
                  have n0 := vne (b := 0) c5 (by decide)
                  have n1 := vne (b := 1) c5 (by decide)
                  have n2 := vne (b := 2) c5 (by decide)
                  have n3 := vne (b := 3) c5 (by decide)
                  have n4 := vne (b := 4) c5 (by decide)
                  simp (disch := (first | assumption | omega | decide)) only [sX11_shape_0, sX11_shape_1, sX11_shape_2, sX11_shape_5, sX11_shape_6, sX11_shape_7, sX11_shape_10, sX11_shape_13, sX11_shape_14, sX11_shape_15, sX11_shape_18, sX11_shape_21, sX11_shape_22, sX11_shape_23, sX11_shape_24, sX11_shape_27, sX11_shape_30, sX11_shape_33, sX11_shape_34, sX11_shape_35, sX11_shape_36, sX11_shape_72, sX11_shape_73, sX11_shape_76, sX11_shape_77, sX11_shape_78, sX11_shape_79, sX11_shape_80, sX11_shape_83, sX11_shape_84, sX11_shape_85, sX11_shape_86, sX11_shape_87, sX11_shape_90, sX11_shape_91, sX11_shape_92, sX11_shape_93, sX11_shape_94, sX11_shape_97, sX11_shape_98, sX11_shape_99, sX11_shape_101, sX11_shape_102, sX11_shape_103, sX11_shape_104, sX11_shape_107, sX11_shape_108, sX11_shape_109, sX11_shape_110, sX11_shape_113, sX11_shape_115, sX11_shape_118, sX11_shape_119, sX11_shape_122, sX11_shape_123, sX11_shape_124, sX11_shape_125, sX11_shape_126, sX11_shape_129, sX11_shape_130, sX11_shape_131, kI_i, kL_l, kV_v, am_rv_s, am_kl_i, am_kl_r, am_kl_n, am_kl_l, true_and, and_true, and_self, true_or, or_true, implies_true, forall_const, not_true_eq_false, not_false_eq_true, false_implies, true_implies, if_true, if_false, Bool.true_eq_false, Bool.false_eq_true, ob_457, hM0, r_457_27, e1, th, c, bz_t, i01, c64_0, c64_5, m_isIn, in05, or_true, true_or, or_self, decide_true, decide_false, bz_f, r_457_31, r_457_32, r_457_33, r_457_34, r_457_35, r_457_36, in_467, in_468, in_469, in_470, in_471, in_472, nI_clamp, k0, k1, k2, k3, k4, k5, cd, z10, z2, t, n0, n1, n2, n3, n4, sw0_4]
                · skip
                  simp (disch := (first | assumption | omega | decide)) only [sX11_shape_0, sX11_shape_1, sX11_shape_2, sX11_shape_5, sX11_shape_6, sX11_shape_7, sX11_shape_10, sX11_shape_13, sX11_shape_14, sX11_shape_15, sX11_shape_18, sX11_shape_21, sX11_shape_22, sX11_shape_23, sX11_shape_24, sX11_shape_27, sX11_shape_30, sX11_shape_33, sX11_shape_34, sX11_shape_35, sX11_shape_36, sX11_shape_72, sX11_shape_73, sX11_shape_76, sX11_shape_77, sX11_shape_78, sX11_shape_79, sX11_shape_80, sX11_shape_83, sX11_shape_84, sX11_shape_85, sX11_shape_86, sX11_shape_87, sX11_shape_90, sX11_shape_91, sX11_shape_92, sX11_shape_93, sX11_shape_94, sX11_shape_97, sX11_shape_98, sX11_shape_99, sX11_shape_101, sX11_shape_102, sX11_shape_103, sX11_shape_104, sX11_shape_107, sX11_shape_108, sX11_shape_109, sX11_shape_110, sX11_shape_113, sX11_shape_115, sX11_shape_118, sX11_shape_119, sX11_shape_122, sX11_shape_123, sX11_shape_124, sX11_shape_125, sX11_shape_126, sX11_shape_129, sX11_shape_130, sX11_shape_131, kI_i, kL_l, kV_v, am_rv_s, am_kl_i, am_kl_r, am_kl_n, am_kl_l, true_and, and_true, and_self, true_or, or_true, implies_true, forall_const, not_true_eq_false, not_false_eq_true, false_implies, true_implies, if_true, if_false, Bool.true_eq_false, Bool.false_eq_true, ob_457, hM0, r_457_27, e1, th, c, bz_t, i01, c64_0, c64_5, m_isIn, in05, or_true, true_or, or_self, decide_true, decide_false, bz_f, r_457_31, r_457_32, r_457_33, r_457_34, r_457_35, r_457_36, in_467, in_468, in_469, in_470, in_471, in_472, nI_clamp, k0, k1, k2, k3, k4, k5, cd, z10, z2, c0, c1, c2, c3, c4, c5, sw0_4]
end
