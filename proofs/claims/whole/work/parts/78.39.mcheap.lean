theorem lrs_b {l : List Dd} {p : Nat → Nat → Int32 → Int32} (hw : WFl l) (hp : pB2 p l.length) (hl : l.length ≤ 12) : ∀ k, k ≤ l.length → ∃ b, b < 6 ∧ (lrs l p k).2 = nI b
  | 0, _ => ⟨5, by omega, rfl⟩
  | k + 1, hk => by
    obtain ⟨h1, h2, h3, h4⟩ := lrs_ok hp hl k (by omega)
    obtain ⟨a, _, _⟩ := ldN_ok (b := (lrs l p k).2) hp hl (h4 (by omega))
    obtain ⟨so, _, _, q1, _, _, b1, _⟩ := WF_at hw a
    exact ⟨so, by omega, q1⟩
section
variable {M N : am_M} {ap lim n : Nat} {S : Sg} {P : List Sg} {l : List Dd} {d : Nat} {Q : am_Q} {LL : List (List Nat)} {h : Int32}
theorem TLm_c (hF : Fw XC M N) (hT : TLm M LL h S n) : TLm N LL h S n := fun s h1 h2 b hb => (hF.I (by unfold XC XC0 XG; omega)).trans (hT s h1 h2 b hb)
theorem lm_ch1 {s b : Nat} {a : Int32} (ht : S.2.2.2.1 ≤ 9999) (hw : WFl S.1) (hl : S.1.length ≤ 12) (hs : s < 2 ^ S.1.length - 1) (hb : b < 6) : ∀ (j k : Nat) (N : am_M), k + j = ldN S.1 (lpr LL h S) s (nI b) → LcM N ap LL h S → TLm N LL h S 0 → ∃ M', (∀ d (Q : am_Q), 32 ≤ d → ok d mX11_cheapest 488 Q 488 0 0 70 [some (.ref 457), some (.int a), some (.int (nI s)), some (.int (nI b)), some (.int (nI k)), some (.int (nI (pcN 12 s)))] [] N = ok d mX11_cheapest 488 Q 488 0 0 134 [some (.ref 457), some (.int a), some (.int (nI s)), some (.int (nI b)), some (.int (nI (ldN S.1 (lpr LL h S) s (nI b)))), some (.int (nI (pcN 12 s)))] [] M') ∧ LcM M' ap LL h S ∧ TLm M' LL h S 0 ∧ Fw XC N M' := by
  have pl : (2 : Nat) ^ S.1.length ≤ 4096 := Nat.le_trans (Nat.pow_le_pow_right (by omega) hl) (by omega)
  have hs' : s < 2 ^ S.1.length := by omega
  obtain ⟨l1, l2, l3⟩ := ldN_ok (b := nI b) (lpr_bd (LL := LL) (h := h) hw) hl hs
  generalize ldN S.1 (lpr LL h S) s (nI b) = t at *
  -- one place
  have one : ∀ (k : Nat) (N : am_M), k < S.1.length → LcM N ap LL h S → TLm N LL h S 0 → ∃ M', LcM M' ap LL h S ∧ TLm M' LL h S 0 ∧ Fw XC N M' ∧ ∀ d (Q : am_Q), 32 ≤ d → ok d mX11_cheapest 488 Q 488 0 0 70 [some (.ref 457), some (.int a), some (.int (nI s)), some (.int (nI b)), some (.int (nI k)), some (.int (nI (pcN 12 s)))] [] N = if lgo S.1 (lpr LL h S) s (nI b) k = true then ok d mX11_cheapest 488 Q 488 0 0 134 [some (.ref 457), some (.int a), some (.int (nI s)), some (.int (nI b)), some (.int (nI k)), some (.int (nI (pcN 12 s)))] [] M' else ok d mX11_cheapest 488 Q 488 0 0 70 [some (.ref 457), some (.int a), some (.int (nI s)), some (.int (nI b)), some (.int (nI (k + 1))), some (.int (nI (pcN 12 s)))] [] M' := by
    intro k N hkl g hT
    have hW1 := g.1
    have ga := g.2.2.2 k hkl
    have cl := fun d (Q : am_Q) => m_canLay (d := d) (Q := Q) (l := S.1) (s := s) (t := k) hW1 ga (by omega) (by omega)
    unfold lgo
    cases c : cf (drD S.1) s k with
    | false =>
      refine ⟨N, g, hT, Fw.rf, fun d Q hd => ?_⟩
      rw [Bool.false_and, if_neg (by decide), sX11_cheapest_70]
      obtain ⟨d', rfl⟩ : ∃ d', d = d' + 2 := ⟨d - 2, by omega⟩
      simp (disch := (first | assumption | omega | decide)) only [sX11_cheapest_0, sX11_cheapest_1, sX11_cheapest_2, sX11_cheapest_5, sX11_cheapest_6, sX11_cheapest_9, sX11_cheapest_12, sX11_cheapest_13, sX11_cheapest_14, sX11_cheapest_17, sX11_cheapest_18, sX11_cheapest_21, sX11_cheapest_23, sX11_cheapest_24, sX11_cheapest_25, sX11_cheapest_26, sX11_cheapest_27, sX11_cheapest_30, sX11_cheapest_33, sX11_cheapest_34, sX11_cheapest_35, sX11_cheapest_36, sX11_cheapest_39, sX11_cheapest_40, sX11_cheapest_41, sX11_cheapest_44, sX11_cheapest_45, sX11_cheapest_48, sX11_cheapest_49, sX11_cheapest_50, sX11_cheapest_51, sX11_cheapest_52, sX11_cheapest_53, sX11_cheapest_54, sX11_cheapest_55, sX11_cheapest_56, sX11_cheapest_58, sX11_cheapest_59, sX11_cheapest_63, sX11_cheapest_64, sX11_cheapest_67, sX11_cheapest_68, sX11_cheapest_71, sX11_cheapest_72, sX11_cheapest_74, sX11_cheapest_77, sX11_cheapest_80, sX11_cheapest_81, sX11_cheapest_83, sX11_cheapest_85, sX11_cheapest_86, sX11_cheapest_89, sX11_cheapest_90, sX11_cheapest_93, sX11_cheapest_95, sX11_cheapest_96, sX11_cheapest_97, sX11_cheapest_99, sX11_cheapest_100, sX11_cheapest_101, sX11_cheapest_102, sX11_cheapest_103, sX11_cheapest_106, sX11_cheapest_107, sX11_cheapest_109, sX11_cheapest_110, sX11_cheapest_111, sX11_cheapest_112, sX11_cheapest_113, sX11_cheapest_114, sX11_cheapest_115, sX11_cheapest_118, sX11_cheapest_120, sX11_cheapest_121, sX11_cheapest_122, sX11_cheapest_123, sX11_cheapest_124, sX11_cheapest_125, sX11_cheapest_128, sX11_cheapest_131, sX11_cheapest_135, sX11_cheapest_136, sX11_cheapest_138, sX11_cheapest_139, sX11_cheapest_140, sX11_cheapest_141, sX11_cheapest_142, sX11_cheapest_145, sX11_cheapest_146, sX11_cheapest_148, sX11_cheapest_149, sX11_cheapest_150, sX11_cheapest_151, sX11_cheapest_154, sX11_cheapest_157, sX11_cheapest_159, kI_i, kL_l, kV_v, am_rv_s, am_kl_i, am_kl_r, am_kl_n, am_kl_l, true_and, and_true, and_self, true_or, or_true, implies_true, forall_const, not_true_eq_false, not_false_eq_true, false_implies, true_implies, if_true, if_false, Bool.true_eq_false, Bool.false_eq_true, ob_457, cl, c, bz_f, nI_1]
    | true =>
      have o := or_gt hs' hkl (cf_f c).1
      have pc := pc_lt hs' hkl (cf_f c).1 hl
      obtain ⟨M2, e2, lb2, f2⟩ := m_costAt (n := pcN 12 s) (b := b) hW1 g.2.1 g.2.2.1 ht hw hkl (by omega) hb
      have eg : prc LL h (sf S.1 k) (pf S.1 k) (xf S.1 k) (nI (pcN 12 s)) (nI b) (nI S.2.2.2.1) = lpr LL h S k (pcN 12 s) (nI b) := rfl
      rw [eg] at e2
      have g2 := LcM_c f2 lb2 g
      have t2 := TLm_c f2 hT
      have hW2 := g2.1
      obtain ⟨so, p, x, q1, q2, q3, b1, b2, b3, _⟩ := WF_at hw hkl
      have u1 : gI M2 465 (3 * k) = nI so := by rw [(Pc_get g2.2.2.1.p hkl).1]; exact q1
      have gt : gI M2 484 (6 * (s ||| 2 ^ k) + so) = lsW S.1 (lpr LL h S) (s ||| 2 ^ k) (sf S.1 k) := by
        rw [q1]; exact t2 _ (by omega) o.2 so (by omega)
      have gt2 : gI M2 484 (6 * s + b) = lsW S.1 (lpr LL h S) s (nI b) := t2 _ (by omega) hs' b hb
      have c3 : (nI (3 * k)).toNatClampNeg = 3 * k := nI_clamp (by omega)
      have i3 := fun (M : am_M) => in_465 (M := M) (k := 3 * k) (by omega)
      have cx : (nI (6 * (s ||| 2 ^ k) + so)).toNatClampNeg = 6 * (s ||| 2 ^ k) + so := nI_clamp (by omega)
      have cy : (nI (6 * s + b)).toNatClampNeg = 6 * s + b := nI_clamp (by omega)
      have i8 := fun (M : am_M) => in_484 (M := M) (k := 6 * (s ||| 2 ^ k) + so) (by omega)
      have i9 := fun (M : am_M) => in_484 (M := M) (k := 6 * s + b) (by omega)
      have el : lct S.1 (lpr LL h S) s (nI b) k = lpr LL h S k (pcN 12 s) (nI b) + lsW S.1 (lpr LL h S) (s ||| 2 ^ k) (sf S.1 k) := rfl
      refine ⟨M2, g2, t2, f2, fun d Q hd => ?_⟩
      have e2' := fun (Q : am_Q) => e2 d Q hd
      rw [sX11_cheapest_70, Bool.true_and]
      obtain ⟨d', rfl⟩ : ∃ d', d = d' + 2 := ⟨d - 2, by omega⟩
      by_cases z : lct S.1 (lpr LL h S) s (nI b) k = lsW S.1 (lpr LL h S) s (nI b)
      · rw [if_pos (decide_eq_true z)]
        simp (disch := (first | assumption | omega | decide)) only [sX11_cheapest_0, sX11_cheapest_1, sX11_cheapest_2, sX11_cheapest_5, sX11_cheapest_6, sX11_cheapest_9, sX11_cheapest_12, sX11_cheapest_13, sX11_cheapest_14, sX11_cheapest_17, sX11_cheapest_18, sX11_cheapest_21, sX11_cheapest_23, sX11_cheapest_24, sX11_cheapest_25, sX11_cheapest_26, sX11_cheapest_27, sX11_cheapest_30, sX11_cheapest_33, sX11_cheapest_34, sX11_cheapest_35, sX11_cheapest_36, sX11_cheapest_39, sX11_cheapest_40, sX11_cheapest_41, sX11_cheapest_44, sX11_cheapest_45, sX11_cheapest_48, sX11_cheapest_49, sX11_cheapest_50, sX11_cheapest_51, sX11_cheapest_52, sX11_cheapest_53, sX11_cheapest_54, sX11_cheapest_55, sX11_cheapest_56, sX11_cheapest_58, sX11_cheapest_59, sX11_cheapest_63, sX11_cheapest_64, sX11_cheapest_67, sX11_cheapest_68, sX11_cheapest_71, sX11_cheapest_72, sX11_cheapest_74, sX11_cheapest_77, sX11_cheapest_80, sX11_cheapest_81, sX11_cheapest_83, sX11_cheapest_85, sX11_cheapest_86, sX11_cheapest_89, sX11_cheapest_90, sX11_cheapest_93, sX11_cheapest_95, sX11_cheapest_96, sX11_cheapest_97, sX11_cheapest_99, sX11_cheapest_100, sX11_cheapest_101, sX11_cheapest_102, sX11_cheapest_103, sX11_cheapest_106, sX11_cheapest_107, sX11_cheapest_109, sX11_cheapest_110, sX11_cheapest_111, sX11_cheapest_112, sX11_cheapest_113, sX11_cheapest_114, sX11_cheapest_115, sX11_cheapest_118, sX11_cheapest_120, sX11_cheapest_121, sX11_cheapest_122, sX11_cheapest_123, sX11_cheapest_124, sX11_cheapest_125, sX11_cheapest_128, sX11_cheapest_131, sX11_cheapest_135, sX11_cheapest_136, sX11_cheapest_138, sX11_cheapest_139, sX11_cheapest_140, sX11_cheapest_141, sX11_cheapest_142, sX11_cheapest_145, sX11_cheapest_146, sX11_cheapest_148, sX11_cheapest_149, sX11_cheapest_150, sX11_cheapest_151, sX11_cheapest_154, sX11_cheapest_157, sX11_cheapest_159, kI_i, kL_l, kV_v, am_rv_s, am_kl_i, am_kl_r, am_kl_n, am_kl_l, true_and, and_true, and_self, true_or, or_true, implies_true, forall_const, not_true_eq_false, not_false_eq_true, false_implies, true_implies, if_true, if_false, Bool.true_eq_false, Bool.false_eq_true, ob_457, cl, c, bz_t, i01, e2', r_457_27, r_457_50, shl1 k (by omega), nI_or, nI_m6, nI_m3, i3, c3, u1, nI_add, i8, i9, cx, cy, gt, gt2, ← el, z]
      · rw [if_neg (by rw [decide_eq_false z]; decide)]
        simp (disch := (first | assumption | omega | decide)) only [sX11_cheapest_0, sX11_cheapest_1, sX11_cheapest_2, sX11_cheapest_5, sX11_cheapest_6, sX11_cheapest_9, sX11_cheapest_12, sX11_cheapest_13, sX11_cheapest_14, sX11_cheapest_17, sX11_cheapest_18, sX11_cheapest_21, sX11_cheapest_23, sX11_cheapest_24, sX11_cheapest_25, sX11_cheapest_26, sX11_cheapest_27, sX11_cheapest_30, sX11_cheapest_33, sX11_cheapest_34, sX11_cheapest_35, sX11_cheapest_36, sX11_cheapest_39, sX11_cheapest_40, sX11_cheapest_41, sX11_cheapest_44, sX11_cheapest_45, sX11_cheapest_48, sX11_cheapest_49, sX11_cheapest_50, sX11_cheapest_51, sX11_cheapest_52, sX11_cheapest_53, sX11_cheapest_54, sX11_cheapest_55, sX11_cheapest_56, sX11_cheapest_58, sX11_cheapest_59, sX11_cheapest_63, sX11_cheapest_64, sX11_cheapest_67, sX11_cheapest_68, sX11_cheapest_71, sX11_cheapest_72, sX11_cheapest_74, sX11_cheapest_77, sX11_cheapest_80, sX11_cheapest_81, sX11_cheapest_83, sX11_cheapest_85, sX11_cheapest_86, sX11_cheapest_89, sX11_cheapest_90, sX11_cheapest_93, sX11_cheapest_95, sX11_cheapest_96, sX11_cheapest_97, sX11_cheapest_99, sX11_cheapest_100, sX11_cheapest_101, sX11_cheapest_102, sX11_cheapest_103, sX11_cheapest_106, sX11_cheapest_107, sX11_cheapest_109, sX11_cheapest_110, sX11_cheapest_111, sX11_cheapest_112, sX11_cheapest_113, sX11_cheapest_114, sX11_cheapest_115, sX11_cheapest_118, sX11_cheapest_120, sX11_cheapest_121, sX11_cheapest_122, sX11_cheapest_123, sX11_cheapest_124, sX11_cheapest_125, sX11_cheapest_128, sX11_cheapest_131, sX11_cheapest_135, sX11_cheapest_136, sX11_cheapest_138, sX11_cheapest_139, sX11_cheapest_140, sX11_cheapest_141, sX11_cheapest_142, sX11_cheapest_145, sX11_cheapest_146, sX11_cheapest_148, sX11_cheapest_149, sX11_cheapest_150, sX11_cheapest_151, sX11_cheapest_154, sX11_cheapest_157, sX11_cheapest_159, kI_i, kL_l, kV_v, am_rv_s, am_kl_i, am_kl_r, am_kl_n, am_kl_l, true_and, and_true, and_self, true_or, or_true, implies_true, forall_const, not_true_eq_false, not_false_eq_true, false_implies, true_implies, if_true, if_false, Bool.true_eq_false, Bool.false_eq_true, ob_457, cl, c, bz_t, i01, e2', r_457_27, r_457_50, shl1 k (by omega), nI_or, nI_m6, nI_m3, i3, c3, u1, nI_add, i8, i9, cx, cy, gt, gt2, ← el, z, nI_1]
  intro j
  induction j with
  | zero =>
    intro k N hk g hT
    rw [Nat.add_zero] at hk
    subst hk
    obtain ⟨M', g', t', f', e⟩ := one k N l1 g hT
    refine ⟨M', fun d Q hd => ?_, g', t', f'⟩
    rw [e d Q hd, if_pos l2]
  | succ j ih =>
    intro k N hk g hT
    obtain ⟨M1, g1, t1, f1, e⟩ := one k N (by omega) g hT
    obtain ⟨M', e2, g2, t2, f2⟩ := ih (k + 1) M1 (by omega) g1 t1
    refine ⟨M', fun d Q hd => ?_, g2, t2, f1.tr f2⟩
    rw [e d Q hd, if_neg (by rw [l3 k (by omega)]; decide), e2 d Q hd]
theorem lm_ch2 {a : Nat} (ht : S.2.2.2.1 ≤ 9999) (hw : WFl S.1) (hl : S.1.length ≤ 12) (ha : a < S.1.length) (g : LcM N ap LL h S) (hT : TLm N LL h S 0) : ∀ k, k ≤ a + 1 → ∃ M' l4', (∀ d (Q : am_Q), 32 ≤ d → ok d mX11_cheapest 488 Q 488 0 0 61 [some (.ref 457), some (.int (nI a)), some (.int 0), some (.int 5), some (.int (-1)), some (.int 0)] [] N = ok d mX11_cheapest 488 Q 488 0 0 61 [some (.ref 457), some (.int (nI a)), some (.int (nI (lrs S.1 (lpr LL h S) k).1)), some (.int (lrs S.1 (lpr LL h S) k).2), some (.int l4'), some (.int (nI k))] [] M') ∧ (0 < k → l4' = nI (ldd S.1 (lpr LL h S) (k - 1))) ∧ LcM M' ap LL h S ∧ TLm M' LL h S 0 ∧ Fw XC N M' := by
  have pl : (2 : Nat) ^ S.1.length ≤ 4096 := Nat.le_trans (Nat.pow_le_pow_right (by omega) hl) (by omega)
  have hp := lpr_bd (LL := LL) (h := h) hw
  intro k
  induction k with
  | zero => exact fun _ => ⟨N, -1, fun d Q _ => rfl, fun z => by omega, g, hT, Fw.rf⟩
  | succ k ih =>
    intro hk
    obtain ⟨M1, l4', e1, _, g1, t1, f1⟩ := ih (by omega)
    obtain ⟨h1, h2, h3, h4⟩ := lrs_ok hp hl k (by omega)
    obtain ⟨b, hb, eb⟩ := lrs_b hw hp hl k (by omega)
    have es : lrs S.1 (lpr LL h S) (k + 1) = ((lrs S.1 (lpr LL h S) k).1 ||| 2 ^ ldN S.1 (lpr LL h S) (lrs S.1 (lpr LL h S) k).1 (lrs S.1 (lpr LL h S) k).2, sf S.1 (ldN S.1 (lpr LL h S) (lrs S.1 (lpr LL h S) k).1 (lrs S.1 (lpr LL h S) k).2)) := rfl
    have ed : ldd S.1 (lpr LL h S) (k + 1 - 1) = ldN S.1 (lpr LL h S) (lrs S.1 (lpr LL h S) k).1 (lrs S.1 (lpr LL h S) k).2 := rfl
    rw [es, ed]
    obtain ⟨M2, e2, g2, t2, f2⟩ := lm_ch1 (a := nI a) ht hw hl (h4 (by omega)) hb (ldN S.1 (lpr LL h S) (lrs S.1 (lpr LL h S) k).1 (nI b)) 0 M1 (by omega) g1 t1
    obtain ⟨x1, x2, x3⟩ := ldN_ok (b := nI b) hp hl (h4 (by omega))
    rw [eb] at e1 ⊢
    generalize hd : ldN S.1 (lpr LL h S) (lrs S.1 (lpr LL h S) k).1 (nI b) = t at *
    generalize hS : (lrs S.1 (lpr LL h S) k).1 = s at *
    rw [h2] at e2
    have hW2 := g2.1
    have e0 : (nI a < nI k) = False := by rw [nI_ltE (by omega) (by omega)]; exact eq_false (by omega)
    have c3 : (nI (3 * t)).toNatClampNeg = 3 * t := nI_clamp (by omega)
    have i3 := fun (M : am_M) => in_465 (M := M) (k := 3 * t) (by omega)
    have u1 := (Pc_get g2.2.2.1.p x1).1
    refine ⟨M2, nI t, fun d Q hd => ?_, fun _ => rfl, g2, t2, f1.tr f2⟩
    have e2' : ok d mX11_cheapest 488 Q 488 0 0 70 [some (.ref 457), some (.int (nI a)), some (.int (nI s)), some (.int (nI b)), some (.int 0), some (.int (nI k))] [] M1 = _ := e2 d Q hd
    rw [e1 d Q hd, sX11_cheapest_61]
    simp (disch := (first | assumption | omega | decide)) only [sX11_cheapest_0, sX11_cheapest_1, sX11_cheapest_2, sX11_cheapest_5, sX11_cheapest_6, sX11_cheapest_9, sX11_cheapest_12, sX11_cheapest_13, sX11_cheapest_14, sX11_cheapest_17, sX11_cheapest_18, sX11_cheapest_21, sX11_cheapest_23, sX11_cheapest_24, sX11_cheapest_25, sX11_cheapest_26, sX11_cheapest_27, sX11_cheapest_30, sX11_cheapest_33, sX11_cheapest_34, sX11_cheapest_35, sX11_cheapest_36, sX11_cheapest_39, sX11_cheapest_40, sX11_cheapest_41, sX11_cheapest_44, sX11_cheapest_45, sX11_cheapest_48, sX11_cheapest_49, sX11_cheapest_50, sX11_cheapest_51, sX11_cheapest_52, sX11_cheapest_53, sX11_cheapest_54, sX11_cheapest_55, sX11_cheapest_56, sX11_cheapest_58, sX11_cheapest_59, sX11_cheapest_63, sX11_cheapest_64, sX11_cheapest_67, sX11_cheapest_68, sX11_cheapest_71, sX11_cheapest_72, sX11_cheapest_74, sX11_cheapest_77, sX11_cheapest_80, sX11_cheapest_81, sX11_cheapest_83, sX11_cheapest_85, sX11_cheapest_86, sX11_cheapest_89, sX11_cheapest_90, sX11_cheapest_93, sX11_cheapest_95, sX11_cheapest_96, sX11_cheapest_97, sX11_cheapest_99, sX11_cheapest_100, sX11_cheapest_101, sX11_cheapest_102, sX11_cheapest_103, sX11_cheapest_106, sX11_cheapest_107, sX11_cheapest_109, sX11_cheapest_110, sX11_cheapest_111, sX11_cheapest_112, sX11_cheapest_113, sX11_cheapest_114, sX11_cheapest_115, sX11_cheapest_118, sX11_cheapest_120, sX11_cheapest_121, sX11_cheapest_122, sX11_cheapest_123, sX11_cheapest_124, sX11_cheapest_125, sX11_cheapest_128, sX11_cheapest_131, sX11_cheapest_135, sX11_cheapest_136, sX11_cheapest_138, sX11_cheapest_139, sX11_cheapest_140, sX11_cheapest_141, sX11_cheapest_142, sX11_cheapest_145, sX11_cheapest_146, sX11_cheapest_148, sX11_cheapest_149, sX11_cheapest_150, sX11_cheapest_151, sX11_cheapest_154, sX11_cheapest_157, sX11_cheapest_159, kI_i, kL_l, kV_v, am_rv_s, am_kl_i, am_kl_r, am_kl_n, am_kl_l, true_and, and_true, and_self, true_or, or_true, implies_true, forall_const, not_true_eq_false, not_false_eq_true, false_implies, true_implies, if_true, if_false, Bool.true_eq_false, Bool.false_eq_true, e0, e2']
    simp (disch := (first | assumption | omega | decide)) only [sX11_cheapest_0, sX11_cheapest_1, sX11_cheapest_2, sX11_cheapest_5, sX11_cheapest_6, sX11_cheapest_9, sX11_cheapest_12, sX11_cheapest_13, sX11_cheapest_14, sX11_cheapest_17, sX11_cheapest_18, sX11_cheapest_21, sX11_cheapest_23, sX11_cheapest_24, sX11_cheapest_25, sX11_cheapest_26, sX11_cheapest_27, sX11_cheapest_30, sX11_cheapest_33, sX11_cheapest_34, sX11_cheapest_35, sX11_cheapest_36, sX11_cheapest_39, sX11_cheapest_40, sX11_cheapest_41, sX11_cheapest_44, sX11_cheapest_45, sX11_cheapest_48, sX11_cheapest_49, sX11_cheapest_50, sX11_cheapest_51, sX11_cheapest_52, sX11_cheapest_53, sX11_cheapest_54, sX11_cheapest_55, sX11_cheapest_56, sX11_cheapest_58, sX11_cheapest_59, sX11_cheapest_63, sX11_cheapest_64, sX11_cheapest_67, sX11_cheapest_68, sX11_cheapest_71, sX11_cheapest_72, sX11_cheapest_74, sX11_cheapest_77, sX11_cheapest_80, sX11_cheapest_81, sX11_cheapest_83, sX11_cheapest_85, sX11_cheapest_86, sX11_cheapest_89, sX11_cheapest_90, sX11_cheapest_93, sX11_cheapest_95, sX11_cheapest_96, sX11_cheapest_97, sX11_cheapest_99, sX11_cheapest_100, sX11_cheapest_101, sX11_cheapest_102, sX11_cheapest_103, sX11_cheapest_106, sX11_cheapest_107, sX11_cheapest_109, sX11_cheapest_110, sX11_cheapest_111, sX11_cheapest_112, sX11_cheapest_113, sX11_cheapest_114, sX11_cheapest_115, sX11_cheapest_118, sX11_cheapest_120, sX11_cheapest_121, sX11_cheapest_122, sX11_cheapest_123, sX11_cheapest_124, sX11_cheapest_125, sX11_cheapest_128, sX11_cheapest_131, sX11_cheapest_134, sX11_cheapest_135, sX11_cheapest_136, sX11_cheapest_138, sX11_cheapest_139, sX11_cheapest_140, sX11_cheapest_141, sX11_cheapest_142, sX11_cheapest_145, sX11_cheapest_146, sX11_cheapest_148, sX11_cheapest_149, sX11_cheapest_150, sX11_cheapest_151, sX11_cheapest_154, sX11_cheapest_157, sX11_cheapest_159, kI_i, kL_l, kV_v, am_rv_s, am_kl_i, am_kl_r, am_kl_n, am_kl_l, true_and, and_true, and_self, true_or, or_true, implies_true, forall_const, not_true_eq_false, not_false_eq_true, false_implies, true_implies, if_true, if_false, Bool.true_eq_false, Bool.false_eq_true, ob_457, shl1 t (by omega), nI_or, r_457_27, nI_m3, i3, c3, u1, nI_1]
def XMc (c j : Nat) : Prop := XCL c j ∨ XN c j ∨ (c = 457 ∧ j = 0)
theorem m_cheapest {a : Int32} (hr : RS M ap lim S P) (hb : LbM M LL h) : ∃ M', (∀ d (Q : am_Q), 34 ≤ d → am_big d mX11_cheapest [.ref 457, .int a] 488 M Q = Q (some (.int (cheapA ap LL h S a))) M') ∧ LbM M' LL h ∧ Fw XMc M M' := by
  have f0 : Fw XMc M (sI M 457 0 0) := Fw.s (Or.inr (Or.inr ⟨rfl, rfl⟩))
  have hb0 : LbM (sI M 457 0 0) LL h := LbM_Fw (X := fun c j => c = 457 ∧ j = 0) (Fw.s ⟨rfl, rfl⟩) (fun c j hc => by omega) hb
  have hr0 := RS_th hr
  generalize hM0 : sI M 457 0 0 = M0 at *
  obtain ⟨hW, hS, hPa, hf, hm, hw, hlim, ht⟩ := id hr0
  have hap := hS.2.2.2.2.1.2.2
  have hl := hS.1
  have ol := opn_0 hap
  have pp : 0 < (2 : Nat) ^ S.1.length := Nat.pow_pos (by omega)
  have g36 : gI M0 465 36 = nI S.1.length := by have := hS.2.1; rwa [Nat.zero_add] at this
  have i36 := fun (M : am_M) => in_465 (M := M) (k := 36) (by omega)
  -- the bounds: from -1 to the last deed
  have ei : (decide (-1 ≤ a) && decide (a ≤ nI S.1.length - 1)) = decide (a = -1 ∨ (0 ≤ a ∧ a < nI S.1.length)) := by
    have t1 : (-1 : Int32).toInt = -1 := by decide
    have t0 : (0 : Int32).toInt = 0 := by decide
    have tn : (nI S.1.length).toInt = S.1.length := nI_toInt (by omega)
    have tm : (nI S.1.length - 1).toInt = (S.1.length : Int) - 1 := by
      rw [Int32.toInt_sub, tn, show (1 : Int32).toInt = 1 from by decide, Int.bmod_eq_of_le (by omega) (by omega)]
    rw [Bool.eq_iff_iff, Bool.and_eq_true, decide_eq_true_eq, decide_eq_true_eq, decide_eq_true_eq, i32e, Int32.le_iff_toInt_le, Int32.le_iff_toInt_le, Int32.le_iff_toInt_le, Int32.lt_iff_toInt_lt, t1, t0, tn, tm]
    omega
  unfold cheapA
  cases c1 : opn ap with
  | false =>
    refine ⟨M0, fun d Q hd => ?_, hb0, f0⟩
    obtain ⟨d', rfl⟩ : ∃ d', d = d' + 2 := ⟨d - 2, by omega⟩
    rw [if_neg (fun z => by cases z.1), eX11_cheapest]
    simp (disch := (first | assumption | omega | decide)) only [sX11_cheapest_0, sX11_cheapest_1, sX11_cheapest_2, sX11_cheapest_5, sX11_cheapest_6, sX11_cheapest_9, sX11_cheapest_12, sX11_cheapest_13, sX11_cheapest_14, sX11_cheapest_17, sX11_cheapest_18, sX11_cheapest_21, sX11_cheapest_23, sX11_cheapest_24, sX11_cheapest_25, sX11_cheapest_26, sX11_cheapest_27, sX11_cheapest_30, sX11_cheapest_33, sX11_cheapest_34, sX11_cheapest_35, sX11_cheapest_36, sX11_cheapest_39, sX11_cheapest_40, sX11_cheapest_41, sX11_cheapest_44, sX11_cheapest_45, sX11_cheapest_48, sX11_cheapest_49, sX11_cheapest_50, sX11_cheapest_51, sX11_cheapest_52, sX11_cheapest_53, sX11_cheapest_54, sX11_cheapest_55, sX11_cheapest_56, sX11_cheapest_58, sX11_cheapest_59, sX11_cheapest_63, sX11_cheapest_64, sX11_cheapest_67, sX11_cheapest_68, sX11_cheapest_71, sX11_cheapest_72, sX11_cheapest_74, sX11_cheapest_77, sX11_cheapest_80, sX11_cheapest_81, sX11_cheapest_83, sX11_cheapest_85, sX11_cheapest_86, sX11_cheapest_89, sX11_cheapest_90, sX11_cheapest_93, sX11_cheapest_95, sX11_cheapest_96, sX11_cheapest_97, sX11_cheapest_99, sX11_cheapest_100, sX11_cheapest_101, sX11_cheapest_102, sX11_cheapest_103, sX11_cheapest_106, sX11_cheapest_107, sX11_cheapest_109, sX11_cheapest_110, sX11_cheapest_111, sX11_cheapest_112, sX11_cheapest_113, sX11_cheapest_114, sX11_cheapest_115, sX11_cheapest_118, sX11_cheapest_120, sX11_cheapest_121, sX11_cheapest_122, sX11_cheapest_123, sX11_cheapest_124, sX11_cheapest_125, sX11_cheapest_128, sX11_cheapest_131, sX11_cheapest_134, sX11_cheapest_135, sX11_cheapest_136, sX11_cheapest_138, sX11_cheapest_139, sX11_cheapest_140, sX11_cheapest_141, sX11_cheapest_142, sX11_cheapest_145, sX11_cheapest_146, sX11_cheapest_148, sX11_cheapest_149, sX11_cheapest_150, sX11_cheapest_151, sX11_cheapest_154, sX11_cheapest_157, sX11_cheapest_159, kI_i, kL_l, kV_v, am_rv_s, am_kl_i, am_kl_r, am_kl_n, am_kl_l, true_and, and_true, and_self, true_or, or_true, implies_true, forall_const, not_true_eq_false, not_false_eq_true, false_implies, true_implies, if_true, if_false, Bool.true_eq_false, Bool.false_eq_true, ob_457, hM0, hf, ol, c1]
  | true =>
    by_cases c3 : a = -1 ∨ (0 ≤ a ∧ a < nI S.1.length)
    · rw [decide_eq_true c3] at ei
      obtain ⟨M1, e1, g1, t1, f1⟩ := m_laysCosts hr0 hb0
      have hW1 := g1.1
      have fM : Fw XMc M M1 := f0.tr (f1.mo (fun c j z => z.elim Or.inl (fun z => Or.inr (Or.inl z))))
      rw [if_pos ⟨rfl, c3⟩]
      by_cases ca : a = -1
      · subst ca
        rw [if_pos rfl]
        refine ⟨M1, fun d Q hd => ?_, g1.2.1, fM⟩
        obtain ⟨d', rfl⟩ : ∃ d', d = d' + 2 := ⟨d - 2, by omega⟩
        have e1' := fun (Q : am_Q) => e1 (d' + 1) Q (by omega)
        have g5 : gI M1 484 5 = lsW S.1 (lpr LL h S) 0 (nI 5) := t1 0 (by omega) pp 5 (by omega)
        have i5 : ∀ {M : am_M}, am_in 488 M 484 1 5 = True := in_484 (k := 5) (by omega)
        have c5 : (5 : Int32).toNatClampNeg = 5 := rfl
        rw [eX11_cheapest]
        simp (disch := (first | assumption | omega | decide)) only [sX11_cheapest_0, sX11_cheapest_1, sX11_cheapest_2, sX11_cheapest_5, sX11_cheapest_6, sX11_cheapest_9, sX11_cheapest_12, sX11_cheapest_13, sX11_cheapest_14, sX11_cheapest_17, sX11_cheapest_18, sX11_cheapest_21, sX11_cheapest_23, sX11_cheapest_24, sX11_cheapest_25, sX11_cheapest_26, sX11_cheapest_27, sX11_cheapest_30, sX11_cheapest_33, sX11_cheapest_34, sX11_cheapest_35, sX11_cheapest_36, sX11_cheapest_39, sX11_cheapest_40, sX11_cheapest_41, sX11_cheapest_44, sX11_cheapest_45, sX11_cheapest_48, sX11_cheapest_49, sX11_cheapest_50, sX11_cheapest_51, sX11_cheapest_52, sX11_cheapest_53, sX11_cheapest_54, sX11_cheapest_55, sX11_cheapest_56, sX11_cheapest_58, sX11_cheapest_59, sX11_cheapest_63, sX11_cheapest_64, sX11_cheapest_67, sX11_cheapest_68, sX11_cheapest_71, sX11_cheapest_72, sX11_cheapest_74, sX11_cheapest_77, sX11_cheapest_80, sX11_cheapest_81, sX11_cheapest_83, sX11_cheapest_85, sX11_cheapest_86, sX11_cheapest_89, sX11_cheapest_90, sX11_cheapest_93, sX11_cheapest_95, sX11_cheapest_96, sX11_cheapest_97, sX11_cheapest_99, sX11_cheapest_100, sX11_cheapest_101, sX11_cheapest_102, sX11_cheapest_103, sX11_cheapest_106, sX11_cheapest_107, sX11_cheapest_109, sX11_cheapest_110, sX11_cheapest_111, sX11_cheapest_112, sX11_cheapest_113, sX11_cheapest_114, sX11_cheapest_115, sX11_cheapest_118, sX11_cheapest_120, sX11_cheapest_121, sX11_cheapest_122, sX11_cheapest_123, sX11_cheapest_124, sX11_cheapest_125, sX11_cheapest_128, sX11_cheapest_131, sX11_cheapest_134, sX11_cheapest_135, sX11_cheapest_136, sX11_cheapest_138, sX11_cheapest_139, sX11_cheapest_140, sX11_cheapest_141, sX11_cheapest_142, sX11_cheapest_145, sX11_cheapest_146, sX11_cheapest_148, sX11_cheapest_149, sX11_cheapest_150, sX11_cheapest_151, sX11_cheapest_154, sX11_cheapest_157, sX11_cheapest_159, kI_i, kL_l, kV_v, am_rv_s, am_kl_i, am_kl_r, am_kl_n, am_kl_l, true_and, and_true, and_self, true_or, or_true, implies_true, forall_const, not_true_eq_false, not_false_eq_true, false_implies, true_implies, if_true, if_false, Bool.true_eq_false, Bool.false_eq_true, ob_457, hM0, hf, ol, c1, r_457_27, n36, i36, nI_clamp (show 36 < 2147483648 by omega), g36, c64_m1, m_isIn, ei, bz_t, i01, e1', r_457_50, i5, c5, g5]
      · rw [if_neg ca]
        have c4 : 0 ≤ a ∧ a < nI S.1.length := c3.resolve_left ca
        obtain ⟨e, he, rfl⟩ := deed_x (by omega) c4
        obtain ⟨M2, l4', e2, l4, g2, t2, f2⟩ := lm_ch2 ht hw hl he g1 t1 (e + 1) (Nat.le_refl _)
        have l4 := l4 (by omega)
        rw [Nat.add_sub_cancel] at l4
        subst l4
        refine ⟨M2, fun d Q hd => ?_, g2.2.1, fM.tr (f2.mo (fun c j z => Or.inl (Or.inl z)))⟩
        obtain ⟨d', rfl⟩ : ∃ d', d = d' + 2 := ⟨d - 2, by omega⟩
        have e1' := fun (Q : am_Q) => e1 (d' + 1) Q (by omega)
        have e2' := e2 (d' + 1) Q (by omega)
        have lt : (nI e < nI (e + 1)) = True := by rw [nI_ltE (by omega) (by omega)]; exact eq_true (by omega)
        rw [nI_clamp (by omega), eX11_cheapest]
        simp (disch := (first | assumption | omega | decide)) only [sX11_cheapest_0, sX11_cheapest_1, sX11_cheapest_2, sX11_cheapest_5, sX11_cheapest_6, sX11_cheapest_9, sX11_cheapest_12, sX11_cheapest_13, sX11_cheapest_14, sX11_cheapest_17, sX11_cheapest_18, sX11_cheapest_21, sX11_cheapest_23, sX11_cheapest_24, sX11_cheapest_25, sX11_cheapest_26, sX11_cheapest_27, sX11_cheapest_30, sX11_cheapest_33, sX11_cheapest_34, sX11_cheapest_35, sX11_cheapest_36, sX11_cheapest_39, sX11_cheapest_40, sX11_cheapest_41, sX11_cheapest_44, sX11_cheapest_45, sX11_cheapest_48, sX11_cheapest_49, sX11_cheapest_50, sX11_cheapest_51, sX11_cheapest_52, sX11_cheapest_53, sX11_cheapest_54, sX11_cheapest_55, sX11_cheapest_56, sX11_cheapest_58, sX11_cheapest_59, sX11_cheapest_63, sX11_cheapest_64, sX11_cheapest_67, sX11_cheapest_68, sX11_cheapest_71, sX11_cheapest_72, sX11_cheapest_74, sX11_cheapest_77, sX11_cheapest_80, sX11_cheapest_81, sX11_cheapest_83, sX11_cheapest_85, sX11_cheapest_86, sX11_cheapest_89, sX11_cheapest_90, sX11_cheapest_93, sX11_cheapest_95, sX11_cheapest_96, sX11_cheapest_97, sX11_cheapest_99, sX11_cheapest_100, sX11_cheapest_101, sX11_cheapest_102, sX11_cheapest_103, sX11_cheapest_106, sX11_cheapest_107, sX11_cheapest_109, sX11_cheapest_110, sX11_cheapest_111, sX11_cheapest_112, sX11_cheapest_113, sX11_cheapest_114, sX11_cheapest_115, sX11_cheapest_118, sX11_cheapest_120, sX11_cheapest_121, sX11_cheapest_122, sX11_cheapest_123, sX11_cheapest_124, sX11_cheapest_125, sX11_cheapest_128, sX11_cheapest_131, sX11_cheapest_134, sX11_cheapest_135, sX11_cheapest_136, sX11_cheapest_138, sX11_cheapest_139, sX11_cheapest_140, sX11_cheapest_141, sX11_cheapest_142, sX11_cheapest_145, sX11_cheapest_146, sX11_cheapest_148, sX11_cheapest_149, sX11_cheapest_150, sX11_cheapest_151, sX11_cheapest_154, sX11_cheapest_157, sX11_cheapest_159, kI_i, kL_l, kV_v, am_rv_s, am_kl_i, am_kl_r, am_kl_n, am_kl_l, true_and, and_true, and_self, true_or, or_true, implies_true, forall_const, not_true_eq_false, not_false_eq_true, false_implies, true_implies, if_true, if_false, Bool.true_eq_false, Bool.false_eq_true, ob_457, hM0, hf, ol, c1, r_457_27, n36, i36, nI_clamp (show 36 < 2147483648 by omega), g36, c64_m1, m_isIn, ei, bz_t, i01, e1', ca, e2']
        rw [sX11_cheapest_61]
        simp (disch := (first | assumption | omega | decide)) only [sX11_cheapest_0, sX11_cheapest_1, sX11_cheapest_2, sX11_cheapest_5, sX11_cheapest_6, sX11_cheapest_9, sX11_cheapest_12, sX11_cheapest_13, sX11_cheapest_14, sX11_cheapest_17, sX11_cheapest_18, sX11_cheapest_21, sX11_cheapest_23, sX11_cheapest_24, sX11_cheapest_25, sX11_cheapest_26, sX11_cheapest_27, sX11_cheapest_30, sX11_cheapest_33, sX11_cheapest_34, sX11_cheapest_35, sX11_cheapest_36, sX11_cheapest_39, sX11_cheapest_40, sX11_cheapest_41, sX11_cheapest_44, sX11_cheapest_45, sX11_cheapest_48, sX11_cheapest_49, sX11_cheapest_50, sX11_cheapest_51, sX11_cheapest_52, sX11_cheapest_53, sX11_cheapest_54, sX11_cheapest_55, sX11_cheapest_56, sX11_cheapest_58, sX11_cheapest_59, sX11_cheapest_63, sX11_cheapest_64, sX11_cheapest_67, sX11_cheapest_68, sX11_cheapest_71, sX11_cheapest_72, sX11_cheapest_74, sX11_cheapest_77, sX11_cheapest_80, sX11_cheapest_81, sX11_cheapest_83, sX11_cheapest_85, sX11_cheapest_86, sX11_cheapest_89, sX11_cheapest_90, sX11_cheapest_93, sX11_cheapest_95, sX11_cheapest_96, sX11_cheapest_97, sX11_cheapest_99, sX11_cheapest_100, sX11_cheapest_101, sX11_cheapest_102, sX11_cheapest_103, sX11_cheapest_106, sX11_cheapest_107, sX11_cheapest_109, sX11_cheapest_110, sX11_cheapest_111, sX11_cheapest_112, sX11_cheapest_113, sX11_cheapest_114, sX11_cheapest_115, sX11_cheapest_118, sX11_cheapest_120, sX11_cheapest_121, sX11_cheapest_122, sX11_cheapest_123, sX11_cheapest_124, sX11_cheapest_125, sX11_cheapest_128, sX11_cheapest_131, sX11_cheapest_134, sX11_cheapest_135, sX11_cheapest_136, sX11_cheapest_138, sX11_cheapest_139, sX11_cheapest_140, sX11_cheapest_141, sX11_cheapest_142, sX11_cheapest_145, sX11_cheapest_146, sX11_cheapest_148, sX11_cheapest_149, sX11_cheapest_150, sX11_cheapest_151, sX11_cheapest_154, sX11_cheapest_157, sX11_cheapest_159, kI_i, kL_l, kV_v, am_rv_s, am_kl_i, am_kl_r, am_kl_n, am_kl_l, true_and, and_true, and_self, true_or, or_true, implies_true, forall_const, not_true_eq_false, not_false_eq_true, false_implies, true_implies, if_true, if_false, Bool.true_eq_false, Bool.false_eq_true, lt]
    · rw [decide_eq_false c3] at ei
      refine ⟨M0, fun d Q hd => ?_, hb0, f0⟩
      obtain ⟨d', rfl⟩ : ∃ d', d = d' + 2 := ⟨d - 2, by omega⟩
      rw [if_neg (fun z => c3 z.2), eX11_cheapest]
      simp (disch := (first | assumption | omega | decide)) only [sX11_cheapest_0, sX11_cheapest_1, sX11_cheapest_2, sX11_cheapest_5, sX11_cheapest_6, sX11_cheapest_9, sX11_cheapest_12, sX11_cheapest_13, sX11_cheapest_14, sX11_cheapest_17, sX11_cheapest_18, sX11_cheapest_21, sX11_cheapest_23, sX11_cheapest_24, sX11_cheapest_25, sX11_cheapest_26, sX11_cheapest_27, sX11_cheapest_30, sX11_cheapest_33, sX11_cheapest_34, sX11_cheapest_35, sX11_cheapest_36, sX11_cheapest_39, sX11_cheapest_40, sX11_cheapest_41, sX11_cheapest_44, sX11_cheapest_45, sX11_cheapest_48, sX11_cheapest_49, sX11_cheapest_50, sX11_cheapest_51, sX11_cheapest_52, sX11_cheapest_53, sX11_cheapest_54, sX11_cheapest_55, sX11_cheapest_56, sX11_cheapest_58, sX11_cheapest_59, sX11_cheapest_63, sX11_cheapest_64, sX11_cheapest_67, sX11_cheapest_68, sX11_cheapest_71, sX11_cheapest_72, sX11_cheapest_74, sX11_cheapest_77, sX11_cheapest_80, sX11_cheapest_81, sX11_cheapest_83, sX11_cheapest_85, sX11_cheapest_86, sX11_cheapest_89, sX11_cheapest_90, sX11_cheapest_93, sX11_cheapest_95, sX11_cheapest_96, sX11_cheapest_97, sX11_cheapest_99, sX11_cheapest_100, sX11_cheapest_101, sX11_cheapest_102, sX11_cheapest_103, sX11_cheapest_106, sX11_cheapest_107, sX11_cheapest_109, sX11_cheapest_110, sX11_cheapest_111, sX11_cheapest_112, sX11_cheapest_113, sX11_cheapest_114, sX11_cheapest_115, sX11_cheapest_118, sX11_cheapest_120, sX11_cheapest_121, sX11_cheapest_122, sX11_cheapest_123, sX11_cheapest_124, sX11_cheapest_125, sX11_cheapest_128, sX11_cheapest_131, sX11_cheapest_134, sX11_cheapest_135, sX11_cheapest_136, sX11_cheapest_138, sX11_cheapest_139, sX11_cheapest_140, sX11_cheapest_141, sX11_cheapest_142, sX11_cheapest_145, sX11_cheapest_146, sX11_cheapest_148, sX11_cheapest_149, sX11_cheapest_150, sX11_cheapest_151, sX11_cheapest_154, sX11_cheapest_157, sX11_cheapest_159, kI_i, kL_l, kV_v, am_rv_s, am_kl_i, am_kl_r, am_kl_n, am_kl_l, true_and, and_true, and_self, true_or, or_true, implies_true, forall_const, not_true_eq_false, not_false_eq_true, false_implies, true_implies, if_true, if_false, Bool.true_eq_false, Bool.false_eq_true, ob_457, hM0, hf, ol, c1, r_457_27, n36, i36, nI_clamp (show 36 < 2147483648 by omega), g36, c64_m1, m_isIn, ei, bz_f]
end
