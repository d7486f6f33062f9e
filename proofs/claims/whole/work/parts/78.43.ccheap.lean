section
variable {M N : am_M} {ap lim n : Nat} {S : Sg} {P : List Sg} {l : List Dd} {d : Nat} {Q : am_Q} {LL : List (List Nat)} {h : Int32}
theorem cf_pr (g : OrC N LL h S) (ht : S.2.2.2.1 ≤ 9999) (hw : WFl S.1) (hl : S.1.length ≤ 12) : ∀ k, k ≤ S.1.length → ∃ M', (∀ d (Q : am_Q), ok (d + 5) mX5_findLeast 488 Q 488 0 0 2 [some (.ref 424), some (.ref 392), some (.int (nI S.2.2.2.1)), some (.int 0)] [] N = ok (d + 5) mX5_findLeast 488 Q 488 0 0 2 [some (.ref 424), some (.ref 392), some (.int (nI S.2.2.2.1)), some (.int (nI k))] [] M') ∧ (∀ t, t < k → PT M' LL h S t) ∧ Fw XTb N M' := by
  intro k
  induction k with
  | zero => exact fun _ => ⟨N, fun d Q => rfl, fun t ht => by omega, Fw.rf⟩
  | succ k ih =>
    intro hk
    obtain ⟨M1, e1, p1, f1⟩ := ih (by omega)
    have g1 := OrC_F f1 g
    obtain ⟨M2, e2, p2, f2⟩ := c_setPrices (t := k) g1 ht hw hl (by omega)
    have n1 := g1.2.2.2.1
    have e0 : (nI S.1.length ≤ nI k) = False := by rw [nI_leE (by omega) (by omega)]; exact eq_false (by omega)
    refine ⟨M2, fun d Q => ?_, fun t ht' => ?_, f1.tr (f2.mo (fun c j z => by unfold XPt XPr at z; unfold XTb XPr; omega))⟩
    · rw [e1, sX5_findLeast_2]
      simp (disch := (first | assumption | omega | decide)) only [sX5_findLeast_0, sX5_findLeast_1, sX5_findLeast_3, sX5_findLeast_4, sX5_findLeast_7, sX5_findLeast_10, sX5_findLeast_11, sX5_findLeast_12, sX5_findLeast_13, sX5_findLeast_14, sX5_findLeast_17, sX5_findLeast_20, sX5_findLeast_23, sX5_findLeast_24, sX5_findLeast_27, sX5_findLeast_28, sX5_findLeast_31, sX5_findLeast_33, sX5_findLeast_36, sX5_findLeast_37, sX5_findLeast_40, sX5_findLeast_41, sX5_findLeast_42, sX5_findLeast_45, sX5_findLeast_46, sX5_findLeast_47, sX5_findLeast_50, sX5_findLeast_53, sX5_findLeast_56, sX5_findLeast_57, sX5_findLeast_60, sX5_findLeast_61, sX5_findLeast_62, kI_i, kL_l, kV_v, am_rv_s, am_kl_i, am_kl_r, am_kl_n, am_kl_l, true_and, and_true, and_self, true_or, or_true, implies_true, forall_const, not_true_eq_false, not_false_eq_true, false_implies, true_implies, if_true, if_false, Bool.true_eq_false, Bool.false_eq_true, ob_424, n1, e0, e2, nI_1]
    · by_cases ek : t = k
      · subst ek; exact p2
      · intro n b a1 a2 a3 a4
        rw [f2.I (by unfold XPt XPr pix; omega)]
        exact p1 t (by omega) n b a1 a2 a3 a4
theorem cf_ls (g : OrC N LL h S) (hw : WFl S.1) (hl : S.1.length ≤ 12) (hp : ∀ t, t < S.1.length → PT N LL h S t) (hg : ∀ s, s < 2 ^ S.1.length → gI N 431 s = whI S.1 s) : ∀ j k, k + j = 2 ^ S.1.length → ∃ M', (∀ d (Q : am_Q), ok (d + 5) mX5_findLeast 488 Q 488 0 0 32 [some (.ref 424), some (.ref 392), some (.int (nI S.2.2.2.1)), some (.int (nI (2 ^ S.1.length) - 1))] [] N = ok (d + 5) mX5_findLeast 488 Q 488 0 0 32 [some (.ref 424), some (.ref 392), some (.int (nI S.2.2.2.1)), some (.int (nI k - 1))] [] M') ∧ TLc M' LL h S k ∧ Fw (fun c _ => c = 433) N M' := by
  have pl : (2 : Nat) ^ S.1.length ≤ 4096 := Nat.le_trans (Nat.pow_le_pow_right (by omega) hl) (by omega)
  intro j
  induction j with
  | zero =>
    intro k hk
    have hk : k = 2 ^ S.1.length := by omega
    subst hk
    exact ⟨N, fun d Q => rfl, fun s a1 a2 => by omega, Fw.rf⟩
  | succ j ih =>
    intro k hk
    obtain ⟨M1, e1, t1, f1⟩ := ih (k + 1) (by omega)
    have g1 := OrC_F (f1.mo (fun c j z => by unfold XTb XPr; omega)) g
    have hW1 := g1.1
    have hp1 : ∀ t, t < S.1.length → PT M1 LL h S t := fun t ht n b a1 a2 a3 a4 => (f1.I (by omega)).trans (hp t ht n b a1 a2 a3 a4)
    have gw : gI M1 431 k = whI S.1 k := (f1.I (by omega)).trans (hg k (by omega))
    have np : nI (k + 1) - 1 = nI k := by rw [nI_sub1 (by omega)]; rfl
    have e0 := nI_lt0 (k := k) (by omega)
    have ck : (nI k).toNatClampNeg = k := nI_clamp (by omega)
    have i1 := iw_431 (k := k) (by omega)
    have nm : nI k + -1 = nI k - 1 := (Int32.sub_eq_add_neg _ _).symm
    rw [np] at e1
    cases c : whB S.1 k with
    | false =>
      have gw' : gI M1 431 k = 0 := by rw [gw]; unfold whI; rw [c]; rfl
      refine ⟨M1, fun d Q => ?_, fun s a1 a2 a3 b hb => ?_, f1⟩
      · rw [e1, sX5_findLeast_32]
        simp (disch := (first | assumption | omega | decide)) only [sX5_findLeast_0, sX5_findLeast_1, sX5_findLeast_3, sX5_findLeast_4, sX5_findLeast_7, sX5_findLeast_10, sX5_findLeast_11, sX5_findLeast_12, sX5_findLeast_13, sX5_findLeast_14, sX5_findLeast_17, sX5_findLeast_20, sX5_findLeast_23, sX5_findLeast_24, sX5_findLeast_27, sX5_findLeast_28, sX5_findLeast_31, sX5_findLeast_33, sX5_findLeast_36, sX5_findLeast_37, sX5_findLeast_40, sX5_findLeast_41, sX5_findLeast_42, sX5_findLeast_45, sX5_findLeast_46, sX5_findLeast_47, sX5_findLeast_50, sX5_findLeast_53, sX5_findLeast_56, sX5_findLeast_57, sX5_findLeast_60, sX5_findLeast_61, sX5_findLeast_62, kI_i, kL_l, kV_v, am_rv_s, am_kl_i, am_kl_r, am_kl_n, am_kl_l, true_and, and_true, and_self, true_or, or_true, implies_true, forall_const, not_true_eq_false, not_false_eq_true, false_implies, true_implies, if_true, if_false, Bool.true_eq_false, Bool.false_eq_true, ob_424, r_424_4, e0, i1, iwn_431, false_or, ck, gw', nm]
      · by_cases z : s = k
        · subst z; rw [whB_iff.mpr a3] at c; cases c
        · exact t1 s (by omega) a2 a3 b hb
    | true =>
      have gw' : gI M1 431 k = 1 := by rw [gw]; unfold whI; rw [c]; rfl
      obtain ⟨M2, e2, t2, f2⟩ := c_setLeasts (s := k) g1 hw hl hp1 t1 (by omega) (whB_iff.mp c)
      refine ⟨M2, fun d Q => ?_, t2, f1.tr (f2.mo (fun c j z => z.1))⟩
      rw [e1, sX5_findLeast_32]
      simp (disch := (first | assumption | omega | decide)) only [sX5_findLeast_0, sX5_findLeast_1, sX5_findLeast_3, sX5_findLeast_4, sX5_findLeast_7, sX5_findLeast_10, sX5_findLeast_11, sX5_findLeast_12, sX5_findLeast_13, sX5_findLeast_14, sX5_findLeast_17, sX5_findLeast_20, sX5_findLeast_23, sX5_findLeast_24, sX5_findLeast_27, sX5_findLeast_28, sX5_findLeast_31, sX5_findLeast_33, sX5_findLeast_36, sX5_findLeast_37, sX5_findLeast_40, sX5_findLeast_41, sX5_findLeast_42, sX5_findLeast_45, sX5_findLeast_46, sX5_findLeast_47, sX5_findLeast_50, sX5_findLeast_53, sX5_findLeast_56, sX5_findLeast_57, sX5_findLeast_60, sX5_findLeast_61, sX5_findLeast_62, kI_i, kL_l, kV_v, am_rv_s, am_kl_i, am_kl_r, am_kl_n, am_kl_l, true_and, and_true, and_self, true_or, or_true, implies_true, forall_const, not_true_eq_false, not_false_eq_true, false_implies, true_implies, if_true, if_false, Bool.true_eq_false, Bool.false_eq_true, ob_424, r_424_4, e0, i1, iwn_431, false_or, ck, gw', i01, e2, nm]
theorem c_findLeast (g : OrC N LL h S) (ht : S.2.2.2.1 ≤ 9999) (hw : WFl S.1) (hl : S.1.length ≤ 12) : ∃ M', (∀ d (Q : am_Q), am_big (d + 6) mX5_findLeast [.ref 424, .ref 392, .int (nI S.2.2.2.1)] 488 N Q = Q (some (.int (lsW S.1 (lpr LL h S) 0 (nI 5)))) M') ∧ OrC M' LL h S ∧ (∀ t, t < S.1.length → PT M' LL h S t) ∧ TLc M' LL h S 0 ∧ Fw XTb N M' := by
  have pl : (2 : Nat) ^ S.1.length ≤ 4096 := Nat.le_trans (Nat.pow_le_pow_right (by omega) hl) (by omega)
  have pp : 0 < (2 : Nat) ^ S.1.length := Nat.pow_pos (by omega)
  obtain ⟨M1, e1, p1, f1⟩ := cf_pr g ht hw hl S.1.length (Nat.le_refl _)
  have g1 := OrC_F f1 g
  have n1 := g1.2.2.2.1
  have mw := fun d (Q : am_Q) => c_markWhole (d := d) (Q := Q) (l := S.1) g1.1 n1 g1.2.2.2.2.1 hl
  have fV : Fw XTb M1 (fl M1 431 (2 ^ S.1.length) (whI S.1)) := Fw.f (fun k _ => Or.inr ⟨by omega, by omega⟩)
  have gV := OrC_F fV g1
  have pV : ∀ t, t < S.1.length → PT (fl M1 431 (2 ^ S.1.length) (whI S.1)) LL h S t := fun t ht n b a1 a2 a3 a4 => by rw [gI_fn (by omega)]; exact p1 t ht n b a1 a2 a3 a4
  obtain ⟨M', e2, t2, f2⟩ := cf_ls gV hw hl pV (fun s hs => gI_fl hs) (2 ^ S.1.length) 0 (by omega)
  have f2' : Fw XTb (fl M1 431 (2 ^ S.1.length) (whI S.1)) M' := f2.mo (fun c j z => by unfold XTb XPr; omega)
  have g2 := OrC_F f2' gV
  have hW2 := g2.1
  have ev := fun d (Q : am_Q) => c_everything (d := d) (Q := Q) (l := S.1) gV.2.2.2.1 hl
  rw [nI_sub1 pp] at e2
  have e3 : ((nI 0 - 1 : Int32) < 0) = True := eq_true (by decide)
  have g5 := t2 0 (Nat.le_refl _) pp WH_0 5 sl_0
  have i5 : ∀ {M : am_M}, am_in 488 M 433 1 5 = True := in_433 (k := 5) (by omega)
  have c5 : (5 : Int32).toNatClampNeg = 5 := rfl
  refine ⟨M', fun d Q => ?_, g2, fun t ht n b a1 a2 a3 a4 => (f2.I (by omega)).trans (pV t ht n b a1 a2 a3 a4), t2, (f1.tr fV).tr f2'⟩
  rw [eX5_findLeast]
  simp (disch := (first | assumption | omega | decide)) only [sX5_findLeast_0, sX5_findLeast_1, sX5_findLeast_3, sX5_findLeast_4, sX5_findLeast_7, sX5_findLeast_10, sX5_findLeast_11, sX5_findLeast_12, sX5_findLeast_13, sX5_findLeast_14, sX5_findLeast_17, sX5_findLeast_20, sX5_findLeast_23, sX5_findLeast_24, sX5_findLeast_27, sX5_findLeast_28, sX5_findLeast_31, sX5_findLeast_33, sX5_findLeast_36, sX5_findLeast_37, sX5_findLeast_40, sX5_findLeast_41, sX5_findLeast_42, sX5_findLeast_45, sX5_findLeast_46, sX5_findLeast_47, sX5_findLeast_50, sX5_findLeast_53, sX5_findLeast_56, sX5_findLeast_57, sX5_findLeast_60, sX5_findLeast_61, sX5_findLeast_62, kI_i, kL_l, kV_v, am_rv_s, am_kl_i, am_kl_r, am_kl_n, am_kl_l, true_and, and_true, and_self, true_or, or_true, implies_true, forall_const, not_true_eq_false, not_false_eq_true, false_implies, true_implies, if_true, if_false, Bool.true_eq_false, Bool.false_eq_true, e1]
  rw [sX5_findLeast_2]
  simp (disch := (first | assumption | omega | decide)) only [sX5_findLeast_0, sX5_findLeast_1, sX5_findLeast_3, sX5_findLeast_4, sX5_findLeast_7, sX5_findLeast_10, sX5_findLeast_11, sX5_findLeast_12, sX5_findLeast_13, sX5_findLeast_14, sX5_findLeast_17, sX5_findLeast_20, sX5_findLeast_23, sX5_findLeast_24, sX5_findLeast_27, sX5_findLeast_28, sX5_findLeast_31, sX5_findLeast_33, sX5_findLeast_36, sX5_findLeast_37, sX5_findLeast_40, sX5_findLeast_41, sX5_findLeast_42, sX5_findLeast_45, sX5_findLeast_46, sX5_findLeast_47, sX5_findLeast_50, sX5_findLeast_53, sX5_findLeast_56, sX5_findLeast_57, sX5_findLeast_60, sX5_findLeast_61, sX5_findLeast_62, kI_i, kL_l, kV_v, am_rv_s, am_kl_i, am_kl_r, am_kl_n, am_kl_l, true_and, and_true, and_self, true_or, or_true, implies_true, forall_const, not_true_eq_false, not_false_eq_true, false_implies, true_implies, if_true, if_false, Bool.true_eq_false, Bool.false_eq_true, ob_424, n1, Int32.le_refl, mw, ev, e2]
  rw [sX5_findLeast_32]
  simp (disch := (first | assumption | omega | decide)) only [sX5_findLeast_0, sX5_findLeast_1, sX5_findLeast_3, sX5_findLeast_4, sX5_findLeast_7, sX5_findLeast_10, sX5_findLeast_11, sX5_findLeast_12, sX5_findLeast_13, sX5_findLeast_14, sX5_findLeast_17, sX5_findLeast_20, sX5_findLeast_23, sX5_findLeast_24, sX5_findLeast_27, sX5_findLeast_28, sX5_findLeast_31, sX5_findLeast_33, sX5_findLeast_36, sX5_findLeast_37, sX5_findLeast_40, sX5_findLeast_41, sX5_findLeast_42, sX5_findLeast_45, sX5_findLeast_46, sX5_findLeast_47, sX5_findLeast_50, sX5_findLeast_53, sX5_findLeast_56, sX5_findLeast_57, sX5_findLeast_60, sX5_findLeast_61, sX5_findLeast_62, kI_i, kL_l, kV_v, am_rv_s, am_kl_i, am_kl_r, am_kl_n, am_kl_l, true_and, and_true, and_self, true_or, or_true, implies_true, forall_const, not_true_eq_false, not_false_eq_true, false_implies, true_implies, if_true, if_false, Bool.true_eq_false, Bool.false_eq_true, ob_424, e3, r_424_6, i5, c5]
  rw [show gI M' 433 5 = lsW S.1 (lpr LL h S) 0 (nI 5) from g5]
/-- the sort behind which a row of least cost goes on is one that the latest deed can have -/
theorem lrs_sl {p : Nat → Nat → Int32 → Int32} (hw : WFl l) (hp : pB2 p l.length) (hl : l.length ≤ 12) : ∀ k, k ≤ l.length → ∃ b, b < 6 ∧ (lrs l p k).2 = nI b ∧ (slN l (lrs l p k).1 l.length).testBit b = true
  | 0, _ => ⟨5, by omega, rfl, sl_0⟩
  | k + 1, hk => by
    obtain ⟨h1, h2, h3, h4⟩ := lrs_ok hp hl k (by omega)
    obtain ⟨a, c, _⟩ := ldN_ok (b := (lrs l p k).2) hp hl (h4 (by omega))
    have c' := (lgo_cf c).1
    rw [← cf_eq h3 a] at c'
    obtain ⟨s1, s2⟩ := soN_e hw a
    exact ⟨soN l (ldN l p (lrs l p k).1 (lrs l p k).2), by omega, s1, sl_go h3 a c'⟩
theorem c_deedOfLeast {a : Nat} (g : OrC N LL h S) (hw : WFl S.1) (hl : S.1.length ≤ 12) (hp : ∀ t, t < S.1.length → PT N LL h S t) (hT : TLc N LL h S 0) (ha : a < S.1.length) : am_big (d + 3) mX5_deedOfLeast [.ref 424, .int (nI a)] 488 N Q = Q (some (.int (nI (ldd S.1 (lpr LL h S) a)))) N := by
  have pl : (2 : Nat) ^ S.1.length ≤ 4096 := Nat.le_trans (Nat.pow_le_pow_right (by omega) hl) (by omega)
  have hpB := lpr_bd (LL := LL) (h := h) hw
  obtain ⟨hW, r0, hL, hn, hB, hA, _⟩ := id g
  -- one deed looked at
  have one : ∀ s b p k, s < 2 ^ S.1.length - 1 → WH S.1 s → pcN 12 s = p → (slN S.1 s S.1.length).testBit b = true → k < S.1.length → p ≤ a → ok (d + 2) mX5_deedOfLeast 488 Q 488 0 0 29 [some (.ref 424), some (.int (nI a)), some (.int (nI s)), some (.int (nI b)), some (.int (nI p)), some (.int (lsW S.1 (lpr LL h S) s (nI b))), some (.int (nI k))] [] N = if lgo S.1 (lpr LL h S) s (nI b) k = true then (if p = a then Q (some (.int (nI k))) N else ok (d + 2) mX5_deedOfLeast 488 Q 488 0 0 7 [some (.ref 424), some (.int (nI a)), some (.int (nI (s ||| 2 ^ k))), some (.int (sf S.1 k)), some (.int (nI (p + 1))), some (.int (lsW S.1 (lpr LL h S) s (nI b))), some (.int (nI k))] [] N) else ok (d + 2) mX5_deedOfLeast 488 Q 488 0 0 29 [some (.ref 424), some (.int (nI a)), some (.int (nI s)), some (.int (nI b)), some (.int (nI p)), some (.int (lsW S.1 (lpr LL h S) s (nI b))), some (.int (nI (k + 1)))] [] N := by
    intro s b p k hs hW' hp' hb hk hpa
    have e0 : (nI S.1.length ≤ nI k) = False := by rw [nI_leE (by omega) (by omega)]; exact eq_false (by omega)
    have cv := fun d (Q : am_Q) => c_canFollow (d := d) (Q := Q) (l := S.1) (s := s) (t := k) hW (hB k hk) (by omega) (by omega)
    unfold lgo
    rw [← cf_eq hW' hk, sX5_deedOfLeast_29]
    cases c : cf (bl S.1) s k with
    | false =>
      rw [Bool.false_and, if_neg (by decide)]
      simp (disch := (first | assumption | omega | decide)) only [sX5_deedOfLeast_0, sX5_deedOfLeast_1, sX5_deedOfLeast_2, sX5_deedOfLeast_3, sX5_deedOfLeast_4, sX5_deedOfLeast_5, sX5_deedOfLeast_9, sX5_deedOfLeast_10, sX5_deedOfLeast_13, sX5_deedOfLeast_14, sX5_deedOfLeast_17, sX5_deedOfLeast_18, sX5_deedOfLeast_20, sX5_deedOfLeast_21, sX5_deedOfLeast_22, sX5_deedOfLeast_23, sX5_deedOfLeast_24, sX5_deedOfLeast_26, sX5_deedOfLeast_27, sX5_deedOfLeast_31, sX5_deedOfLeast_32, sX5_deedOfLeast_35, sX5_deedOfLeast_38, sX5_deedOfLeast_39, sX5_deedOfLeast_41, sX5_deedOfLeast_42, sX5_deedOfLeast_45, sX5_deedOfLeast_48, sX5_deedOfLeast_49, sX5_deedOfLeast_51, sX5_deedOfLeast_52, sX5_deedOfLeast_54, sX5_deedOfLeast_55, sX5_deedOfLeast_58, sX5_deedOfLeast_60, sX5_deedOfLeast_63, sX5_deedOfLeast_65, sX5_deedOfLeast_66, sX5_deedOfLeast_69, sX5_deedOfLeast_71, sX5_deedOfLeast_72, sX5_deedOfLeast_73, sX5_deedOfLeast_74, sX5_deedOfLeast_76, sX5_deedOfLeast_77, sX5_deedOfLeast_78, sX5_deedOfLeast_79, sX5_deedOfLeast_80, sX5_deedOfLeast_83, sX5_deedOfLeast_86, sX5_deedOfLeast_88, sX5_deedOfLeast_89, sX5_deedOfLeast_90, sX5_deedOfLeast_93, sX5_deedOfLeast_96, sX5_deedOfLeast_99, sX5_deedOfLeast_102, sX5_deedOfLeast_105, sX5_deedOfLeast_106, kI_i, kL_l, kV_v, am_rv_s, am_kl_i, am_kl_r, am_kl_n, am_kl_l, true_and, and_true, and_self, true_or, or_true, implies_true, forall_const, not_true_eq_false, not_false_eq_true, false_implies, true_implies, if_true, if_false, Bool.true_eq_false, Bool.false_eq_true, ob_424, hn, e0, cv, c, bz_f, nI_1]
    | true =>
      rw [Bool.true_and]
      have hT1 : TLc N LL h S (s + 1) := fun s' a1 a2 a3 b hb => hT s' (by omega) a2 a3 b hb
      have ct := fun d (Q : am_Q) => c_costThrough (d := d) (Q := Q) (b := b) g hw hl hp hT1 (show s < 2 ^ S.1.length by omega) hW' hk hb c
      rw [hp'] at ct
      have u1 := (LH_s hL k hk).1
      simp only [Nat.reduceAdd] at u1
      have ck : (nI k).toNatClampNeg = k := nI_clamp (by omega)
      by_cases z : lct S.1 (lpr LL h S) s (nI b) k = lsW S.1 (lpr LL h S) s (nI b)
      · rw [if_pos (decide_eq_true z)]
        have z' := eq_true z
        by_cases pa : p = a
        · rw [if_pos pa]
          have pa' : (nI p = nI a) = True := by rw [pa]; exact eq_true rfl
          simp (disch := (first | assumption | omega | decide)) only [sX5_deedOfLeast_0, sX5_deedOfLeast_1, sX5_deedOfLeast_2, sX5_deedOfLeast_3, sX5_deedOfLeast_4, sX5_deedOfLeast_5, sX5_deedOfLeast_9, sX5_deedOfLeast_10, sX5_deedOfLeast_13, sX5_deedOfLeast_14, sX5_deedOfLeast_17, sX5_deedOfLeast_18, sX5_deedOfLeast_20, sX5_deedOfLeast_21, sX5_deedOfLeast_22, sX5_deedOfLeast_23, sX5_deedOfLeast_24, sX5_deedOfLeast_26, sX5_deedOfLeast_27, sX5_deedOfLeast_31, sX5_deedOfLeast_32, sX5_deedOfLeast_35, sX5_deedOfLeast_38, sX5_deedOfLeast_39, sX5_deedOfLeast_41, sX5_deedOfLeast_42, sX5_deedOfLeast_45, sX5_deedOfLeast_48, sX5_deedOfLeast_49, sX5_deedOfLeast_51, sX5_deedOfLeast_52, sX5_deedOfLeast_54, sX5_deedOfLeast_55, sX5_deedOfLeast_58, sX5_deedOfLeast_60, sX5_deedOfLeast_63, sX5_deedOfLeast_65, sX5_deedOfLeast_66, sX5_deedOfLeast_69, sX5_deedOfLeast_71, sX5_deedOfLeast_72, sX5_deedOfLeast_73, sX5_deedOfLeast_74, sX5_deedOfLeast_76, sX5_deedOfLeast_77, sX5_deedOfLeast_78, sX5_deedOfLeast_79, sX5_deedOfLeast_80, sX5_deedOfLeast_83, sX5_deedOfLeast_86, sX5_deedOfLeast_88, sX5_deedOfLeast_89, sX5_deedOfLeast_90, sX5_deedOfLeast_93, sX5_deedOfLeast_96, sX5_deedOfLeast_99, sX5_deedOfLeast_102, sX5_deedOfLeast_105, sX5_deedOfLeast_106, kI_i, kL_l, kV_v, am_rv_s, am_kl_i, am_kl_r, am_kl_n, am_kl_l, true_and, and_true, and_self, true_or, or_true, implies_true, forall_const, not_true_eq_false, not_false_eq_true, false_implies, true_implies, if_true, if_false, Bool.true_eq_false, Bool.false_eq_true, ob_424, hn, e0, cv, c, bz_t, i01, ct, z', pa']
        · rw [if_neg pa]
          have pa' : (nI p = nI a) = False := by rw [nI_eqE (by omega) (by omega)]; exact eq_false pa
          simp (disch := (first | assumption | omega | decide)) only [sX5_deedOfLeast_0, sX5_deedOfLeast_1, sX5_deedOfLeast_2, sX5_deedOfLeast_3, sX5_deedOfLeast_4, sX5_deedOfLeast_5, sX5_deedOfLeast_9, sX5_deedOfLeast_10, sX5_deedOfLeast_13, sX5_deedOfLeast_14, sX5_deedOfLeast_17, sX5_deedOfLeast_18, sX5_deedOfLeast_20, sX5_deedOfLeast_21, sX5_deedOfLeast_22, sX5_deedOfLeast_23, sX5_deedOfLeast_24, sX5_deedOfLeast_26, sX5_deedOfLeast_27, sX5_deedOfLeast_31, sX5_deedOfLeast_32, sX5_deedOfLeast_35, sX5_deedOfLeast_38, sX5_deedOfLeast_39, sX5_deedOfLeast_41, sX5_deedOfLeast_42, sX5_deedOfLeast_45, sX5_deedOfLeast_48, sX5_deedOfLeast_49, sX5_deedOfLeast_51, sX5_deedOfLeast_52, sX5_deedOfLeast_54, sX5_deedOfLeast_55, sX5_deedOfLeast_58, sX5_deedOfLeast_60, sX5_deedOfLeast_63, sX5_deedOfLeast_65, sX5_deedOfLeast_66, sX5_deedOfLeast_69, sX5_deedOfLeast_71, sX5_deedOfLeast_72, sX5_deedOfLeast_73, sX5_deedOfLeast_74, sX5_deedOfLeast_76, sX5_deedOfLeast_77, sX5_deedOfLeast_78, sX5_deedOfLeast_79, sX5_deedOfLeast_80, sX5_deedOfLeast_83, sX5_deedOfLeast_86, sX5_deedOfLeast_88, sX5_deedOfLeast_89, sX5_deedOfLeast_90, sX5_deedOfLeast_93, sX5_deedOfLeast_96, sX5_deedOfLeast_99, sX5_deedOfLeast_102, sX5_deedOfLeast_105, sX5_deedOfLeast_106, kI_i, kL_l, kV_v, am_rv_s, am_kl_i, am_kl_r, am_kl_n, am_kl_l, true_and, and_true, and_self, true_or, or_true, implies_true, forall_const, not_true_eq_false, not_false_eq_true, false_implies, true_implies, if_true, if_false, Bool.true_eq_false, Bool.false_eq_true, ob_424, ob_4, hn, e0, cv, c, bz_t, i01, ct, z', pa', shl1 k (by omega), nI_or, r0, r_4_0, in_5, ck, u1, nI_1]
      · rw [if_neg (by rw [decide_eq_false z]; decide)]
        have z' := eq_false z
        simp (disch := (first | assumption | omega | decide)) only [sX5_deedOfLeast_0, sX5_deedOfLeast_1, sX5_deedOfLeast_2, sX5_deedOfLeast_3, sX5_deedOfLeast_4, sX5_deedOfLeast_5, sX5_deedOfLeast_9, sX5_deedOfLeast_10, sX5_deedOfLeast_13, sX5_deedOfLeast_14, sX5_deedOfLeast_17, sX5_deedOfLeast_18, sX5_deedOfLeast_20, sX5_deedOfLeast_21, sX5_deedOfLeast_22, sX5_deedOfLeast_23, sX5_deedOfLeast_24, sX5_deedOfLeast_26, sX5_deedOfLeast_27, sX5_deedOfLeast_31, sX5_deedOfLeast_32, sX5_deedOfLeast_35, sX5_deedOfLeast_38, sX5_deedOfLeast_39, sX5_deedOfLeast_41, sX5_deedOfLeast_42, sX5_deedOfLeast_45, sX5_deedOfLeast_48, sX5_deedOfLeast_49, sX5_deedOfLeast_51, sX5_deedOfLeast_52, sX5_deedOfLeast_54, sX5_deedOfLeast_55, sX5_deedOfLeast_58, sX5_deedOfLeast_60, sX5_deedOfLeast_63, sX5_deedOfLeast_65, sX5_deedOfLeast_66, sX5_deedOfLeast_69, sX5_deedOfLeast_71, sX5_deedOfLeast_72, sX5_deedOfLeast_73, sX5_deedOfLeast_74, sX5_deedOfLeast_76, sX5_deedOfLeast_77, sX5_deedOfLeast_78, sX5_deedOfLeast_79, sX5_deedOfLeast_80, sX5_deedOfLeast_83, sX5_deedOfLeast_86, sX5_deedOfLeast_88, sX5_deedOfLeast_89, sX5_deedOfLeast_90, sX5_deedOfLeast_93, sX5_deedOfLeast_96, sX5_deedOfLeast_99, sX5_deedOfLeast_102, sX5_deedOfLeast_105, sX5_deedOfLeast_106, kI_i, kL_l, kV_v, am_rv_s, am_kl_i, am_kl_r, am_kl_n, am_kl_l, true_and, and_true, and_self, true_or, or_true, implies_true, forall_const, not_true_eq_false, not_false_eq_true, false_implies, true_implies, if_true, if_false, Bool.true_eq_false, Bool.false_eq_true, ob_424, hn, e0, cv, c, bz_t, i01, ct, z', nI_1]
  have inner : ∀ s b p, s < 2 ^ S.1.length - 1 → WH S.1 s → pcN 12 s = p → (slN S.1 s S.1.length).testBit b = true → p ≤ a → ok (d + 2) mX5_deedOfLeast 488 Q 488 0 0 29 [some (.ref 424), some (.int (nI a)), some (.int (nI s)), some (.int (nI b)), some (.int (nI p)), some (.int (lsW S.1 (lpr LL h S) s (nI b))), some (.int 0)] [] N = if p = a then Q (some (.int (nI (ldN S.1 (lpr LL h S) s (nI b))))) N else ok (d + 2) mX5_deedOfLeast 488 Q 488 0 0 7 [some (.ref 424), some (.int (nI a)), some (.int (nI (s ||| 2 ^ ldN S.1 (lpr LL h S) s (nI b)))), some (.int (sf S.1 (ldN S.1 (lpr LL h S) s (nI b)))), some (.int (nI (p + 1))), some (.int (lsW S.1 (lpr LL h S) s (nI b))), some (.int (nI (ldN S.1 (lpr LL h S) s (nI b))))] [] N := by
    intro s b p hs hW' hp' hb hpa
    obtain ⟨x1, x2, x3⟩ := ldN_ok (b := nI b) hpB hl hs
    have key : ∀ j k, k + j = ldN S.1 (lpr LL h S) s (nI b) → ok (d + 2) mX5_deedOfLeast 488 Q 488 0 0 29 [some (.ref 424), some (.int (nI a)), some (.int (nI s)), some (.int (nI b)), some (.int (nI p)), some (.int (lsW S.1 (lpr LL h S) s (nI b))), some (.int (nI k))] [] N = ok (d + 2) mX5_deedOfLeast 488 Q 488 0 0 29 [some (.ref 424), some (.int (nI a)), some (.int (nI s)), some (.int (nI b)), some (.int (nI p)), some (.int (lsW S.1 (lpr LL h S) s (nI b))), some (.int (nI (ldN S.1 (lpr LL h S) s (nI b))))] [] N := by
      intro j
      induction j with
      | zero => intro k hk; rw [show k = ldN S.1 (lpr LL h S) s (nI b) by omega]
      | succ j ih =>
        intro k hk
        rw [one s b p k hs hW' hp' hb (by omega) hpa, if_neg (by rw [x3 k (by omega)]; decide), ih (k + 1) (by omega)]
    have k0 := key (ldN S.1 (lpr LL h S) s (nI b)) 0 (by omega)
    rw [one s b p _ hs hW' hp' hb x1 hpa, if_pos x2] at k0
    exact k0
  have outer : ∀ j k l5 l6, k + j = a → ok (d + 2) mX5_deedOfLeast 488 Q 488 0 0 7 [some (.ref 424), some (.int (nI a)), some (.int (nI (lrs S.1 (lpr LL h S) k).1)), some (.int (lrs S.1 (lpr LL h S) k).2), some (.int (nI k)), l5, l6] [] N = Q (some (.int (nI (ldd S.1 (lpr LL h S) a)))) N := by
    intro j
    induction j with
    | zero =>
      intro k l5 l6 hk
      obtain ⟨h1, h2, h3, h4⟩ := lrs_ok hpB hl k (by omega)
      obtain ⟨b, hb, eb, sb⟩ := lrs_sl hw hpB hl k (by omega)
      have inn := inner _ b k (h4 (by omega)) h3 h2 sb (by omega)
      have gt := hT _ (Nat.zero_le _) h1 h3 b sb
      have hka : k = a := by omega
      rw [if_pos hka] at inn
      have e : ldd S.1 (lpr LL h S) a = ldN S.1 (lpr LL h S) (lrs S.1 (lpr LL h S) k).1 (nI b) := by rw [← hka, ← eb]; rfl
      rw [e, eb, sX5_deedOfLeast_7]
      have e0 : (nI a < nI k) = False := by rw [nI_ltE (by omega) (by omega)]; exact eq_false (by omega)
      generalize (lrs S.1 (lpr LL h S) k).1 = s at *
      have cx : (nI (s * 6 + b)).toNatClampNeg = 6 * s + b := by rw [nI_clamp (by omega)]; omega
      have i3 := in_433 (M := N) (k := s * 6 + b) (by omega)
      simp (disch := (first | assumption | omega | decide)) only [sX5_deedOfLeast_0, sX5_deedOfLeast_1, sX5_deedOfLeast_2, sX5_deedOfLeast_3, sX5_deedOfLeast_4, sX5_deedOfLeast_5, sX5_deedOfLeast_9, sX5_deedOfLeast_10, sX5_deedOfLeast_13, sX5_deedOfLeast_14, sX5_deedOfLeast_17, sX5_deedOfLeast_18, sX5_deedOfLeast_20, sX5_deedOfLeast_21, sX5_deedOfLeast_22, sX5_deedOfLeast_23, sX5_deedOfLeast_24, sX5_deedOfLeast_26, sX5_deedOfLeast_27, sX5_deedOfLeast_31, sX5_deedOfLeast_32, sX5_deedOfLeast_35, sX5_deedOfLeast_38, sX5_deedOfLeast_39, sX5_deedOfLeast_41, sX5_deedOfLeast_42, sX5_deedOfLeast_45, sX5_deedOfLeast_48, sX5_deedOfLeast_49, sX5_deedOfLeast_51, sX5_deedOfLeast_52, sX5_deedOfLeast_54, sX5_deedOfLeast_55, sX5_deedOfLeast_58, sX5_deedOfLeast_60, sX5_deedOfLeast_63, sX5_deedOfLeast_65, sX5_deedOfLeast_66, sX5_deedOfLeast_69, sX5_deedOfLeast_71, sX5_deedOfLeast_72, sX5_deedOfLeast_73, sX5_deedOfLeast_74, sX5_deedOfLeast_76, sX5_deedOfLeast_77, sX5_deedOfLeast_78, sX5_deedOfLeast_79, sX5_deedOfLeast_80, sX5_deedOfLeast_83, sX5_deedOfLeast_86, sX5_deedOfLeast_88, sX5_deedOfLeast_89, sX5_deedOfLeast_90, sX5_deedOfLeast_93, sX5_deedOfLeast_96, sX5_deedOfLeast_99, sX5_deedOfLeast_102, sX5_deedOfLeast_105, sX5_deedOfLeast_106, kI_i, kL_l, kV_v, am_rv_s, am_kl_i, am_kl_r, am_kl_n, am_kl_l, true_and, and_true, and_self, true_or, or_true, implies_true, forall_const, not_true_eq_false, not_false_eq_true, false_implies, true_implies, if_true, if_false, Bool.true_eq_false, Bool.false_eq_true, ob_424, e0, r_424_6, nI_x6, nI_add, i3, cx, gt, inn]
    | succ j ih =>
      intro k l5 l6 hk
      obtain ⟨h1, h2, h3, h4⟩ := lrs_ok hpB hl k (by omega)
      obtain ⟨b, hb, eb, sb⟩ := lrs_sl hw hpB hl k (by omega)
      have inn := inner _ b k (h4 (by omega)) h3 h2 sb (by omega)
      have gt := hT _ (Nat.zero_le _) h1 h3 b sb
      have hka : ¬ k = a := by omega
      rw [if_neg hka] at inn
      have e1 : (lrs S.1 (lpr LL h S) (k + 1)).1 = (lrs S.1 (lpr LL h S) k).1 ||| 2 ^ ldN S.1 (lpr LL h S) (lrs S.1 (lpr LL h S) k).1 (nI b) := by rw [← eb]; rfl
      have e2 : (lrs S.1 (lpr LL h S) (k + 1)).2 = sf S.1 (ldN S.1 (lpr LL h S) (lrs S.1 (lpr LL h S) k).1 (nI b)) := by rw [← eb]; rfl
      have ih := ih (k + 1) (some (.int (lsW S.1 (lpr LL h S) (lrs S.1 (lpr LL h S) k).1 (nI b)))) (some (.int (nI (ldN S.1 (lpr LL h S) (lrs S.1 (lpr LL h S) k).1 (nI b))))) (by omega)
      rw [e1, e2] at ih
      rw [eb, sX5_deedOfLeast_7]
      have e0 : (nI a < nI k) = False := by rw [nI_ltE (by omega) (by omega)]; exact eq_false (by omega)
      generalize (lrs S.1 (lpr LL h S) k).1 = s at *
      have cx : (nI (s * 6 + b)).toNatClampNeg = 6 * s + b := by rw [nI_clamp (by omega)]; omega
      have i3 := in_433 (M := N) (k := s * 6 + b) (by omega)
      simp (disch := (first | assumption | omega | decide)) only [sX5_deedOfLeast_0, sX5_deedOfLeast_1, sX5_deedOfLeast_2, sX5_deedOfLeast_3, sX5_deedOfLeast_4, sX5_deedOfLeast_5, sX5_deedOfLeast_9, sX5_deedOfLeast_10, sX5_deedOfLeast_13, sX5_deedOfLeast_14, sX5_deedOfLeast_17, sX5_deedOfLeast_18, sX5_deedOfLeast_20, sX5_deedOfLeast_21, sX5_deedOfLeast_22, sX5_deedOfLeast_23, sX5_deedOfLeast_24, sX5_deedOfLeast_26, sX5_deedOfLeast_27, sX5_deedOfLeast_31, sX5_deedOfLeast_32, sX5_deedOfLeast_35, sX5_deedOfLeast_38, sX5_deedOfLeast_39, sX5_deedOfLeast_41, sX5_deedOfLeast_42, sX5_deedOfLeast_45, sX5_deedOfLeast_48, sX5_deedOfLeast_49, sX5_deedOfLeast_51, sX5_deedOfLeast_52, sX5_deedOfLeast_54, sX5_deedOfLeast_55, sX5_deedOfLeast_58, sX5_deedOfLeast_60, sX5_deedOfLeast_63, sX5_deedOfLeast_65, sX5_deedOfLeast_66, sX5_deedOfLeast_69, sX5_deedOfLeast_71, sX5_deedOfLeast_72, sX5_deedOfLeast_73, sX5_deedOfLeast_74, sX5_deedOfLeast_76, sX5_deedOfLeast_77, sX5_deedOfLeast_78, sX5_deedOfLeast_79, sX5_deedOfLeast_80, sX5_deedOfLeast_83, sX5_deedOfLeast_86, sX5_deedOfLeast_88, sX5_deedOfLeast_89, sX5_deedOfLeast_90, sX5_deedOfLeast_93, sX5_deedOfLeast_96, sX5_deedOfLeast_99, sX5_deedOfLeast_102, sX5_deedOfLeast_105, sX5_deedOfLeast_106, kI_i, kL_l, kV_v, am_rv_s, am_kl_i, am_kl_r, am_kl_n, am_kl_l, true_and, and_true, and_self, true_or, or_true, implies_true, forall_const, not_true_eq_false, not_false_eq_true, false_implies, true_implies, if_true, if_false, Bool.true_eq_false, Bool.false_eq_true, ob_424, e0, r_424_6, nI_x6, nI_add, i3, cx, gt, inn, ih]
  have k0 : ok (d + 2) mX5_deedOfLeast 488 Q 488 0 0 7 [some (.ref 424), some (.int (nI a)), some (.int 0), some (.int 5), some (.int 0), none, none] [] N = _ := outer a 0 none none (by omega)
  rw [eX5_deedOfLeast]
  simp (disch := (first | assumption | omega | decide)) only [sX5_deedOfLeast_0, sX5_deedOfLeast_1, sX5_deedOfLeast_2, sX5_deedOfLeast_3, sX5_deedOfLeast_4, sX5_deedOfLeast_5, sX5_deedOfLeast_9, sX5_deedOfLeast_10, sX5_deedOfLeast_13, sX5_deedOfLeast_14, sX5_deedOfLeast_17, sX5_deedOfLeast_18, sX5_deedOfLeast_20, sX5_deedOfLeast_21, sX5_deedOfLeast_22, sX5_deedOfLeast_23, sX5_deedOfLeast_24, sX5_deedOfLeast_26, sX5_deedOfLeast_27, sX5_deedOfLeast_31, sX5_deedOfLeast_32, sX5_deedOfLeast_35, sX5_deedOfLeast_38, sX5_deedOfLeast_39, sX5_deedOfLeast_41, sX5_deedOfLeast_42, sX5_deedOfLeast_45, sX5_deedOfLeast_48, sX5_deedOfLeast_49, sX5_deedOfLeast_51, sX5_deedOfLeast_52, sX5_deedOfLeast_54, sX5_deedOfLeast_55, sX5_deedOfLeast_58, sX5_deedOfLeast_60, sX5_deedOfLeast_63, sX5_deedOfLeast_65, sX5_deedOfLeast_66, sX5_deedOfLeast_69, sX5_deedOfLeast_71, sX5_deedOfLeast_72, sX5_deedOfLeast_73, sX5_deedOfLeast_74, sX5_deedOfLeast_76, sX5_deedOfLeast_77, sX5_deedOfLeast_78, sX5_deedOfLeast_79, sX5_deedOfLeast_80, sX5_deedOfLeast_83, sX5_deedOfLeast_86, sX5_deedOfLeast_88, sX5_deedOfLeast_89, sX5_deedOfLeast_90, sX5_deedOfLeast_93, sX5_deedOfLeast_96, sX5_deedOfLeast_99, sX5_deedOfLeast_102, sX5_deedOfLeast_105, sX5_deedOfLeast_106, kI_i, kL_l, kV_v, am_rv_s, am_kl_i, am_kl_r, am_kl_n, am_kl_l, true_and, and_true, and_self, true_or, or_true, implies_true, forall_const, not_true_eq_false, not_false_eq_true, false_implies, true_implies, if_true, if_false, Bool.true_eq_false, Bool.false_eq_true, k0]
def XCc (c j : Nat) : Prop := XL c j ∨ XTb c j
theorem c_cheapest {a : Int32} (hW : WR M) (hs : StC M 3 ap lim S) (hl : S.1.length ≤ 12) (hw : WFl S.1) (hb : LbC M LL h) : ∃ M', (∀ d (Q : am_Q), am_big (d + 7) mX10_cheapest [.ref 0, .int a] 488 M Q = Q (some (.int (cheapA ap LL h S a))) M') ∧ Fw XCc M M' := by
  have io := fun d (Q : am_Q) => c_isOpen (d := d) (Q := Q) hW hs
  have hL := StC_LH hs
  have ht := hs.2.2.2.2.2.2.2.2
  have g5 := hs.2.2.2.2.1
  have ha := fun d (Q : am_Q) => c_hasL (d := d) (Q := Q) (y := a) hL
  unfold cheapA
  cases c1 : opn ap with
  | false =>
    refine ⟨M, fun d Q => ?_, Fw.rf⟩
    rw [if_neg (fun z => by cases z.1), eX10_cheapest]
    simp (disch := (first | assumption | omega | decide)) only [sX10_cheapest_0, sX10_cheapest_1, sX10_cheapest_4, sX10_cheapest_7, sX10_cheapest_8, sX10_cheapest_9, sX10_cheapest_12, sX10_cheapest_13, sX10_cheapest_16, sX10_cheapest_19, sX10_cheapest_20, sX10_cheapest_23, sX10_cheapest_26, sX10_cheapest_27, sX10_cheapest_28, sX10_cheapest_29, sX10_cheapest_32, sX10_cheapest_33, sX10_cheapest_36, sX10_cheapest_39, sX10_cheapest_42, sX10_cheapest_43, sX10_cheapest_46, sX10_cheapest_47, sX10_cheapest_50, sX10_cheapest_51, sX10_cheapest_54, sX10_cheapest_57, sX10_cheapest_60, sX10_cheapest_61, sX10_cheapest_62, sX10_cheapest_63, sX10_cheapest_66, sX10_cheapest_67, sX10_cheapest_70, sX10_cheapest_71, sX10_cheapest_74, sX10_cheapest_75, sX10_cheapest_78, kI_i, kL_l, kV_v, am_rv_s, am_kl_i, am_kl_r, am_kl_n, am_kl_l, true_and, and_true, and_self, true_or, or_true, implies_true, forall_const, not_true_eq_false, not_false_eq_true, false_implies, true_implies, if_true, if_false, Bool.true_eq_false, Bool.false_eq_true, ob_0, io, c1, bz_f]
  | true =>
    by_cases c3 : a = -1 ∨ (0 ≤ a ∧ a < nI S.1.length)
    · have lk := fun d (Q : am_Q) => c_look (d := d) (Q := Q) hW hL hl
      have fl := Fw_lk (M := M) (l := S.1)
      have hWl := fl.2 hW
      have hL1 : LH (lkM M S.1) 4 S.1 := LH_of (fun c j _ _ => fl.I (by unfold XL; omega)) (fun c j _ _ => fl.R (by unfold XL; omega)) hL
      have hb1 : LbC (lkM M S.1) LL h := LbC_Fw fl (fun c j hc => by unfold XL; omega) hb
      have g0 : OrC (lkM M S.1) LL h S := ⟨hWl, lk_r, hL1, lk_n, fun k hk => lk_a hk, fun k hk => lk_b hk, hb1⟩
      obtain ⟨M', e1, g1, p1, t1, f1⟩ := c_findLeast g0 ht hw hl
      have hW' := g1.1
      have g5' : gI (lkM M S.1) 3 5 = nI S.2.2.2.1 := (fl.I (by unfold XL; omega)).trans g5
      refine ⟨M', fun d Q => ?_, (fl.mo (fun c j z => Or.inl z)).tr (f1.mo (fun c j z => Or.inr z))⟩
      rw [if_pos ⟨rfl, c3⟩, eX10_cheapest]
      by_cases ca : a = -1
      · subst ca
        have t1 : ((-1 : Int32) = -1) = True := eq_true rfl
        rw [if_pos rfl]
        simp (disch := (first | assumption | omega | decide)) only [sX10_cheapest_0, sX10_cheapest_1, sX10_cheapest_4, sX10_cheapest_7, sX10_cheapest_8, sX10_cheapest_9, sX10_cheapest_12, sX10_cheapest_13, sX10_cheapest_16, sX10_cheapest_19, sX10_cheapest_20, sX10_cheapest_23, sX10_cheapest_26, sX10_cheapest_27, sX10_cheapest_28, sX10_cheapest_29, sX10_cheapest_32, sX10_cheapest_33, sX10_cheapest_36, sX10_cheapest_39, sX10_cheapest_42, sX10_cheapest_43, sX10_cheapest_46, sX10_cheapest_47, sX10_cheapest_50, sX10_cheapest_51, sX10_cheapest_54, sX10_cheapest_57, sX10_cheapest_60, sX10_cheapest_61, sX10_cheapest_62, sX10_cheapest_63, sX10_cheapest_66, sX10_cheapest_67, sX10_cheapest_70, sX10_cheapest_71, sX10_cheapest_74, sX10_cheapest_75, sX10_cheapest_78, kI_i, kL_l, kV_v, am_rv_s, am_kl_i, am_kl_r, am_kl_n, am_kl_l, true_and, and_true, and_self, true_or, or_true, implies_true, forall_const, not_true_eq_false, not_false_eq_true, false_implies, true_implies, if_true, if_false, Bool.true_eq_false, Bool.false_eq_true, ob_0, ob_3, ob_4, ob_424, ob_392, io, c1, bz_t, i01, t1, r_0_13, r_0_1, r_3_0, r_0_6, lk, g5', e1]
      · rw [if_neg ca]
        have c4 : 0 ≤ a ∧ a < nI S.1.length := c3.resolve_left ca
        obtain ⟨e, he, rfl⟩ := deed_x (by omega) c4
        have cd := decide_eq_true c4
        have dl := fun d (Q : am_Q) => c_deedOfLeast (d := d) (Q := Q) g1 hw hl p1 t1 he
        rw [nI_clamp (by omega)]
        simp (disch := (first | assumption | omega | decide)) only [sX10_cheapest_0, sX10_cheapest_1, sX10_cheapest_4, sX10_cheapest_7, sX10_cheapest_8, sX10_cheapest_9, sX10_cheapest_12, sX10_cheapest_13, sX10_cheapest_16, sX10_cheapest_19, sX10_cheapest_20, sX10_cheapest_23, sX10_cheapest_26, sX10_cheapest_27, sX10_cheapest_28, sX10_cheapest_29, sX10_cheapest_32, sX10_cheapest_33, sX10_cheapest_36, sX10_cheapest_39, sX10_cheapest_42, sX10_cheapest_43, sX10_cheapest_46, sX10_cheapest_47, sX10_cheapest_50, sX10_cheapest_51, sX10_cheapest_54, sX10_cheapest_57, sX10_cheapest_60, sX10_cheapest_61, sX10_cheapest_62, sX10_cheapest_63, sX10_cheapest_66, sX10_cheapest_67, sX10_cheapest_70, sX10_cheapest_71, sX10_cheapest_74, sX10_cheapest_75, sX10_cheapest_78, kI_i, kL_l, kV_v, am_rv_s, am_kl_i, am_kl_r, am_kl_n, am_kl_l, true_and, and_true, and_self, true_or, or_true, implies_true, forall_const, not_true_eq_false, not_false_eq_true, false_implies, true_implies, if_true, if_false, Bool.true_eq_false, Bool.false_eq_true, ob_0, ob_3, ob_4, ob_424, ob_392, io, c1, bz_t, i01, ca, ha, cd, r_0_13, r_0_1, r_3_0, r_0_6, lk, g5', e1, dl]
    · refine ⟨M, fun d Q => ?_, Fw.rf⟩
      have ca : ¬ a = -1 := fun z => c3 (Or.inl z)
      have cd := decide_eq_false (fun z => c3 (Or.inr z) : ¬ (0 ≤ a ∧ a < nI S.1.length))
      rw [if_neg (fun z => c3 z.2), eX10_cheapest]
      simp (disch := (first | assumption | omega | decide)) only [sX10_cheapest_0, sX10_cheapest_1, sX10_cheapest_4, sX10_cheapest_7, sX10_cheapest_8, sX10_cheapest_9, sX10_cheapest_12, sX10_cheapest_13, sX10_cheapest_16, sX10_cheapest_19, sX10_cheapest_20, sX10_cheapest_23, sX10_cheapest_26, sX10_cheapest_27, sX10_cheapest_28, sX10_cheapest_29, sX10_cheapest_32, sX10_cheapest_33, sX10_cheapest_36, sX10_cheapest_39, sX10_cheapest_42, sX10_cheapest_43, sX10_cheapest_46, sX10_cheapest_47, sX10_cheapest_50, sX10_cheapest_51, sX10_cheapest_54, sX10_cheapest_57, sX10_cheapest_60, sX10_cheapest_61, sX10_cheapest_62, sX10_cheapest_63, sX10_cheapest_66, sX10_cheapest_67, sX10_cheapest_70, sX10_cheapest_71, sX10_cheapest_74, sX10_cheapest_75, sX10_cheapest_78, kI_i, kL_l, kV_v, am_rv_s, am_kl_i, am_kl_r, am_kl_n, am_kl_l, true_and, and_true, and_self, true_or, or_true, implies_true, forall_const, not_true_eq_false, not_false_eq_true, false_implies, true_implies, if_true, if_false, Bool.true_eq_false, Bool.false_eq_true, ob_0, ob_3, ob_4, io, c1, bz_t, i01, ca, r_0_1, r_3_0, ha, cd, bz_f]
end
