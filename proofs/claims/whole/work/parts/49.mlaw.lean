/-! the reference works a law's text off as it reads it -/
def md (M : am_M) (p : Nat) (f dp : Int32) : am_M := pm (sI M 457 12 dp) p f
section
variable {d : Nat} {M : am_M} {Q : am_Q} {b beg len p q : Nat} {T : Nat → Int32} {f dp : Int32}
theorem PB_md (h : PB M b beg T len) : PB (sI M 457 12 dp) b beg T len := PB_of h rfl (gI_j (by omega)) (gI_j (by omega)) (fun k => gI_o (by rcases h.b458 with h | h <;> omega))
theorem md_at : sI (md M p f dp) 457 10 (nI q) = md M q f dp := pm_at
theorem md_dp {v : Int32} : sI (md M p f dp) 457 12 v = md M p f v := by
  unfold md pm
  rw [sI_com (j := 11) (Or.inr (by omega)), sI_com (j := 10) (Or.inr (by omega)), sI_sI]
theorem gI_md0 : gI (md M p f dp) 457 10 = nI p := gI_pm0
theorem gI_md1 : gI (md M p f dp) 457 11 = f := gI_pm1
theorem gI_md2 : gI (md M p f dp) 457 12 = dp := by unfold md; rw [gI_pm (by omega), gI_e]
theorem gR_md {a j : Nat} : gR (md M p f dp) a j = gR M a j := rfl
theorem gI_mdo {a j : Nat} (h : a ≠ 457) : gI (md M p f dp) a j = gI M a j := by unfold md; rw [gI_pm (Or.inl h), gI_o h]
theorem md_look (h : PB M b beg T len) (hp : p ≤ len) : am_big (d + 1) mX11_look [.ref 457] 488 (md M p f dp) Q = Q (some (.int (sg T len (skp T len p)))) (md M (skp T len p) f dp) := m_look (PB_md h) hp
theorem md_isDigit (h : PB M b beg T len) (hp : p ≤ len) : am_big (d + 1) mX11_isDigit [.ref 457] 488 (md M p f dp) Q = Q (some (.int (bz (dgt (sg T len p))))) (md M p f dp) := m_isDigit (PB_md h) hp
theorem md_fails : am_big (d + 1) mX11_fails [.ref 457] 488 (md M p (-1) dp) Q = Q (some (.int 0)) (md M p (nI p) dp) := m_fails0
theorem md_takes {x : Int32} (h : PB M b beg T len) (hp : p ≤ len) : am_big (d + 2) mX11_takes [.ref 457, .int x] 488 (md M p (-1) dp) Q = if sg T len (skp T len p) = x then Q (some (.int 1)) (md M (skp T len p + 1) (-1) dp) else Q (some (.int 0)) (md M (skp T len p) (nI (skp T len p)) dp) := m_takes (PB_md h) hp
theorem md_takes1 {x : Int32} {k : Nat} (hk : k ≤ 240) : am_big (d + 2) mX11_takes [.ref 457, .int x] 488 (md M p (nI k) dp) Q = Q (some (.int 0)) (md M p (nI k) dp) := m_takes1 hk
theorem md_goesIn6 (h : dp = 6) : am_big (d + 2) mX11_goesIn [.ref 457] 488 (md M p (-1) dp) Q = Q (some (.int 0)) (md M p (nI p) dp) := by
  subst h
  rw [eX11_goesIn]
  simp (disch := (first | assumption | omega | decide)) only [sX11_goesIn_0, sX11_goesIn_1, sX11_goesIn_4, sX11_goesIn_6, sX11_goesIn_9, sX11_goesIn_10, sX11_goesIn_13, sX11_goesIn_14, sX11_goesIn_15, sX11_goesIn_16, sX11_goesIn_19, sX11_goesIn_20, sX11_goesIn_21, sX11_goesIn_24, sX11_goesIn_25, sX11_goesIn_26, sX11_goesIn_29, sX11_goesIn_30, sX11_goesIn_31, sX11_goesIn_34, sX11_goesIn_35, kI_i, kL_l, kV_v, am_rv_s, am_kl_i, am_kl_r, am_kl_n, am_kl_l, true_and, and_true, and_self, true_or, or_true, implies_true, forall_const, not_true_eq_false, not_false_eq_true, false_implies, true_implies, if_true, if_false, Bool.true_eq_false, Bool.false_eq_true, ob_457, gI_md2, md_fails, i10]
theorem md_goesIn (h : ¬ dp = 6) : am_big (d + 2) mX11_goesIn [.ref 457] 488 (md M p (-1) dp) Q = Q (some (.int 1)) (md M (p + 1) (-1) (dp + 1)) := by
  rw [eX11_goesIn]
  simp (disch := (first | assumption | omega | decide)) only [sX11_goesIn_0, sX11_goesIn_1, sX11_goesIn_4, sX11_goesIn_6, sX11_goesIn_9, sX11_goesIn_10, sX11_goesIn_13, sX11_goesIn_14, sX11_goesIn_15, sX11_goesIn_16, sX11_goesIn_19, sX11_goesIn_20, sX11_goesIn_21, sX11_goesIn_24, sX11_goesIn_25, sX11_goesIn_26, sX11_goesIn_29, sX11_goesIn_30, sX11_goesIn_31, sX11_goesIn_34, sX11_goesIn_35, kI_i, kL_l, kV_v, am_rv_s, am_kl_i, am_kl_r, am_kl_n, am_kl_l, true_and, and_true, and_self, true_or, or_true, implies_true, forall_const, not_true_eq_false, not_false_eq_true, false_implies, true_implies, if_true, if_false, Bool.true_eq_false, Bool.false_eq_true, ob_457, gI_md2, h, md_dp, gI_md0, nI_1, md_at]
theorem m_within {x : Int64} : am_big (d + 1) mX11_within [.long x] 488 M Q = Q (some (.int (clI x.toInt))) M := by
  rw [eX11_within]
  simp only [sX11_within_0, sX11_within_3, sX11_within_6, sX11_within_7, sX11_within_10, sX11_within_13, sX11_within_14, kI_i, kL_l, kV_v, am_rv_s, am_kl_i, am_kl_r, am_kl_n, am_kl_l, true_and, and_true, and_self, true_or, or_true, implies_true, forall_const, not_true_eq_false, not_false_eq_true, false_implies, true_implies, if_true, if_false, Bool.true_eq_false, Bool.false_eq_true]
  congr 3
  rw [← Int32.toInt_inj, clI_i, Int64.toInt_toInt32]
  have e1 : (-1000000 : Int64).toInt = -1000000 := by decide
  have e2 : (1000000 : Int64).toInt = 1000000 := by decide
  simp only [Int64.lt_iff_toInt_lt, e2]
  by_cases h2 : x.toInt < 1000000
  · simp only [h2, if_true, e1]
    by_cases h1 : x.toInt < -1000000
    · rw [if_pos h1, if_pos h1, e1]; rfl
    · rw [if_neg h1, if_neg h1, if_neg (show ¬ 1000000 < x.toInt by omega)]
      exact bm32 (by omega) (by omega)
  · simp only [h2, if_false, e1, e2]
    rw [if_neg (show ¬ (1000000 : Int) < -1000000 by omega), if_neg (show ¬ x.toInt < -1000000 by omega), e2]
    by_cases h3 : 1000000 < x.toInt
    · rw [if_pos h3]; rfl
    · rw [if_neg h3]
      have : x.toInt = 1000000 := by omega
      rw [this]; rfl
theorem am_ltr (x : Int32) : amg [119, 105, 120, 110, 98, 116] x 0 6 = decide (¬ ltr x = -1) := by
  unfold ltr
  simp only [amg, List.getD_cons_zero, List.getD_cons_succ, show nI 119 = 119 from rfl, show nI 105 = 105 from rfl, show nI 120 = 120 from rfl, show nI 110 = 110 from rfl, show nI 98 = 98 from rfl, show nI 116 = 116 from rfl]
  by_cases h1 : x = 119
  · subst h1; decide
  · by_cases h2 : x = 105
    · subst h2; decide
    · by_cases h3 : x = 120
      · subst h3; decide
      · by_cases h4 : x = 110
        · subst h4; decide
        · by_cases h5 : x = 98
          · subst h5; decide
          · by_cases h6 : x = 116
            · subst h6; decide
            · simp only [h1, h2, h3, h4, h5, h6, Ne.symm h1, Ne.symm h2, Ne.symm h3, Ne.symm h4, Ne.symm h5, Ne.symm h6, if_false]; decide
theorem m_among {x : Int32} {N : am_M} : am_big (d + 1) mX11_isAmong [.ref 1000001, .int x] 488 N Q = Q (some (.int (bz (decide (¬ ltr x = -1))))) N := by
  have := m_isAmong (d := d) (Q := Q) (M := N) (s := 1) (x := x) (by omega)
  rw [← am_ltr]
  exact this
theorem ltr_x (x : Int32) (h : ¬ ltr x = -1) : ∃ k, k < 6 ∧ ltr x = nI k ∧ ∃ j, j < 128 ∧ x = nI j := by
  unfold ltr at h ⊢
  by_cases h1 : x = 119
  · subst h1; exact ⟨0, by omega, rfl, 119, by omega, rfl⟩
  · by_cases h2 : x = 105
    · subst h2; exact ⟨1, by omega, rfl, 105, by omega, rfl⟩
    · by_cases h3 : x = 120
      · subst h3; exact ⟨2, by omega, rfl, 120, by omega, rfl⟩
      · by_cases h4 : x = 110
        · subst h4; exact ⟨3, by omega, rfl, 110, by omega, rfl⟩
        · by_cases h5 : x = 98
          · subst h5; exact ⟨4, by omega, rfl, 98, by omega, rfl⟩
          · by_cases h6 : x = 116
            · subst h6; exact ⟨5, by omega, rfl, 116, by omega, rfl⟩
            · simp [h1, h2, h3, h4, h5, h6] at h
/-- the reference's letters -/
def LMt (M : am_M) (L : Int32 → Int32) : Prop := ∀ x j, ¬ ltr x = -1 → j < 128 → x = nI j → gI M 461 j = L (ltr x) ∧ Bd (L (ltr x))
/-- the rest of a number -/
theorem l_mnum (h : PB M b beg T len) : ∀ (j p g w : Nat), p + j = len → 1 ≤ g → g ≤ 4 → w < 10 ^ g → ∃ v q f, (∀ d (Q : am_Q) l1, ok (d + 1) mX11_atom 488 Q 488 0 0 90 [some (.ref 457), some (.int l1), some (.int (nI w)), some (.int (nI g))] [] (md M p (-1) dp) = Q (some (.int v)) (md M q f dp)) ∧ (¬ (rn T 4 j p g (nI w)).1 = -1 → q = (rn T 4 j p g (nI w)).2 ∧ f = -1 ∧ v = (rn T 4 j p g (nI w)).1 ∧ 0 ≤ v ∧ v < 10000) ∧ ((rn T 4 j p g (nI w)).1 = -1 → f = nI (rn T 4 j p g (nI w)).2) := by
  have hlen := h.2.2.2.2.1
  have hg := h.lim
  have bn : b ≠ 457 := by rcases h.b458 with h | h <;> omega
  have hpw : ∀ g, g ≤ 4 → 10 ^ g ≤ 10000 := fun g hg => by
    have : g = 0 ∨ g = 1 ∨ g = 2 ∨ g = 3 ∨ g = 4 := by omega
    rcases this with rfl | rfl | rfl | rfl | rfl <;> decide
  intro j
  induction j with
  | zero =>
    intro p g w hp g1 g2 hw
    have hw4 := hpw g g2
    have e1 : sg T len p = -1 := by unfold sg; rw [if_neg (by omega)]
    have e2 : dgt (-1) = false := by decide
    unfold rn
    refine ⟨nI w, p, -1, fun d Q l1 => ?_, fun _ => ⟨rfl, rfl, rfl, nI_pos' (by omega), by rw [show (10000 : Int32) = nI 10000 from rfl]; exact nI_lt (by omega) (by omega)⟩, fun z => absurd z (by rw [nI_m1 (by omega)]; exact id)⟩
    rw [sX11_atom_90]
    simp (disch := (first | assumption | omega | decide)) only [sX11_atom_0, sX11_atom_1, sX11_atom_4, sX11_atom_5, sX11_atom_7, sX11_atom_8, sX11_atom_11, sX11_atom_14, sX11_atom_15, sX11_atom_16, sX11_atom_19, sX11_atom_20, sX11_atom_21, sX11_atom_24, sX11_atom_25, sX11_atom_28, sX11_atom_29, sX11_atom_30, sX11_atom_31, sX11_atom_32, sX11_atom_34, sX11_atom_37, sX11_atom_38, sX11_atom_41, sX11_atom_44, sX11_atom_45, sX11_atom_46, sX11_atom_47, sX11_atom_50, sX11_atom_51, sX11_atom_52, sX11_atom_54, sX11_atom_57, sX11_atom_60, sX11_atom_61, sX11_atom_62, sX11_atom_63, sX11_atom_64, sX11_atom_67, sX11_atom_68, sX11_atom_69, sX11_atom_72, sX11_atom_73, sX11_atom_74, sX11_atom_75, sX11_atom_78, sX11_atom_81, sX11_atom_82, sX11_atom_85, sX11_atom_86, sX11_atom_87, sX11_atom_88, sX11_atom_89, sX11_atom_91, sX11_atom_94, sX11_atom_97, sX11_atom_98, sX11_atom_101, sX11_atom_102, sX11_atom_105, sX11_atom_106, sX11_atom_107, sX11_atom_110, sX11_atom_111, sX11_atom_114, sX11_atom_115, sX11_atom_116, sX11_atom_117, sX11_atom_119, sX11_atom_120, sX11_atom_121, sX11_atom_122, sX11_atom_125, sX11_atom_126, sX11_atom_129, sX11_atom_130, sX11_atom_133, sX11_atom_134, sX11_atom_135, sX11_atom_136, sX11_atom_138, sX11_atom_139, sX11_atom_140, sX11_atom_141, sX11_atom_142, sX11_atom_145, sX11_atom_146, sX11_atom_147, sX11_atom_150, sX11_atom_153, sX11_atom_156, sX11_atom_157, kI_i, kL_l, kV_v, am_rv_s, am_kl_i, am_kl_r, am_kl_n, am_kl_l, true_and, and_true, and_self, true_or, or_true, implies_true, forall_const, not_true_eq_false, not_false_eq_true, false_implies, true_implies, if_true, if_false, Bool.true_eq_false, Bool.false_eq_true, ob_457, md_isDigit h, e1, e2, bz_f]
  | succ j ih =>
    intro p g w hp g1 g2 hw
    have hw4 := hpw g g2
    have hlt : p < len := by omega
    have e1 : sg T len p = T p := by unfold sg; rw [if_pos hlt]
    unfold rn
    cases c1 : dgt (T p) with
    | false =>
      simp only [Bool.false_eq_true, if_false]
      refine ⟨nI w, p, -1, fun d Q l1 => ?_, fun _ => ⟨rfl, rfl, rfl, nI_pos' (by omega), by rw [show (10000 : Int32) = nI 10000 from rfl]; exact nI_lt (by omega) (by omega)⟩, fun z => absurd z (by rw [nI_m1 (by omega)]; exact id)⟩
      rw [sX11_atom_90]
      simp (disch := (first | assumption | omega | decide)) only [sX11_atom_0, sX11_atom_1, sX11_atom_4, sX11_atom_5, sX11_atom_7, sX11_atom_8, sX11_atom_11, sX11_atom_14, sX11_atom_15, sX11_atom_16, sX11_atom_19, sX11_atom_20, sX11_atom_21, sX11_atom_24, sX11_atom_25, sX11_atom_28, sX11_atom_29, sX11_atom_30, sX11_atom_31, sX11_atom_32, sX11_atom_34, sX11_atom_37, sX11_atom_38, sX11_atom_41, sX11_atom_44, sX11_atom_45, sX11_atom_46, sX11_atom_47, sX11_atom_50, sX11_atom_51, sX11_atom_52, sX11_atom_54, sX11_atom_57, sX11_atom_60, sX11_atom_61, sX11_atom_62, sX11_atom_63, sX11_atom_64, sX11_atom_67, sX11_atom_68, sX11_atom_69, sX11_atom_72, sX11_atom_73, sX11_atom_74, sX11_atom_75, sX11_atom_78, sX11_atom_81, sX11_atom_82, sX11_atom_85, sX11_atom_86, sX11_atom_87, sX11_atom_88, sX11_atom_89, sX11_atom_91, sX11_atom_94, sX11_atom_97, sX11_atom_98, sX11_atom_101, sX11_atom_102, sX11_atom_105, sX11_atom_106, sX11_atom_107, sX11_atom_110, sX11_atom_111, sX11_atom_114, sX11_atom_115, sX11_atom_116, sX11_atom_117, sX11_atom_119, sX11_atom_120, sX11_atom_121, sX11_atom_122, sX11_atom_125, sX11_atom_126, sX11_atom_129, sX11_atom_130, sX11_atom_133, sX11_atom_134, sX11_atom_135, sX11_atom_136, sX11_atom_138, sX11_atom_139, sX11_atom_140, sX11_atom_141, sX11_atom_142, sX11_atom_145, sX11_atom_146, sX11_atom_147, sX11_atom_150, sX11_atom_153, sX11_atom_156, sX11_atom_157, kI_i, kL_l, kV_v, am_rv_s, am_kl_i, am_kl_r, am_kl_n, am_kl_l, true_and, and_true, and_self, true_or, or_true, implies_true, forall_const, not_true_eq_false, not_false_eq_true, false_implies, true_implies, if_true, if_false, Bool.true_eq_false, Bool.false_eq_true, ob_457, md_isDigit h, e1, c1, bz_f]
    | true =>
      obtain ⟨k, hk, ek⟩ := dgt_n c1
      obtain ⟨cb, hb1, hb2, hb3⟩ := h.2.2.2.2.2 p hlt
      have hcb : cb = 48 + k := by
        have : nI cb = nI (48 + k) := by rw [← hb3, ek]
        rwa [nI_eqE (by omega) (by omega)] at this
      have hraw : gI M b (beg + p) = nI (48 + k) := by
        rw [hb2, hcb]
        exact (by decide +kernel : ∀ k, k < 10 → bsx (48 + k) = nI (48 + k)) k hk
      have hiw := h.iw (k := p) hlt
      by_cases c2 : 4 ≤ g
      · have g4 : g = 4 := by omega
        subst g4
        simp only [if_true, Nat.le_refl]
        refine ⟨0, p, nI p, fun d Q l1 => ?_, fun z => absurd trivial z, fun _ => rfl⟩
        rw [sX11_atom_90]
        have e4 : nI 4 = 4 := rfl
        simp (disch := (first | assumption | omega | decide)) only [sX11_atom_0, sX11_atom_1, sX11_atom_4, sX11_atom_5, sX11_atom_7, sX11_atom_8, sX11_atom_11, sX11_atom_14, sX11_atom_15, sX11_atom_16, sX11_atom_19, sX11_atom_20, sX11_atom_21, sX11_atom_24, sX11_atom_25, sX11_atom_28, sX11_atom_29, sX11_atom_30, sX11_atom_31, sX11_atom_32, sX11_atom_34, sX11_atom_37, sX11_atom_38, sX11_atom_41, sX11_atom_44, sX11_atom_45, sX11_atom_46, sX11_atom_47, sX11_atom_50, sX11_atom_51, sX11_atom_52, sX11_atom_54, sX11_atom_57, sX11_atom_60, sX11_atom_61, sX11_atom_62, sX11_atom_63, sX11_atom_64, sX11_atom_67, sX11_atom_68, sX11_atom_69, sX11_atom_72, sX11_atom_73, sX11_atom_74, sX11_atom_75, sX11_atom_78, sX11_atom_81, sX11_atom_82, sX11_atom_85, sX11_atom_86, sX11_atom_87, sX11_atom_88, sX11_atom_89, sX11_atom_91, sX11_atom_94, sX11_atom_97, sX11_atom_98, sX11_atom_101, sX11_atom_102, sX11_atom_105, sX11_atom_106, sX11_atom_107, sX11_atom_110, sX11_atom_111, sX11_atom_114, sX11_atom_115, sX11_atom_116, sX11_atom_117, sX11_atom_119, sX11_atom_120, sX11_atom_121, sX11_atom_122, sX11_atom_125, sX11_atom_126, sX11_atom_129, sX11_atom_130, sX11_atom_133, sX11_atom_134, sX11_atom_135, sX11_atom_136, sX11_atom_138, sX11_atom_139, sX11_atom_140, sX11_atom_141, sX11_atom_142, sX11_atom_145, sX11_atom_146, sX11_atom_147, sX11_atom_150, sX11_atom_153, sX11_atom_156, sX11_atom_157, kI_i, kL_l, kV_v, am_rv_s, am_kl_i, am_kl_r, am_kl_n, am_kl_l, true_and, and_true, and_self, true_or, or_true, implies_true, forall_const, not_true_eq_false, not_false_eq_true, false_implies, true_implies, if_true, if_false, Bool.true_eq_false, Bool.false_eq_true, ob_457, md_isDigit h, e1, c1, bz_t, i01, gI_md1, e4, md_fails]
      · simp only [if_true, c2, if_false]
        have hv : nI w * 10 + T p - 48 = nI (10 * w + k) := by rw [ek, show (10 : Int32) = nI 10 from rfl, show (48 : Int32) = nI 48 from rfl, pk_mul, nI_add, pk_sub (by omega)]; congr 1; omega
        have hv' : 10 * nI w + nI (48 + k) - 48 = nI (10 * w + k) := by rw [show (10 : Int32) = nI 10 from rfl, show (48 : Int32) = nI 48 from rfl, pk_mul, nI_add, pk_sub (by omega)]; congr 1; omega
        rw [hv]
        obtain ⟨v, q, f, e, r1, r2⟩ := ih (p + 1) (g + 1) (10 * w + k) (by omega) (by omega) (by omega) (by rw [Nat.pow_succ]; omega)
        refine ⟨v, q, f, fun d Q l1 => ?_, r1, r2⟩
        have eg : (nI g = 4) = False := by rw [show (4 : Int32) = nI 4 from rfl, nI_eqE (by omega) (by omega)]; exact eq_false (by omega)
        rw [sX11_atom_90]
        simp (disch := (first | assumption | omega | decide)) only [sX11_atom_0, sX11_atom_1, sX11_atom_4, sX11_atom_5, sX11_atom_7, sX11_atom_8, sX11_atom_11, sX11_atom_14, sX11_atom_15, sX11_atom_16, sX11_atom_19, sX11_atom_20, sX11_atom_21, sX11_atom_24, sX11_atom_25, sX11_atom_28, sX11_atom_29, sX11_atom_30, sX11_atom_31, sX11_atom_32, sX11_atom_34, sX11_atom_37, sX11_atom_38, sX11_atom_41, sX11_atom_44, sX11_atom_45, sX11_atom_46, sX11_atom_47, sX11_atom_50, sX11_atom_51, sX11_atom_52, sX11_atom_54, sX11_atom_57, sX11_atom_60, sX11_atom_61, sX11_atom_62, sX11_atom_63, sX11_atom_64, sX11_atom_67, sX11_atom_68, sX11_atom_69, sX11_atom_72, sX11_atom_73, sX11_atom_74, sX11_atom_75, sX11_atom_78, sX11_atom_81, sX11_atom_82, sX11_atom_85, sX11_atom_86, sX11_atom_87, sX11_atom_88, sX11_atom_89, sX11_atom_91, sX11_atom_94, sX11_atom_97, sX11_atom_98, sX11_atom_101, sX11_atom_102, sX11_atom_105, sX11_atom_106, sX11_atom_107, sX11_atom_110, sX11_atom_111, sX11_atom_114, sX11_atom_115, sX11_atom_116, sX11_atom_117, sX11_atom_119, sX11_atom_120, sX11_atom_121, sX11_atom_122, sX11_atom_125, sX11_atom_126, sX11_atom_129, sX11_atom_130, sX11_atom_133, sX11_atom_134, sX11_atom_135, sX11_atom_136, sX11_atom_138, sX11_atom_139, sX11_atom_140, sX11_atom_141, sX11_atom_142, sX11_atom_145, sX11_atom_146, sX11_atom_147, sX11_atom_150, sX11_atom_153, sX11_atom_156, sX11_atom_157, kI_i, kL_l, kV_v, am_rv_s, am_kl_i, am_kl_r, am_kl_n, am_kl_l, true_and, and_true, and_self, true_or, or_true, implies_true, forall_const, not_true_eq_false, not_false_eq_true, false_implies, true_implies, if_true, if_false, Bool.true_eq_false, Bool.false_eq_true, ob_457, md_isDigit h, e1, c1, bz_t, i01, gI_md1, eg, gR_md, h.2.1, gI_md0, nI_add, hiw, nI_clamp, gI_mdo, hraw, hv', nI_1, md_at]
        have g8 : gI (md M p (-1) dp) 457 8 = nI beg := by unfold md; rw [gI_pm (by omega), gI_j (by omega)]; exact h.2.2.1
        simp (disch := (first | assumption | omega | decide)) only [sX11_atom_0, sX11_atom_1, sX11_atom_4, sX11_atom_5, sX11_atom_7, sX11_atom_8, sX11_atom_11, sX11_atom_14, sX11_atom_15, sX11_atom_16, sX11_atom_19, sX11_atom_20, sX11_atom_21, sX11_atom_24, sX11_atom_25, sX11_atom_28, sX11_atom_29, sX11_atom_30, sX11_atom_31, sX11_atom_32, sX11_atom_34, sX11_atom_37, sX11_atom_38, sX11_atom_41, sX11_atom_44, sX11_atom_45, sX11_atom_46, sX11_atom_47, sX11_atom_50, sX11_atom_51, sX11_atom_52, sX11_atom_54, sX11_atom_57, sX11_atom_60, sX11_atom_61, sX11_atom_62, sX11_atom_63, sX11_atom_64, sX11_atom_67, sX11_atom_68, sX11_atom_69, sX11_atom_72, sX11_atom_73, sX11_atom_74, sX11_atom_75, sX11_atom_78, sX11_atom_81, sX11_atom_82, sX11_atom_85, sX11_atom_86, sX11_atom_87, sX11_atom_88, sX11_atom_89, sX11_atom_91, sX11_atom_94, sX11_atom_97, sX11_atom_98, sX11_atom_101, sX11_atom_102, sX11_atom_105, sX11_atom_106, sX11_atom_107, sX11_atom_110, sX11_atom_111, sX11_atom_114, sX11_atom_115, sX11_atom_116, sX11_atom_117, sX11_atom_119, sX11_atom_120, sX11_atom_121, sX11_atom_122, sX11_atom_125, sX11_atom_126, sX11_atom_129, sX11_atom_130, sX11_atom_133, sX11_atom_134, sX11_atom_135, sX11_atom_136, sX11_atom_138, sX11_atom_139, sX11_atom_140, sX11_atom_141, sX11_atom_142, sX11_atom_145, sX11_atom_146, sX11_atom_147, sX11_atom_150, sX11_atom_153, sX11_atom_156, sX11_atom_157, kI_i, kL_l, kV_v, am_rv_s, am_kl_i, am_kl_r, am_kl_n, am_kl_l, true_and, and_true, and_self, true_or, or_true, implies_true, forall_const, not_true_eq_false, not_false_eq_true, false_implies, true_implies, if_true, if_false, Bool.true_eq_false, Bool.false_eq_true, ob_457, g8, gI_md0, nI_add, hiw, nI_clamp, gI_mdo, hraw, hv', nI_1, md_at]
        exact e d Q l1
end
