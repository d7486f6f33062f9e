/-- a method of the reference that reads and works off: its contract -/
def MK (M : am_M) (L : Int32 → Int32) (len K : Nat) (m : am_Y) (ex : List Value) (dep : Int32) (P : Nat → PR) (k : Nat) (C0 : List Int32) (W : Int32 → Prop) : Prop := ∀ p, 0 < p → p ≤ len → ∃ v q f dp, (∀ D (Q : am_Q), K ≤ D → am_big D m ([.ref 457] ++ ex) 488 (md M p (-1) dep) Q = Q (some (.int v)) (md M q f dp)) ∧ ((P p).1 = true → q = (P p).2.1 ∧ f = -1 ∧ dp = dep ∧ CV L (C0 ++ (P p).2.2) k v ∧ W v) ∧ ((P p).1 = false → f = nI (P p).2.1)
theorem MK_mono {M : am_M} {L : Int32 → Int32} {len K K' k : Nat} {m : am_Y} {ex : List Value} {dep : Int32} {P : Nat → PR} {C0 : List Int32} {W : Int32 → Prop} (h : MK M L len K m ex dep P k C0 W) (hK : K ≤ K') : MK M L len K' m ex dep P k C0 W := fun p hp0 hp => by
  obtain ⟨v, q, f, dp, e, r⟩ := h p hp0 hp
  exact ⟨v, q, f, dp, fun D Q hD => e D Q (by omega), r⟩
section
variable {M : am_M} {L : Int32 → Int32} {b beg len K : Nat} {T : Nat → Int32}
theorem dpt6 {lv : Nat} (h : 0 < lv) (h6 : lv ≤ 6) : ¬ dpt lv = 6 ∧ dpt lv + 1 = dpt (lv - 1) ∧ dpt (lv - 1) - 1 = dpt lv := by
  unfold dpt
  refine ⟨?_, ?_, ?_⟩
  · rw [show (6 : Int32) = nI 6 from rfl, nI_eqE (by omega) (by omega)]; omega
  · rw [nI_1]; congr 1; omega
  · rw [nI_sub1 (by omega)]; congr 1; omega
theorem MK_atom {lv k' : Nat} {S : Option (Nat → PR)} (hW : WR M) (h : PB M b beg T len) (hLM : LMt M L) (hlv : lv ≤ 6) (hS : ∀ s, S = some s → 0 < lv ∧ gd len s ∧ MK M L len K mX11_sum [] (dpt (lv - 1)) s k' [] Bd) (hN : S = none → lv = 0) (hK : 3 ≤ K) (hk : k' ≤ 1 + 2 * lv) : MK M L len (K + 1) mX11_atom [] (dpt lv) (atomF T len S) (1 + 2 * lv) [] Bd := by
  intro p hp0 hp
  have hlen := h.2.2.2.2.1
  have hs := skp_le' (T := T) hp
  have hg := skp_ge (T := T) (len := len) (p := p)
  unfold atomF
  by_cases c1 : sg T len (skp T len p) = 91
  · have hlt := sg_lt c1 (by decide)
    rw [if_pos c1]
    have l91 : decide (¬ ltr 91 = -1) = false := by decide
    cases S with
    | none =>
      have e6 : dpt lv = 6 := by rw [hN rfl]; decide
      refine ⟨0, skp T len p, nI (skp T len p), dpt lv, fun D Q hD => ?_, fun z => (by cases z), fun _ => rfl⟩
      obtain ⟨d, rfl⟩ : ∃ d, D = d + 4 := ⟨D - 4, by omega⟩
      show am_big (d + 3 + 1) mX11_atom [.ref 457] 488 _ Q = _
      rw [eX11_atom]
      simp (disch := (first | assumption | omega | decide)) only [sX11_atom_0, sX11_atom_1, sX11_atom_4, sX11_atom_5, sX11_atom_7, sX11_atom_8, sX11_atom_11, sX11_atom_14, sX11_atom_15, sX11_atom_16, sX11_atom_19, sX11_atom_20, sX11_atom_21, sX11_atom_24, sX11_atom_25, sX11_atom_28, sX11_atom_29, sX11_atom_30, sX11_atom_31, sX11_atom_32, sX11_atom_34, sX11_atom_37, sX11_atom_38, sX11_atom_41, sX11_atom_44, sX11_atom_45, sX11_atom_46, sX11_atom_47, sX11_atom_50, sX11_atom_51, sX11_atom_52, sX11_atom_54, sX11_atom_57, sX11_atom_60, sX11_atom_61, sX11_atom_62, sX11_atom_63, sX11_atom_64, sX11_atom_67, sX11_atom_68, sX11_atom_69, sX11_atom_72, sX11_atom_73, sX11_atom_74, sX11_atom_75, sX11_atom_78, sX11_atom_81, sX11_atom_82, sX11_atom_85, sX11_atom_86, sX11_atom_87, sX11_atom_88, sX11_atom_89, sX11_atom_91, sX11_atom_94, sX11_atom_97, sX11_atom_98, sX11_atom_101, sX11_atom_102, sX11_atom_105, sX11_atom_106, sX11_atom_107, sX11_atom_110, sX11_atom_111, sX11_atom_114, sX11_atom_115, sX11_atom_116, sX11_atom_117, sX11_atom_119, sX11_atom_120, sX11_atom_121, sX11_atom_122, sX11_atom_125, sX11_atom_126, sX11_atom_129, sX11_atom_130, sX11_atom_133, sX11_atom_134, sX11_atom_135, sX11_atom_136, sX11_atom_138, sX11_atom_139, sX11_atom_140, sX11_atom_141, sX11_atom_142, sX11_atom_145, sX11_atom_146, sX11_atom_147, sX11_atom_150, sX11_atom_153, sX11_atom_156, sX11_atom_157, kI_i, kL_l, kV_v, am_rv_s, am_kl_i, am_kl_r, am_kl_n, am_kl_l, true_and, and_true, and_self, true_or, or_true, implies_true, forall_const, not_true_eq_false, not_false_eq_true, false_implies, true_implies, if_true, if_false, Bool.true_eq_false, Bool.false_eq_true, ob_457, md_look h, c1, m_among, l91, bz_f, md_goesIn6 e6]
    | some s =>
      obtain ⟨hl0, hgs, hPs⟩ := hS s rfl
      obtain ⟨d1, d2, d3⟩ := dpt6 hl0 hlv
      have hq := hgs (skp T len p + 1) (by omega)
      obtain ⟨v, q, f, dp, e, r1, r2⟩ := hPs (skp T len p + 1) (by omega) (by omega)
      unfold clsF
      simp only
      generalize hr : s (skp T len p + 1) = r at r1 r2 hq
      obtain ⟨ok1, q1, cc⟩ := r
      simp only at r1 r2 hq
      have e' : ∀ D (Q : am_Q), K ≤ D → am_big D mX11_sum [.ref 457] 488 (md M (skp T len p + 1) (-1) (dpt (lv - 1))) Q = Q (some (.int v)) (md M q f dp) := e
      cases ok1 with
      | false =>
        have r2 := r2 rfl
        subst r2
        refine ⟨0, q, nI q1, dp, fun D Q hD => ?_, fun z => (by cases z), fun _ => rfl⟩
        obtain ⟨d, rfl⟩ : ∃ d, D = d + 4 := ⟨D - 4, by omega⟩
        show am_big (d + 3 + 1) mX11_atom [.ref 457] 488 _ Q = _
        rw [eX11_atom]
        simp (disch := (first | assumption | omega | decide)) only [sX11_atom_0, sX11_atom_1, sX11_atom_4, sX11_atom_5, sX11_atom_7, sX11_atom_8, sX11_atom_11, sX11_atom_14, sX11_atom_15, sX11_atom_16, sX11_atom_19, sX11_atom_20, sX11_atom_21, sX11_atom_24, sX11_atom_25, sX11_atom_28, sX11_atom_29, sX11_atom_30, sX11_atom_31, sX11_atom_32, sX11_atom_34, sX11_atom_37, sX11_atom_38, sX11_atom_41, sX11_atom_44, sX11_atom_45, sX11_atom_46, sX11_atom_47, sX11_atom_50, sX11_atom_51, sX11_atom_52, sX11_atom_54, sX11_atom_57, sX11_atom_60, sX11_atom_61, sX11_atom_62, sX11_atom_63, sX11_atom_64, sX11_atom_67, sX11_atom_68, sX11_atom_69, sX11_atom_72, sX11_atom_73, sX11_atom_74, sX11_atom_75, sX11_atom_78, sX11_atom_81, sX11_atom_82, sX11_atom_85, sX11_atom_86, sX11_atom_87, sX11_atom_88, sX11_atom_89, sX11_atom_91, sX11_atom_94, sX11_atom_97, sX11_atom_98, sX11_atom_101, sX11_atom_102, sX11_atom_105, sX11_atom_106, sX11_atom_107, sX11_atom_110, sX11_atom_111, sX11_atom_114, sX11_atom_115, sX11_atom_116, sX11_atom_117, sX11_atom_119, sX11_atom_120, sX11_atom_121, sX11_atom_122, sX11_atom_125, sX11_atom_126, sX11_atom_129, sX11_atom_130, sX11_atom_133, sX11_atom_134, sX11_atom_135, sX11_atom_136, sX11_atom_138, sX11_atom_139, sX11_atom_140, sX11_atom_141, sX11_atom_142, sX11_atom_145, sX11_atom_146, sX11_atom_147, sX11_atom_150, sX11_atom_153, sX11_atom_156, sX11_atom_157, kI_i, kL_l, kV_v, am_rv_s, am_kl_i, am_kl_r, am_kl_n, am_kl_l, true_and, and_true, and_self, true_or, or_true, implies_true, forall_const, not_true_eq_false, not_false_eq_true, false_implies, true_implies, if_true, if_false, Bool.true_eq_false, Bool.false_eq_true, ob_457, md_look h, c1, m_among, l91, bz_f, md_goesIn d1, d2, i01, e', md_takes1]
      | true =>
        obtain ⟨rfl, rfl, rfl, r3, r4⟩ := r1 rfl
        simp only [if_true]
        by_cases c2 : sg T len (skp T len q) = 93
        · rw [if_pos c2]
          refine ⟨v, skp T len q + 1, -1, dpt lv, fun D Q hD => ?_, fun _ => ⟨rfl, rfl, rfl, CV_mono r3 hk, r4⟩, fun z => by cases z⟩
          obtain ⟨d, rfl⟩ : ∃ d, D = d + 4 := ⟨D - 4, by omega⟩
          show am_big (d + 3 + 1) mX11_atom [.ref 457] 488 _ Q = _
          rw [eX11_atom]
          simp (disch := (first | assumption | omega | decide)) only [sX11_atom_0, sX11_atom_1, sX11_atom_4, sX11_atom_5, sX11_atom_7, sX11_atom_8, sX11_atom_11, sX11_atom_14, sX11_atom_15, sX11_atom_16, sX11_atom_19, sX11_atom_20, sX11_atom_21, sX11_atom_24, sX11_atom_25, sX11_atom_28, sX11_atom_29, sX11_atom_30, sX11_atom_31, sX11_atom_32, sX11_atom_34, sX11_atom_37, sX11_atom_38, sX11_atom_41, sX11_atom_44, sX11_atom_45, sX11_atom_46, sX11_atom_47, sX11_atom_50, sX11_atom_51, sX11_atom_52, sX11_atom_54, sX11_atom_57, sX11_atom_60, sX11_atom_61, sX11_atom_62, sX11_atom_63, sX11_atom_64, sX11_atom_67, sX11_atom_68, sX11_atom_69, sX11_atom_72, sX11_atom_73, sX11_atom_74, sX11_atom_75, sX11_atom_78, sX11_atom_81, sX11_atom_82, sX11_atom_85, sX11_atom_86, sX11_atom_87, sX11_atom_88, sX11_atom_89, sX11_atom_91, sX11_atom_94, sX11_atom_97, sX11_atom_98, sX11_atom_101, sX11_atom_102, sX11_atom_105, sX11_atom_106, sX11_atom_107, sX11_atom_110, sX11_atom_111, sX11_atom_114, sX11_atom_115, sX11_atom_116, sX11_atom_117, sX11_atom_119, sX11_atom_120, sX11_atom_121, sX11_atom_122, sX11_atom_125, sX11_atom_126, sX11_atom_129, sX11_atom_130, sX11_atom_133, sX11_atom_134, sX11_atom_135, sX11_atom_136, sX11_atom_138, sX11_atom_139, sX11_atom_140, sX11_atom_141, sX11_atom_142, sX11_atom_145, sX11_atom_146, sX11_atom_147, sX11_atom_150, sX11_atom_153, sX11_atom_156, sX11_atom_157, kI_i, kL_l, kV_v, am_rv_s, am_kl_i, am_kl_r, am_kl_n, am_kl_l, true_and, and_true, and_self, true_or, or_true, implies_true, forall_const, not_true_eq_false, not_false_eq_true, false_implies, true_implies, if_true, if_false, Bool.true_eq_false, Bool.false_eq_true, ob_457, md_look h, c1, m_among, l91, bz_f, md_goesIn d1, d2, d3, i01, e', md_takes h, c2, gI_md2, md_dp]
        · rw [if_neg c2]
          refine ⟨0, skp T len q, nI (skp T len q), dpt (lv - 1), fun D Q hD => ?_, fun z => (by cases z), fun _ => rfl⟩
          obtain ⟨d, rfl⟩ : ∃ d, D = d + 4 := ⟨D - 4, by omega⟩
          show am_big (d + 3 + 1) mX11_atom [.ref 457] 488 _ Q = _
          rw [eX11_atom]
          simp (disch := (first | assumption | omega | decide)) only [sX11_atom_0, sX11_atom_1, sX11_atom_4, sX11_atom_5, sX11_atom_7, sX11_atom_8, sX11_atom_11, sX11_atom_14, sX11_atom_15, sX11_atom_16, sX11_atom_19, sX11_atom_20, sX11_atom_21, sX11_atom_24, sX11_atom_25, sX11_atom_28, sX11_atom_29, sX11_atom_30, sX11_atom_31, sX11_atom_32, sX11_atom_34, sX11_atom_37, sX11_atom_38, sX11_atom_41, sX11_atom_44, sX11_atom_45, sX11_atom_46, sX11_atom_47, sX11_atom_50, sX11_atom_51, sX11_atom_52, sX11_atom_54, sX11_atom_57, sX11_atom_60, sX11_atom_61, sX11_atom_62, sX11_atom_63, sX11_atom_64, sX11_atom_67, sX11_atom_68, sX11_atom_69, sX11_atom_72, sX11_atom_73, sX11_atom_74, sX11_atom_75, sX11_atom_78, sX11_atom_81, sX11_atom_82, sX11_atom_85, sX11_atom_86, sX11_atom_87, sX11_atom_88, sX11_atom_89, sX11_atom_91, sX11_atom_94, sX11_atom_97, sX11_atom_98, sX11_atom_101, sX11_atom_102, sX11_atom_105, sX11_atom_106, sX11_atom_107, sX11_atom_110, sX11_atom_111, sX11_atom_114, sX11_atom_115, sX11_atom_116, sX11_atom_117, sX11_atom_119, sX11_atom_120, sX11_atom_121, sX11_atom_122, sX11_atom_125, sX11_atom_126, sX11_atom_129, sX11_atom_130, sX11_atom_133, sX11_atom_134, sX11_atom_135, sX11_atom_136, sX11_atom_138, sX11_atom_139, sX11_atom_140, sX11_atom_141, sX11_atom_142, sX11_atom_145, sX11_atom_146, sX11_atom_147, sX11_atom_150, sX11_atom_153, sX11_atom_156, sX11_atom_157, kI_i, kL_l, kV_v, am_rv_s, am_kl_i, am_kl_r, am_kl_n, am_kl_l, true_and, and_true, and_self, true_or, or_true, implies_true, forall_const, not_true_eq_false, not_false_eq_true, false_implies, true_implies, if_true, if_false, Bool.true_eq_false, Bool.false_eq_true, ob_457, md_look h, c1, m_among, l91, bz_f, md_goesIn d1, d2, i01, e', md_takes h, c2]
  · rw [if_neg c1]
    cases c2 : dgt (sg T len (skp T len p)) with
    | true =>
      simp only [if_true]
      have hlt := sg_dg c2
      obtain ⟨w, hw, ew⟩ := dgt_n c2
      have lw : decide (¬ ltr (nI (48 + w)) = -1) = false := (by decide +kernel : ∀ w, w < 10 → decide (¬ ltr (nI (48 + w)) = -1) = false) w hw
      have c1' : (nI (48 + w) = 91) = False := by rw [← ew]; exact eq_false c1
      have v1 : sg T len (skp T len p) - 48 = nI w := by rw [ew, show (48 : Int32) = nI 48 from rfl, pk_sub (by omega), Nat.add_sub_cancel_left]
      have ern : rnum T len 4 p = rn T 4 (len - (skp T len p + 1)) (skp T len p + 1) 1 (nI w) := by unfold rnum; rw [if_pos c2, v1]
      rw [ern]
      obtain ⟨v, q, f, e, r1, r2⟩ := l_mnum (dp := dpt lv) h (len - (skp T len p + 1)) (skp T len p + 1) 1 w (by omega) (by omega) (by omega) (by omega)
      obtain ⟨cb, hb1, hb2, hb3⟩ := h.2.2.2.2.2 (skp T len p) hlt
      have esg : sg T len (skp T len p) = T (skp T len p) := by unfold sg; rw [if_pos hlt]
      have hcb : cb = 48 + w := by
        have : nI cb = nI (48 + w) := by rw [← hb3, ← esg, ew]
        rwa [nI_eqE (by omega) (by omega)] at this
      have hraw : gI M b (beg + skp T len p) = nI (48 + w) := by
        rw [hb2, hcb]
        exact (by decide +kernel : ∀ k, k < 10 → bsx (48 + k) = nI (48 + k)) w hw
      have hiw := h.iw (k := skp T len p) hlt
      have hgl := h.lim
      have bn : b ≠ 457 := by rcases h.b458 with h | h <;> omega
      have g8 : gI (md M (skp T len p) (-1) (dpt lv)) 457 8 = nI beg := by unfold md; rw [gI_pm (by omega), gI_j (by omega)]; exact h.2.2.1
      have hv' : (10 : Int32) * 0 + nI (48 + w) - 48 = nI w := by rw [Int32.mul_zero, Int32.zero_add, show (48 : Int32) = nI 48 from rfl, pk_sub (by omega), Nat.add_sub_cancel_left]
      have run : ∀ D (Q : am_Q), K + 1 ≤ D → am_big D mX11_atom [.ref 457] 488 (md M p (-1) (dpt lv)) Q = Q (some (.int v)) (md M q f (dpt lv)) := fun D Q hD => by
        obtain ⟨d, rfl⟩ : ∃ d, D = d + 2 := ⟨D - 2, by omega⟩
        show am_big (d + 1 + 1) mX11_atom [.ref 457] 488 _ Q = _
        have c04 : ((0 : Int32) = 4) = False := eq_false (by decide)
        have d2 : dgt (nI (48 + w)) = true := by rw [← ew]; exact c2
        rw [eX11_atom]
        simp (disch := (first | assumption | omega | decide)) only [sX11_atom_0, sX11_atom_1, sX11_atom_4, sX11_atom_5, sX11_atom_7, sX11_atom_8, sX11_atom_11, sX11_atom_14, sX11_atom_15, sX11_atom_16, sX11_atom_19, sX11_atom_20, sX11_atom_21, sX11_atom_24, sX11_atom_25, sX11_atom_28, sX11_atom_29, sX11_atom_30, sX11_atom_31, sX11_atom_32, sX11_atom_34, sX11_atom_37, sX11_atom_38, sX11_atom_41, sX11_atom_44, sX11_atom_45, sX11_atom_46, sX11_atom_47, sX11_atom_50, sX11_atom_51, sX11_atom_52, sX11_atom_54, sX11_atom_57, sX11_atom_60, sX11_atom_61, sX11_atom_62, sX11_atom_63, sX11_atom_64, sX11_atom_67, sX11_atom_68, sX11_atom_69, sX11_atom_72, sX11_atom_73, sX11_atom_74, sX11_atom_75, sX11_atom_78, sX11_atom_81, sX11_atom_82, sX11_atom_85, sX11_atom_86, sX11_atom_87, sX11_atom_88, sX11_atom_89, sX11_atom_91, sX11_atom_94, sX11_atom_97, sX11_atom_98, sX11_atom_101, sX11_atom_102, sX11_atom_105, sX11_atom_106, sX11_atom_107, sX11_atom_110, sX11_atom_111, sX11_atom_114, sX11_atom_115, sX11_atom_116, sX11_atom_117, sX11_atom_119, sX11_atom_120, sX11_atom_121, sX11_atom_122, sX11_atom_125, sX11_atom_126, sX11_atom_129, sX11_atom_130, sX11_atom_133, sX11_atom_134, sX11_atom_135, sX11_atom_136, sX11_atom_138, sX11_atom_139, sX11_atom_140, sX11_atom_141, sX11_atom_142, sX11_atom_145, sX11_atom_146, sX11_atom_147, sX11_atom_150, sX11_atom_153, sX11_atom_156, sX11_atom_157, kI_i, kL_l, kV_v, am_rv_s, am_kl_i, am_kl_r, am_kl_n, am_kl_l, true_and, and_true, and_self, true_or, or_true, implies_true, forall_const, not_true_eq_false, not_false_eq_true, false_implies, true_implies, if_true, if_false, Bool.true_eq_false, Bool.false_eq_true, ob_457, md_look h, md_isDigit h, ew, d2, c1', m_among, lw, bz_f, bz_t, i01]
        rw [sX11_atom_90]
        simp (disch := (first | assumption | omega | decide)) only [sX11_atom_0, sX11_atom_1, sX11_atom_4, sX11_atom_5, sX11_atom_7, sX11_atom_8, sX11_atom_11, sX11_atom_14, sX11_atom_15, sX11_atom_16, sX11_atom_19, sX11_atom_20, sX11_atom_21, sX11_atom_24, sX11_atom_25, sX11_atom_28, sX11_atom_29, sX11_atom_30, sX11_atom_31, sX11_atom_32, sX11_atom_34, sX11_atom_37, sX11_atom_38, sX11_atom_41, sX11_atom_44, sX11_atom_45, sX11_atom_46, sX11_atom_47, sX11_atom_50, sX11_atom_51, sX11_atom_52, sX11_atom_54, sX11_atom_57, sX11_atom_60, sX11_atom_61, sX11_atom_62, sX11_atom_63, sX11_atom_64, sX11_atom_67, sX11_atom_68, sX11_atom_69, sX11_atom_72, sX11_atom_73, sX11_atom_74, sX11_atom_75, sX11_atom_78, sX11_atom_81, sX11_atom_82, sX11_atom_85, sX11_atom_86, sX11_atom_87, sX11_atom_88, sX11_atom_89, sX11_atom_91, sX11_atom_94, sX11_atom_97, sX11_atom_98, sX11_atom_101, sX11_atom_102, sX11_atom_105, sX11_atom_106, sX11_atom_107, sX11_atom_110, sX11_atom_111, sX11_atom_114, sX11_atom_115, sX11_atom_116, sX11_atom_117, sX11_atom_119, sX11_atom_120, sX11_atom_121, sX11_atom_122, sX11_atom_125, sX11_atom_126, sX11_atom_129, sX11_atom_130, sX11_atom_133, sX11_atom_134, sX11_atom_135, sX11_atom_136, sX11_atom_138, sX11_atom_139, sX11_atom_140, sX11_atom_141, sX11_atom_142, sX11_atom_145, sX11_atom_146, sX11_atom_147, sX11_atom_150, sX11_atom_153, sX11_atom_156, sX11_atom_157, kI_i, kL_l, kV_v, am_rv_s, am_kl_i, am_kl_r, am_kl_n, am_kl_l, true_and, and_true, and_self, true_or, or_true, implies_true, forall_const, not_true_eq_false, not_false_eq_true, false_implies, true_implies, if_true, if_false, Bool.true_eq_false, Bool.false_eq_true, ob_457, md_isDigit h, ew, d2, bz_t, i01, gI_md1, c04, gR_md, h.2.1, g8, gI_md0, nI_add, hiw, nI_clamp, gI_mdo, hraw, hv', nI_1, md_at, j01]
        exact e d Q _
      by_cases c3 : (rn T 4 (len - (skp T len p + 1)) (skp T len p + 1) 1 (nI w)).1 = -1
      · refine ⟨v, q, f, dpt lv, run, fun z => by simp [c3] at z, fun _ => r2 c3⟩
      · obtain ⟨a1, a2, a3, a4, a5⟩ := r1 c3
        refine ⟨v, q, f, dpt lv, run, fun _ => ⟨a1, a2, rfl, ?_, ?_⟩, fun z => by simp [c3] at z⟩
        · rw [← a3]; exact CV_mono (CV_num a4 a5) (by omega)
        · have z1 := Int32.le_iff_toInt_le.mp a4
          have z2 := Int32.lt_iff_toInt_lt.mp a5
          have y1 : (0 : Int32).toInt = 0 := by decide
          have y2 : (10000 : Int32).toInt = 10000 := by decide
          unfold Bd; omega
    | false =>
      simp only [Bool.false_eq_true, if_false]
      by_cases c3 : ltr (sg T len (skp T len p)) = -1
      · rw [if_pos c3]
        refine ⟨0, skp T len p, nI (skp T len p), dpt lv, fun D Q hD => ?_, fun z => (by cases z), fun _ => rfl⟩
        obtain ⟨d, rfl⟩ : ∃ d, D = d + 4 := ⟨D - 4, by omega⟩
        show am_big (d + 3 + 1) mX11_atom [.ref 457] 488 _ Q = _
        rw [eX11_atom]
        simp (disch := (first | assumption | omega | decide)) only [sX11_atom_0, sX11_atom_1, sX11_atom_4, sX11_atom_5, sX11_atom_7, sX11_atom_8, sX11_atom_11, sX11_atom_14, sX11_atom_15, sX11_atom_16, sX11_atom_19, sX11_atom_20, sX11_atom_21, sX11_atom_24, sX11_atom_25, sX11_atom_28, sX11_atom_29, sX11_atom_30, sX11_atom_31, sX11_atom_32, sX11_atom_34, sX11_atom_37, sX11_atom_38, sX11_atom_41, sX11_atom_44, sX11_atom_45, sX11_atom_46, sX11_atom_47, sX11_atom_50, sX11_atom_51, sX11_atom_52, sX11_atom_54, sX11_atom_57, sX11_atom_60, sX11_atom_61, sX11_atom_62, sX11_atom_63, sX11_atom_64, sX11_atom_67, sX11_atom_68, sX11_atom_69, sX11_atom_72, sX11_atom_73, sX11_atom_74, sX11_atom_75, sX11_atom_78, sX11_atom_81, sX11_atom_82, sX11_atom_85, sX11_atom_86, sX11_atom_87, sX11_atom_88, sX11_atom_89, sX11_atom_91, sX11_atom_94, sX11_atom_97, sX11_atom_98, sX11_atom_101, sX11_atom_102, sX11_atom_105, sX11_atom_106, sX11_atom_107, sX11_atom_110, sX11_atom_111, sX11_atom_114, sX11_atom_115, sX11_atom_116, sX11_atom_117, sX11_atom_119, sX11_atom_120, sX11_atom_121, sX11_atom_122, sX11_atom_125, sX11_atom_126, sX11_atom_129, sX11_atom_130, sX11_atom_133, sX11_atom_134, sX11_atom_135, sX11_atom_136, sX11_atom_138, sX11_atom_139, sX11_atom_140, sX11_atom_141, sX11_atom_142, sX11_atom_145, sX11_atom_146, sX11_atom_147, sX11_atom_150, sX11_atom_153, sX11_atom_156, sX11_atom_157, kI_i, kL_l, kV_v, am_rv_s, am_kl_i, am_kl_r, am_kl_n, am_kl_l, true_and, and_true, and_self, true_or, or_true, implies_true, forall_const, not_true_eq_false, not_false_eq_true, false_implies, true_implies, if_true, if_false, Bool.true_eq_false, Bool.false_eq_true, ob_457, md_look h, c1, m_among, c3, decide_false, bz_f, md_isDigit h, c2, md_fails]
        rw [sX11_atom_90]
        simp (disch := (first | assumption | omega | decide)) only [sX11_atom_0, sX11_atom_1, sX11_atom_4, sX11_atom_5, sX11_atom_7, sX11_atom_8, sX11_atom_11, sX11_atom_14, sX11_atom_15, sX11_atom_16, sX11_atom_19, sX11_atom_20, sX11_atom_21, sX11_atom_24, sX11_atom_25, sX11_atom_28, sX11_atom_29, sX11_atom_30, sX11_atom_31, sX11_atom_32, sX11_atom_34, sX11_atom_37, sX11_atom_38, sX11_atom_41, sX11_atom_44, sX11_atom_45, sX11_atom_46, sX11_atom_47, sX11_atom_50, sX11_atom_51, sX11_atom_52, sX11_atom_54, sX11_atom_57, sX11_atom_60, sX11_atom_61, sX11_atom_62, sX11_atom_63, sX11_atom_64, sX11_atom_67, sX11_atom_68, sX11_atom_69, sX11_atom_72, sX11_atom_73, sX11_atom_74, sX11_atom_75, sX11_atom_78, sX11_atom_81, sX11_atom_82, sX11_atom_85, sX11_atom_86, sX11_atom_87, sX11_atom_88, sX11_atom_89, sX11_atom_91, sX11_atom_94, sX11_atom_97, sX11_atom_98, sX11_atom_101, sX11_atom_102, sX11_atom_105, sX11_atom_106, sX11_atom_107, sX11_atom_110, sX11_atom_111, sX11_atom_114, sX11_atom_115, sX11_atom_116, sX11_atom_117, sX11_atom_119, sX11_atom_120, sX11_atom_121, sX11_atom_122, sX11_atom_125, sX11_atom_126, sX11_atom_129, sX11_atom_130, sX11_atom_133, sX11_atom_134, sX11_atom_135, sX11_atom_136, sX11_atom_138, sX11_atom_139, sX11_atom_140, sX11_atom_141, sX11_atom_142, sX11_atom_145, sX11_atom_146, sX11_atom_147, sX11_atom_150, sX11_atom_153, sX11_atom_156, sX11_atom_157, kI_i, kL_l, kV_v, am_rv_s, am_kl_i, am_kl_r, am_kl_n, am_kl_l, true_and, and_true, and_self, true_or, or_true, implies_true, forall_const, not_true_eq_false, not_false_eq_true, false_implies, true_implies, if_true, if_false, Bool.true_eq_false, Bool.false_eq_true, ob_457, md_isDigit h, c2, bz_f]
      · rw [if_neg c3]
        obtain ⟨x, hx, ex, j, hj, ej⟩ := ltr_x _ c3
        obtain ⟨m1, m2⟩ := hLM _ j c3 hj ej
        have m3 : gI M 461 j = L (nI x) := by rw [m1, ex]
        refine ⟨L (ltr (sg T len (skp T len p))), skp T len p + 1, -1, dpt lv, fun D Q hD => ?_, fun _ => ⟨rfl, rfl, rfl, ?_, m2⟩, fun z => by cases z⟩
        · obtain ⟨d, rfl⟩ : ∃ d, D = d + 4 := ⟨D - 4, by omega⟩
          show am_big (d + 3 + 1) mX11_atom [.ref 457] 488 _ Q = _
          have c3' : decide (¬ ltr (nI j) = -1) = true := by rw [← ej]; simp [c3]
          rw [eX11_atom]
          simp (disch := (first | assumption | omega | decide)) only [sX11_atom_0, sX11_atom_1, sX11_atom_4, sX11_atom_5, sX11_atom_7, sX11_atom_8, sX11_atom_11, sX11_atom_14, sX11_atom_15, sX11_atom_16, sX11_atom_19, sX11_atom_20, sX11_atom_21, sX11_atom_24, sX11_atom_25, sX11_atom_28, sX11_atom_29, sX11_atom_30, sX11_atom_31, sX11_atom_32, sX11_atom_34, sX11_atom_37, sX11_atom_38, sX11_atom_41, sX11_atom_44, sX11_atom_45, sX11_atom_46, sX11_atom_47, sX11_atom_50, sX11_atom_51, sX11_atom_52, sX11_atom_54, sX11_atom_57, sX11_atom_60, sX11_atom_61, sX11_atom_62, sX11_atom_63, sX11_atom_64, sX11_atom_67, sX11_atom_68, sX11_atom_69, sX11_atom_72, sX11_atom_73, sX11_atom_74, sX11_atom_75, sX11_atom_78, sX11_atom_81, sX11_atom_82, sX11_atom_85, sX11_atom_86, sX11_atom_87, sX11_atom_88, sX11_atom_89, sX11_atom_91, sX11_atom_94, sX11_atom_97, sX11_atom_98, sX11_atom_101, sX11_atom_102, sX11_atom_105, sX11_atom_106, sX11_atom_107, sX11_atom_110, sX11_atom_111, sX11_atom_114, sX11_atom_115, sX11_atom_116, sX11_atom_117, sX11_atom_119, sX11_atom_120, sX11_atom_121, sX11_atom_122, sX11_atom_125, sX11_atom_126, sX11_atom_129, sX11_atom_130, sX11_atom_133, sX11_atom_134, sX11_atom_135, sX11_atom_136, sX11_atom_138, sX11_atom_139, sX11_atom_140, sX11_atom_141, sX11_atom_142, sX11_atom_145, sX11_atom_146, sX11_atom_147, sX11_atom_150, sX11_atom_153, sX11_atom_156, sX11_atom_157, kI_i, kL_l, kV_v, am_rv_s, am_kl_i, am_kl_r, am_kl_n, am_kl_l, true_and, and_true, and_self, true_or, or_true, implies_true, forall_const, not_true_eq_false, not_false_eq_true, false_implies, true_implies, if_true, if_false, Bool.true_eq_false, Bool.false_eq_true, ob_457, md_look h, ej, m_among, c3', bz_t, i01, gI_md0, nI_1, md_at, gR_md, r_457_4, in_461, nI_clamp, gI_mdo]
          rw [← ej, m1]
        · rw [ex]
          exact CV_mono (CV_ltr hx) (by omega)
end
