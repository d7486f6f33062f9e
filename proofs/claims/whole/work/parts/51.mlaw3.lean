theorem lg0 (w : Int32) : (lg_cmp w.toInt64 0 = 0) = (w = 0) := by
  unfold lg_cmp
  have e : (w.toInt64 = 0) = (w = 0) := by
    rw [← Int64.toInt_inj, ← Int32.toInt_inj, Int32.toInt_toInt64]; rfl
  by_cases h : w = 0
  · subst h; simp
  · have h' : ¬ w.toInt64 = 0 := by rw [e]; exact h
    by_cases g : w.toInt64 > 0
    · simp [g, h]
    · simp [g, h, h']
theorem w64 (w : Int32) : (w.toInt64 = 0) = (w = 0) := by
  rw [← Int64.toInt_inj, ← Int32.toInt_inj, Int32.toInt_toInt64]; rfl
def tq (t : Bool) (v w : Int32) : Int32 := clI (if t = true then v.toInt64 * w.toInt64 else if w = 0 then 0 else v.toInt64 / w.toInt64).toInt
def sq (t : Bool) (v w : Int32) : Int32 := clI (if t = true then v.toInt64 + w.toInt64 else v.toInt64 - w.toInt64).toInt
theorem clI_id {v : Int32} (h : Bd v) : clI v.toInt = v := by
  rw [← Int32.toInt_inj, clI_i]
  unfold Bd at h
  rw [if_neg (by omega), if_neg (by omega)]
theorem tq_jn {v w s : Int32} (hv : Bd v) (hw : Bd w) (hs : s = 42 ∨ s = 47) : tq (decide (s = 42)) v w = jn v s w := by
  rcases hs with rfl | rfl
  · show clI (v.toInt64 * w.toInt64).toInt = clI (v.toInt * w.toInt)
    rw [i64_mul hv hw]
  · show clI (if w = 0 then 0 else v.toInt64 / w.toInt64 : Int64).toInt = if w = 0 then 0 else v / w
    by_cases h : w = 0
    · rw [if_pos h, if_pos h]; decide
    · rw [if_neg h, if_neg h]
      have e : (v.toInt64 / w.toInt64).toInt = (v / w).toInt := by
        rw [(div_i hv).1, Int64.toInt_div, Int32.toInt_toInt64, Int32.toInt_toInt64]
        have hab : (v.toInt.tdiv w.toInt).natAbs ≤ v.toInt.natAbs := by rw [Int.natAbs_tdiv]; exact Nat.div_le_self _ _
        unfold Bd at hv
        exact Int.bmod_eq_of_le (by omega) (by omega)
      rw [e, clI_id (Bd_div hv)]
theorem sq_jn {v w s : Int32} (hv : Bd v) (hw : Bd w) (hs : s = 43 ∨ s = 45) : sq (decide (s = 43)) v w = jn v s w := by
  unfold Bd at hv hw
  rcases hs with rfl | rfl
  · show clI (v.toInt64 + w.toInt64).toInt = clI (v.toInt + w.toInt)
    rw [Int64.toInt_add, Int32.toInt_toInt64, Int32.toInt_toInt64, Int.bmod_eq_of_le (by omega) (by omega)]
  · show clI (v.toInt64 - w.toInt64).toInt = clI (v.toInt - w.toInt)
    rw [Int64.toInt_sub, Int32.toInt_toInt64, Int32.toInt_toInt64, Int.bmod_eq_of_le (by omega) (by omega)]
theorem j00 : ((0 : Int32) = 0) = True := eq_true rfl
section
variable {M : am_M} {L : Int32 → Int32} {b beg len K : Nat} {T : Nat → Int32}
theorem lm_term {dep : Int32} {A : Nat → PR} {k kA : Nat} (h : PB M b beg T len) (hA : gd len A) (hP : MK M L len K mX11_atom [] dep A kA [] Bd) (hk : kA + 1 ≤ k) : ∀ (j p : Nat) (c : List Int32) (v : Int32), p ≤ len → len - p < j → CV L c k v → Bd v → ∃ v' q f dp, (∀ d (Q : am_Q) l2 l3 l4, K ≤ d → 2 ≤ d → ok d mX11_term 488 Q 488 0 0 5 [some (.ref 457), some (.int v), l2, l3, l4] [] (md M p (-1) dep) = Q (some (.int v')) (md M q f dp)) ∧ ((opL T len isMD A j p c).1 = true → q = (opL T len isMD A j p c).2.1 ∧ f = -1 ∧ dp = dep ∧ CV L (opL T len isMD A j p c).2.2 k v' ∧ Bd v') ∧ ((opL T len isMD A j p c).1 = false → f = nI (opL T len isMD A j p c).2.1) := by
  have hlen := h.2.2.2.2.1
  intro j
  induction j with
  | zero => intro p c v _ hj; omega
  | succ j ih =>
    intro p c v hp hj hcv hbd
    have hs := skp_le' (T := T) hp
    have hg := skp_ge (T := T) (len := len) (p := p)
    unfold opL
    cases c1 : isMD (sg T len (skp T len p)) with
    | false =>
      have c1' : ¬ sg T len (skp T len p) = 42 ∧ ¬ sg T len (skp T len p) = 47 := by
        unfold isMD at c1
        simpa using c1
      simp only [Bool.false_eq_true, if_false]
      refine ⟨v, skp T len p, -1, dep, fun d Q l2 l3 l4 hd hd2 => ?_, fun _ => ⟨rfl, rfl, rfl, hcv, hbd⟩, fun z => by cases z⟩
      obtain ⟨d', rfl⟩ : ∃ d', d = d' + 2 := ⟨d - 2, by omega⟩
      rw [sX11_term_5]
      simp (disch := (first | assumption | omega | decide)) only [sX11_term_0, sX11_term_1, sX11_term_4, sX11_term_6, sX11_term_9, sX11_term_10, sX11_term_13, sX11_term_14, sX11_term_17, sX11_term_19, sX11_term_22, sX11_term_23, sX11_term_26, sX11_term_28, sX11_term_31, sX11_term_32, sX11_term_35, sX11_term_37, sX11_term_40, sX11_term_41, sX11_term_44, sX11_term_45, sX11_term_46, sX11_term_47, sX11_term_48, sX11_term_51, sX11_term_52, sX11_term_53, sX11_term_56, sX11_term_57, sX11_term_60, sX11_term_61, sX11_term_62, sX11_term_63, sX11_term_66, sX11_term_67, sX11_term_68, sX11_term_69, sX11_term_70, sX11_term_73, sX11_term_74, sX11_term_75, sX11_term_76, sX11_term_79, sX11_term_80, sX11_term_83, sX11_term_84, sX11_term_85, sX11_term_86, sX11_term_87, sX11_term_90, sX11_term_91, sX11_term_94, sX11_term_95, kI_i, kL_l, kV_v, am_rv_s, am_kl_i, am_kl_r, am_kl_n, am_kl_l, true_and, and_true, and_self, true_or, or_true, implies_true, forall_const, not_true_eq_false, not_false_eq_true, false_implies, true_implies, if_true, if_false, Bool.true_eq_false, Bool.false_eq_true, ob_457, gI_md1, md_look h, skp_idem, c1'.1, c1'.2]
    | true =>
      have hlt := sg_ne (by decide) c1
      have hq := hA (skp T len p + 1) (by omega)
      have c1' : (sg T len (skp T len p) = 42 ∨ sg T len (skp T len p) = 47) := by
        unfold isMD at c1
        simpa using c1
      have hio := c1
      generalize hsg : sg T len (skp T len p) = s0 at c1 c1'
      obtain ⟨w, q, f, dp, e, r1, r2⟩ := hP (skp T len p + 1) (by omega) (by omega)
      have e' : ∀ D (Q : am_Q), K ≤ D → am_big D mX11_atom [.ref 457] 488 (md M (skp T len p + 1) (-1) dep) Q = Q (some (.int w)) (md M q f dp) := e
      simp only [if_true]
      generalize hr : A (skp T len p + 1) = r at r1 r2 hq
      obtain ⟨ok1, q1, cc⟩ := r
      simp only at r1 r2 hq
      have st : ∀ d (Q : am_Q) l2 l3 l4, K ≤ d → 2 ≤ d → ok d mX11_term 488 Q 488 0 0 5 [some (.ref 457), some (.int v), l2, l3, l4] [] (md M p (-1) dep) = ok d mX11_term 488 Q 488 0 0 5 [some (.ref 457), some (.int (tq (decide (s0 = 42)) v w)), some (.int (bz (decide (s0 = 42)))), some (.long w.toInt64), none] [] (md M q f dp) := fun d Q l2 l3 l4 hd hd2 => by
        obtain ⟨d', rfl⟩ : ∃ d', d = d' + 2 := ⟨d - 2, by omega⟩
        rw [sX11_term_5]
        rcases c1' with rfl | rfl
        · simp (disch := (first | assumption | omega | decide)) only [sX11_term_0, sX11_term_1, sX11_term_4, sX11_term_6, sX11_term_9, sX11_term_10, sX11_term_13, sX11_term_14, sX11_term_17, sX11_term_19, sX11_term_22, sX11_term_23, sX11_term_26, sX11_term_28, sX11_term_31, sX11_term_32, sX11_term_35, sX11_term_37, sX11_term_40, sX11_term_41, sX11_term_44, sX11_term_45, sX11_term_46, sX11_term_47, sX11_term_48, sX11_term_51, sX11_term_52, sX11_term_53, sX11_term_56, sX11_term_57, sX11_term_60, sX11_term_61, sX11_term_62, sX11_term_63, sX11_term_66, sX11_term_67, sX11_term_68, sX11_term_69, sX11_term_70, sX11_term_73, sX11_term_74, sX11_term_75, sX11_term_76, sX11_term_79, sX11_term_80, sX11_term_83, sX11_term_84, sX11_term_85, sX11_term_86, sX11_term_87, sX11_term_90, sX11_term_91, sX11_term_94, sX11_term_95, kI_i, kL_l, kV_v, am_rv_s, am_kl_i, am_kl_r, am_kl_n, am_kl_l, true_and, and_true, and_self, true_or, or_true, implies_true, forall_const, not_true_eq_false, not_false_eq_true, false_implies, true_implies, if_true, if_false, Bool.true_eq_false, Bool.false_eq_true, ob_457, md_look h, skp_idem, hsg, i01, gI_md0, nI_1, md_at, e', m_within, decide_true, decide_false, bz_t, bz_f, tq, gI_md1]
        · have n47 : ((47 : Int32) = 42) = False := eq_false (by decide)
          by_cases hw0 : w = 0
          · have : w.toInt64 = 0 := by rw [hw0]; rfl
            simp (disch := (first | assumption | omega | decide)) only [sX11_term_0, sX11_term_1, sX11_term_4, sX11_term_6, sX11_term_9, sX11_term_10, sX11_term_13, sX11_term_14, sX11_term_17, sX11_term_19, sX11_term_22, sX11_term_23, sX11_term_26, sX11_term_28, sX11_term_31, sX11_term_32, sX11_term_35, sX11_term_37, sX11_term_40, sX11_term_41, sX11_term_44, sX11_term_45, sX11_term_46, sX11_term_47, sX11_term_48, sX11_term_51, sX11_term_52, sX11_term_53, sX11_term_56, sX11_term_57, sX11_term_60, sX11_term_61, sX11_term_62, sX11_term_63, sX11_term_66, sX11_term_67, sX11_term_68, sX11_term_69, sX11_term_70, sX11_term_73, sX11_term_74, sX11_term_75, sX11_term_76, sX11_term_79, sX11_term_80, sX11_term_83, sX11_term_84, sX11_term_85, sX11_term_86, sX11_term_87, sX11_term_90, sX11_term_91, sX11_term_94, sX11_term_95, kI_i, kL_l, kV_v, am_rv_s, am_kl_i, am_kl_r, am_kl_n, am_kl_l, true_and, and_true, and_self, true_or, or_true, implies_true, forall_const, not_true_eq_false, not_false_eq_true, false_implies, true_implies, if_true, if_false, Bool.true_eq_false, Bool.false_eq_true, ob_457, md_look h, skp_idem, hsg, n47, i01, gI_md0, nI_1, md_at, e', lg0, hw0, m_within, decide_true, decide_false, bz_t, bz_f, tq, gI_md1]
          · simp (disch := (first | assumption | omega | decide)) only [sX11_term_0, sX11_term_1, sX11_term_4, sX11_term_6, sX11_term_9, sX11_term_10, sX11_term_13, sX11_term_14, sX11_term_17, sX11_term_19, sX11_term_22, sX11_term_23, sX11_term_26, sX11_term_28, sX11_term_31, sX11_term_32, sX11_term_35, sX11_term_37, sX11_term_40, sX11_term_41, sX11_term_44, sX11_term_45, sX11_term_46, sX11_term_47, sX11_term_48, sX11_term_51, sX11_term_52, sX11_term_53, sX11_term_56, sX11_term_57, sX11_term_60, sX11_term_61, sX11_term_62, sX11_term_63, sX11_term_66, sX11_term_67, sX11_term_68, sX11_term_69, sX11_term_70, sX11_term_73, sX11_term_74, sX11_term_75, sX11_term_76, sX11_term_79, sX11_term_80, sX11_term_83, sX11_term_84, sX11_term_85, sX11_term_86, sX11_term_87, sX11_term_90, sX11_term_91, sX11_term_94, sX11_term_95, kI_i, kL_l, kV_v, am_rv_s, am_kl_i, am_kl_r, am_kl_n, am_kl_l, true_and, and_true, and_self, true_or, or_true, implies_true, forall_const, not_true_eq_false, not_false_eq_true, false_implies, true_implies, if_true, if_false, Bool.true_eq_false, Bool.false_eq_true, ob_457, md_look h, skp_idem, hsg, n47, i01, gI_md0, nI_1, md_at, e', lg0, w64, hw0, m_within, decide_true, decide_false, bz_t, bz_f, tq, gI_md1]
      cases ok1 with
      | false =>
        have r2 := r2 rfl
        subst r2
        refine ⟨tq (decide (s0 = 42)) v w, q, nI q1, dp, fun d Q l2 l3 l4 hd hd2 => ?_, fun z => (by cases z), fun _ => rfl⟩
        rw [st d Q l2 l3 l4 hd hd2, sX11_term_5]
        simp (disch := (first | assumption | omega | decide)) only [sX11_term_0, sX11_term_1, sX11_term_4, sX11_term_6, sX11_term_9, sX11_term_10, sX11_term_13, sX11_term_14, sX11_term_17, sX11_term_19, sX11_term_22, sX11_term_23, sX11_term_26, sX11_term_28, sX11_term_31, sX11_term_32, sX11_term_35, sX11_term_37, sX11_term_40, sX11_term_41, sX11_term_44, sX11_term_45, sX11_term_46, sX11_term_47, sX11_term_48, sX11_term_51, sX11_term_52, sX11_term_53, sX11_term_56, sX11_term_57, sX11_term_60, sX11_term_61, sX11_term_62, sX11_term_63, sX11_term_66, sX11_term_67, sX11_term_68, sX11_term_69, sX11_term_70, sX11_term_73, sX11_term_74, sX11_term_75, sX11_term_76, sX11_term_79, sX11_term_80, sX11_term_83, sX11_term_84, sX11_term_85, sX11_term_86, sX11_term_87, sX11_term_90, sX11_term_91, sX11_term_94, sX11_term_95, kI_i, kL_l, kV_v, am_rv_s, am_kl_i, am_kl_r, am_kl_n, am_kl_l, true_and, and_true, and_self, true_or, or_true, implies_true, forall_const, not_true_eq_false, not_false_eq_true, false_implies, true_implies, if_true, if_false, Bool.true_eq_false, Bool.false_eq_true, ob_457, gI_md1, nI_m1]
      | true =>
        obtain ⟨rfl, rfl, rfl, r3, r4⟩ := r1 rfl
        have ej := tq_jn hbd r4 c1'
        have har : isAr s0 = true := by rcases c1' with rfl | rfl <;> decide
        obtain ⟨v', q', f', dp', e2, s1, s2⟩ := ih q (c ++ cc ++ [20000 + s0]) (jn v s0 w) hq.2 (by omega) (CV_bin hcv r3 (Nat.le_refl _) hk har) (Bd_jn hbd r4 har)
        refine ⟨v', q', f', dp', fun d Q l2 l3 l4 hd hd2 => ?_, s1, s2⟩
        rw [st d Q l2 l3 l4 hd hd2, ej]
        exact e2 d Q _ _ _ hd hd2
theorem MK_term {dep : Int32} {A : Nat → PR} {k kA : Nat} (h : PB M b beg T len) (hA : gd len A) (hP : MK M L len K mX11_atom [] dep A kA [] Bd) (hk : kA + 1 ≤ k) (hK : 2 ≤ K) : MK M L len (K + 1) mX11_term [] dep (seqQ T len A isMD A) k [] Bd := by
  intro p hp0 hp
  have hlen := h.2.2.2.2.1
  obtain ⟨w, q, f, dp, e, r1, r2⟩ := hP p hp0 hp
  have hq := hA p hp
  have e' : ∀ D (Q : am_Q), K ≤ D → am_big D mX11_atom [.ref 457] 488 (md M p (-1) dep) Q = Q (some (.int w)) (md M q f dp) := e
  unfold seqQ
  generalize hr : A p = r at r1 r2 hq
  obtain ⟨ok1, q1, cc⟩ := r
  simp only at r1 r2 hq
  cases ok1 with
  | false =>
    have r2 := r2 rfl
    subst r2
    refine ⟨w, q, nI q1, dp, fun D Q hD => ?_, fun z => (by cases z), fun _ => rfl⟩
    obtain ⟨d, rfl⟩ : ∃ d, D = d + 1 := ⟨D - 1, by omega⟩
    show am_big (d + 1) mX11_term [.ref 457] 488 _ Q = _
    rw [eX11_term]
    simp (disch := (first | assumption | omega | decide)) only [sX11_term_0, sX11_term_1, sX11_term_4, sX11_term_6, sX11_term_9, sX11_term_10, sX11_term_13, sX11_term_14, sX11_term_17, sX11_term_19, sX11_term_22, sX11_term_23, sX11_term_26, sX11_term_28, sX11_term_31, sX11_term_32, sX11_term_35, sX11_term_37, sX11_term_40, sX11_term_41, sX11_term_44, sX11_term_45, sX11_term_46, sX11_term_47, sX11_term_48, sX11_term_51, sX11_term_52, sX11_term_53, sX11_term_56, sX11_term_57, sX11_term_60, sX11_term_61, sX11_term_62, sX11_term_63, sX11_term_66, sX11_term_67, sX11_term_68, sX11_term_69, sX11_term_70, sX11_term_73, sX11_term_74, sX11_term_75, sX11_term_76, sX11_term_79, sX11_term_80, sX11_term_83, sX11_term_84, sX11_term_85, sX11_term_86, sX11_term_87, sX11_term_90, sX11_term_91, sX11_term_94, sX11_term_95, kI_i, kL_l, kV_v, am_rv_s, am_kl_i, am_kl_r, am_kl_n, am_kl_l, true_and, and_true, and_self, true_or, or_true, implies_true, forall_const, not_true_eq_false, not_false_eq_true, false_implies, true_implies, if_true, if_false, Bool.true_eq_false, Bool.false_eq_true, ob_457, e']
    rw [sX11_term_5]
    simp (disch := (first | assumption | omega | decide)) only [sX11_term_0, sX11_term_1, sX11_term_4, sX11_term_6, sX11_term_9, sX11_term_10, sX11_term_13, sX11_term_14, sX11_term_17, sX11_term_19, sX11_term_22, sX11_term_23, sX11_term_26, sX11_term_28, sX11_term_31, sX11_term_32, sX11_term_35, sX11_term_37, sX11_term_40, sX11_term_41, sX11_term_44, sX11_term_45, sX11_term_46, sX11_term_47, sX11_term_48, sX11_term_51, sX11_term_52, sX11_term_53, sX11_term_56, sX11_term_57, sX11_term_60, sX11_term_61, sX11_term_62, sX11_term_63, sX11_term_66, sX11_term_67, sX11_term_68, sX11_term_69, sX11_term_70, sX11_term_73, sX11_term_74, sX11_term_75, sX11_term_76, sX11_term_79, sX11_term_80, sX11_term_83, sX11_term_84, sX11_term_85, sX11_term_86, sX11_term_87, sX11_term_90, sX11_term_91, sX11_term_94, sX11_term_95, kI_i, kL_l, kV_v, am_rv_s, am_kl_i, am_kl_r, am_kl_n, am_kl_l, true_and, and_true, and_self, true_or, or_true, implies_true, forall_const, not_true_eq_false, not_false_eq_true, false_implies, true_implies, if_true, if_false, Bool.true_eq_false, Bool.false_eq_true, ob_457, gI_md1, nI_m1]
  | true =>
    obtain ⟨rfl, rfl, rfl, r3, r4⟩ := r1 rfl
    have hz : len - q < 240 := by omega
    obtain ⟨v', q', f', dp', e2, s1, s2⟩ := lm_term h hA hP hk 240 q cc w hq.2 hz (CV_mono r3 (by omega)) r4
    refine ⟨v', q', f', dp', fun D Q hD => ?_, s1, s2⟩
    obtain ⟨d, rfl⟩ : ∃ d, D = d + 1 := ⟨D - 1, by omega⟩
    show am_big (d + 1) mX11_term [.ref 457] 488 _ Q = _
    rw [eX11_term]
    simp (disch := (first | assumption | omega | decide)) only [sX11_term_0, sX11_term_1, sX11_term_4, sX11_term_6, sX11_term_9, sX11_term_10, sX11_term_13, sX11_term_14, sX11_term_17, sX11_term_19, sX11_term_22, sX11_term_23, sX11_term_26, sX11_term_28, sX11_term_31, sX11_term_32, sX11_term_35, sX11_term_37, sX11_term_40, sX11_term_41, sX11_term_44, sX11_term_45, sX11_term_46, sX11_term_47, sX11_term_48, sX11_term_51, sX11_term_52, sX11_term_53, sX11_term_56, sX11_term_57, sX11_term_60, sX11_term_61, sX11_term_62, sX11_term_63, sX11_term_66, sX11_term_67, sX11_term_68, sX11_term_69, sX11_term_70, sX11_term_73, sX11_term_74, sX11_term_75, sX11_term_76, sX11_term_79, sX11_term_80, sX11_term_83, sX11_term_84, sX11_term_85, sX11_term_86, sX11_term_87, sX11_term_90, sX11_term_91, sX11_term_94, sX11_term_95, kI_i, kL_l, kV_v, am_rv_s, am_kl_i, am_kl_r, am_kl_n, am_kl_l, true_and, and_true, and_self, true_or, or_true, implies_true, forall_const, not_true_eq_false, not_false_eq_true, false_implies, true_implies, if_true, if_false, Bool.true_eq_false, Bool.false_eq_true, ob_457, e']
    exact e2 d Q _ _ _ (by omega) (by omega)
theorem lm_sum {dep : Int32} {A : Nat → PR} {k kA : Nat} (h : PB M b beg T len) (hA : gd len A) (hP : MK M L len K mX11_term [] dep A kA [] Bd) (hk : kA + 1 ≤ k) : ∀ (j p : Nat) (c : List Int32) (v : Int32), p ≤ len → len - p < j → CV L c k v → Bd v → ∃ v' q f dp, (∀ d (Q : am_Q) l2 l3 l4, K ≤ d → 2 ≤ d → ok d mX11_sum 488 Q 488 0 0 5 [some (.ref 457), some (.int v), l2, l3, l4] [] (md M p (-1) dep) = Q (some (.int v')) (md M q f dp)) ∧ ((opL T len isPM A j p c).1 = true → q = (opL T len isPM A j p c).2.1 ∧ f = -1 ∧ dp = dep ∧ CV L (opL T len isPM A j p c).2.2 k v' ∧ Bd v') ∧ ((opL T len isPM A j p c).1 = false → f = nI (opL T len isPM A j p c).2.1) := by
  have hlen := h.2.2.2.2.1
  intro j
  induction j with
  | zero => intro p c v _ hj; omega
  | succ j ih =>
    intro p c v hp hj hcv hbd
    have hs := skp_le' (T := T) hp
    have hg := skp_ge (T := T) (len := len) (p := p)
    unfold opL
    cases c1 : isPM (sg T len (skp T len p)) with
    | false =>
      have c1' : ¬ sg T len (skp T len p) = 43 ∧ ¬ sg T len (skp T len p) = 45 := by
        unfold isPM at c1
        simpa using c1
      simp only [Bool.false_eq_true, if_false]
      refine ⟨v, skp T len p, -1, dep, fun d Q l2 l3 l4 hd hd2 => ?_, fun _ => ⟨rfl, rfl, rfl, hcv, hbd⟩, fun z => by cases z⟩
      obtain ⟨d', rfl⟩ : ∃ d', d = d' + 2 := ⟨d - 2, by omega⟩
      rw [sX11_sum_5]
      simp (disch := (first | assumption | omega | decide)) only [sX11_sum_0, sX11_sum_1, sX11_sum_4, sX11_sum_6, sX11_sum_9, sX11_sum_10, sX11_sum_13, sX11_sum_14, sX11_sum_17, sX11_sum_19, sX11_sum_22, sX11_sum_23, sX11_sum_26, sX11_sum_28, sX11_sum_31, sX11_sum_32, sX11_sum_35, sX11_sum_37, sX11_sum_40, sX11_sum_41, sX11_sum_44, sX11_sum_45, sX11_sum_46, sX11_sum_47, sX11_sum_48, sX11_sum_51, sX11_sum_52, sX11_sum_53, sX11_sum_56, sX11_sum_57, sX11_sum_60, sX11_sum_61, sX11_sum_62, sX11_sum_63, sX11_sum_66, sX11_sum_67, sX11_sum_68, sX11_sum_69, sX11_sum_70, sX11_sum_73, sX11_sum_74, sX11_sum_75, sX11_sum_76, sX11_sum_77, sX11_sum_80, sX11_sum_81, sX11_sum_84, sX11_sum_85, kI_i, kL_l, kV_v, am_rv_s, am_kl_i, am_kl_r, am_kl_n, am_kl_l, true_and, and_true, and_self, true_or, or_true, implies_true, forall_const, not_true_eq_false, not_false_eq_true, false_implies, true_implies, if_true, if_false, Bool.true_eq_false, Bool.false_eq_true, ob_457, gI_md1, md_look h, skp_idem, c1'.1, c1'.2]
    | true =>
      have hlt := sg_ne (by decide) c1
      have hq := hA (skp T len p + 1) (by omega)
      have c1' : (sg T len (skp T len p) = 43 ∨ sg T len (skp T len p) = 45) := by
        unfold isPM at c1
        simpa using c1
      have hio := c1
      generalize hsg : sg T len (skp T len p) = s0 at c1 c1'
      obtain ⟨w, q, f, dp, e, r1, r2⟩ := hP (skp T len p + 1) (by omega) (by omega)
      have e' : ∀ D (Q : am_Q), K ≤ D → am_big D mX11_term [.ref 457] 488 (md M (skp T len p + 1) (-1) dep) Q = Q (some (.int w)) (md M q f dp) := e
      simp only [if_true]
      generalize hr : A (skp T len p + 1) = r at r1 r2 hq
      obtain ⟨ok1, q1, cc⟩ := r
      simp only at r1 r2 hq
      have st : ∀ d (Q : am_Q) l2 l3 l4, K ≤ d → 2 ≤ d → ok d mX11_sum 488 Q 488 0 0 5 [some (.ref 457), some (.int v), l2, l3, l4] [] (md M p (-1) dep) = ok d mX11_sum 488 Q 488 0 0 5 [some (.ref 457), some (.int (sq (decide (s0 = 43)) v w)), some (.int (bz (decide (s0 = 43)))), some (.long w.toInt64), none] [] (md M q f dp) := fun d Q l2 l3 l4 hd hd2 => by
        obtain ⟨d', rfl⟩ : ∃ d', d = d' + 2 := ⟨d - 2, by omega⟩
        rw [sX11_sum_5]
        rcases c1' with rfl | rfl
        · simp (disch := (first | assumption | omega | decide)) only [sX11_sum_0, sX11_sum_1, sX11_sum_4, sX11_sum_6, sX11_sum_9, sX11_sum_10, sX11_sum_13, sX11_sum_14, sX11_sum_17, sX11_sum_19, sX11_sum_22, sX11_sum_23, sX11_sum_26, sX11_sum_28, sX11_sum_31, sX11_sum_32, sX11_sum_35, sX11_sum_37, sX11_sum_40, sX11_sum_41, sX11_sum_44, sX11_sum_45, sX11_sum_46, sX11_sum_47, sX11_sum_48, sX11_sum_51, sX11_sum_52, sX11_sum_53, sX11_sum_56, sX11_sum_57, sX11_sum_60, sX11_sum_61, sX11_sum_62, sX11_sum_63, sX11_sum_66, sX11_sum_67, sX11_sum_68, sX11_sum_69, sX11_sum_70, sX11_sum_73, sX11_sum_74, sX11_sum_75, sX11_sum_76, sX11_sum_77, sX11_sum_80, sX11_sum_81, sX11_sum_84, sX11_sum_85, kI_i, kL_l, kV_v, am_rv_s, am_kl_i, am_kl_r, am_kl_n, am_kl_l, true_and, and_true, and_self, true_or, or_true, implies_true, forall_const, not_true_eq_false, not_false_eq_true, false_implies, true_implies, if_true, if_false, Bool.true_eq_false, Bool.false_eq_true, ob_457, md_look h, skp_idem, hsg, i01, gI_md0, nI_1, md_at, e', m_within, decide_true, decide_false, bz_t, bz_f, sq, gI_md1]
        · have n45 : ((45 : Int32) = 43) = False := eq_false (by decide)
          simp (disch := (first | assumption | omega | decide)) only [sX11_sum_0, sX11_sum_1, sX11_sum_4, sX11_sum_6, sX11_sum_9, sX11_sum_10, sX11_sum_13, sX11_sum_14, sX11_sum_17, sX11_sum_19, sX11_sum_22, sX11_sum_23, sX11_sum_26, sX11_sum_28, sX11_sum_31, sX11_sum_32, sX11_sum_35, sX11_sum_37, sX11_sum_40, sX11_sum_41, sX11_sum_44, sX11_sum_45, sX11_sum_46, sX11_sum_47, sX11_sum_48, sX11_sum_51, sX11_sum_52, sX11_sum_53, sX11_sum_56, sX11_sum_57, sX11_sum_60, sX11_sum_61, sX11_sum_62, sX11_sum_63, sX11_sum_66, sX11_sum_67, sX11_sum_68, sX11_sum_69, sX11_sum_70, sX11_sum_73, sX11_sum_74, sX11_sum_75, sX11_sum_76, sX11_sum_77, sX11_sum_80, sX11_sum_81, sX11_sum_84, sX11_sum_85, kI_i, kL_l, kV_v, am_rv_s, am_kl_i, am_kl_r, am_kl_n, am_kl_l, true_and, and_true, and_self, true_or, or_true, implies_true, forall_const, not_true_eq_false, not_false_eq_true, false_implies, true_implies, if_true, if_false, Bool.true_eq_false, Bool.false_eq_true, ob_457, md_look h, skp_idem, hsg, n45, i01, gI_md0, nI_1, md_at, e', m_within, decide_true, decide_false, bz_t, bz_f, sq, gI_md1]
      cases ok1 with
      | false =>
        have r2 := r2 rfl
        subst r2
        refine ⟨sq (decide (s0 = 43)) v w, q, nI q1, dp, fun d Q l2 l3 l4 hd hd2 => ?_, fun z => (by cases z), fun _ => rfl⟩
        rw [st d Q l2 l3 l4 hd hd2, sX11_sum_5]
        simp (disch := (first | assumption | omega | decide)) only [sX11_sum_0, sX11_sum_1, sX11_sum_4, sX11_sum_6, sX11_sum_9, sX11_sum_10, sX11_sum_13, sX11_sum_14, sX11_sum_17, sX11_sum_19, sX11_sum_22, sX11_sum_23, sX11_sum_26, sX11_sum_28, sX11_sum_31, sX11_sum_32, sX11_sum_35, sX11_sum_37, sX11_sum_40, sX11_sum_41, sX11_sum_44, sX11_sum_45, sX11_sum_46, sX11_sum_47, sX11_sum_48, sX11_sum_51, sX11_sum_52, sX11_sum_53, sX11_sum_56, sX11_sum_57, sX11_sum_60, sX11_sum_61, sX11_sum_62, sX11_sum_63, sX11_sum_66, sX11_sum_67, sX11_sum_68, sX11_sum_69, sX11_sum_70, sX11_sum_73, sX11_sum_74, sX11_sum_75, sX11_sum_76, sX11_sum_77, sX11_sum_80, sX11_sum_81, sX11_sum_84, sX11_sum_85, kI_i, kL_l, kV_v, am_rv_s, am_kl_i, am_kl_r, am_kl_n, am_kl_l, true_and, and_true, and_self, true_or, or_true, implies_true, forall_const, not_true_eq_false, not_false_eq_true, false_implies, true_implies, if_true, if_false, Bool.true_eq_false, Bool.false_eq_true, ob_457, gI_md1, nI_m1]
      | true =>
        obtain ⟨rfl, rfl, rfl, r3, r4⟩ := r1 rfl
        have ej := sq_jn hbd r4 c1'
        have har : isAr s0 = true := by rcases c1' with rfl | rfl <;> decide
        obtain ⟨v', q', f', dp', e2, s1, s2⟩ := ih q (c ++ cc ++ [20000 + s0]) (jn v s0 w) hq.2 (by omega) (CV_bin hcv r3 (Nat.le_refl _) hk har) (Bd_jn hbd r4 har)
        refine ⟨v', q', f', dp', fun d Q l2 l3 l4 hd hd2 => ?_, s1, s2⟩
        rw [st d Q l2 l3 l4 hd hd2, ej]
        exact e2 d Q _ _ _ hd hd2
theorem MK_sum {dep : Int32} {A : Nat → PR} {k kA : Nat} (h : PB M b beg T len) (hA : gd len A) (hP : MK M L len K mX11_term [] dep A kA [] Bd) (hk : kA + 1 ≤ k) (hK : 2 ≤ K) : MK M L len (K + 1) mX11_sum [] dep (seqQ T len A isPM A) k [] Bd := by
  intro p hp0 hp
  have hlen := h.2.2.2.2.1
  obtain ⟨w, q, f, dp, e, r1, r2⟩ := hP p hp0 hp
  have hq := hA p hp
  have e' : ∀ D (Q : am_Q), K ≤ D → am_big D mX11_term [.ref 457] 488 (md M p (-1) dep) Q = Q (some (.int w)) (md M q f dp) := e
  unfold seqQ
  generalize hr : A p = r at r1 r2 hq
  obtain ⟨ok1, q1, cc⟩ := r
  simp only at r1 r2 hq
  cases ok1 with
  | false =>
    have r2 := r2 rfl
    subst r2
    refine ⟨w, q, nI q1, dp, fun D Q hD => ?_, fun z => (by cases z), fun _ => rfl⟩
    obtain ⟨d, rfl⟩ : ∃ d, D = d + 1 := ⟨D - 1, by omega⟩
    show am_big (d + 1) mX11_sum [.ref 457] 488 _ Q = _
    rw [eX11_sum]
    simp (disch := (first | assumption | omega | decide)) only [sX11_sum_0, sX11_sum_1, sX11_sum_4, sX11_sum_6, sX11_sum_9, sX11_sum_10, sX11_sum_13, sX11_sum_14, sX11_sum_17, sX11_sum_19, sX11_sum_22, sX11_sum_23, sX11_sum_26, sX11_sum_28, sX11_sum_31, sX11_sum_32, sX11_sum_35, sX11_sum_37, sX11_sum_40, sX11_sum_41, sX11_sum_44, sX11_sum_45, sX11_sum_46, sX11_sum_47, sX11_sum_48, sX11_sum_51, sX11_sum_52, sX11_sum_53, sX11_sum_56, sX11_sum_57, sX11_sum_60, sX11_sum_61, sX11_sum_62, sX11_sum_63, sX11_sum_66, sX11_sum_67, sX11_sum_68, sX11_sum_69, sX11_sum_70, sX11_sum_73, sX11_sum_74, sX11_sum_75, sX11_sum_76, sX11_sum_77, sX11_sum_80, sX11_sum_81, sX11_sum_84, sX11_sum_85, kI_i, kL_l, kV_v, am_rv_s, am_kl_i, am_kl_r, am_kl_n, am_kl_l, true_and, and_true, and_self, true_or, or_true, implies_true, forall_const, not_true_eq_false, not_false_eq_true, false_implies, true_implies, if_true, if_false, Bool.true_eq_false, Bool.false_eq_true, ob_457, e']
    rw [sX11_sum_5]
    simp (disch := (first | assumption | omega | decide)) only [sX11_sum_0, sX11_sum_1, sX11_sum_4, sX11_sum_6, sX11_sum_9, sX11_sum_10, sX11_sum_13, sX11_sum_14, sX11_sum_17, sX11_sum_19, sX11_sum_22, sX11_sum_23, sX11_sum_26, sX11_sum_28, sX11_sum_31, sX11_sum_32, sX11_sum_35, sX11_sum_37, sX11_sum_40, sX11_sum_41, sX11_sum_44, sX11_sum_45, sX11_sum_46, sX11_sum_47, sX11_sum_48, sX11_sum_51, sX11_sum_52, sX11_sum_53, sX11_sum_56, sX11_sum_57, sX11_sum_60, sX11_sum_61, sX11_sum_62, sX11_sum_63, sX11_sum_66, sX11_sum_67, sX11_sum_68, sX11_sum_69, sX11_sum_70, sX11_sum_73, sX11_sum_74, sX11_sum_75, sX11_sum_76, sX11_sum_77, sX11_sum_80, sX11_sum_81, sX11_sum_84, sX11_sum_85, kI_i, kL_l, kV_v, am_rv_s, am_kl_i, am_kl_r, am_kl_n, am_kl_l, true_and, and_true, and_self, true_or, or_true, implies_true, forall_const, not_true_eq_false, not_false_eq_true, false_implies, true_implies, if_true, if_false, Bool.true_eq_false, Bool.false_eq_true, ob_457, gI_md1, nI_m1]
  | true =>
    obtain ⟨rfl, rfl, rfl, r3, r4⟩ := r1 rfl
    have hz : len - q < 240 := by omega
    obtain ⟨v', q', f', dp', e2, s1, s2⟩ := lm_sum h hA hP hk 240 q cc w hq.2 hz (CV_mono r3 (by omega)) r4
    refine ⟨v', q', f', dp', fun D Q hD => ?_, s1, s2⟩
    obtain ⟨d, rfl⟩ : ∃ d, D = d + 1 := ⟨D - 1, by omega⟩
    show am_big (d + 1) mX11_sum [.ref 457] 488 _ Q = _
    rw [eX11_sum]
    simp (disch := (first | assumption | omega | decide)) only [sX11_sum_0, sX11_sum_1, sX11_sum_4, sX11_sum_6, sX11_sum_9, sX11_sum_10, sX11_sum_13, sX11_sum_14, sX11_sum_17, sX11_sum_19, sX11_sum_22, sX11_sum_23, sX11_sum_26, sX11_sum_28, sX11_sum_31, sX11_sum_32, sX11_sum_35, sX11_sum_37, sX11_sum_40, sX11_sum_41, sX11_sum_44, sX11_sum_45, sX11_sum_46, sX11_sum_47, sX11_sum_48, sX11_sum_51, sX11_sum_52, sX11_sum_53, sX11_sum_56, sX11_sum_57, sX11_sum_60, sX11_sum_61, sX11_sum_62, sX11_sum_63, sX11_sum_66, sX11_sum_67, sX11_sum_68, sX11_sum_69, sX11_sum_70, sX11_sum_73, sX11_sum_74, sX11_sum_75, sX11_sum_76, sX11_sum_77, sX11_sum_80, sX11_sum_81, sX11_sum_84, sX11_sum_85, kI_i, kL_l, kV_v, am_rv_s, am_kl_i, am_kl_r, am_kl_n, am_kl_l, true_and, and_true, and_self, true_or, or_true, implies_true, forall_const, not_true_eq_false, not_false_eq_true, false_implies, true_implies, if_true, if_false, Bool.true_eq_false, Bool.false_eq_true, ob_457, e']
    exact e2 d Q _ _ _ (by omega) (by omega)
end
