/-- whether a set holds what its deeds need -/
def whB (l : List Dd) (s : Nat) : Bool := decide (∀ t, t < l.length → s.testBit t = true → bl l t &&& s = bl l t)
theorem whB_iff {l : List Dd} {s : Nat} : whB l s = true ↔ WH l s := by unfold whB WH; exact decide_eq_true_iff
section
variable {M N : am_M} {ap lim n : Nat} {S : Sg} {P : List Sg} {l : List Dd} {d : Nat} {Q : am_Q} {K : Int32}
theorem wh_0 : whB l 0 = true := whB_iff.mpr WH_0
theorem or_add {k s : Nat} (h : s < 2 ^ k) : 2 ^ k ||| s = 2 ^ k + s := by
  have := Nat.two_pow_add_eq_or_of_lt h 1
  rw [Nat.mul_one] at this
  exact this.symm
theorem wh_s {k s : Nat} (hk : k < l.length) (h : s < 2 ^ k) : whB l (2 ^ k + s) = (whB l s && decide (bl l k &&& s = bl l k)) := by
  have hb : ∀ i, (2 ^ k + s).testBit i = (decide (k = i) || s.testBit i) := fun i => by rw [← or_add h, Nat.testBit_or, Nat.testBit_two_pow]
  have sh : ∀ i, k ≤ i → s.testBit i = false := fun i hi => Nat.testBit_lt_two_pow (Nat.lt_of_lt_of_le h (Nat.pow_le_pow_right (by omega) hi))
  have key : ∀ t, t ≤ k → ((bl l t &&& (2 ^ k + s) = bl l t) ↔ (bl l t &&& s = bl l t)) := fun t ht => by
    rw [sub_iff, sub_iff]
    constructor
    · intro a i hi
      have := a i hi
      rw [hb] at this
      have ne : ¬ k = i := fun z => by rw [← z, bl_hi ht] at hi; cases hi
      rwa [decide_eq_false ne, Bool.false_or] at this
    · intro a i hi
      rw [hb, a i hi, Bool.or_true]
  rw [Bool.eq_iff_iff, Bool.and_eq_true, whB_iff, whB_iff, decide_eq_true_eq]
  constructor
  · intro a
    refine ⟨fun t ht hs => ?_, ?_⟩
    · have tk : t < k := by
        rcases Nat.lt_or_ge t k with z | z
        · exact z
        · rw [sh t z] at hs; cases hs
      exact (key t (by omega)).mp (a t ht (by rw [hb, hs, Bool.or_true]))
    · exact (key k (Nat.le_refl _)).mp (a k hk (by rw [hb, decide_eq_true rfl, Bool.true_or]))
  · rintro ⟨a, b⟩ t ht hs
    rw [hb, Bool.or_eq_true, decide_eq_true_eq] at hs
    rcases hs with rfl | hs
    · exact (key k (Nat.le_refl _)).mpr b
    · have tk : t < k := by
        rcases Nat.lt_or_ge t k with z | z
        · exact z
        · rw [sh t z] at hs; cases hs
      exact (key t (by omega)).mpr (a t ht hs)
def whI (l : List Dd) (s : Nat) : Int32 := bz (whB l s)
theorem c_markWhole (hW : WR N) (hn : gI N 424 1 = nI l.length) (hb : ∀ k, k < l.length → gI N 429 k = nI (bl l k)) (hl : l.length ≤ 12) : am_big (d + 1) mX5_markWhole [.ref 424] 488 N Q = Q none (fl N 431 (2 ^ l.length) (whI l)) := by
  have pl : ∀ k, k ≤ l.length → (2 : Nat) ^ k ≤ 4096 := fun k hk => Nat.le_trans (Nat.pow_le_pow_right (by omega) (by omega : k ≤ 12)) (by omega)
  have inner : ∀ k, k < l.length → ok d mX5_markWhole 488 Q 488 0 0 23 [some (.ref 424), some (.int (nI k)), some (.int (nI (2 ^ k))), some (.int (nI 0))] [] (fl N 431 (2 ^ k + 0) (whI l)) = ok d mX5_markWhole 488 Q 488 0 0 23 [some (.ref 424), some (.int (nI k)), some (.int (nI (2 ^ k))), some (.int (nI (2 ^ k)))] [] (fl N 431 (2 ^ k + 2 ^ k) (whI l)) := fun k hk =>
    loop0 (P := fun s => ok d mX5_markWhole 488 Q 488 0 0 23 [some (.ref 424), some (.int (nI k)), some (.int (nI (2 ^ k))), some (.int (nI s))] [] (fl N 431 (2 ^ k + s) (whI l))) (n := 2 ^ k) (fun s hs => by
      have p1 := pl k (by omega)
      have p2 := pl (k + 1) (by omega)
      rw [Nat.pow_succ] at p2
      show ok d mX5_markWhole 488 Q 488 0 0 23 _ [] _ = ok d mX5_markWhole 488 Q 488 0 0 23 _ [] _
      have e0 : (nI (2 ^ k) ≤ nI s) = False := by rw [nI_leE (by omega) (by omega)]; exact eq_false (by omega)
      have kc : (nI k).toNatClampNeg = k := nI_clamp (by omega)
      have sc : (nI s).toNatClampNeg = s := nI_clamp (by omega)
      have oc : (nI (2 ^ k + s)).toNatClampNeg = 2 ^ k + s := nI_clamp (by omega)
      have oa := or_add hs
      have gs : gI (fl N 431 (2 ^ k + s) (whI l)) 431 s = whI l s := gI_fl (by omega)
      have gb : gI (fl N 431 (2 ^ k + s) (whI l)) 429 k = nI (bl l k) := by rw [gI_fn (by omega)]; exact hb k hk
      have z0 := nI_sub0 (s := s) (bl_l31 (l := l) (k := k) (by omega))
      have ws := wh_s hk hs
      have i1 := iw_431 (k := s) (by omega)
      have i2 := iw_431 (k := 2 ^ k + s) (by omega)
      have z00 : ((0 : Int32) = 0) = True := eq_true rfl
      have z11 : ((1 : Int32) = 1) = True := eq_true rfl
      rw [sX5_markWhole_23]
      cases c : whB l s with
      | false =>
        have gs' : gI (fl N 431 (2 ^ k + s) (whI l)) 431 s = 0 := by rw [gs]; unfold whI; rw [c]; rfl
        have sw : sI (fl N 431 (2 ^ k + s) (whI l)) 431 (2 ^ k + s) 0 = fl N 431 (2 ^ k + s + 1) (whI l) := fl_s (by unfold whI; rw [ws, c]; rfl)
        simp (disch := (first | assumption | omega | decide)) only [sX5_markWhole_0, sX5_markWhole_1, sX5_markWhole_4, sX5_markWhole_5, sX5_markWhole_6, sX5_markWhole_7, sX5_markWhole_8, sX5_markWhole_10, sX5_markWhole_11, sX5_markWhole_14, sX5_markWhole_17, sX5_markWhole_18, sX5_markWhole_19, sX5_markWhole_20, sX5_markWhole_21, sX5_markWhole_22, sX5_markWhole_24, sX5_markWhole_25, sX5_markWhole_28, sX5_markWhole_29, sX5_markWhole_32, sX5_markWhole_33, sX5_markWhole_34, sX5_markWhole_35, sX5_markWhole_36, sX5_markWhole_39, sX5_markWhole_40, sX5_markWhole_41, sX5_markWhole_44, sX5_markWhole_45, sX5_markWhole_48, sX5_markWhole_49, sX5_markWhole_50, sX5_markWhole_51, sX5_markWhole_52, sX5_markWhole_53, sX5_markWhole_54, sX5_markWhole_57, sX5_markWhole_58, sX5_markWhole_61, sX5_markWhole_62, sX5_markWhole_63, sX5_markWhole_66, sX5_markWhole_69, sX5_markWhole_72, sX5_markWhole_75, kI_i, kL_l, kV_v, am_rv_s, am_kl_i, am_kl_r, am_kl_n, am_kl_l, true_and, and_true, and_self, true_or, or_true, implies_true, forall_const, not_true_eq_false, not_false_eq_true, false_implies, true_implies, if_true, if_false, Bool.true_eq_false, Bool.false_eq_true, ob_424, gR_fl, r_424_4, e0, nI_or, oa, i1, iwn_431, false_or, sc, gs', i2, oc, false_and, z00, true_or, sw, nI_1]
        rfl
      | true =>
        have gs' : gI (fl N 431 (2 ^ k + s) (whI l)) 431 s = 1 := by rw [gs]; unfold whI; rw [c]; rfl
        by_cases z : bl l k &&& s = bl l k
        · have z' := eq_true z
          have sw : sI (fl N 431 (2 ^ k + s) (whI l)) 431 (2 ^ k + s) 1 = fl N 431 (2 ^ k + s + 1) (whI l) := fl_s (by unfold whI; rw [ws, c, decide_eq_true z]; rfl)
          simp (disch := (first | assumption | omega | decide)) only [sX5_markWhole_0, sX5_markWhole_1, sX5_markWhole_4, sX5_markWhole_5, sX5_markWhole_6, sX5_markWhole_7, sX5_markWhole_8, sX5_markWhole_10, sX5_markWhole_11, sX5_markWhole_14, sX5_markWhole_17, sX5_markWhole_18, sX5_markWhole_19, sX5_markWhole_20, sX5_markWhole_21, sX5_markWhole_22, sX5_markWhole_24, sX5_markWhole_25, sX5_markWhole_28, sX5_markWhole_29, sX5_markWhole_32, sX5_markWhole_33, sX5_markWhole_34, sX5_markWhole_35, sX5_markWhole_36, sX5_markWhole_39, sX5_markWhole_40, sX5_markWhole_41, sX5_markWhole_44, sX5_markWhole_45, sX5_markWhole_48, sX5_markWhole_49, sX5_markWhole_50, sX5_markWhole_51, sX5_markWhole_52, sX5_markWhole_53, sX5_markWhole_54, sX5_markWhole_57, sX5_markWhole_58, sX5_markWhole_61, sX5_markWhole_62, sX5_markWhole_63, sX5_markWhole_66, sX5_markWhole_69, sX5_markWhole_72, sX5_markWhole_75, kI_i, kL_l, kV_v, am_rv_s, am_kl_i, am_kl_r, am_kl_n, am_kl_l, true_and, and_true, and_self, true_or, or_true, implies_true, forall_const, not_true_eq_false, not_false_eq_true, false_implies, true_implies, if_true, if_false, Bool.true_eq_false, Bool.false_eq_true, ob_424, gR_fl, r_424_4, r_424_2, e0, nI_or, oa, i1, iwn_431, false_or, sc, gs', i01, in_429 (show k < 12 by omega), kc, gb, z0, z', i2, oc, false_and, z11, or_true, sw, nI_1]
          rfl
        · have sw : sI (fl N 431 (2 ^ k + s) (whI l)) 431 (2 ^ k + s) 0 = fl N 431 (2 ^ k + s + 1) (whI l) := fl_s (by unfold whI; rw [ws, c, decide_eq_false z]; rfl)
          simp (disch := (first | assumption | omega | decide)) only [sX5_markWhole_0, sX5_markWhole_1, sX5_markWhole_4, sX5_markWhole_5, sX5_markWhole_6, sX5_markWhole_7, sX5_markWhole_8, sX5_markWhole_10, sX5_markWhole_11, sX5_markWhole_14, sX5_markWhole_17, sX5_markWhole_18, sX5_markWhole_19, sX5_markWhole_20, sX5_markWhole_21, sX5_markWhole_22, sX5_markWhole_24, sX5_markWhole_25, sX5_markWhole_28, sX5_markWhole_29, sX5_markWhole_32, sX5_markWhole_33, sX5_markWhole_34, sX5_markWhole_35, sX5_markWhole_36, sX5_markWhole_39, sX5_markWhole_40, sX5_markWhole_41, sX5_markWhole_44, sX5_markWhole_45, sX5_markWhole_48, sX5_markWhole_49, sX5_markWhole_50, sX5_markWhole_51, sX5_markWhole_52, sX5_markWhole_53, sX5_markWhole_54, sX5_markWhole_57, sX5_markWhole_58, sX5_markWhole_61, sX5_markWhole_62, sX5_markWhole_63, sX5_markWhole_66, sX5_markWhole_69, sX5_markWhole_72, sX5_markWhole_75, kI_i, kL_l, kV_v, am_rv_s, am_kl_i, am_kl_r, am_kl_n, am_kl_l, true_and, and_true, and_self, true_or, or_true, implies_true, forall_const, not_true_eq_false, not_false_eq_true, false_implies, true_implies, if_true, if_false, Bool.true_eq_false, Bool.false_eq_true, ob_424, gR_fl, r_424_4, r_424_2, e0, nI_or, oa, i1, iwn_431, false_or, sc, gs', i01, in_429 (show k < 12 by omega), kc, gb, z0, z, i2, oc, false_and, z00, true_or, sw, nI_1]
          rfl)
  have key : ∀ j k x2 x3, k + j = l.length → ok d mX5_markWhole 488 Q 488 0 0 9 [some (.ref 424), some (.int (nI k)), x2, x3] [] (fl N 431 (2 ^ k) (whI l)) = Q none (fl N 431 (2 ^ l.length) (whI l)) := by
    intro j
    induction j with
    | zero =>
      intro k x2 x3 hk
      have hk : k = l.length := by omega
      subst hk
      have hn' : gI (fl N 431 (2 ^ l.length) (whI l)) 424 1 = nI l.length := by rw [gI_fn (by omega)]; exact hn
      rw [sX5_markWhole_9]
      simp (disch := (first | assumption | omega | decide)) only [sX5_markWhole_0, sX5_markWhole_1, sX5_markWhole_4, sX5_markWhole_5, sX5_markWhole_6, sX5_markWhole_7, sX5_markWhole_8, sX5_markWhole_10, sX5_markWhole_11, sX5_markWhole_14, sX5_markWhole_17, sX5_markWhole_18, sX5_markWhole_19, sX5_markWhole_20, sX5_markWhole_21, sX5_markWhole_22, sX5_markWhole_24, sX5_markWhole_25, sX5_markWhole_28, sX5_markWhole_29, sX5_markWhole_32, sX5_markWhole_33, sX5_markWhole_34, sX5_markWhole_35, sX5_markWhole_36, sX5_markWhole_39, sX5_markWhole_40, sX5_markWhole_41, sX5_markWhole_44, sX5_markWhole_45, sX5_markWhole_48, sX5_markWhole_49, sX5_markWhole_50, sX5_markWhole_51, sX5_markWhole_52, sX5_markWhole_53, sX5_markWhole_54, sX5_markWhole_57, sX5_markWhole_58, sX5_markWhole_61, sX5_markWhole_62, sX5_markWhole_63, sX5_markWhole_66, sX5_markWhole_69, sX5_markWhole_72, sX5_markWhole_75, kI_i, kL_l, kV_v, am_rv_s, am_kl_i, am_kl_r, am_kl_n, am_kl_l, true_and, and_true, and_self, true_or, or_true, implies_true, forall_const, not_true_eq_false, not_false_eq_true, false_implies, true_implies, if_true, if_false, Bool.true_eq_false, Bool.false_eq_true, ob_424, hn', Int32.le_refl]
    | succ j ih =>
      intro k x2 x3 hk
      have p1 := pl k (by omega)
      have e0 : (nI l.length ≤ nI k) = False := by rw [nI_leE (by omega) (by omega)]; exact eq_false (by omega)
      have hn' : gI (fl N 431 (2 ^ k) (whI l)) 424 1 = nI l.length := by rw [gI_fn (by omega)]; exact hn
      have ih := fun x2 x3 => ih (k + 1) x2 x3 (by omega)
      have i1 : ok d mX5_markWhole 488 Q 488 0 0 23 [some (.ref 424), some (.int (nI k)), some (.int (nI (2 ^ k))), some (.int 0)] [] (fl N 431 (2 ^ k) (whI l)) = _ := inner k (by omega)
      rw [show 2 ^ (k + 1) = 2 ^ k + 2 ^ k by rw [Nat.pow_succ]; omega] at ih
      rw [sX5_markWhole_9]
      simp (disch := (first | assumption | omega | decide)) only [sX5_markWhole_0, sX5_markWhole_1, sX5_markWhole_4, sX5_markWhole_5, sX5_markWhole_6, sX5_markWhole_7, sX5_markWhole_8, sX5_markWhole_10, sX5_markWhole_11, sX5_markWhole_14, sX5_markWhole_17, sX5_markWhole_18, sX5_markWhole_19, sX5_markWhole_20, sX5_markWhole_21, sX5_markWhole_22, sX5_markWhole_24, sX5_markWhole_25, sX5_markWhole_28, sX5_markWhole_29, sX5_markWhole_32, sX5_markWhole_33, sX5_markWhole_34, sX5_markWhole_35, sX5_markWhole_36, sX5_markWhole_39, sX5_markWhole_40, sX5_markWhole_41, sX5_markWhole_44, sX5_markWhole_45, sX5_markWhole_48, sX5_markWhole_49, sX5_markWhole_50, sX5_markWhole_51, sX5_markWhole_52, sX5_markWhole_53, sX5_markWhole_54, sX5_markWhole_57, sX5_markWhole_58, sX5_markWhole_61, sX5_markWhole_62, sX5_markWhole_63, sX5_markWhole_66, sX5_markWhole_69, sX5_markWhole_72, sX5_markWhole_75, kI_i, kL_l, kV_v, am_rv_s, am_kl_i, am_kl_r, am_kl_n, am_kl_l, true_and, and_true, and_self, true_or, or_true, implies_true, forall_const, not_true_eq_false, not_false_eq_true, false_implies, true_implies, if_true, if_false, Bool.true_eq_false, Bool.false_eq_true, ob_424, hn', e0, shl1 k (by omega), i1]
      rw [sX5_markWhole_23]
      simp (disch := (first | assumption | omega | decide)) only [sX5_markWhole_0, sX5_markWhole_1, sX5_markWhole_4, sX5_markWhole_5, sX5_markWhole_6, sX5_markWhole_7, sX5_markWhole_8, sX5_markWhole_10, sX5_markWhole_11, sX5_markWhole_14, sX5_markWhole_17, sX5_markWhole_18, sX5_markWhole_19, sX5_markWhole_20, sX5_markWhole_21, sX5_markWhole_22, sX5_markWhole_24, sX5_markWhole_25, sX5_markWhole_28, sX5_markWhole_29, sX5_markWhole_32, sX5_markWhole_33, sX5_markWhole_34, sX5_markWhole_35, sX5_markWhole_36, sX5_markWhole_39, sX5_markWhole_40, sX5_markWhole_41, sX5_markWhole_44, sX5_markWhole_45, sX5_markWhole_48, sX5_markWhole_49, sX5_markWhole_50, sX5_markWhole_51, sX5_markWhole_52, sX5_markWhole_53, sX5_markWhole_54, sX5_markWhole_57, sX5_markWhole_58, sX5_markWhole_61, sX5_markWhole_62, sX5_markWhole_63, sX5_markWhole_66, sX5_markWhole_69, sX5_markWhole_72, sX5_markWhole_75, kI_i, kL_l, kV_v, am_rv_s, am_kl_i, am_kl_r, am_kl_n, am_kl_l, true_and, and_true, and_self, true_or, or_true, implies_true, forall_const, not_true_eq_false, not_false_eq_true, false_implies, true_implies, if_true, if_false, Bool.true_eq_false, Bool.false_eq_true, Int32.le_refl, nI_1, ih]
  have k0 : ∀ x2 x3, ok d mX5_markWhole 488 Q 488 0 0 9 [some (.ref 424), some (.int 0), x2, x3] [] (fl N 431 1 (whI l)) = _ := fun x2 x3 => key l.length 0 x2 x3 (by omega)
  have sw : sI N 431 0 1 = fl N 431 1 (whI l) := by
    have := fl_s (M := N) (a := 431) (L := 0) (f := whI l) (v := 1) (by unfold whI; rw [wh_0]; rfl)
    rwa [fl_0] at this
  have i0 : am_iw 488 431 3 0 = True := iw_431 (k := 0) (by omega)
  have c0 : (0 : Int32).toNatClampNeg = 0 := rfl
  have z11 : ((1 : Int32) = 1) = True := eq_true rfl
  rw [eX5_markWhole]
  simp (disch := (first | assumption | omega | decide)) only [sX5_markWhole_0, sX5_markWhole_1, sX5_markWhole_4, sX5_markWhole_5, sX5_markWhole_6, sX5_markWhole_7, sX5_markWhole_8, sX5_markWhole_10, sX5_markWhole_11, sX5_markWhole_14, sX5_markWhole_17, sX5_markWhole_18, sX5_markWhole_19, sX5_markWhole_20, sX5_markWhole_21, sX5_markWhole_22, sX5_markWhole_24, sX5_markWhole_25, sX5_markWhole_28, sX5_markWhole_29, sX5_markWhole_32, sX5_markWhole_33, sX5_markWhole_34, sX5_markWhole_35, sX5_markWhole_36, sX5_markWhole_39, sX5_markWhole_40, sX5_markWhole_41, sX5_markWhole_44, sX5_markWhole_45, sX5_markWhole_48, sX5_markWhole_49, sX5_markWhole_50, sX5_markWhole_51, sX5_markWhole_52, sX5_markWhole_53, sX5_markWhole_54, sX5_markWhole_57, sX5_markWhole_58, sX5_markWhole_61, sX5_markWhole_62, sX5_markWhole_63, sX5_markWhole_66, sX5_markWhole_69, sX5_markWhole_72, sX5_markWhole_75, kI_i, kL_l, kV_v, am_rv_s, am_kl_i, am_kl_r, am_kl_n, am_kl_l, true_and, and_true, and_self, true_or, or_true, implies_true, forall_const, not_true_eq_false, not_false_eq_true, false_implies, true_implies, if_true, if_false, Bool.true_eq_false, Bool.false_eq_true, ob_424, r_424_4, iwn_431, i0, c0, false_and, false_or, z11, or_true, sw, k0]
end
