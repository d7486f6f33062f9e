section
variable {M N : am_M} {ap lim n : Nat} {S : Sg} {P : List Sg} {l : List Dd} {d : Nat} {Q : am_Q} {K : Int32}
theorem c_deedOfWay {i a : Nat} (hW : WR N) (hn : gI N 424 1 = nI l.length) (hb : ∀ k, k < l.length → gI N 429 k = nI (bl l k)) (hl : l.length ≤ 12) (hx : ∀ s, WH l s → s < 2 ^ l.length → gI N 432 s = nI (wS (bl l) l.length s)) (hi : i < wS (bl l) l.length 0) (ha : a < l.length) : am_big (d + 2) mX5_deedOfWay [.ref 424, .int (nI i), .int (nI a)] 488 N Q = Q (some (.int (nI (rdd (bl l) l.length i a)))) N := by
  have pl : (2 : Nat) ^ l.length ≤ 4096 := Nat.le_trans (Nat.pow_le_pow_right (by omega) hl) (by omega)
  have hi0 : i < 479001600 := Nat.lt_of_lt_of_le hi (wS_le hl)
  have inner : ∀ s p, WH l s → s < 2 ^ l.length → p ≤ a → ∀ f t q x7, t + f = l.length → q < 479001600 → q < sqN (fun t => if cf (bl l) s t = true then wS (bl l) l.length (s ||| 2 ^ t) else 0) t f → ∃ y7, ok (d + 1) mX5_deedOfWay 488 Q 488 0 0 17 [some (.ref 424), some (.int (nI i)), some (.int (nI a)), some (.int (nI q)), some (.int (nI s)), some (.int (nI p)), some (.int (nI t)), x7] [] N = if p = a then Q (some (.int (nI (nxN (bl l) l.length s f t q).1))) N else ok (d + 1) mX5_deedOfWay 488 Q 488 0 0 8 [some (.ref 424), some (.int (nI i)), some (.int (nI a)), some (.int (nI (nxN (bl l) l.length s f t q).2)), some (.int (nI (s ||| 2 ^ (nxN (bl l) l.length s f t q).1))), some (.int (nI (p + 1))), some (.int (nI (nxN (bl l) l.length s f t q).1)), y7] [] N := by
    intro s p hs hs2 hp f
    induction f with
    | zero => intro t q x7 ht hq0 hq; exact absurd hq (Nat.not_lt_zero q)
    | succ f ih =>
      intro t q x7 ht hq0 hq
      have hq : q < (if cf (bl l) s t = true then wS (bl l) l.length (s ||| 2 ^ t) else 0) + sqN (fun t => if cf (bl l) s t = true then wS (bl l) l.length (s ||| 2 ^ t) else 0) (t + 1) f := hq
      have e0 : (nI l.length ≤ nI t) = False := by rw [nI_leE (by omega) (by omega)]; exact eq_false (by omega)
      have cl := fun d (Q : am_Q) => c_canFollow (d := d) (Q := Q) (l := l) (s := s) (t := t) hW (hb t (by omega)) (by omega) (by omega)
      unfold nxN
      rw [sX5_deedOfWay_17]
      by_cases c : cf (bl l) s t = true
      · rw [if_pos c] at hq
        rw [if_pos c]
        obtain ⟨o1, o2⟩ := or_gt (n := l.length) (s := s) hs2 (show t < l.length by omega) (cf_f c).1
        have oc : (nI (s ||| 2 ^ t)).toNatClampNeg = s ||| 2 ^ t := nI_clamp (by omega)
        have gx := hx (s ||| 2 ^ t) (WH_or hs c) o2
        have wl := wS_le (g := bl l) (s := s ||| 2 ^ t) hl
        generalize wS (bl l) l.length (s ||| 2 ^ t) = w at *
        have le : (nI w ≤ nI q) = (w ≤ q) := nI_leE (by omega) (by omega)
        by_cases z : q < w
        · rw [if_pos z]
          have z' : (w ≤ q) = False := eq_false (by omega)
          by_cases pa : p = a
          · refine ⟨none, ?_⟩
            rw [if_pos pa]
            have pa' : (nI p = nI a) = True := by rw [pa]; exact eq_true rfl
            simp (disch := (first | assumption | omega | decide)) only [sX5_deedOfWay_0, sX5_deedOfWay_1, sX5_deedOfWay_2, sX5_deedOfWay_3, sX5_deedOfWay_5, sX5_deedOfWay_6, sX5_deedOfWay_10, sX5_deedOfWay_11, sX5_deedOfWay_14, sX5_deedOfWay_15, sX5_deedOfWay_19, sX5_deedOfWay_20, sX5_deedOfWay_23, sX5_deedOfWay_26, sX5_deedOfWay_27, sX5_deedOfWay_29, sX5_deedOfWay_31, sX5_deedOfWay_34, sX5_deedOfWay_37, sX5_deedOfWay_40, sX5_deedOfWay_41, sX5_deedOfWay_44, sX5_deedOfWay_46, sX5_deedOfWay_47, sX5_deedOfWay_49, sX5_deedOfWay_50, sX5_deedOfWay_51, sX5_deedOfWay_52, sX5_deedOfWay_54, sX5_deedOfWay_55, sX5_deedOfWay_57, sX5_deedOfWay_60, sX5_deedOfWay_62, sX5_deedOfWay_63, sX5_deedOfWay_66, sX5_deedOfWay_68, sX5_deedOfWay_69, sX5_deedOfWay_71, sX5_deedOfWay_72, sX5_deedOfWay_74, sX5_deedOfWay_75, sX5_deedOfWay_76, sX5_deedOfWay_78, sX5_deedOfWay_81, sX5_deedOfWay_82, sX5_deedOfWay_84, sX5_deedOfWay_85, sX5_deedOfWay_86, sX5_deedOfWay_89, sX5_deedOfWay_92, sX5_deedOfWay_95, sX5_deedOfWay_98, sX5_deedOfWay_99, kI_i, kL_l, kV_v, am_rv_s, am_kl_i, am_kl_r, am_kl_n, am_kl_l, true_and, and_true, and_self, true_or, or_true, implies_true, forall_const, not_true_eq_false, not_false_eq_true, false_implies, true_implies, if_true, if_false, Bool.true_eq_false, Bool.false_eq_true, ob_424, hn, e0, cl, c, bz_t, i01, r_424_5, shl1 t (by omega), nI_or, in_432 (show s ||| 2 ^ t < 4096 by omega), oc, gx, le, z', pa']
          · refine ⟨some (.int (nI w)), ?_⟩
            rw [if_neg pa]
            have pa' : (nI p = nI a) = False := by rw [nI_eqE (by omega) (by omega)]; exact eq_false pa
            simp (disch := (first | assumption | omega | decide)) only [sX5_deedOfWay_0, sX5_deedOfWay_1, sX5_deedOfWay_2, sX5_deedOfWay_3, sX5_deedOfWay_5, sX5_deedOfWay_6, sX5_deedOfWay_10, sX5_deedOfWay_11, sX5_deedOfWay_14, sX5_deedOfWay_15, sX5_deedOfWay_19, sX5_deedOfWay_20, sX5_deedOfWay_23, sX5_deedOfWay_26, sX5_deedOfWay_27, sX5_deedOfWay_29, sX5_deedOfWay_31, sX5_deedOfWay_34, sX5_deedOfWay_37, sX5_deedOfWay_40, sX5_deedOfWay_41, sX5_deedOfWay_44, sX5_deedOfWay_46, sX5_deedOfWay_47, sX5_deedOfWay_49, sX5_deedOfWay_50, sX5_deedOfWay_51, sX5_deedOfWay_52, sX5_deedOfWay_54, sX5_deedOfWay_55, sX5_deedOfWay_57, sX5_deedOfWay_60, sX5_deedOfWay_62, sX5_deedOfWay_63, sX5_deedOfWay_66, sX5_deedOfWay_68, sX5_deedOfWay_69, sX5_deedOfWay_71, sX5_deedOfWay_72, sX5_deedOfWay_74, sX5_deedOfWay_75, sX5_deedOfWay_76, sX5_deedOfWay_78, sX5_deedOfWay_81, sX5_deedOfWay_82, sX5_deedOfWay_84, sX5_deedOfWay_85, sX5_deedOfWay_86, sX5_deedOfWay_89, sX5_deedOfWay_92, sX5_deedOfWay_95, sX5_deedOfWay_98, sX5_deedOfWay_99, kI_i, kL_l, kV_v, am_rv_s, am_kl_i, am_kl_r, am_kl_n, am_kl_l, true_and, and_true, and_self, true_or, or_true, implies_true, forall_const, not_true_eq_false, not_false_eq_true, false_implies, true_implies, if_true, if_false, Bool.true_eq_false, Bool.false_eq_true, ob_424, hn, e0, cl, c, bz_t, i01, r_424_5, shl1 t (by omega), nI_or, in_432 (show s ||| 2 ^ t < 4096 by omega), oc, gx, le, z', pa', nI_1]
        · rw [if_neg z]
          have z' : (w ≤ q) = True := eq_true (by omega)
          have sb : nI q - nI w = nI (q - w) := pk_sub (by omega)
          obtain ⟨y7, ey⟩ := ih (t + 1) (q - w) (some (.int (nI w))) (by omega) (by omega) (by omega)
          refine ⟨y7, ?_⟩
          rw [← ey]
          simp (disch := (first | assumption | omega | decide)) only [sX5_deedOfWay_0, sX5_deedOfWay_1, sX5_deedOfWay_2, sX5_deedOfWay_3, sX5_deedOfWay_5, sX5_deedOfWay_6, sX5_deedOfWay_10, sX5_deedOfWay_11, sX5_deedOfWay_14, sX5_deedOfWay_15, sX5_deedOfWay_19, sX5_deedOfWay_20, sX5_deedOfWay_23, sX5_deedOfWay_26, sX5_deedOfWay_27, sX5_deedOfWay_29, sX5_deedOfWay_31, sX5_deedOfWay_34, sX5_deedOfWay_37, sX5_deedOfWay_40, sX5_deedOfWay_41, sX5_deedOfWay_44, sX5_deedOfWay_46, sX5_deedOfWay_47, sX5_deedOfWay_49, sX5_deedOfWay_50, sX5_deedOfWay_51, sX5_deedOfWay_52, sX5_deedOfWay_54, sX5_deedOfWay_55, sX5_deedOfWay_57, sX5_deedOfWay_60, sX5_deedOfWay_62, sX5_deedOfWay_63, sX5_deedOfWay_66, sX5_deedOfWay_68, sX5_deedOfWay_69, sX5_deedOfWay_71, sX5_deedOfWay_72, sX5_deedOfWay_74, sX5_deedOfWay_75, sX5_deedOfWay_76, sX5_deedOfWay_78, sX5_deedOfWay_81, sX5_deedOfWay_82, sX5_deedOfWay_84, sX5_deedOfWay_85, sX5_deedOfWay_86, sX5_deedOfWay_89, sX5_deedOfWay_92, sX5_deedOfWay_95, sX5_deedOfWay_98, sX5_deedOfWay_99, kI_i, kL_l, kV_v, am_rv_s, am_kl_i, am_kl_r, am_kl_n, am_kl_l, true_and, and_true, and_self, true_or, or_true, implies_true, forall_const, not_true_eq_false, not_false_eq_true, false_implies, true_implies, if_true, if_false, Bool.true_eq_false, Bool.false_eq_true, ob_424, hn, e0, cl, c, bz_t, i01, r_424_5, shl1 t (by omega), nI_or, in_432 (show s ||| 2 ^ t < 4096 by omega), oc, gx, le, z', sb, nI_1]
      · rw [if_neg c] at hq
        rw [if_neg c]
        have c' : cf (bl l) s t = false := by simpa using c
        obtain ⟨y7, ey⟩ := ih (t + 1) q x7 (by omega) hq0 (by omega)
        refine ⟨y7, ?_⟩
        rw [← ey]
        simp (disch := (first | assumption | omega | decide)) only [sX5_deedOfWay_0, sX5_deedOfWay_1, sX5_deedOfWay_2, sX5_deedOfWay_3, sX5_deedOfWay_5, sX5_deedOfWay_6, sX5_deedOfWay_10, sX5_deedOfWay_11, sX5_deedOfWay_14, sX5_deedOfWay_15, sX5_deedOfWay_19, sX5_deedOfWay_20, sX5_deedOfWay_23, sX5_deedOfWay_26, sX5_deedOfWay_27, sX5_deedOfWay_29, sX5_deedOfWay_31, sX5_deedOfWay_34, sX5_deedOfWay_37, sX5_deedOfWay_40, sX5_deedOfWay_41, sX5_deedOfWay_44, sX5_deedOfWay_46, sX5_deedOfWay_47, sX5_deedOfWay_49, sX5_deedOfWay_50, sX5_deedOfWay_51, sX5_deedOfWay_52, sX5_deedOfWay_54, sX5_deedOfWay_55, sX5_deedOfWay_57, sX5_deedOfWay_60, sX5_deedOfWay_62, sX5_deedOfWay_63, sX5_deedOfWay_66, sX5_deedOfWay_68, sX5_deedOfWay_69, sX5_deedOfWay_71, sX5_deedOfWay_72, sX5_deedOfWay_74, sX5_deedOfWay_75, sX5_deedOfWay_76, sX5_deedOfWay_78, sX5_deedOfWay_81, sX5_deedOfWay_82, sX5_deedOfWay_84, sX5_deedOfWay_85, sX5_deedOfWay_86, sX5_deedOfWay_89, sX5_deedOfWay_92, sX5_deedOfWay_95, sX5_deedOfWay_98, sX5_deedOfWay_99, kI_i, kL_l, kV_v, am_rv_s, am_kl_i, am_kl_r, am_kl_n, am_kl_l, true_and, and_true, and_self, true_or, or_true, implies_true, forall_const, not_true_eq_false, not_false_eq_true, false_implies, true_implies, if_true, if_false, Bool.true_eq_false, Bool.false_eq_true, ob_424, hn, e0, cl, c', bz_f, nI_1]
  have key : ∀ j p x6 x7, p + j = a → ok (d + 1) mX5_deedOfWay 488 Q 488 0 0 8 [some (.ref 424), some (.int (nI i)), some (.int (nI a)), some (.int (nI (rst (bl l) l.length i p).2)), some (.int (nI (rst (bl l) l.length i p).1)), some (.int (nI p)), x6, x7] [] N = Q (some (.int (nI (rdd (bl l) l.length i a)))) N := by
    intro j
    induction j with
    | zero =>
      intro p x6 x7 hp
      obtain ⟨b1, b2, b3⟩ := rst_ok hi p (by omega)
      obtain ⟨a1, a2⟩ := rst_eq hi p (by omega)
      have ne : (rst (bl l) l.length i p).1 ≠ 2 ^ l.length - 1 := fun z => by rw [z, cnt_full] at b1; omega
      have q0 := Nat.lt_of_lt_of_le b2 (wS_le hl)
      have e := sm_sq (h := fun t => if cf (bl l) (rst (bl l) l.length i p).1 t = true then wS (bl l) l.length ((rst (bl l) l.length i p).1 ||| 2 ^ t) else 0) l.length 0
      rw [wS_s (by omega)] at b2
      rw [Nat.zero_add] at e
      obtain ⟨y7, ey⟩ := inner _ p a2 b3 (by omega) l.length 0 _ x7 (by omega) q0 (by
        rw [e] at b2
        have e0 : sm (fun t => if cf (bl l) (rst (bl l) l.length i p).1 t = true then wS (bl l) l.length ((rst (bl l) l.length i p).1 ||| 2 ^ t) else 0) 0 = 0 := rfl
        rw [e0, Nat.zero_add] at b2
        exact b2)
      have hp : p = a := by omega
      rw [if_pos hp] at ey
      have ey' : ok (d + 1) mX5_deedOfWay 488 Q 488 0 0 17 [some (.ref 424), some (.int (nI i)), some (.int (nI a)), some (.int (nI (rst (bl l) l.length i p).2)), some (.int (nI (rst (bl l) l.length i p).1)), some (.int (nI p)), some (.int 0), x7] [] N = _ := ey
      have g : (nI a < nI p) = False := by rw [nI_ltE (by omega) (by omega)]; exact eq_false (by omega)
      rw [sX5_deedOfWay_8]
      simp (disch := (first | assumption | omega | decide)) only [sX5_deedOfWay_0, sX5_deedOfWay_1, sX5_deedOfWay_2, sX5_deedOfWay_3, sX5_deedOfWay_5, sX5_deedOfWay_6, sX5_deedOfWay_10, sX5_deedOfWay_11, sX5_deedOfWay_14, sX5_deedOfWay_15, sX5_deedOfWay_19, sX5_deedOfWay_20, sX5_deedOfWay_23, sX5_deedOfWay_26, sX5_deedOfWay_27, sX5_deedOfWay_29, sX5_deedOfWay_31, sX5_deedOfWay_34, sX5_deedOfWay_37, sX5_deedOfWay_40, sX5_deedOfWay_41, sX5_deedOfWay_44, sX5_deedOfWay_46, sX5_deedOfWay_47, sX5_deedOfWay_49, sX5_deedOfWay_50, sX5_deedOfWay_51, sX5_deedOfWay_52, sX5_deedOfWay_54, sX5_deedOfWay_55, sX5_deedOfWay_57, sX5_deedOfWay_60, sX5_deedOfWay_62, sX5_deedOfWay_63, sX5_deedOfWay_66, sX5_deedOfWay_68, sX5_deedOfWay_69, sX5_deedOfWay_71, sX5_deedOfWay_72, sX5_deedOfWay_74, sX5_deedOfWay_75, sX5_deedOfWay_76, sX5_deedOfWay_78, sX5_deedOfWay_81, sX5_deedOfWay_82, sX5_deedOfWay_84, sX5_deedOfWay_85, sX5_deedOfWay_86, sX5_deedOfWay_89, sX5_deedOfWay_92, sX5_deedOfWay_95, sX5_deedOfWay_98, sX5_deedOfWay_99, kI_i, kL_l, kV_v, am_rv_s, am_kl_i, am_kl_r, am_kl_n, am_kl_l, true_and, and_true, and_self, true_or, or_true, implies_true, forall_const, not_true_eq_false, not_false_eq_true, false_implies, true_implies, if_true, if_false, Bool.true_eq_false, Bool.false_eq_true, g, ey']
      subst hp
      rfl
    | succ j ih =>
      intro p x6 x7 hp
      obtain ⟨b1, b2, b3⟩ := rst_ok hi p (by omega)
      obtain ⟨a1, a2⟩ := rst_eq hi p (by omega)
      have ne : (rst (bl l) l.length i p).1 ≠ 2 ^ l.length - 1 := fun z => by rw [z, cnt_full] at b1; omega
      have q0 := Nat.lt_of_lt_of_le b2 (wS_le hl)
      have e := sm_sq (h := fun t => if cf (bl l) (rst (bl l) l.length i p).1 t = true then wS (bl l) l.length ((rst (bl l) l.length i p).1 ||| 2 ^ t) else 0) l.length 0
      rw [wS_s (by omega)] at b2
      rw [Nat.zero_add] at e
      obtain ⟨y7, ey⟩ := inner _ p a2 b3 (by omega) l.length 0 _ x7 (by omega) q0 (by
        rw [e] at b2
        have e0 : sm (fun t => if cf (bl l) (rst (bl l) l.length i p).1 t = true then wS (bl l) l.length ((rst (bl l) l.length i p).1 ||| 2 ^ t) else 0) 0 = 0 := rfl
        rw [e0, Nat.zero_add] at b2
        exact b2)
      have hpn : ¬ p = a := by omega
      rw [if_neg hpn] at ey
      have ey' : ok (d + 1) mX5_deedOfWay 488 Q 488 0 0 17 [some (.ref 424), some (.int (nI i)), some (.int (nI a)), some (.int (nI (rst (bl l) l.length i p).2)), some (.int (nI (rst (bl l) l.length i p).1)), some (.int (nI p)), some (.int 0), x7] [] N = _ := ey
      have ih := ih (p + 1) (some (.int (nI (nxN (bl l) l.length (rst (bl l) l.length i p).1 l.length 0 (rst (bl l) l.length i p).2).1))) y7 (by omega)
      have g : (nI a < nI p) = False := by rw [nI_ltE (by omega) (by omega)]; exact eq_false (by omega)
      rw [sX5_deedOfWay_8]
      simp (disch := (first | assumption | omega | decide)) only [sX5_deedOfWay_0, sX5_deedOfWay_1, sX5_deedOfWay_2, sX5_deedOfWay_3, sX5_deedOfWay_5, sX5_deedOfWay_6, sX5_deedOfWay_10, sX5_deedOfWay_11, sX5_deedOfWay_14, sX5_deedOfWay_15, sX5_deedOfWay_19, sX5_deedOfWay_20, sX5_deedOfWay_23, sX5_deedOfWay_26, sX5_deedOfWay_27, sX5_deedOfWay_29, sX5_deedOfWay_31, sX5_deedOfWay_34, sX5_deedOfWay_37, sX5_deedOfWay_40, sX5_deedOfWay_41, sX5_deedOfWay_44, sX5_deedOfWay_46, sX5_deedOfWay_47, sX5_deedOfWay_49, sX5_deedOfWay_50, sX5_deedOfWay_51, sX5_deedOfWay_52, sX5_deedOfWay_54, sX5_deedOfWay_55, sX5_deedOfWay_57, sX5_deedOfWay_60, sX5_deedOfWay_62, sX5_deedOfWay_63, sX5_deedOfWay_66, sX5_deedOfWay_68, sX5_deedOfWay_69, sX5_deedOfWay_71, sX5_deedOfWay_72, sX5_deedOfWay_74, sX5_deedOfWay_75, sX5_deedOfWay_76, sX5_deedOfWay_78, sX5_deedOfWay_81, sX5_deedOfWay_82, sX5_deedOfWay_84, sX5_deedOfWay_85, sX5_deedOfWay_86, sX5_deedOfWay_89, sX5_deedOfWay_92, sX5_deedOfWay_95, sX5_deedOfWay_98, sX5_deedOfWay_99, kI_i, kL_l, kV_v, am_rv_s, am_kl_i, am_kl_r, am_kl_n, am_kl_l, true_and, and_true, and_self, true_or, or_true, implies_true, forall_const, not_true_eq_false, not_false_eq_true, false_implies, true_implies, if_true, if_false, Bool.true_eq_false, Bool.false_eq_true, g, ey']
      exact ih
  have k0 : ok (d + 1) mX5_deedOfWay 488 Q 488 0 0 8 [some (.ref 424), some (.int (nI i)), some (.int (nI a)), some (.int (nI i)), some (.int 0), some (.int 0), none, none] [] N = _ := key a 0 none none (by omega)
  rw [eX5_deedOfWay]
  simp (disch := (first | assumption | omega | decide)) only [sX5_deedOfWay_0, sX5_deedOfWay_1, sX5_deedOfWay_2, sX5_deedOfWay_3, sX5_deedOfWay_5, sX5_deedOfWay_6, sX5_deedOfWay_10, sX5_deedOfWay_11, sX5_deedOfWay_14, sX5_deedOfWay_15, sX5_deedOfWay_19, sX5_deedOfWay_20, sX5_deedOfWay_23, sX5_deedOfWay_26, sX5_deedOfWay_27, sX5_deedOfWay_29, sX5_deedOfWay_31, sX5_deedOfWay_34, sX5_deedOfWay_37, sX5_deedOfWay_40, sX5_deedOfWay_41, sX5_deedOfWay_44, sX5_deedOfWay_46, sX5_deedOfWay_47, sX5_deedOfWay_49, sX5_deedOfWay_50, sX5_deedOfWay_51, sX5_deedOfWay_52, sX5_deedOfWay_54, sX5_deedOfWay_55, sX5_deedOfWay_57, sX5_deedOfWay_60, sX5_deedOfWay_62, sX5_deedOfWay_63, sX5_deedOfWay_66, sX5_deedOfWay_68, sX5_deedOfWay_69, sX5_deedOfWay_71, sX5_deedOfWay_72, sX5_deedOfWay_74, sX5_deedOfWay_75, sX5_deedOfWay_76, sX5_deedOfWay_78, sX5_deedOfWay_81, sX5_deedOfWay_82, sX5_deedOfWay_84, sX5_deedOfWay_85, sX5_deedOfWay_86, sX5_deedOfWay_89, sX5_deedOfWay_92, sX5_deedOfWay_95, sX5_deedOfWay_98, sX5_deedOfWay_99, kI_i, kL_l, kV_v, am_rv_s, am_kl_i, am_kl_r, am_kl_n, am_kl_l, true_and, and_true, and_self, true_or, or_true, implies_true, forall_const, not_true_eq_false, not_false_eq_true, false_implies, true_implies, if_true, if_false, Bool.true_eq_false, Bool.false_eq_true, k0]
end
