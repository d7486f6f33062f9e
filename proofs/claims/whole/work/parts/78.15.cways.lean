section
variable {M N : am_M} {ap lim n : Nat} {S : Sg} {P : List Sg} {l : List Dd} {d : Nat} {Q : am_Q} {K : Int32}
theorem c_canFollow {s t : Nat} (hW : WR N) (hb : gI N 429 t = nI (bl l t)) (ht : t < 12) (hs : s < 4096) : am_big (d + 1) mX5_canFollow [.ref 424, .int (nI t), .int (nI s)] 488 N Q = Q (some (.int (bz (cf (bl l) s t)))) N := by
  have bt := nI_bit (b := s) (e := t) (by omega) (by omega)
  have tc : (nI t).toNatClampNeg = t := nI_clamp (by omega)
  have z0 := nI_sub0 (s := s) (bl_l31 (l := l) (k := t) (by omega))
  rw [eX5_canFollow]
  unfold cf
  cases c : s.testBit t with
  | true =>
    rw [c] at bt
    simp (disch := (first | assumption | omega | decide)) only [sX5_canFollow_0, sX5_canFollow_1, sX5_canFollow_2, sX5_canFollow_3, sX5_canFollow_4, sX5_canFollow_5, sX5_canFollow_8, sX5_canFollow_9, sX5_canFollow_12, sX5_canFollow_13, sX5_canFollow_14, sX5_canFollow_15, sX5_canFollow_16, sX5_canFollow_17, sX5_canFollow_18, sX5_canFollow_21, sX5_canFollow_22, sX5_canFollow_25, sX5_canFollow_26, kI_i, kL_l, kV_v, am_rv_s, am_kl_i, am_kl_r, am_kl_n, am_kl_l, true_and, and_true, and_self, true_or, or_true, implies_true, forall_const, not_true_eq_false, not_false_eq_true, false_implies, true_implies, if_true, if_false, Bool.true_eq_false, Bool.false_eq_true, bt, bz_t, i01, Bool.not_true, Bool.false_and, bz_f]
  | false =>
    rw [c] at bt
    by_cases z : bl l t &&& s = bl l t
    · have z' := eq_true z
      simp (disch := (first | assumption | omega | decide)) only [sX5_canFollow_0, sX5_canFollow_1, sX5_canFollow_2, sX5_canFollow_3, sX5_canFollow_4, sX5_canFollow_5, sX5_canFollow_8, sX5_canFollow_9, sX5_canFollow_12, sX5_canFollow_13, sX5_canFollow_14, sX5_canFollow_15, sX5_canFollow_16, sX5_canFollow_17, sX5_canFollow_18, sX5_canFollow_21, sX5_canFollow_22, sX5_canFollow_25, sX5_canFollow_26, kI_i, kL_l, kV_v, am_rv_s, am_kl_i, am_kl_r, am_kl_n, am_kl_l, true_and, and_true, and_self, true_or, or_true, implies_true, forall_const, not_true_eq_false, not_false_eq_true, false_implies, true_implies, if_true, if_false, Bool.true_eq_false, Bool.false_eq_true, ob_424, bt, bz_f, r_424_2, in_429 ht, tc, hb, z0, z', Bool.not_false, decide_true, Bool.and_self, bz_t]
    · simp (disch := (first | assumption | omega | decide)) only [sX5_canFollow_0, sX5_canFollow_1, sX5_canFollow_2, sX5_canFollow_3, sX5_canFollow_4, sX5_canFollow_5, sX5_canFollow_8, sX5_canFollow_9, sX5_canFollow_12, sX5_canFollow_13, sX5_canFollow_14, sX5_canFollow_15, sX5_canFollow_16, sX5_canFollow_17, sX5_canFollow_18, sX5_canFollow_21, sX5_canFollow_22, sX5_canFollow_25, sX5_canFollow_26, kI_i, kL_l, kV_v, am_rv_s, am_kl_i, am_kl_r, am_kl_n, am_kl_l, true_and, and_true, and_self, true_or, or_true, implies_true, forall_const, not_true_eq_false, not_false_eq_true, false_implies, true_implies, if_true, if_false, Bool.true_eq_false, Bool.false_eq_true, ob_424, bt, bz_f, r_424_2, in_429 ht, tc, hb, z0, z, Bool.not_false, decide_false, Bool.and_false]
theorem c_waysFrom {s : Nat} (hW : WR N) (hn : gI N 424 1 = nI l.length) (hb : ∀ k, k < l.length → gI N 429 k = nI (bl l k)) (hl : l.length ≤ 12) (hs : s < 2 ^ l.length) (hx : ∀ t, t < l.length → cf (bl l) s t = true → gI N 432 (s ||| 2 ^ t) = nI (wS (bl l) l.length (s ||| 2 ^ t))) : am_big (d + 2) mX5_waysFrom [.ref 424, .int (nI s)] 488 N Q = Q (some (.int (nI (sm (fun t => if cf (bl l) s t = true then wS (bl l) l.length (s ||| 2 ^ t) else 0) l.length)))) N := by
  have pl : (2 : Nat) ^ l.length ≤ 4096 := Nat.le_trans (Nat.pow_le_pow_right (by omega) hl) (by omega)
  have l0 := loop0 (P := fun k => ok (d + 1) mX5_waysFrom 488 Q 488 0 0 4 [some (.ref 424), some (.int (nI s)), some (.int (nI (sm (fun t => if cf (bl l) s t = true then wS (bl l) l.length (s ||| 2 ^ t) else 0) k))), some (.int (nI k))] [] N) (n := l.length) (fun k hk => by
    have e0 : (nI l.length ≤ nI k) = False := by rw [nI_leE (by omega) (by omega)]; exact eq_false (by omega)
    have hk1 : sm (fun t => if cf (bl l) s t = true then wS (bl l) l.length (s ||| 2 ^ t) else 0) (k + 1) = sm (fun t => if cf (bl l) s t = true then wS (bl l) l.length (s ||| 2 ^ t) else 0) k + (if cf (bl l) s k = true then wS (bl l) l.length (s ||| 2 ^ k) else 0) := rfl
    have cl := fun d (Q : am_Q) => c_canFollow (d := d) (Q := Q) (l := l) (s := s) (t := k) hW (hb k hk) (by omega) (by omega)
    show ok (d + 1) mX5_waysFrom 488 Q 488 0 0 4 _ [] N = ok (d + 1) mX5_waysFrom 488 Q 488 0 0 4 _ [] N
    rw [hk1]
    generalize sm (fun t => if cf (bl l) s t = true then wS (bl l) l.length (s ||| 2 ^ t) else 0) k = q
    rw [sX5_waysFrom_4]
    cases c : cf (bl l) s k with
    | false => simp (disch := (first | assumption | omega | decide)) only [sX5_waysFrom_0, sX5_waysFrom_1, sX5_waysFrom_2, sX5_waysFrom_3, sX5_waysFrom_5, sX5_waysFrom_6, sX5_waysFrom_9, sX5_waysFrom_12, sX5_waysFrom_13, sX5_waysFrom_14, sX5_waysFrom_15, sX5_waysFrom_16, sX5_waysFrom_19, sX5_waysFrom_22, sX5_waysFrom_23, sX5_waysFrom_26, sX5_waysFrom_27, sX5_waysFrom_28, sX5_waysFrom_29, sX5_waysFrom_30, sX5_waysFrom_31, sX5_waysFrom_32, sX5_waysFrom_35, sX5_waysFrom_36, sX5_waysFrom_37, sX5_waysFrom_38, sX5_waysFrom_41, sX5_waysFrom_44, sX5_waysFrom_45, kI_i, kL_l, kV_v, am_rv_s, am_kl_i, am_kl_r, am_kl_n, am_kl_l, true_and, and_true, and_self, true_or, or_true, implies_true, forall_const, not_true_eq_false, not_false_eq_true, false_implies, true_implies, if_true, if_false, Bool.true_eq_false, Bool.false_eq_true, ob_424, hn, e0, cl, c, bz_f, Int32.add_zero, nI_1, Bool.false_eq_true, Nat.add_zero]
    | true =>
      obtain ⟨o1, o2⟩ := or_gt (n := l.length) hs hk (cf_f c).1
      have oc : (nI (s ||| 2 ^ k)).toNatClampNeg = s ||| 2 ^ k := nI_clamp (by omega)
      simp (disch := (first | assumption | omega | decide)) only [sX5_waysFrom_0, sX5_waysFrom_1, sX5_waysFrom_2, sX5_waysFrom_3, sX5_waysFrom_5, sX5_waysFrom_6, sX5_waysFrom_9, sX5_waysFrom_12, sX5_waysFrom_13, sX5_waysFrom_14, sX5_waysFrom_15, sX5_waysFrom_16, sX5_waysFrom_19, sX5_waysFrom_22, sX5_waysFrom_23, sX5_waysFrom_26, sX5_waysFrom_27, sX5_waysFrom_28, sX5_waysFrom_29, sX5_waysFrom_30, sX5_waysFrom_31, sX5_waysFrom_32, sX5_waysFrom_35, sX5_waysFrom_36, sX5_waysFrom_37, sX5_waysFrom_38, sX5_waysFrom_41, sX5_waysFrom_44, sX5_waysFrom_45, kI_i, kL_l, kV_v, am_rv_s, am_kl_i, am_kl_r, am_kl_n, am_kl_l, true_and, and_true, and_self, true_or, or_true, implies_true, forall_const, not_true_eq_false, not_false_eq_true, false_implies, true_implies, if_true, if_false, Bool.true_eq_false, Bool.false_eq_true, ob_424, hn, e0, cl, c, bz_t, i01, r_424_5, shl1 k (by omega), nI_or, in_432 (show s ||| 2 ^ k < 4096 by omega), oc, hx k hk c, nI_add, nI_1])
  have l1 : ok (d + 1) mX5_waysFrom 488 Q 488 0 0 4 [some (.ref 424), some (.int (nI s)), some (.int 0), some (.int 0)] [] N = _ := l0
  rw [eX5_waysFrom]
  simp (disch := (first | assumption | omega | decide)) only [sX5_waysFrom_0, sX5_waysFrom_1, sX5_waysFrom_2, sX5_waysFrom_3, sX5_waysFrom_5, sX5_waysFrom_6, sX5_waysFrom_9, sX5_waysFrom_12, sX5_waysFrom_13, sX5_waysFrom_14, sX5_waysFrom_15, sX5_waysFrom_16, sX5_waysFrom_19, sX5_waysFrom_22, sX5_waysFrom_23, sX5_waysFrom_26, sX5_waysFrom_27, sX5_waysFrom_28, sX5_waysFrom_29, sX5_waysFrom_30, sX5_waysFrom_31, sX5_waysFrom_32, sX5_waysFrom_35, sX5_waysFrom_36, sX5_waysFrom_37, sX5_waysFrom_38, sX5_waysFrom_41, sX5_waysFrom_44, sX5_waysFrom_45, kI_i, kL_l, kV_v, am_rv_s, am_kl_i, am_kl_r, am_kl_n, am_kl_l, true_and, and_true, and_self, true_or, or_true, implies_true, forall_const, not_true_eq_false, not_false_eq_true, false_implies, true_implies, if_true, if_false, Bool.true_eq_false, Bool.false_eq_true, l1]
  rw [sX5_waysFrom_4]
  simp (disch := (first | assumption | omega | decide)) only [sX5_waysFrom_0, sX5_waysFrom_1, sX5_waysFrom_2, sX5_waysFrom_3, sX5_waysFrom_5, sX5_waysFrom_6, sX5_waysFrom_9, sX5_waysFrom_12, sX5_waysFrom_13, sX5_waysFrom_14, sX5_waysFrom_15, sX5_waysFrom_16, sX5_waysFrom_19, sX5_waysFrom_22, sX5_waysFrom_23, sX5_waysFrom_26, sX5_waysFrom_27, sX5_waysFrom_28, sX5_waysFrom_29, sX5_waysFrom_30, sX5_waysFrom_31, sX5_waysFrom_32, sX5_waysFrom_35, sX5_waysFrom_36, sX5_waysFrom_37, sX5_waysFrom_38, sX5_waysFrom_41, sX5_waysFrom_44, sX5_waysFrom_45, kI_i, kL_l, kV_v, am_rv_s, am_kl_i, am_kl_r, am_kl_n, am_kl_l, true_and, and_true, and_self, true_or, or_true, implies_true, forall_const, not_true_eq_false, not_false_eq_true, false_implies, true_implies, if_true, if_false, Bool.true_eq_false, Bool.false_eq_true, ob_424, hn, Int32.le_refl]
/-- the class's table of rows: only on sets that hold what their deeds need -/
def wkF (N : am_M) (l : List Dd) (s : Nat) : Int32 := if whB l s = true then nI (wS (bl l) l.length s) else gI N 432 s
def cwM (N : am_M) (l : List Dd) : am_M := fr (fl N 431 (2 ^ l.length) (whI l)) 432 0 (2 ^ l.length) (wkF N l)
theorem wh_full : whB l (2 ^ l.length - 1) = true := whB_iff.mpr (fun t ht _ => sub_iff.mpr (fun i hi => by
  rw [Nat.testBit_two_pow_sub_one]
  by_cases z : i < t
  · exact decide_eq_true (by omega)
  · rw [bl_hi (by omega)] at hi; cases hi))
theorem c_countWays (hW : WR N) (hn : gI N 424 1 = nI l.length) (hb : ∀ k, k < l.length → gI N 429 k = nI (bl l k)) (hl : l.length ≤ 12) : am_big (d + 3) mX5_countWays [.ref 424] 488 N Q = Q (some (.int (nI (wS (bl l) l.length 0)))) (cwM N l) := by
  have pl : (2 : Nat) ^ l.length ≤ 4096 := Nat.le_trans (Nat.pow_le_pow_right (by omega) hl) (by omega)
  have pp : 0 < (2 : Nat) ^ l.length := Nat.pow_pos (by omega)
  have mw := fun d (Q : am_Q) => c_markWhole (d := d) (Q := Q) hW hn hb hl
  have wn : WR (fl N 431 (2 ^ l.length) (whI l)) := hW
  have hn : gI (fl N 431 (2 ^ l.length) (whI l)) 424 1 = nI l.length := by rw [gI_fn (by omega)]; exact hn
  have hb : ∀ k, k < l.length → gI (fl N 431 (2 ^ l.length) (whI l)) 429 k = nI (bl l k) := fun k hk => by rw [gI_fn (by omega)]; exact hb k hk
  have hg : ∀ s, s < 2 ^ l.length → gI (fl N 431 (2 ^ l.length) (whI l)) 431 s = whI l s := fun s hs => gI_fl hs
  have h2 : ∀ s, gI (fl N 431 (2 ^ l.length) (whI l)) 432 s = gI N 432 s := fun s => gI_fn (by omega)
  unfold cwM
  generalize hV : fl N 431 (2 ^ l.length) (whI l) = V at *
  have ev : ∀ d (Q : am_Q) W, gI W 424 1 = nI l.length → am_big (d + 1) mX5_everything [.ref 424] 488 W Q = Q (some (.int (nI (2 ^ l.length - 1)))) W := fun d Q W hW => by
    rw [eX5_everything]
    simp (disch := (first | assumption | omega | decide)) only [sX5_everything_0, sX5_everything_1, sX5_everything_2, sX5_everything_5, sX5_everything_6, sX5_everything_7, sX5_everything_8, kI_i, kL_l, kV_v, am_rv_s, am_kl_i, am_kl_r, am_kl_n, am_kl_l, true_and, and_true, and_self, true_or, or_true, implies_true, forall_const, not_true_eq_false, not_false_eq_true, false_implies, true_implies, if_true, if_false, Bool.true_eq_false, Bool.false_eq_true, ob_424, hW, shl1 l.length (by omega), nI_sub1 pp]
  have key : ∀ k x, k ≤ 2 ^ l.length - 1 → x = nI k - 1 → ok (d + 2) mX5_countWays 488 Q 488 0 0 21 [some (.ref 424), some (.int x)] [] (fr V 432 k (2 ^ l.length) (wkF N l)) = Q (some (.int (nI (wS (bl l) l.length 0)))) (fr V 432 0 (2 ^ l.length) (wkF N l)) := by
    intro k
    induction k with
    | zero =>
      intro x _ hx
      have e2 : (nI 0 - 1 < 0) = True := eq_true (by decide)
      subst hx
      have g0 : gI (fr V 432 0 (2 ^ l.length) (wkF N l)) 432 0 = nI (wS (bl l) l.length 0) := by rw [gI_fr (Nat.le_refl _) pp]; unfold wkF; rw [if_pos wh_0]
      have i0 : ∀ {M : am_M}, am_in 488 M 432 1 0 = True := in_432 (k := 0) (by omega)
      have c0 : (0 : Int32).toNatClampNeg = 0 := rfl
      rw [sX5_countWays_21]
      simp (disch := (first | assumption | omega | decide)) only [sX5_countWays_0, sX5_countWays_1, sX5_countWays_4, sX5_countWays_5, sX5_countWays_8, sX5_countWays_9, sX5_countWays_12, sX5_countWays_13, sX5_countWays_14, sX5_countWays_15, sX5_countWays_18, sX5_countWays_19, sX5_countWays_20, sX5_countWays_22, sX5_countWays_25, sX5_countWays_26, sX5_countWays_29, sX5_countWays_30, sX5_countWays_31, sX5_countWays_34, sX5_countWays_35, sX5_countWays_38, sX5_countWays_39, sX5_countWays_40, sX5_countWays_41, sX5_countWays_44, sX5_countWays_45, sX5_countWays_48, sX5_countWays_51, sX5_countWays_52, sX5_countWays_55, sX5_countWays_56, sX5_countWays_57, kI_i, kL_l, kV_v, am_rv_s, am_kl_i, am_kl_r, am_kl_n, am_kl_l, true_and, and_true, and_self, true_or, or_true, implies_true, forall_const, not_true_eq_false, not_false_eq_true, false_implies, true_implies, if_true, if_false, Bool.true_eq_false, Bool.false_eq_true, ob_424, gR_fr, r_424_5, e2, i0, c0, g0]
    | succ k ih =>
      intro x hk hx
      rw [nI_pred] at hx
      subst hx
      have e0 := nI_lt0 (k := k) (by omega)
      have kc : (nI k).toNatClampNeg = k := nI_clamp (by omega)
      have ih := ih (nI k + -1) (by omega) (by rw [Int32.sub_eq_add_neg])
      have gw : gI (fr V 432 (k + 1) (2 ^ l.length) (wkF N l)) 431 k = whI l k := by rw [gI_fro (by omega)]; exact hg k (by omega)
      have i1 := iw_431 (k := k) (by omega)
      have wf : WR (fr V 432 (k + 1) (2 ^ l.length) (wkF N l)) := wn
      rw [sX5_countWays_21]
      cases c : whB l k with
      | false =>
        have gw' : gI (fr V 432 (k + 1) (2 ^ l.length) (wkF N l)) 431 k = 0 := by rw [gw]; unfold whI; rw [c]; rfl
        have sw : fr V 432 (k + 1) (2 ^ l.length) (wkF N l) = fr V 432 k (2 ^ l.length) (wkF N l) := M_ext (fun b i => by
          rw [gI_fr', gI_fr']
          by_cases z : b = 432 ∧ k + 1 ≤ i ∧ i < 2 ^ l.length
          · rw [if_pos z, if_pos (by omega)]
          · rw [if_neg z]
            by_cases z2 : b = 432 ∧ k ≤ i ∧ i < 2 ^ l.length
            · have ik : i = k := by omega
              rw [if_pos z2, z2.1, ik, h2]
              unfold wkF; rw [c]; rfl
            · rw [if_neg z2]) (fun _ _ => rfl) (fun _ _ => rfl)
        simp (disch := (first | assumption | omega | decide)) only [sX5_countWays_0, sX5_countWays_1, sX5_countWays_4, sX5_countWays_5, sX5_countWays_8, sX5_countWays_9, sX5_countWays_12, sX5_countWays_13, sX5_countWays_14, sX5_countWays_15, sX5_countWays_18, sX5_countWays_19, sX5_countWays_20, sX5_countWays_22, sX5_countWays_25, sX5_countWays_26, sX5_countWays_29, sX5_countWays_30, sX5_countWays_31, sX5_countWays_34, sX5_countWays_35, sX5_countWays_38, sX5_countWays_39, sX5_countWays_40, sX5_countWays_41, sX5_countWays_44, sX5_countWays_45, sX5_countWays_48, sX5_countWays_51, sX5_countWays_52, sX5_countWays_55, sX5_countWays_56, sX5_countWays_57, kI_i, kL_l, kV_v, am_rv_s, am_kl_i, am_kl_r, am_kl_n, am_kl_l, true_and, and_true, and_self, true_or, or_true, implies_true, forall_const, not_true_eq_false, not_false_eq_true, false_implies, true_implies, if_true, if_false, Bool.true_eq_false, Bool.false_eq_true, ob_424, gR_fr, r_424_4, e0, i1, iwn_431, false_or, kc, gw']
        rw [sw, ih]
      | true =>
        have gw' : gI (fr V 432 (k + 1) (2 ^ l.length) (wkF N l)) 431 k = 1 := by rw [gw]; unfold whI; rw [c]; rfl
        have wk := whB_iff.mp c
        have wf2 := fun d (Q : am_Q) => c_waysFrom (d := d) (Q := Q) (l := l) (s := k) wf (by rw [gI_fro (by omega)]; exact hn) (fun t ht => by rw [gI_fro (by omega)]; exact hb t ht) hl (by omega) (fun t ht cc => by
          obtain ⟨o1, o2⟩ := or_gt (n := l.length) (s := k) (by omega) ht (cf_f cc).1
          rw [gI_fr (by omega) o2]
          unfold wkF
          rw [if_pos (whB_iff.mpr (WH_or wk cc))])
        rw [← wS_s (by omega)] at wf2
        have sw : sI (fr V 432 (k + 1) (2 ^ l.length) (wkF N l)) 432 k (nI (wS (bl l) l.length k)) = fr V 432 k (2 ^ l.length) (wkF N l) := fr_s (by unfold wkF; rw [if_pos c]) (by omega)
        simp (disch := (first | assumption | omega | decide)) only [sX5_countWays_0, sX5_countWays_1, sX5_countWays_4, sX5_countWays_5, sX5_countWays_8, sX5_countWays_9, sX5_countWays_12, sX5_countWays_13, sX5_countWays_14, sX5_countWays_15, sX5_countWays_18, sX5_countWays_19, sX5_countWays_20, sX5_countWays_22, sX5_countWays_25, sX5_countWays_26, sX5_countWays_29, sX5_countWays_30, sX5_countWays_31, sX5_countWays_34, sX5_countWays_35, sX5_countWays_38, sX5_countWays_39, sX5_countWays_40, sX5_countWays_41, sX5_countWays_44, sX5_countWays_45, sX5_countWays_48, sX5_countWays_51, sX5_countWays_52, sX5_countWays_55, sX5_countWays_56, sX5_countWays_57, kI_i, kL_l, kV_v, am_rv_s, am_kl_i, am_kl_r, am_kl_n, am_kl_l, true_and, and_true, and_self, true_or, or_true, implies_true, forall_const, not_true_eq_false, not_false_eq_true, false_implies, true_implies, if_true, if_false, Bool.true_eq_false, Bool.false_eq_true, ob_424, gR_fr, r_424_4, r_424_5, e0, i1, iwn_431, false_or, kc, gw', i01, wf2, iw_432 (show k < 4096 by omega), sw]
        rw [ih]
  have k0 := key (2 ^ l.length - 1) (nI (2 ^ l.length - 1) - 1) (Nat.le_refl _) rfl
  have fc : (nI (2 ^ l.length - 1)).toNatClampNeg = 2 ^ l.length - 1 := nI_clamp (by omega)
  have sw0 : sI V 432 (2 ^ l.length - 1) 1 = fr V 432 (2 ^ l.length - 1) (2 ^ l.length) (wkF N l) := M_ext (fun b k => by
    rw [gI_sI, gI_fr']
    by_cases z : b = 432 ∧ k = 2 ^ l.length - 1
    · rw [if_pos z, if_pos (by omega), z.2]
      unfold wkF
      rw [if_pos wh_full, wS_full]; rfl
    · rw [if_neg z, if_neg (by omega)]) (fun _ _ => rfl) (fun _ _ => rfl)
  have ev1 := fun d (Q : am_Q) => ev d Q V hn
  have ev2 := fun d (Q : am_Q) => ev d Q (fr V 432 (2 ^ l.length - 1) (2 ^ l.length) (wkF N l)) (by rw [gI_fro (by omega)]; exact hn)
  rw [eX5_countWays]
  simp (disch := (first | assumption | omega | decide)) only [sX5_countWays_0, sX5_countWays_1, sX5_countWays_4, sX5_countWays_5, sX5_countWays_8, sX5_countWays_9, sX5_countWays_12, sX5_countWays_13, sX5_countWays_14, sX5_countWays_15, sX5_countWays_18, sX5_countWays_19, sX5_countWays_20, sX5_countWays_22, sX5_countWays_25, sX5_countWays_26, sX5_countWays_29, sX5_countWays_30, sX5_countWays_31, sX5_countWays_34, sX5_countWays_35, sX5_countWays_38, sX5_countWays_39, sX5_countWays_40, sX5_countWays_41, sX5_countWays_44, sX5_countWays_45, sX5_countWays_48, sX5_countWays_51, sX5_countWays_52, sX5_countWays_55, sX5_countWays_56, sX5_countWays_57, kI_i, kL_l, kV_v, am_rv_s, am_kl_i, am_kl_r, am_kl_n, am_kl_l, true_and, and_true, and_self, true_or, or_true, implies_true, forall_const, not_true_eq_false, not_false_eq_true, false_implies, true_implies, if_true, if_false, Bool.true_eq_false, Bool.false_eq_true, ob_424, mw, r_424_5, ev1, iw_432 (show 2 ^ l.length - 1 < 4096 by omega), fc, sw0, ev2, k0]
end
