theorem lp_eq (th lo : Nat → Bool) : lpf (ptf th 6) lo 6 = ptf (fun k => th k && lo k) 6 := by
  simp only [lpf, ptf]
  generalize th 0 = t0
  generalize th 1 = t1
  generalize th 2 = t2
  generalize th 3 = t3
  generalize th 4 = t4
  generalize th 5 = t5
  generalize lo 0 = o0
  generalize lo 1 = o1
  generalize lo 2 = o2
  generalize lo 3 = o3
  generalize lo 4 = o4
  generalize lo 5 = o5
  revert t0 t1 t2 t3 t4 t5 o0 o1 o2 o3 o4 o5
  decide +kernel
section
variable {M N : am_M} {ap lim n : Nat} {S : Sg} {P : List Sg} {l : List Dd} {d : Nat} {Q : am_Q} {K : Int32}
theorem kd_thL (hw : WFl l) (q : Int32) : (kdL l q = -1) = (thL l q = false) := by
  unfold kdL thL lx
  cases e : lst (sf l) (pf l) 0 q l.length with
  | none => simp
  | some k =>
    obtain ⟨a1, a2, a3⟩ := lst_lt e
    obtain ⟨s, p, x, f1, f2, f3, b1, b2, b3, b4⟩ := WF_at hw a1
    show (xf l k = -1) = _
    rw [f3, nI_m1 (by omega)]
    simp
theorem on_m1 (hw : WFl l) (q : Nat) : (onF l l.length q = -1) = (unL l (nI q) = 9) := by
  rw [on_un hw]
  by_cases z : unL l (nI q) = 9
  · rw [if_pos z]; simp [z]
  · rw [if_neg z]
    rcases un_cases hw (nI q) with ⟨a, b⟩ | ⟨k, a1, a2, a3, a4⟩
    · exact absurd a z
    · obtain ⟨s, p, x, f1, f2, f3, b1, b2, b3, b4⟩ := WF_at hw a1
      have : (unL l (nI q) = -1) = False := by rw [a4, f3]; exact nI_m1 (by omega)
      rw [this]; simp [z]
/-- the parts there; where b is true, only those that stand on none -/
def ptA (l : List Dd) (b : Bool) : Int32 := ptf (fun k => thL l (nI k) && (!b || decide (unL l (nI k) = 9))) 6
theorem m_partsOf {b : Bool} (hW : WR M) (hp : PcM M 465 0 l) (hw : WFl l) : am_big (d + 2) mX11_partsOf [.ref 457, .int (bz b)] 488 M Q = Q (some (.int (ptA l b))) (stL M l l.length) := by
  have ms := fun d (Q : am_Q) => m_stands (d := d) (Q := Q) hW (Or.inl rfl) hp hw
  have wS : WR (stL M l l.length) := hW
  have k0 : ∀ q, q < 6 → gI (stL M l l.length) 467 q = kdL l (nI q) := fun q hq => gI_st0 hq
  have k4 : ∀ q, q < 6 → gI (stL M l l.length) 471 q = onF l l.length q := fun q hq => gI_st4 hq
  generalize stL M l l.length = N at *
  have l0 := loop0 (P := fun k => ok (d + 1) mX11_partsOf 488 Q 488 0 0 12 [some (.ref 457), some (.int (bz b)), some (.int (ptf (fun k => thL l (nI k) && (!b || decide (unL l (nI k) = 9))) k)), some (.int (nI k))] [] N) (n := 6) (fun k hk => by
    have e0 : (6 ≤ nI k) = False := by rw [show (6 : Int32) = nI 6 from rfl, nI_leE (by omega) (by omega)]; exact eq_false (by omega)
    have q0 := kd_thL hw (nI k)
    have q4 := on_m1 hw k
    show ok (d + 1) mX11_partsOf 488 Q 488 0 0 12 _ [] _ = ok (d + 1) mX11_partsOf 488 Q 488 0 0 12 [some (.ref 457), some (.int (bz b)), some (.int (ptf (fun k => thL l (nI k) && (!b || decide (unL l (nI k) = 9))) k ||| (if (thL l (nI k) && (!b || decide (unL l (nI k) = 9))) = true then 1 <<< (nI k &&& 31) else 0))), some (.int (nI (k + 1)))] [] _
    rw [sX11_partsOf_12]
    cases c : thL l (nI k) with
    | false => simp (disch := (first | assumption | omega | decide)) only [sX11_partsOf_0, sX11_partsOf_1, sX11_partsOf_2, sX11_partsOf_5, sX11_partsOf_8, sX11_partsOf_9, sX11_partsOf_10, sX11_partsOf_11, sX11_partsOf_13, sX11_partsOf_15, sX11_partsOf_18, sX11_partsOf_19, sX11_partsOf_20, sX11_partsOf_23, sX11_partsOf_24, sX11_partsOf_25, sX11_partsOf_26, sX11_partsOf_29, sX11_partsOf_30, sX11_partsOf_33, sX11_partsOf_34, sX11_partsOf_37, sX11_partsOf_38, sX11_partsOf_39, sX11_partsOf_40, sX11_partsOf_43, sX11_partsOf_44, sX11_partsOf_45, sX11_partsOf_46, sX11_partsOf_49, sX11_partsOf_50, sX11_partsOf_51, sX11_partsOf_52, sX11_partsOf_55, sX11_partsOf_58, sX11_partsOf_59, kI_i, kL_l, kV_v, am_rv_s, am_kl_i, am_kl_r, am_kl_n, am_kl_l, true_and, and_true, and_self, true_or, or_true, implies_true, forall_const, not_true_eq_false, not_false_eq_true, false_implies, true_implies, if_true, if_false, Bool.true_eq_false, Bool.false_eq_true, e0, ob_457, r_457_31, in_467 (show k < 6 by omega), nI_clamp (show k < 2147483648 by omega), k0 k hk, q0, c, Bool.false_and, Bool.false_eq_true, nI_1]
    | true =>
      cases b with
      | false => simp (disch := (first | assumption | omega | decide)) only [sX11_partsOf_0, sX11_partsOf_1, sX11_partsOf_2, sX11_partsOf_5, sX11_partsOf_8, sX11_partsOf_9, sX11_partsOf_10, sX11_partsOf_11, sX11_partsOf_13, sX11_partsOf_15, sX11_partsOf_18, sX11_partsOf_19, sX11_partsOf_20, sX11_partsOf_23, sX11_partsOf_24, sX11_partsOf_25, sX11_partsOf_26, sX11_partsOf_29, sX11_partsOf_30, sX11_partsOf_33, sX11_partsOf_34, sX11_partsOf_37, sX11_partsOf_38, sX11_partsOf_39, sX11_partsOf_40, sX11_partsOf_43, sX11_partsOf_44, sX11_partsOf_45, sX11_partsOf_46, sX11_partsOf_49, sX11_partsOf_50, sX11_partsOf_51, sX11_partsOf_52, sX11_partsOf_55, sX11_partsOf_58, sX11_partsOf_59, kI_i, kL_l, kV_v, am_rv_s, am_kl_i, am_kl_r, am_kl_n, am_kl_l, true_and, and_true, and_self, true_or, or_true, implies_true, forall_const, not_true_eq_false, not_false_eq_true, false_implies, true_implies, if_true, if_false, Bool.true_eq_false, Bool.false_eq_true, e0, ob_457, r_457_31, in_467 (show k < 6 by omega), nI_clamp (show k < 2147483648 by omega), k0 k hk, q0, c, bz_f, Bool.not_false, Bool.true_or, Bool.and_self, Bool.true_eq_false, nI_1]
      | true =>
        by_cases z : unL l (nI k) = 9
        · have z' := eq_true z
          simp (disch := (first | assumption | omega | decide)) only [sX11_partsOf_0, sX11_partsOf_1, sX11_partsOf_2, sX11_partsOf_5, sX11_partsOf_8, sX11_partsOf_9, sX11_partsOf_10, sX11_partsOf_11, sX11_partsOf_13, sX11_partsOf_15, sX11_partsOf_18, sX11_partsOf_19, sX11_partsOf_20, sX11_partsOf_23, sX11_partsOf_24, sX11_partsOf_25, sX11_partsOf_26, sX11_partsOf_29, sX11_partsOf_30, sX11_partsOf_33, sX11_partsOf_34, sX11_partsOf_37, sX11_partsOf_38, sX11_partsOf_39, sX11_partsOf_40, sX11_partsOf_43, sX11_partsOf_44, sX11_partsOf_45, sX11_partsOf_46, sX11_partsOf_49, sX11_partsOf_50, sX11_partsOf_51, sX11_partsOf_52, sX11_partsOf_55, sX11_partsOf_58, sX11_partsOf_59, kI_i, kL_l, kV_v, am_rv_s, am_kl_i, am_kl_r, am_kl_n, am_kl_l, true_and, and_true, and_self, true_or, or_true, implies_true, forall_const, not_true_eq_false, not_false_eq_true, false_implies, true_implies, if_true, if_false, Bool.true_eq_false, Bool.false_eq_true, e0, ob_457, r_457_31, r_457_35, in_467 (show k < 6 by omega), in_471 (show k < 6 by omega), nI_clamp (show k < 2147483648 by omega), k0 k hk, k4 k hk, q0, q4, c, z', bz_t, i01, Bool.not_true, Bool.false_or, decide_true, Bool.and_self, Bool.true_eq_false, nI_1]
        · simp (disch := (first | assumption | omega | decide)) only [sX11_partsOf_0, sX11_partsOf_1, sX11_partsOf_2, sX11_partsOf_5, sX11_partsOf_8, sX11_partsOf_9, sX11_partsOf_10, sX11_partsOf_11, sX11_partsOf_13, sX11_partsOf_15, sX11_partsOf_18, sX11_partsOf_19, sX11_partsOf_20, sX11_partsOf_23, sX11_partsOf_24, sX11_partsOf_25, sX11_partsOf_26, sX11_partsOf_29, sX11_partsOf_30, sX11_partsOf_33, sX11_partsOf_34, sX11_partsOf_37, sX11_partsOf_38, sX11_partsOf_39, sX11_partsOf_40, sX11_partsOf_43, sX11_partsOf_44, sX11_partsOf_45, sX11_partsOf_46, sX11_partsOf_49, sX11_partsOf_50, sX11_partsOf_51, sX11_partsOf_52, sX11_partsOf_55, sX11_partsOf_58, sX11_partsOf_59, kI_i, kL_l, kV_v, am_rv_s, am_kl_i, am_kl_r, am_kl_n, am_kl_l, true_and, and_true, and_self, true_or, or_true, implies_true, forall_const, not_true_eq_false, not_false_eq_true, false_implies, true_implies, if_true, if_false, Bool.true_eq_false, Bool.false_eq_true, e0, ob_457, r_457_31, r_457_35, in_467 (show k < 6 by omega), in_471 (show k < 6 by omega), nI_clamp (show k < 2147483648 by omega), k0 k hk, k4 k hk, q0, q4, c, z, bz_t, i01, Bool.not_true, Bool.false_or, decide_false, Bool.and_false, Bool.false_eq_true, Bool.true_eq_false, nI_1])
  have l1 : ok (d + 1) mX11_partsOf 488 Q 488 0 0 12 [some (.ref 457), some (.int (bz b)), some (.int 0), some (.int 0)] [] N = _ := l0
  have n66 : (6 ≤ nI 6) = True := eq_true (by decide)
  rw [eX11_partsOf]
  simp (disch := (first | assumption | omega | decide)) only [sX11_partsOf_0, sX11_partsOf_1, sX11_partsOf_2, sX11_partsOf_5, sX11_partsOf_8, sX11_partsOf_9, sX11_partsOf_10, sX11_partsOf_11, sX11_partsOf_13, sX11_partsOf_15, sX11_partsOf_18, sX11_partsOf_19, sX11_partsOf_20, sX11_partsOf_23, sX11_partsOf_24, sX11_partsOf_25, sX11_partsOf_26, sX11_partsOf_29, sX11_partsOf_30, sX11_partsOf_33, sX11_partsOf_34, sX11_partsOf_37, sX11_partsOf_38, sX11_partsOf_39, sX11_partsOf_40, sX11_partsOf_43, sX11_partsOf_44, sX11_partsOf_45, sX11_partsOf_46, sX11_partsOf_49, sX11_partsOf_50, sX11_partsOf_51, sX11_partsOf_52, sX11_partsOf_55, sX11_partsOf_58, sX11_partsOf_59, kI_i, kL_l, kV_v, am_rv_s, am_kl_i, am_kl_r, am_kl_n, am_kl_l, true_and, and_true, and_self, true_or, or_true, implies_true, forall_const, not_true_eq_false, not_false_eq_true, false_implies, true_implies, if_true, if_false, Bool.true_eq_false, Bool.false_eq_true, ob_457, r_457_27, ms, l1]
  rw [sX11_partsOf_12]
  simp (disch := (first | assumption | omega | decide)) only [sX11_partsOf_0, sX11_partsOf_1, sX11_partsOf_2, sX11_partsOf_5, sX11_partsOf_8, sX11_partsOf_9, sX11_partsOf_10, sX11_partsOf_11, sX11_partsOf_13, sX11_partsOf_15, sX11_partsOf_18, sX11_partsOf_19, sX11_partsOf_20, sX11_partsOf_23, sX11_partsOf_24, sX11_partsOf_25, sX11_partsOf_26, sX11_partsOf_29, sX11_partsOf_30, sX11_partsOf_33, sX11_partsOf_34, sX11_partsOf_37, sX11_partsOf_38, sX11_partsOf_39, sX11_partsOf_40, sX11_partsOf_43, sX11_partsOf_44, sX11_partsOf_45, sX11_partsOf_46, sX11_partsOf_49, sX11_partsOf_50, sX11_partsOf_51, sX11_partsOf_52, sX11_partsOf_55, sX11_partsOf_58, sX11_partsOf_59, kI_i, kL_l, kV_v, am_rv_s, am_kl_i, am_kl_r, am_kl_n, am_kl_l, true_and, and_true, and_self, true_or, or_true, implies_true, forall_const, not_true_eq_false, not_false_eq_true, false_implies, true_implies, if_true, if_false, Bool.true_eq_false, Bool.false_eq_true, n66]
  rfl
def hiA (l : List Dd) : Nat → Nat := hgt (fun k => thL l (nI k)) (fun k => 1 + sty (unL l) 6 (unL l (nI k)))
theorem sty_9 {u : Int32 → Int32} : ∀ k, sty u k 9 = 0
  | 0 => rfl
  | k + 1 => by unfold sty; rw [if_pos rfl]
theorem sty_leL (u : Int32 → Int32) : ∀ k q, sty u k q ≤ k
  | 0, q => Nat.le_refl _
  | k + 1, q => by unfold sty; have := sty_leL u k (u q); split <;> omega
theorem hiA_le : ∀ k, hiA l k ≤ 7
  | 0 => by unfold hiA hgt; omega
  | k + 1 => by
    have a : hiA l k ≤ 7 := hiA_le k
    have b := sty_leL (unL l) 6 (unL l (nI k))
    unfold hiA at a ⊢
    unfold hgt
    split
    · split <;> omega
    · exact a
theorem m_high (hW : WR M) (hp : PcM M 465 0 l) (hw : WFl l) : am_big (d + 2) mX11_high [.ref 457] 488 M Q = Q (some (.int (nI (hiA l 6)))) (stL M l l.length) := by
  have ms := fun d (Q : am_Q) => m_stands (d := d) (Q := Q) hW (Or.inl rfl) hp hw
  have wS : WR (stL M l l.length) := hW
  have k0 : ∀ q, q < 6 → gI (stL M l l.length) 467 q = kdL l (nI q) := fun q hq => gI_st0 hq
  have k4 : ∀ q, q < 6 → gI (stL M l l.length) 471 q = onF l l.length q := fun q hq => gI_st4 hq
  generalize stL M l l.length = N at *
  have inner : ∀ f q c x1 x2, q < 6 → c + f ≤ 20 → itu (unL l) (f + 1) (nI q) = 9 → ok (d + 1) mX11_high 488 Q 488 0 0 37 [some (.ref 457), some (.int x1), some (.int x2), some (.int (nI c)), some (.int (nI q))] [] N = ok (d + 1) mX11_high 488 Q 488 0 0 37 [some (.ref 457), some (.int x1), some (.int x2), some (.int (nI (c + 1 + sty (unL l) f (unL l (nI q))))), some (.int (-1))] [] N := by
    intro f
    induction f with
    | zero =>
      intro q c x1 x2 hq hc hi
      have hu : unL l (nI q) = 9 := hi
      have q4 : onF l l.length q = -1 := by rw [on_m1 hw q]; exact hu
      rw [sX11_high_37]
      simp (disch := (first | assumption | omega | decide)) only [sX11_high_0, sX11_high_1, sX11_high_2, sX11_high_5, sX11_high_8, sX11_high_9, sX11_high_10, sX11_high_11, sX11_high_13, sX11_high_15, sX11_high_18, sX11_high_19, sX11_high_20, sX11_high_21, sX11_high_24, sX11_high_25, sX11_high_26, sX11_high_27, sX11_high_30, sX11_high_31, sX11_high_34, sX11_high_35, sX11_high_39, sX11_high_40, sX11_high_43, sX11_high_46, sX11_high_47, sX11_high_50, sX11_high_52, sX11_high_53, sX11_high_55, sX11_high_58, sX11_high_59, sX11_high_60, sX11_high_63, sX11_high_64, sX11_high_67, sX11_high_70, sX11_high_71, kI_i, kL_l, kV_v, am_rv_s, am_kl_i, am_kl_r, am_kl_n, am_kl_l, true_and, and_true, and_self, true_or, or_true, implies_true, forall_const, not_true_eq_false, not_false_eq_true, false_implies, true_implies, if_true, if_false, Bool.true_eq_false, Bool.false_eq_true, ob_457, nI_m1 (show q < 2 ^ 31 by omega), r_457_35, in_471 hq, nI_clamp (show q < 2147483648 by omega), k4 q hq, q4, nI_1]
      rfl
    | succ f ih =>
      intro q c x1 x2 hq hc hi
      rw [sX11_high_37]
      by_cases hu : unL l (nI q) = 9
      · have q4 : onF l l.length q = -1 := by rw [on_m1 hw q]; exact hu
        rw [hu, sty_9]
        simp (disch := (first | assumption | omega | decide)) only [sX11_high_0, sX11_high_1, sX11_high_2, sX11_high_5, sX11_high_8, sX11_high_9, sX11_high_10, sX11_high_11, sX11_high_13, sX11_high_15, sX11_high_18, sX11_high_19, sX11_high_20, sX11_high_21, sX11_high_24, sX11_high_25, sX11_high_26, sX11_high_27, sX11_high_30, sX11_high_31, sX11_high_34, sX11_high_35, sX11_high_39, sX11_high_40, sX11_high_43, sX11_high_46, sX11_high_47, sX11_high_50, sX11_high_52, sX11_high_53, sX11_high_55, sX11_high_58, sX11_high_59, sX11_high_60, sX11_high_63, sX11_high_64, sX11_high_67, sX11_high_70, sX11_high_71, kI_i, kL_l, kV_v, am_rv_s, am_kl_i, am_kl_r, am_kl_n, am_kl_l, true_and, and_true, and_self, true_or, or_true, implies_true, forall_const, not_true_eq_false, not_false_eq_true, false_implies, true_implies, if_true, if_false, Bool.true_eq_false, Bool.false_eq_true, ob_457, nI_m1 (show q < 2 ^ 31 by omega), r_457_35, in_471 hq, nI_clamp (show q < 2147483648 by omega), k4 q hq, q4, nI_1, Nat.add_zero]
      · obtain ⟨i, j, hi1, hj, e1, e2⟩ := un_part hw hu
        have q4 : onF l l.length q = nI j := by rw [on_un hw, if_neg hu]; exact e2
        have hi2 : itu (unL l) (f + 1) (nI j) = 9 := by
          have : itu (unL l) (f + 1 + 1) (nI q) = itu (unL l) (f + 1) (unL l (nI q)) := rfl
          rw [this, e2] at hi; exact hi
        have ih := fun x1 x2 => ih j (c + 1) x1 x2 hj (by omega) hi2
        have j9 : ¬ nI j = 9 := by rw [← e2]; exact hu
        have st : sty (unL l) (f + 1) (unL l (nI q)) = sty (unL l) f (unL l (nI j)) + 1 := by
          rw [e2]
          show (if nI j = 9 then 0 else sty (unL l) f (unL l (nI j)) + 1) = _
          rw [if_neg j9]
        rw [st, show c + 1 + (sty (unL l) f (unL l (nI j)) + 1) = c + 1 + 1 + sty (unL l) f (unL l (nI j)) by omega]
        simp (disch := (first | assumption | omega | decide)) only [sX11_high_0, sX11_high_1, sX11_high_2, sX11_high_5, sX11_high_8, sX11_high_9, sX11_high_10, sX11_high_11, sX11_high_13, sX11_high_15, sX11_high_18, sX11_high_19, sX11_high_20, sX11_high_21, sX11_high_24, sX11_high_25, sX11_high_26, sX11_high_27, sX11_high_30, sX11_high_31, sX11_high_34, sX11_high_35, sX11_high_39, sX11_high_40, sX11_high_43, sX11_high_46, sX11_high_47, sX11_high_50, sX11_high_52, sX11_high_53, sX11_high_55, sX11_high_58, sX11_high_59, sX11_high_60, sX11_high_63, sX11_high_64, sX11_high_67, sX11_high_70, sX11_high_71, kI_i, kL_l, kV_v, am_rv_s, am_kl_i, am_kl_r, am_kl_n, am_kl_l, true_and, and_true, and_self, true_or, or_true, implies_true, forall_const, not_true_eq_false, not_false_eq_true, false_implies, true_implies, if_true, if_false, Bool.true_eq_false, Bool.false_eq_true, ob_457, nI_m1 (show q < 2 ^ 31 by omega), r_457_35, in_471 hq, nI_clamp (show q < 2147483648 by omega), k4 q hq, q4, nI_1, ih]
  have key : ∀ j k x3 x4, k + j = 6 → ok (d + 1) mX11_high 488 Q 488 0 0 12 [some (.ref 457), some (.int (nI (hiA l k))), some (.int (nI k)), x3, x4] [] N = Q (some (.int (nI (hiA l 6)))) N := by
    intro j
    induction j with
    | zero =>
      intro k x3 x4 hk
      have hk : k = 6 := by omega
      subst hk
      have n66 : (6 ≤ nI 6) = True := eq_true (by decide)
      rw [sX11_high_12]
      simp (disch := (first | assumption | omega | decide)) only [sX11_high_0, sX11_high_1, sX11_high_2, sX11_high_5, sX11_high_8, sX11_high_9, sX11_high_10, sX11_high_11, sX11_high_13, sX11_high_15, sX11_high_18, sX11_high_19, sX11_high_20, sX11_high_21, sX11_high_24, sX11_high_25, sX11_high_26, sX11_high_27, sX11_high_30, sX11_high_31, sX11_high_34, sX11_high_35, sX11_high_39, sX11_high_40, sX11_high_43, sX11_high_46, sX11_high_47, sX11_high_50, sX11_high_52, sX11_high_53, sX11_high_55, sX11_high_58, sX11_high_59, sX11_high_60, sX11_high_63, sX11_high_64, sX11_high_67, sX11_high_70, sX11_high_71, kI_i, kL_l, kV_v, am_rv_s, am_kl_i, am_kl_r, am_kl_n, am_kl_l, true_and, and_true, and_self, true_or, or_true, implies_true, forall_const, not_true_eq_false, not_false_eq_true, false_implies, true_implies, if_true, if_false, Bool.true_eq_false, Bool.false_eq_true, n66]
    | succ j ih =>
      intro k x3 x4 hk
      have e0 : (6 ≤ nI k) = False := by rw [show (6 : Int32) = nI 6 from rfl, nI_leE (by omega) (by omega)]; exact eq_false (by omega)
      have ih := fun x3 x4 => ih (k + 1) x3 x4 (by omega)
      have q0 := kd_thL hw (nI k)
      have hle := hiA_le (l := l) k
      have hs := sty_leL (unL l) 6 (unL l (nI k))
      have mm : ((-1 : Int32) = -1) = True := eq_true rfl
      rw [sX11_high_12]
      cases c : thL l (nI k) with
      | false =>
        have hk1 : hiA l (k + 1) = hiA l k := by
          show (if thL l (nI k) = true then _ else hiA l k) = _
          rw [c]; rfl
        have mx : (if nI (hiA l k) < 0 then 0 else nI (hiA l k)) = nI (hiA l k) := by rw [if_neg (nI_pos (by omega))]
        rw [hk1] at ih
        simp (disch := (first | assumption | omega | decide)) only [sX11_high_0, sX11_high_1, sX11_high_2, sX11_high_5, sX11_high_8, sX11_high_9, sX11_high_10, sX11_high_11, sX11_high_13, sX11_high_15, sX11_high_18, sX11_high_19, sX11_high_20, sX11_high_21, sX11_high_24, sX11_high_25, sX11_high_26, sX11_high_27, sX11_high_30, sX11_high_31, sX11_high_34, sX11_high_35, sX11_high_39, sX11_high_40, sX11_high_43, sX11_high_46, sX11_high_47, sX11_high_50, sX11_high_52, sX11_high_53, sX11_high_55, sX11_high_58, sX11_high_59, sX11_high_60, sX11_high_63, sX11_high_64, sX11_high_67, sX11_high_70, sX11_high_71, kI_i, kL_l, kV_v, am_rv_s, am_kl_i, am_kl_r, am_kl_n, am_kl_l, true_and, and_true, and_self, true_or, or_true, implies_true, forall_const, not_true_eq_false, not_false_eq_true, false_implies, true_implies, if_true, if_false, Bool.true_eq_false, Bool.false_eq_true, e0, ob_457, r_457_31, in_467 (show k < 6 by omega), nI_clamp (show k < 2147483648 by omega), k0 k (by omega), q0, c]
        rw [sX11_high_37]
        simp (disch := (first | assumption | omega | decide)) only [sX11_high_0, sX11_high_1, sX11_high_2, sX11_high_5, sX11_high_8, sX11_high_9, sX11_high_10, sX11_high_11, sX11_high_13, sX11_high_15, sX11_high_18, sX11_high_19, sX11_high_20, sX11_high_21, sX11_high_24, sX11_high_25, sX11_high_26, sX11_high_27, sX11_high_30, sX11_high_31, sX11_high_34, sX11_high_35, sX11_high_39, sX11_high_40, sX11_high_43, sX11_high_46, sX11_high_47, sX11_high_50, sX11_high_52, sX11_high_53, sX11_high_55, sX11_high_58, sX11_high_59, sX11_high_60, sX11_high_63, sX11_high_64, sX11_high_67, sX11_high_70, sX11_high_71, kI_i, kL_l, kV_v, am_rv_s, am_kl_i, am_kl_r, am_kl_n, am_kl_l, true_and, and_true, and_self, true_or, or_true, implies_true, forall_const, not_true_eq_false, not_false_eq_true, false_implies, true_implies, if_true, if_false, Bool.true_eq_false, Bool.false_eq_true, mm, mx, nI_1, ih]
      | true =>
        have i6 : itu (unL l) 7 (nI k) = 9 := by rw [itu_s, un_6 hw (nI k) ⟨k, by omega, rfl⟩, un_9 hw]
        have inn := fun x1 x2 => inner 6 k 0 x1 x2 (by omega) (by omega) i6
        have i1 : ∀ x1 x2, ok (d + 1) mX11_high 488 Q 488 0 0 37 [some (.ref 457), some (.int x1), some (.int x2), some (.int 0), some (.int (nI k))] [] N = ok (d + 1) mX11_high 488 Q 488 0 0 37 [some (.ref 457), some (.int x1), some (.int x2), some (.int (nI (0 + 1 + sty (unL l) 6 (unL l (nI k))))), some (.int (-1))] [] N := inn
        have hk1 : hiA l (k + 1) = if hiA l k < 0 + 1 + sty (unL l) 6 (unL l (nI k)) then 0 + 1 + sty (unL l) 6 (unL l (nI k)) else hiA l k := by
          show (if thL l (nI k) = true then (if hiA l k < 1 + sty (unL l) 6 (unL l (nI k)) then 1 + sty (unL l) 6 (unL l (nI k)) else hiA l k) else hiA l k) = _
          rw [c, if_pos rfl, Nat.zero_add]
        have mx : (if nI (hiA l k) < nI (0 + 1 + sty (unL l) 6 (unL l (nI k))) then nI (0 + 1 + sty (unL l) 6 (unL l (nI k))) else nI (hiA l k)) = nI (hiA l (k + 1)) := by
          rw [hk1]
          by_cases z : hiA l k < 0 + 1 + sty (unL l) 6 (unL l (nI k))
          · rw [if_pos z, if_pos (by rw [nI_ltE (by omega) (by omega)]; exact z)]
          · rw [if_neg z, if_neg (by rw [nI_ltE (by omega) (by omega)]; exact z)]
        simp (disch := (first | assumption | omega | decide)) only [sX11_high_0, sX11_high_1, sX11_high_2, sX11_high_5, sX11_high_8, sX11_high_9, sX11_high_10, sX11_high_11, sX11_high_13, sX11_high_15, sX11_high_18, sX11_high_19, sX11_high_20, sX11_high_21, sX11_high_24, sX11_high_25, sX11_high_26, sX11_high_27, sX11_high_30, sX11_high_31, sX11_high_34, sX11_high_35, sX11_high_39, sX11_high_40, sX11_high_43, sX11_high_46, sX11_high_47, sX11_high_50, sX11_high_52, sX11_high_53, sX11_high_55, sX11_high_58, sX11_high_59, sX11_high_60, sX11_high_63, sX11_high_64, sX11_high_67, sX11_high_70, sX11_high_71, kI_i, kL_l, kV_v, am_rv_s, am_kl_i, am_kl_r, am_kl_n, am_kl_l, true_and, and_true, and_self, true_or, or_true, implies_true, forall_const, not_true_eq_false, not_false_eq_true, false_implies, true_implies, if_true, if_false, Bool.true_eq_false, Bool.false_eq_true, e0, ob_457, r_457_31, in_467 (show k < 6 by omega), nI_clamp (show k < 2147483648 by omega), k0 k (by omega), q0, c, Bool.true_eq_false, i1]
        rw [sX11_high_37]
        simp (disch := (first | assumption | omega | decide)) only [sX11_high_0, sX11_high_1, sX11_high_2, sX11_high_5, sX11_high_8, sX11_high_9, sX11_high_10, sX11_high_11, sX11_high_13, sX11_high_15, sX11_high_18, sX11_high_19, sX11_high_20, sX11_high_21, sX11_high_24, sX11_high_25, sX11_high_26, sX11_high_27, sX11_high_30, sX11_high_31, sX11_high_34, sX11_high_35, sX11_high_39, sX11_high_40, sX11_high_43, sX11_high_46, sX11_high_47, sX11_high_50, sX11_high_52, sX11_high_53, sX11_high_55, sX11_high_58, sX11_high_59, sX11_high_60, sX11_high_63, sX11_high_64, sX11_high_67, sX11_high_70, sX11_high_71, kI_i, kL_l, kV_v, am_rv_s, am_kl_i, am_kl_r, am_kl_n, am_kl_l, true_and, and_true, and_self, true_or, or_true, implies_true, forall_const, not_true_eq_false, not_false_eq_true, false_implies, true_implies, if_true, if_false, Bool.true_eq_false, Bool.false_eq_true, mm, mx, nI_1, ih]
  have k1 : ok (d + 1) mX11_high 488 Q 488 0 0 12 [some (.ref 457), some (.int 0), some (.int 0), none, none] [] N = _ := key 6 0 none none rfl
  rw [eX11_high]
  simp (disch := (first | assumption | omega | decide)) only [sX11_high_0, sX11_high_1, sX11_high_2, sX11_high_5, sX11_high_8, sX11_high_9, sX11_high_10, sX11_high_11, sX11_high_13, sX11_high_15, sX11_high_18, sX11_high_19, sX11_high_20, sX11_high_21, sX11_high_24, sX11_high_25, sX11_high_26, sX11_high_27, sX11_high_30, sX11_high_31, sX11_high_34, sX11_high_35, sX11_high_39, sX11_high_40, sX11_high_43, sX11_high_46, sX11_high_47, sX11_high_50, sX11_high_52, sX11_high_53, sX11_high_55, sX11_high_58, sX11_high_59, sX11_high_60, sX11_high_63, sX11_high_64, sX11_high_67, sX11_high_70, sX11_high_71, kI_i, kL_l, kV_v, am_rv_s, am_kl_i, am_kl_r, am_kl_n, am_kl_l, true_and, and_true, and_self, true_or, or_true, implies_true, forall_const, not_true_eq_false, not_false_eq_true, false_implies, true_implies, if_true, if_false, Bool.true_eq_false, Bool.false_eq_true, ob_457, r_457_27, ms, k1]
end
