theorem pcN_le (s : Nat) : ∀ k, pcN k s ≤ k
  | 0 => Nat.le_refl _
  | k + 1 => by unfold pcN; have := pcN_le s k; split <;> omega
theorem pc_full : ∀ n, n < 13 → pcN 12 (2 ^ n - 1) = n := by decide +kernel
theorem mo_a : ∀ n, n < 13 → ∀ a, a < 13 → ∀ b, b < 13 → ((0 < (nI n - nI a) - (nI n - nI b)) ↔ a < b) ∧ (((nI n - nI a) - (nI n - nI b) = 0) ↔ a = b) := by decide +kernel
section
variable {M N : am_M} {ap lim n : Nat} {S : Sg} {P : List Sg} {l : List Dd} {d : Nat} {Q : am_Q} {K : Int32}
theorem kt_0 {f : Nat → Int32} : ∀ n, n ≤ 32 → kt f 0 n = 0
  | 0, _ => rfl
  | n + 1, h => by
    show kt f 0 n ||| (if ((0 : Int32) >>> (nI n &&& 31)) &&& 1 = 0 then 0 else f n) = 0
    have b := nI_bit (b := 0) (e := n) (by omega) (by omega)
    have b2 : ((0 : Int32) >>> (nI n &&& 31)) &&& 1 = 0 := by rw [show (0 : Int32) = nI 0 from rfl, b, Nat.zero_testBit]; rfl
    rw [kt_0 n (by omega), if_pos b2]; rfl
theorem lf_0 (hw : WFl l) : lfN l 0 = 2 ^ l.length - 1 := by
  have key : ∀ k s, k ≤ l.length → dn l 0 s k = s := by
    intro k
    induction k with
    | zero => intro s _; rfl
    | succ k ih =>
      intro s hk
      obtain ⟨so, p, x, f1, f2, f3, b1, b2, b3, b4⟩ := WF_at hw (k := k) (by omega)
      have b := nI_bit (b := 0) (e := so) (by omega) (by omega)
      have st : stp l 0 s k = s := stp_n (fun z => by
        have z1 := of_decide_eq_true z.2.1
        rw [f1, show (0 : Int32) = nI 0 from rfl, b, Nat.zero_testBit] at z1
        exact absurd z1 (by decide))
      show dn l 0 (stp l 0 s k) k = s
      rw [st, ih s (by omega)]
  exact key l.length _ (Nat.le_refl _)
theorem lc_0 (hw : WFl S.1) (hap : ap ≤ 4) (hl : S.1.length ≤ 12) : pcN 12 (lfS ap S (nI 0)) = S.1.length := by
  unfold lfS
  rw [show nI 0 = 0 from rfl, kt_0 ap (by omega), lf_0 hw, pc_full _ (by omega)]
theorem tm_le : ∀ k, tmA ap S k ≤ k
  | 0 => Nat.le_refl _
  | k + 1 => by unfold tmA; have : tmA ap S k ≤ k := tm_le k; split <;> omega
theorem bc_lf (hl : S.1.length ≤ 12) (x : Int32) : bcI (nI (lfS ap S x)) = nI (pcN 12 (lfS ap S x)) := bcN (lf_lt hl)
theorem c_team (hW : WR M) (h : StC M 3 ap lim S) (hl : S.1.length ≤ 12) (hw : WFl S.1) : ∃ M', (∀ d (Q : am_Q), am_big (d + 4) mX10_team [.ref 0] 488 M Q = Q (some (.int (teamA ap S))) M') ∧ Fw XL M M' := by
  obtain ⟨wl, hs, lk, kn, lf⟩ := c_lks hW h hl
  have hap : ap ≤ 4 := h.2.2.2.2.2.2.2.1
  have p1 : (2 : Nat) ^ ap ≤ 16 := Nat.le_trans (Nat.pow_le_pow_right (by omega) hap) (by omega : 2 ^ 4 ≤ 16)
  have pp : 0 < (2 : Nat) ^ ap := Nat.pow_pos (by omega)
  unfold teamA
  cases c1 : opn ap with
  | false =>
    refine ⟨M, fun d Q => ?_, Fw.rf⟩
    rw [eX10_team]
    simp (disch := (first | assumption | omega | decide)) only [sX10_team_0, sX10_team_1, sX10_team_4, sX10_team_7, sX10_team_8, sX10_team_9, sX10_team_10, sX10_team_13, sX10_team_14, sX10_team_17, sX10_team_20, sX10_team_23, sX10_team_24, sX10_team_25, sX10_team_26, sX10_team_29, sX10_team_32, sX10_team_35, sX10_team_36, sX10_team_37, sX10_team_39, sX10_team_40, sX10_team_41, sX10_team_44, sX10_team_47, sX10_team_48, sX10_team_51, sX10_team_52, sX10_team_55, sX10_team_56, sX10_team_59, sX10_team_60, sX10_team_63, sX10_team_66, sX10_team_69, sX10_team_71, sX10_team_72, sX10_team_75, sX10_team_76, sX10_team_79, sX10_team_82, sX10_team_83, sX10_team_86, sX10_team_87, sX10_team_89, sX10_team_91, sX10_team_92, sX10_team_95, sX10_team_97, sX10_team_98, sX10_team_101, sX10_team_103, sX10_team_106, sX10_team_107, sX10_team_108, sX10_team_110, sX10_team_111, sX10_team_114, sX10_team_117, sX10_team_118, kI_i, kL_l, kV_v, am_rv_s, am_kl_i, am_kl_r, am_kl_n, am_kl_l, true_and, and_true, and_self, true_or, or_true, implies_true, forall_const, not_true_eq_false, not_false_eq_true, false_implies, true_implies, if_true, if_false, Bool.true_eq_false, Bool.false_eq_true, ob_0, c_isOpen hW h, c1, bz_f]
  | true =>
    refine ⟨lkM M S.1, fun d Q => ?_, Fw_lk⟩
    have h3 : gI (lkM M S.1) 3 3 = nI ap := hs.2.2.1
    have g43 : gI (lkM M S.1) 4 3 = nI S.1.length := (StC_LH hs).1.2.1
    have lfb : ∀ x, lfN S.1 (kt S.2.1 x ap) = lfS ap S x := fun x => rfl
    have key : ∀ j k x4 x5, k + j = 2 ^ ap - 1 → ok (d + 3) mX10_team 488 Q 488 0 0 38 [some (.ref 0), some (.int (nI (tmA ap S k))), some (.int (nI (pcN 12 (lfS ap S (nI (tmA ap S k)))))), some (.int (nI (k + 1))), x4, x5] [] (lkM M S.1) = Q (some (.int (nI (tmA ap S (2 ^ ap - 1))))) (lkM M S.1) := by
      intro j
      induction j with
      | zero =>
        intro k x4 x5 hk
        have e0 : (nI (2 ^ ap) ≤ nI (k + 1)) = True := by rw [nI_leE (by omega) (by omega)]; exact eq_true (by omega)
        rw [sX10_team_38]
        simp (disch := (first | assumption | omega | decide)) only [sX10_team_0, sX10_team_1, sX10_team_4, sX10_team_7, sX10_team_8, sX10_team_9, sX10_team_10, sX10_team_13, sX10_team_14, sX10_team_17, sX10_team_20, sX10_team_23, sX10_team_24, sX10_team_25, sX10_team_26, sX10_team_29, sX10_team_32, sX10_team_35, sX10_team_36, sX10_team_37, sX10_team_39, sX10_team_40, sX10_team_41, sX10_team_44, sX10_team_47, sX10_team_48, sX10_team_51, sX10_team_52, sX10_team_55, sX10_team_56, sX10_team_59, sX10_team_60, sX10_team_63, sX10_team_66, sX10_team_69, sX10_team_71, sX10_team_72, sX10_team_75, sX10_team_76, sX10_team_79, sX10_team_82, sX10_team_83, sX10_team_86, sX10_team_87, sX10_team_89, sX10_team_91, sX10_team_92, sX10_team_95, sX10_team_97, sX10_team_98, sX10_team_101, sX10_team_103, sX10_team_106, sX10_team_107, sX10_team_108, sX10_team_110, sX10_team_111, sX10_team_114, sX10_team_117, sX10_team_118, kI_i, kL_l, kV_v, am_rv_s, am_kl_i, am_kl_r, am_kl_n, am_kl_l, true_and, and_true, and_self, true_or, or_true, implies_true, forall_const, not_true_eq_false, not_false_eq_true, false_implies, true_implies, if_true, if_false, Bool.true_eq_false, Bool.false_eq_true, ob_0, ob_3, r_0_1, h3, shl1 ap (by omega), e0]
        rw [show k = 2 ^ ap - 1 by omega]
      | succ j ih =>
        intro k x4 x5 hk
        have e0 : (nI (2 ^ ap) ≤ nI (k + 1)) = False := by rw [nI_leE (by omega) (by omega)]; exact eq_false (by omega)
        have ih := fun x4 x5 => ih (k + 1) x4 x5 (by omega)
        have bl1 := bc_lf (ap := ap) hl (nI (k + 1))
        have l1 := pcN_le (lfS ap S (nI (k + 1))) 12
        have l2 := pcN_le (lfS ap S (nI (tmA ap S k))) 12
        have tk : tmA ap S (k + 1) = if pcN 12 (lfS ap S (nI (k + 1))) < pcN 12 (lfS ap S (nI (tmA ap S k))) ∨ (pcN 12 (lfS ap S (nI (k + 1))) = pcN 12 (lfS ap S (nI (tmA ap S k))) ∧ ¬ bcI (nI (tmA ap S k)) ≤ bcI (nI (k + 1))) then k + 1 else tmA ap S k := rfl
        generalize ht : tmA ap S k = t at *
        generalize hB : pcN 12 (lfS ap S (nI t)) = b at *
        generalize hA : pcN 12 (lfS ap S (nI (k + 1))) = a at *
        have q1 : (nI a < nI b) = (a < b) := nI_ltE (by omega) (by omega)
        have q2 : (nI a = nI b) = (a = b) := nI_eqE (by omega) (by omega)
        rw [sX10_team_38]
        by_cases z1 : a < b
        · have z1' := eq_true z1
          rw [if_pos (Or.inl z1)] at tk
          rw [tk, hA] at ih
          by_cases z : bcI (nI t) ≤ bcI (nI (k + 1))
          · have z' := eq_true z
            simp (disch := (first | assumption | omega | decide)) only [sX10_team_0, sX10_team_1, sX10_team_4, sX10_team_7, sX10_team_8, sX10_team_9, sX10_team_10, sX10_team_13, sX10_team_14, sX10_team_17, sX10_team_20, sX10_team_23, sX10_team_24, sX10_team_25, sX10_team_26, sX10_team_29, sX10_team_32, sX10_team_35, sX10_team_36, sX10_team_37, sX10_team_39, sX10_team_40, sX10_team_41, sX10_team_44, sX10_team_47, sX10_team_48, sX10_team_51, sX10_team_52, sX10_team_55, sX10_team_56, sX10_team_59, sX10_team_60, sX10_team_63, sX10_team_66, sX10_team_69, sX10_team_71, sX10_team_72, sX10_team_75, sX10_team_76, sX10_team_79, sX10_team_82, sX10_team_83, sX10_team_86, sX10_team_87, sX10_team_89, sX10_team_91, sX10_team_92, sX10_team_95, sX10_team_97, sX10_team_98, sX10_team_101, sX10_team_103, sX10_team_106, sX10_team_107, sX10_team_108, sX10_team_110, sX10_team_111, sX10_team_114, sX10_team_117, sX10_team_118, kI_i, kL_l, kV_v, am_rv_s, am_kl_i, am_kl_r, am_kl_n, am_kl_l, true_and, and_true, and_self, true_or, or_true, implies_true, forall_const, not_true_eq_false, not_false_eq_true, false_implies, true_implies, if_true, if_false, Bool.true_eq_false, Bool.false_eq_true, ob_0, ob_3, ob_424, r_0_1, r_0_13, h3, shl1 ap (by omega), e0, kn, lf, lfb, c_bits, bl1, z', q1, z1', nI_1, ih]
          · simp (disch := (first | assumption | omega | decide)) only [sX10_team_0, sX10_team_1, sX10_team_4, sX10_team_7, sX10_team_8, sX10_team_9, sX10_team_10, sX10_team_13, sX10_team_14, sX10_team_17, sX10_team_20, sX10_team_23, sX10_team_24, sX10_team_25, sX10_team_26, sX10_team_29, sX10_team_32, sX10_team_35, sX10_team_36, sX10_team_37, sX10_team_39, sX10_team_40, sX10_team_41, sX10_team_44, sX10_team_47, sX10_team_48, sX10_team_51, sX10_team_52, sX10_team_55, sX10_team_56, sX10_team_59, sX10_team_60, sX10_team_63, sX10_team_66, sX10_team_69, sX10_team_71, sX10_team_72, sX10_team_75, sX10_team_76, sX10_team_79, sX10_team_82, sX10_team_83, sX10_team_86, sX10_team_87, sX10_team_89, sX10_team_91, sX10_team_92, sX10_team_95, sX10_team_97, sX10_team_98, sX10_team_101, sX10_team_103, sX10_team_106, sX10_team_107, sX10_team_108, sX10_team_110, sX10_team_111, sX10_team_114, sX10_team_117, sX10_team_118, kI_i, kL_l, kV_v, am_rv_s, am_kl_i, am_kl_r, am_kl_n, am_kl_l, true_and, and_true, and_self, true_or, or_true, implies_true, forall_const, not_true_eq_false, not_false_eq_true, false_implies, true_implies, if_true, if_false, Bool.true_eq_false, Bool.false_eq_true, ob_0, ob_3, ob_424, r_0_1, r_0_13, h3, shl1 ap (by omega), e0, kn, lf, lfb, c_bits, bl1, z, q1, z1', nI_1, ih]
        · by_cases z2 : a = b
          · have z2' := eq_true z2
            by_cases z : bcI (nI t) ≤ bcI (nI (k + 1))
            · have z' := eq_true z
              rw [if_neg (fun w => w.elim z1 (fun w => w.2 z))] at tk
              rw [tk, hB] at ih
              simp (disch := (first | assumption | omega | decide)) only [sX10_team_0, sX10_team_1, sX10_team_4, sX10_team_7, sX10_team_8, sX10_team_9, sX10_team_10, sX10_team_13, sX10_team_14, sX10_team_17, sX10_team_20, sX10_team_23, sX10_team_24, sX10_team_25, sX10_team_26, sX10_team_29, sX10_team_32, sX10_team_35, sX10_team_36, sX10_team_37, sX10_team_39, sX10_team_40, sX10_team_41, sX10_team_44, sX10_team_47, sX10_team_48, sX10_team_51, sX10_team_52, sX10_team_55, sX10_team_56, sX10_team_59, sX10_team_60, sX10_team_63, sX10_team_66, sX10_team_69, sX10_team_71, sX10_team_72, sX10_team_75, sX10_team_76, sX10_team_79, sX10_team_82, sX10_team_83, sX10_team_86, sX10_team_87, sX10_team_89, sX10_team_91, sX10_team_92, sX10_team_95, sX10_team_97, sX10_team_98, sX10_team_101, sX10_team_103, sX10_team_106, sX10_team_107, sX10_team_108, sX10_team_110, sX10_team_111, sX10_team_114, sX10_team_117, sX10_team_118, kI_i, kL_l, kV_v, am_rv_s, am_kl_i, am_kl_r, am_kl_n, am_kl_l, true_and, and_true, and_self, true_or, or_true, implies_true, forall_const, not_true_eq_false, not_false_eq_true, false_implies, true_implies, if_true, if_false, Bool.true_eq_false, Bool.false_eq_true, ob_0, ob_3, ob_424, r_0_1, r_0_13, h3, shl1 ap (by omega), e0, kn, lf, lfb, c_bits, bl1, z', q1, z1, q2, z2', nI_1, ih]
            · rw [if_pos (Or.inr ⟨z2, z⟩)] at tk
              rw [tk, hA] at ih
              simp (disch := (first | assumption | omega | decide)) only [sX10_team_0, sX10_team_1, sX10_team_4, sX10_team_7, sX10_team_8, sX10_team_9, sX10_team_10, sX10_team_13, sX10_team_14, sX10_team_17, sX10_team_20, sX10_team_23, sX10_team_24, sX10_team_25, sX10_team_26, sX10_team_29, sX10_team_32, sX10_team_35, sX10_team_36, sX10_team_37, sX10_team_39, sX10_team_40, sX10_team_41, sX10_team_44, sX10_team_47, sX10_team_48, sX10_team_51, sX10_team_52, sX10_team_55, sX10_team_56, sX10_team_59, sX10_team_60, sX10_team_63, sX10_team_66, sX10_team_69, sX10_team_71, sX10_team_72, sX10_team_75, sX10_team_76, sX10_team_79, sX10_team_82, sX10_team_83, sX10_team_86, sX10_team_87, sX10_team_89, sX10_team_91, sX10_team_92, sX10_team_95, sX10_team_97, sX10_team_98, sX10_team_101, sX10_team_103, sX10_team_106, sX10_team_107, sX10_team_108, sX10_team_110, sX10_team_111, sX10_team_114, sX10_team_117, sX10_team_118, kI_i, kL_l, kV_v, am_rv_s, am_kl_i, am_kl_r, am_kl_n, am_kl_l, true_and, and_true, and_self, true_or, or_true, implies_true, forall_const, not_true_eq_false, not_false_eq_true, false_implies, true_implies, if_true, if_false, Bool.true_eq_false, Bool.false_eq_true, ob_0, ob_3, ob_424, r_0_1, r_0_13, h3, shl1 ap (by omega), e0, kn, lf, lfb, c_bits, bl1, z, q1, z1, q2, z2', nI_1, i01, ih]
          · rw [if_neg (fun w => w.elim z1 (fun w => z2 w.1))] at tk
            rw [tk, hB] at ih
            by_cases z : bcI (nI t) ≤ bcI (nI (k + 1))
            · have z' := eq_true z
              simp (disch := (first | assumption | omega | decide)) only [sX10_team_0, sX10_team_1, sX10_team_4, sX10_team_7, sX10_team_8, sX10_team_9, sX10_team_10, sX10_team_13, sX10_team_14, sX10_team_17, sX10_team_20, sX10_team_23, sX10_team_24, sX10_team_25, sX10_team_26, sX10_team_29, sX10_team_32, sX10_team_35, sX10_team_36, sX10_team_37, sX10_team_39, sX10_team_40, sX10_team_41, sX10_team_44, sX10_team_47, sX10_team_48, sX10_team_51, sX10_team_52, sX10_team_55, sX10_team_56, sX10_team_59, sX10_team_60, sX10_team_63, sX10_team_66, sX10_team_69, sX10_team_71, sX10_team_72, sX10_team_75, sX10_team_76, sX10_team_79, sX10_team_82, sX10_team_83, sX10_team_86, sX10_team_87, sX10_team_89, sX10_team_91, sX10_team_92, sX10_team_95, sX10_team_97, sX10_team_98, sX10_team_101, sX10_team_103, sX10_team_106, sX10_team_107, sX10_team_108, sX10_team_110, sX10_team_111, sX10_team_114, sX10_team_117, sX10_team_118, kI_i, kL_l, kV_v, am_rv_s, am_kl_i, am_kl_r, am_kl_n, am_kl_l, true_and, and_true, and_self, true_or, or_true, implies_true, forall_const, not_true_eq_false, not_false_eq_true, false_implies, true_implies, if_true, if_false, Bool.true_eq_false, Bool.false_eq_true, ob_0, ob_3, ob_424, r_0_1, r_0_13, h3, shl1 ap (by omega), e0, kn, lf, lfb, c_bits, bl1, z', q1, z1, q2, z2, nI_1, ih]
            · simp (disch := (first | assumption | omega | decide)) only [sX10_team_0, sX10_team_1, sX10_team_4, sX10_team_7, sX10_team_8, sX10_team_9, sX10_team_10, sX10_team_13, sX10_team_14, sX10_team_17, sX10_team_20, sX10_team_23, sX10_team_24, sX10_team_25, sX10_team_26, sX10_team_29, sX10_team_32, sX10_team_35, sX10_team_36, sX10_team_37, sX10_team_39, sX10_team_40, sX10_team_41, sX10_team_44, sX10_team_47, sX10_team_48, sX10_team_51, sX10_team_52, sX10_team_55, sX10_team_56, sX10_team_59, sX10_team_60, sX10_team_63, sX10_team_66, sX10_team_69, sX10_team_71, sX10_team_72, sX10_team_75, sX10_team_76, sX10_team_79, sX10_team_82, sX10_team_83, sX10_team_86, sX10_team_87, sX10_team_89, sX10_team_91, sX10_team_92, sX10_team_95, sX10_team_97, sX10_team_98, sX10_team_101, sX10_team_103, sX10_team_106, sX10_team_107, sX10_team_108, sX10_team_110, sX10_team_111, sX10_team_114, sX10_team_117, sX10_team_118, kI_i, kL_l, kV_v, am_rv_s, am_kl_i, am_kl_r, am_kl_n, am_kl_l, true_and, and_true, and_self, true_or, or_true, implies_true, forall_const, not_true_eq_false, not_false_eq_true, false_implies, true_implies, if_true, if_false, Bool.true_eq_false, Bool.false_eq_true, ob_0, ob_3, ob_424, r_0_1, r_0_13, h3, shl1 ap (by omega), e0, kn, lf, lfb, c_bits, bl1, z, q1, z1, q2, z2, nI_1, ih]
    have k0 := key (2 ^ ap - 1) 0 none none (by omega)
    have k1 : ok (d + 3) mX10_team 488 Q 488 0 0 38 [some (.ref 0), some (.int 0), some (.int (nI (pcN 12 (lfS ap S (nI 0))))), some (.int 1), none, none] [] (lkM M S.1) = _ := k0
    rw [lc_0 hw hap hl] at k1
    rw [eX10_team]
    simp (disch := (first | assumption | omega | decide)) only [sX10_team_0, sX10_team_1, sX10_team_4, sX10_team_7, sX10_team_8, sX10_team_9, sX10_team_10, sX10_team_13, sX10_team_14, sX10_team_17, sX10_team_20, sX10_team_23, sX10_team_24, sX10_team_25, sX10_team_26, sX10_team_29, sX10_team_32, sX10_team_35, sX10_team_36, sX10_team_37, sX10_team_39, sX10_team_40, sX10_team_41, sX10_team_44, sX10_team_47, sX10_team_48, sX10_team_51, sX10_team_52, sX10_team_55, sX10_team_56, sX10_team_59, sX10_team_60, sX10_team_63, sX10_team_66, sX10_team_69, sX10_team_71, sX10_team_72, sX10_team_75, sX10_team_76, sX10_team_79, sX10_team_82, sX10_team_83, sX10_team_86, sX10_team_87, sX10_team_89, sX10_team_91, sX10_team_92, sX10_team_95, sX10_team_97, sX10_team_98, sX10_team_101, sX10_team_103, sX10_team_106, sX10_team_107, sX10_team_108, sX10_team_110, sX10_team_111, sX10_team_114, sX10_team_117, sX10_team_118, kI_i, kL_l, kV_v, am_rv_s, am_kl_i, am_kl_r, am_kl_n, am_kl_l, true_and, and_true, and_self, true_or, or_true, implies_true, forall_const, not_true_eq_false, not_false_eq_true, false_implies, true_implies, if_true, if_false, Bool.true_eq_false, Bool.false_eq_true, ob_0, ob_3, ob_4, ob_424, c_isOpen hW h, c1, bz_t, i01, r_0_1, r_3_0, r_0_13, lk, g43, k1]
theorem m_team (h : RS M ap lim S P) : ∃ M', (∀ d (Q : am_Q), am_big (d + 5) mX11_team [.ref 457] 488 M Q = Q (some (.int (teamA ap S))) M') ∧ Fw XMN M M' := by
  have f0 : Fw XMN M (sI M 457 0 0) := Fw_thr.mo (fun c j z => Or.inl z)
  obtain ⟨hW, hS, hP, hf, hm, hw, hlim, ht⟩ := RS_th h
  generalize hM0 : sI M 457 0 0 = M0 at *
  have hap := hS.2.2.2.2.1.2.2
  have hl := hS.1
  have p1 : (2 : Nat) ^ ap ≤ 16 := Nat.le_trans (Nat.pow_le_pow_right (by omega) hap) (by omega : 2 ^ 4 ≤ 16)
  have ez : (nI ap = 0) = (opn ap = false) := by
    rw [show (0 : Int32) = nI 0 from rfl, nI_eqE (by omega) (by omega)]; unfold opn; simp
  unfold teamA
  cases c1 : opn ap with
  | false =>
    refine ⟨M0, fun d Q => ?_, f0⟩
    rw [eX11_team]
    simp (disch := (first | assumption | omega | decide)) only [sX11_team_0, sX11_team_1, sX11_team_2, sX11_team_5, sX11_team_6, sX11_team_9, sX11_team_12, sX11_team_13, sX11_team_14, sX11_team_15, sX11_team_16, sX11_team_17, sX11_team_19, sX11_team_20, sX11_team_21, sX11_team_24, sX11_team_25, sX11_team_28, sX11_team_29, sX11_team_30, sX11_team_33, sX11_team_34, sX11_team_35, sX11_team_38, sX11_team_39, sX11_team_40, sX11_team_41, sX11_team_44, sX11_team_45, sX11_team_48, sX11_team_49, sX11_team_52, sX11_team_53, sX11_team_56, sX11_team_59, sX11_team_60, sX11_team_61, sX11_team_64, sX11_team_67, sX11_team_68, kI_i, kL_l, kV_v, am_rv_s, am_kl_i, am_kl_r, am_kl_n, am_kl_l, true_and, and_true, and_self, true_or, or_true, implies_true, forall_const, not_true_eq_false, not_false_eq_true, false_implies, true_implies, if_true, if_false, Bool.true_eq_false, Bool.false_eq_true, ob_457, hM0, hf, ez, c1]
  | true =>
    have ap0 : 0 < ap := of_decide_eq_true c1
    have pp : 2 ≤ (2 : Nat) ^ ap := Nat.le_trans (by omega : 2 ≤ 2 ^ 1) (Nat.pow_le_pow_right (by omega) ap0)
    refine ⟨nd3 M0 S.1, fun d Q => ?_, f0.tr (Fw_nd.mo (fun c j z => Or.inr z))⟩
    have key : ∀ j k x3 (M' : am_M), k + j = 2 ^ ap - 1 → nd3 M' S.1 = nd3 M0 S.1 → WR M' → StM M' 465 0 ap S → gI M' 457 23 = nI ap → ok (d + 4) mX11_team 488 Q 488 0 0 18 [some (.ref 457), some (.int (nI (tmA ap S k))), some (.int (nI (k + 1))), x3] [] M' = Q (some (.int (nI (tmA ap S (2 ^ ap - 1))))) (if j = 0 then M' else nd3 M0 S.1) := by
      intro j
      induction j with
      | zero =>
        intro k x3 M' hk hn hW' hS' hf'
        have e0 : (nI (2 ^ ap) ≤ nI (k + 1)) = True := by rw [nI_leE (by omega) (by omega)]; exact eq_true (by omega)
        rw [sX11_team_18]
        simp (disch := (first | assumption | omega | decide)) only [sX11_team_0, sX11_team_1, sX11_team_2, sX11_team_5, sX11_team_6, sX11_team_9, sX11_team_12, sX11_team_13, sX11_team_14, sX11_team_15, sX11_team_16, sX11_team_17, sX11_team_19, sX11_team_20, sX11_team_21, sX11_team_24, sX11_team_25, sX11_team_28, sX11_team_29, sX11_team_30, sX11_team_33, sX11_team_34, sX11_team_35, sX11_team_38, sX11_team_39, sX11_team_40, sX11_team_41, sX11_team_44, sX11_team_45, sX11_team_48, sX11_team_49, sX11_team_52, sX11_team_53, sX11_team_56, sX11_team_59, sX11_team_60, sX11_team_61, sX11_team_64, sX11_team_67, sX11_team_68, kI_i, kL_l, kV_v, am_rv_s, am_kl_i, am_kl_r, am_kl_n, am_kl_l, true_and, and_true, and_self, true_or, or_true, implies_true, forall_const, not_true_eq_false, not_false_eq_true, false_implies, true_implies, if_true, if_false, Bool.true_eq_false, Bool.false_eq_true, ob_457, hf', shl1 ap (by omega), e0]
        rw [show k = 2 ^ ap - 1 by omega]
      | succ j ih =>
        intro k x3 M' hk hn hW' hS' hf'
        have e0 : (nI (2 ^ ap) ≤ nI (k + 1)) = False := by rw [nI_leE (by omega) (by omega)]; exact eq_false (by omega)
        have wN : WR (nd3 M0 S.1) := Fw_nd.2 hW
        have sN : StM (nd3 M0 S.1) 465 0 ap S := StM_Fw Fw_nd (fun j => XN_st) hS
        have fN : gI (nd3 M0 S.1) 457 23 = nI ap := by rw [nd_o (by omega)]; exact hf
        have tb := fun d (Q : am_Q) => m_takenBy (d := d) (Q := Q) (x := nI (k + 1)) hW' hS' hf' hw
        have tb2 := fun d (Q : am_Q) x => m_takenBy (d := d) (Q := Q) (x := x) wN sN fN hw
        rw [hn] at tb
        rw [nd_nd] at tb2
        have ih := fun x3 => ih (k + 1) x3 (nd3 M0 S.1) (by omega) nd_nd wN sN fN
        have me : (if j = 0 then nd3 M0 S.1 else nd3 M0 S.1) = nd3 M0 S.1 := by split <;> rfl
        rw [me] at ih
        rw [if_neg (by omega : ¬ j + 1 = 0)]
        have bl1 := bc_lf (ap := ap) (S := S) hl (nI (k + 1))
        have bl2 := bc_lf (ap := ap) (S := S) hl (nI (tmA ap S k))
        have l1 := pcN_le (lfS ap S (nI (k + 1))) 12
        have l2 := pcN_le (lfS ap S (nI (tmA ap S k))) 12
        have tk : tmA ap S (k + 1) = if pcN 12 (lfS ap S (nI (k + 1))) < pcN 12 (lfS ap S (nI (tmA ap S k))) ∨ (pcN 12 (lfS ap S (nI (k + 1))) = pcN 12 (lfS ap S (nI (tmA ap S k))) ∧ ¬ bcI (nI (tmA ap S k)) ≤ bcI (nI (k + 1))) then k + 1 else tmA ap S k := rfl
        generalize ht : tmA ap S k = t at *
        generalize pcN 12 (lfS ap S (nI t)) = b at *
        generalize pcN 12 (lfS ap S (nI (k + 1))) = a at *
        obtain ⟨m1, m2⟩ := mo_a S.1.length (by omega) a (by omega) b (by omega)
        have q1 := propext m1
        have q2 := propext m2
        rw [sX11_team_18]
        by_cases z1 : a < b
        · have z1' := eq_true z1
          rw [if_pos (Or.inl z1)] at tk
          rw [tk] at ih
          simp (disch := (first | assumption | omega | decide)) only [sX11_team_0, sX11_team_1, sX11_team_2, sX11_team_5, sX11_team_6, sX11_team_9, sX11_team_12, sX11_team_13, sX11_team_14, sX11_team_15, sX11_team_16, sX11_team_17, sX11_team_19, sX11_team_20, sX11_team_21, sX11_team_24, sX11_team_25, sX11_team_28, sX11_team_29, sX11_team_30, sX11_team_33, sX11_team_34, sX11_team_35, sX11_team_38, sX11_team_39, sX11_team_40, sX11_team_41, sX11_team_44, sX11_team_45, sX11_team_48, sX11_team_49, sX11_team_52, sX11_team_53, sX11_team_56, sX11_team_59, sX11_team_60, sX11_team_61, sX11_team_64, sX11_team_67, sX11_team_68, kI_i, kL_l, kV_v, am_rv_s, am_kl_i, am_kl_r, am_kl_n, am_kl_l, true_and, and_true, and_self, true_or, or_true, implies_true, forall_const, not_true_eq_false, not_false_eq_true, false_implies, true_implies, if_true, if_false, Bool.true_eq_false, Bool.false_eq_true, ob_457, hf', shl1 ap (by omega), e0, tb, tb2, bl1, bl2, q1, z1', nI_1, ih]
        · by_cases z2 : a = b
          · have z2' := eq_true z2
            by_cases z : bcI (nI t) ≤ bcI (nI (k + 1))
            · have z' := eq_true z
              rw [if_neg (fun w => w.elim z1 (fun w => w.2 z))] at tk
              rw [tk] at ih
              simp (disch := (first | assumption | omega | decide)) only [sX11_team_0, sX11_team_1, sX11_team_2, sX11_team_5, sX11_team_6, sX11_team_9, sX11_team_12, sX11_team_13, sX11_team_14, sX11_team_15, sX11_team_16, sX11_team_17, sX11_team_19, sX11_team_20, sX11_team_21, sX11_team_24, sX11_team_25, sX11_team_28, sX11_team_29, sX11_team_30, sX11_team_33, sX11_team_34, sX11_team_35, sX11_team_38, sX11_team_39, sX11_team_40, sX11_team_41, sX11_team_44, sX11_team_45, sX11_team_48, sX11_team_49, sX11_team_52, sX11_team_53, sX11_team_56, sX11_team_59, sX11_team_60, sX11_team_61, sX11_team_64, sX11_team_67, sX11_team_68, kI_i, kL_l, kV_v, am_rv_s, am_kl_i, am_kl_r, am_kl_n, am_kl_l, true_and, and_true, and_self, true_or, or_true, implies_true, forall_const, not_true_eq_false, not_false_eq_true, false_implies, true_implies, if_true, if_false, Bool.true_eq_false, Bool.false_eq_true, ob_457, hf', shl1 ap (by omega), e0, tb, tb2, bl1, bl2, q1, z1, q2, z2', c_bits, z', nI_1, ih]
            · rw [if_pos (Or.inr ⟨z2, z⟩)] at tk
              rw [tk] at ih
              simp (disch := (first | assumption | omega | decide)) only [sX11_team_0, sX11_team_1, sX11_team_2, sX11_team_5, sX11_team_6, sX11_team_9, sX11_team_12, sX11_team_13, sX11_team_14, sX11_team_15, sX11_team_16, sX11_team_17, sX11_team_19, sX11_team_20, sX11_team_21, sX11_team_24, sX11_team_25, sX11_team_28, sX11_team_29, sX11_team_30, sX11_team_33, sX11_team_34, sX11_team_35, sX11_team_38, sX11_team_39, sX11_team_40, sX11_team_41, sX11_team_44, sX11_team_45, sX11_team_48, sX11_team_49, sX11_team_52, sX11_team_53, sX11_team_56, sX11_team_59, sX11_team_60, sX11_team_61, sX11_team_64, sX11_team_67, sX11_team_68, kI_i, kL_l, kV_v, am_rv_s, am_kl_i, am_kl_r, am_kl_n, am_kl_l, true_and, and_true, and_self, true_or, or_true, implies_true, forall_const, not_true_eq_false, not_false_eq_true, false_implies, true_implies, if_true, if_false, Bool.true_eq_false, Bool.false_eq_true, ob_457, hf', shl1 ap (by omega), e0, tb, tb2, bl1, bl2, q1, z1, q2, z2', c_bits, z, nI_1, ih]
          · rw [if_neg (fun w => w.elim z1 (fun w => z2 w.1))] at tk
            rw [tk] at ih
            simp (disch := (first | assumption | omega | decide)) only [sX11_team_0, sX11_team_1, sX11_team_2, sX11_team_5, sX11_team_6, sX11_team_9, sX11_team_12, sX11_team_13, sX11_team_14, sX11_team_15, sX11_team_16, sX11_team_17, sX11_team_19, sX11_team_20, sX11_team_21, sX11_team_24, sX11_team_25, sX11_team_28, sX11_team_29, sX11_team_30, sX11_team_33, sX11_team_34, sX11_team_35, sX11_team_38, sX11_team_39, sX11_team_40, sX11_team_41, sX11_team_44, sX11_team_45, sX11_team_48, sX11_team_49, sX11_team_52, sX11_team_53, sX11_team_56, sX11_team_59, sX11_team_60, sX11_team_61, sX11_team_64, sX11_team_67, sX11_team_68, kI_i, kL_l, kV_v, am_rv_s, am_kl_i, am_kl_r, am_kl_n, am_kl_l, true_and, and_true, and_self, true_or, or_true, implies_true, forall_const, not_true_eq_false, not_false_eq_true, false_implies, true_implies, if_true, if_false, Bool.true_eq_false, Bool.false_eq_true, ob_457, hf', shl1 ap (by omega), e0, tb, tb2, bl1, bl2, q1, z1, q2, z2, nI_1, ih]
    have k0 := key (2 ^ ap - 1) 0 none M0 (by omega) rfl hW hS hf
    rw [if_neg (by omega)] at k0
    have k1 : ok (d + 4) mX11_team 488 Q 488 0 0 18 [some (.ref 457), some (.int 0), some (.int 1), none] [] M0 = _ := k0
    rw [eX11_team]
    simp (disch := (first | assumption | omega | decide)) only [sX11_team_0, sX11_team_1, sX11_team_2, sX11_team_5, sX11_team_6, sX11_team_9, sX11_team_12, sX11_team_13, sX11_team_14, sX11_team_15, sX11_team_16, sX11_team_17, sX11_team_19, sX11_team_20, sX11_team_21, sX11_team_24, sX11_team_25, sX11_team_28, sX11_team_29, sX11_team_30, sX11_team_33, sX11_team_34, sX11_team_35, sX11_team_38, sX11_team_39, sX11_team_40, sX11_team_41, sX11_team_44, sX11_team_45, sX11_team_48, sX11_team_49, sX11_team_52, sX11_team_53, sX11_team_56, sX11_team_59, sX11_team_60, sX11_team_61, sX11_team_64, sX11_team_67, sX11_team_68, kI_i, kL_l, kV_v, am_rv_s, am_kl_i, am_kl_r, am_kl_n, am_kl_l, true_and, and_true, and_self, true_or, or_true, implies_true, forall_const, not_true_eq_false, not_false_eq_true, false_implies, true_implies, if_true, if_false, Bool.true_eq_false, Bool.false_eq_true, ob_457, hM0, hf, ez, c1, k1]
end
