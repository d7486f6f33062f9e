def drX (x : Int64) : Int64 := x * 6364136223846793005 + 1442695040888963407
def drU (x : Int64) : Int64 := ((drX x).toUInt64 >>> ((33 : Int32).toInt64.toUInt64 &&& Int64.toUInt64 63)).toInt64
def drN (x : Int64) (k : Nat) : Nat := (drU x).toInt.toNat % k
theorem drU_lt (x : Int64) : 0 ≤ (drU x).toInt ∧ (drU x).toInt < 2 ^ 31 := by
  unfold drU
  generalize (drX x).toUInt64 = u
  have e : ((33 : Int32).toInt64.toUInt64 &&& Int64.toUInt64 63) = 33 := by decide
  rw [e]
  have h1 : (u >>> 33).toNat = u.toNat / 2 ^ 33 := by
    rw [UInt64.toNat_shiftRight]
    show u.toNat >>> (33 % 64) = _
    rw [Nat.shiftRight_eq_div_pow]
  have h2 : u.toNat < 2 ^ 64 := u.toNat_lt
  have h3 : (u >>> 33).toInt64.toInt = ((u >>> 33).toNat : Int) := by
    show (u >>> 33).toBitVec.toInt = ((u >>> 33).toBitVec.toNat : Int)
    have h4 : (u >>> 33).toBitVec.toNat = (u >>> 33).toNat := rfl
    rw [BitVec.toInt_eq_toNat_cond, if_pos (by rw [h4]; omega)]
  rw [h3]
  omega
theorem dr_n {x : Int64} {k : Nat} (hk : 0 < k) (hk2 : k < 2 ^ 31) : (drU x - drU x / (nI k).toInt64 * (nI k).toInt64).toInt32 = nI (drN x k) := by
  obtain ⟨h1, h2⟩ := drU_lt x
  unfold drN
  obtain ⟨m, hm⟩ : ∃ m : Nat, (drU x).toInt = (m : Int) := ⟨(drU x).toInt.toNat, by omega⟩
  have hmod : m % k < k := Nat.mod_lt _ hk
  have hq : k * (m / k) + m % k = m := Nat.div_add_mod m k
  have hle : m % k ≤ m := Nat.mod_le m k
  have hdm : m / k ≤ m := Nat.div_le_self m k
  have e1 : (drU x / (nI k).toInt64).toInt = ((m / k : Nat) : Int) := by
    rw [Int64.toInt_div, Int32.toInt_toInt64, nI_toInt (by omega), hm, Int.tdiv_eq_ediv_of_nonneg (by omega)]
    rw [← Int.natCast_ediv]
    generalize m / k = q at *
    rw [Int.bmod_eq_of_le (by omega) (by omega)]
  have e2 : (drU x / (nI k).toInt64 * (nI k).toInt64).toInt = ((k * (m / k) : Nat) : Int) := by
    rw [Int64.toInt_mul, e1, Int32.toInt_toInt64, nI_toInt (by omega), ← Int.natCast_mul, Nat.mul_comm, Int.bmod_eq_of_le (by omega) (by omega)]
  apply Int32.toInt_inj.mp
  rw [Int64.toInt_toInt32, Int64.toInt_sub, e2, hm, nI_toInt (by rw [Int.toNat_natCast]; omega), Int.toNat_natCast, Int.bmod_eq_of_le (n := ((m : Int) - _)) (by omega) (by omega), Int.bmod_eq_of_le (by omega) (by omega)]
  omega
theorem n64_0 {k : Nat} (hk : 0 < k) (hk2 : k < 2 ^ 31) : ((nI k).toInt64 = 0) = False := eq_false (fun e => by
  have := congrArg Int64.toInt e
  rw [Int32.toInt_toInt64, nI_toInt (by omega), show (0 : Int64).toInt = 0 from by decide] at this
  omega)
section
variable {M N : am_M} {ap lim n : Nat} {S : Sg} {P : List Sg} {l : List Dd} {d : Nat} {Q : am_Q} {K : Int32}
theorem c_below {k : Nat} (hk : 0 < k) (hk2 : k < 2 ^ 31) : am_big (d + 1) mX1_below [.ref 440, .int (nI k)] 488 M Q = Q (some (.int (nI (drN (gL M 440 0) k)))) (sL M 440 0 (drX (gL M 440 0))) := by
  have h0 : (0 < nI k) = True := by rw [show (0 : Int32) = nI 0 from rfl, nI_ltE (by omega) hk2]; exact eq_true hk
  have hz := n64_0 hk hk2
  have hd := dr_n (x := gL M 440 0) hk hk2
  unfold drU at hd
  unfold drX at hd ⊢
  rw [eX1_below]
  simp (disch := (first | assumption | omega | decide)) only [sX1_below_0, sX1_below_1, sX1_below_2, sX1_below_5, sX1_below_8, sX1_below_9, sX1_below_12, sX1_below_13, sX1_below_16, sX1_below_17, sX1_below_20, sX1_below_21, sX1_below_24, sX1_below_25, sX1_below_28, sX1_below_30, sX1_below_31, sX1_below_32, sX1_below_33, sX1_below_34, sX1_below_35, kI_i, kL_l, kV_v, am_rv_s, am_kl_i, am_kl_r, am_kl_n, am_kl_l, true_and, and_true, and_self, true_or, or_true, implies_true, forall_const, not_true_eq_false, not_false_eq_true, false_implies, true_implies, if_true, if_false, Bool.true_eq_false, Bool.false_eq_true, ob_440, gL_e, h0, hz, hd]
theorem m_draw {k : Nat} (hk : 0 < k) (hk2 : k < 2 ^ 31) : am_big (d + 1) mX11_draw [.ref 457, .int (nI k)] 488 M Q = Q (some (.int (nI (drN (gL M 457 42) k)))) (sL M 457 42 (drX (gL M 457 42))) := by
  have hz := n64_0 hk hk2
  have hd := dr_n (x := gL M 457 42) hk hk2
  unfold drU at hd
  unfold drX at hd ⊢
  rw [eX11_draw]
  simp (disch := (first | assumption | omega | decide)) only [sX11_draw_0, sX11_draw_1, sX11_draw_2, sX11_draw_5, sX11_draw_8, sX11_draw_9, sX11_draw_12, sX11_draw_13, sX11_draw_16, sX11_draw_17, sX11_draw_20, sX11_draw_22, sX11_draw_23, sX11_draw_24, sX11_draw_25, sX11_draw_26, sX11_draw_27, kI_i, kL_l, kV_v, am_rv_s, am_kl_i, am_kl_r, am_kl_n, am_kl_l, true_and, and_true, and_self, true_or, or_true, implies_true, forall_const, not_true_eq_false, not_false_eq_true, false_implies, true_implies, if_true, if_false, Bool.true_eq_false, Bool.false_eq_true, ob_457, gL_e, hz, hd]
theorem sm_ge {h : Nat → Nat} : ∀ n k, k < n → h k ≤ sm h n
  | 0, k, hk => by omega
  | n + 1, k, hk => by
    unfold sm
    by_cases e : k = n
    · subst e; omega
    · have := sm_ge (h := h) n k (by omega)
      omega
/-- the deeds in their own order are a row -/
theorem wS_pos {g : Nat → Nat} (hg : ∀ t, g t < 2 ^ t) : ∀ j k, k + j = n → 0 < wS g n (2 ^ k - 1)
  | 0, k, h => by rw [show k = n by omega, wS_full]; omega
  | j + 1, k, h => by
    have ih := wS_pos hg j (k + 1) (by omega)
    have p1 : 2 ^ k < 2 ^ n := Nat.pow_lt_pow_right (by omega) (by omega)
    have p2 : 0 < 2 ^ k := Nat.two_pow_pos k
    have eo : (2 ^ k - 1) ||| 2 ^ k = 2 ^ (k + 1) - 1 := by
      rw [Nat.or_comm, or_add (by omega), Nat.pow_succ]; omega
    have ec : cf g (2 ^ k - 1) k = true := by
      unfold cf
      rw [Nat.testBit_two_pow_sub_one, decide_eq_false (by omega : ¬ k < k), Nat.and_two_pow_sub_one_of_lt_two_pow (hg k)]
      simp
    rw [wS_s (by omega)]
    have h1 := sm_ge (h := fun t => if cf g (2 ^ k - 1) t = true then wS g n ((2 ^ k - 1) ||| 2 ^ t) else 0) n k (by omega)
    simp only [ec, if_true, eo] at h1
    omega
theorem wS0_pos : 0 < wS (bl l) l.length 0 := by
  have := wS_pos (n := l.length) (g := bl l) (fun t => bl_lt t) l.length 0 (by omega)
  simpa using this
def drawnA (l : List Dd) (sd : Int64) (a : Int32) : Int32 := if 0 ≤ a ∧ a < nI l.length then nI (rdd (bl l) l.length (drN sd (wS (bl l) l.length 0)) a.toNatClampNeg) else -1
def XLD (c j : Nat) : Prop := XLW c j ∨ c = 440
theorem gL_cw {c j : Nat} : gL (cwM N l) c j = gL N c j := rfl
theorem c_drawn {sd : Int64} {a : Int32} (hW : WR M) (h : StC M 3 ap lim S) (hl : S.1.length ≤ 12) : ∃ M', (∀ d (Q : am_Q), am_big (d + 4) mX10_drawn [.ref 0, .long sd, .int a] 488 M Q = Q (some (.int (drawnA S.1 sd a))) M') ∧ Fw XLD M M' := by
  have hL := StC_LH h
  have ha := fun d (Q : am_Q) => c_hasL (d := d) (Q := Q) (y := a) hL
  have lk := fun d (Q : am_Q) => c_look (d := d) (Q := Q) hW hL hl
  have wl : WR (lkM M S.1) := Fw_lk.2 hW
  have wl2 : WR (sL (lkM M S.1) 440 0 sd) := wl
  have cw := fun d (Q : am_Q) => c_countWays (d := d) (Q := Q) (N := sL (lkM M S.1) 440 0 sd) (l := S.1) wl2 (by rw [gI_sL]; exact lk_n) (fun t ht => by rw [gI_sL]; exact lk_a ht) hl
  have f1 : Fw XLD M (sL (lkM M S.1) 440 0 sd) := (Fw_lkW.mo (fun c j z => Or.inl z)).tr (Fw.l (Or.inr rfl))
  have f2 : Fw XLD M (cwM (sL (lkM M S.1) 440 0 sd) S.1) := f1.tr (Fw_cw.mo (fun c j z => Or.inl z))
  have f3 : Fw XLD M (sL (cwM (sL (lkM M S.1) 440 0 sd) S.1) 440 0 (drX sd)) := f2.tr (Fw.l (Or.inr rfl))
  have w3 := f3.2 hW
  have wle := wS_le (g := bl S.1) (s := 0) hl
  have wp := wS0_pos (l := S.1)
  have be := fun d (Q : am_Q) => c_below (d := d) (Q := Q) (M := cwM (sL (lkM M S.1) 440 0 sd) S.1) (k := wS (bl S.1) S.1.length 0) wp (by omega)
  unfold drawnA
  by_cases c : 0 ≤ a ∧ a < nI S.1.length
  · obtain ⟨e, he, rfl⟩ := deed_x (by omega) c
    rw [if_pos c]
    have hr : drN sd (wS (bl S.1) S.1.length 0) < wS (bl S.1) S.1.length 0 := Nat.mod_lt _ wp
    have dw := fun d (Q : am_Q) => c_deedOfWay (d := d) (Q := Q) (l := S.1) (N := sL (cwM (sL (lkM M S.1) 440 0 sd) S.1) 440 0 (drX sd)) (i := drN sd (wS (bl S.1) S.1.length 0)) (a := e) w3 (by unfold cwM; rw [gI_sL, gI_fro (by omega), gI_fn (by omega), gI_sL]; exact lk_n) (fun t ht => by unfold cwM; rw [gI_sL, gI_fro (by omega), gI_fn (by omega), gI_sL]; exact lk_a ht) hl (fun s hs hs2 => by unfold cwM; rw [gI_sL, gI_fr (Nat.zero_le _) hs2]; unfold wkF; rw [if_pos (whB_iff.mpr hs)]) hr he
    refine ⟨_, fun d Q => ?_, f3⟩
    rw [nI_clamp (show e < 2 ^ 31 by omega), eX10_drawn]
    simp (disch := (first | assumption | omega | decide)) only [sX10_drawn_0, sX10_drawn_1, sX10_drawn_4, sX10_drawn_7, sX10_drawn_8, sX10_drawn_11, sX10_drawn_14, sX10_drawn_15, sX10_drawn_16, sX10_drawn_17, sX10_drawn_20, sX10_drawn_21, sX10_drawn_24, sX10_drawn_27, sX10_drawn_30, sX10_drawn_31, sX10_drawn_34, sX10_drawn_35, sX10_drawn_38, sX10_drawn_39, sX10_drawn_42, sX10_drawn_43, sX10_drawn_46, sX10_drawn_47, sX10_drawn_50, sX10_drawn_53, sX10_drawn_56, sX10_drawn_57, sX10_drawn_60, kI_i, kL_l, kV_v, am_rv_s, am_kl_i, am_kl_r, am_kl_n, am_kl_l, true_and, and_true, and_self, true_or, or_true, implies_true, forall_const, not_true_eq_false, not_false_eq_true, false_implies, true_implies, if_true, if_false, Bool.true_eq_false, Bool.false_eq_true, ob_0, ob_3, ob_4, ob_424, ob_440, r_0_1, r_3_0, r_0_13, r_0_15, ha, c, decide_true, bz_t, i01, lk, cw, be, gL_cw, gL_e, dw]
  · refine ⟨M, fun d Q => ?_, Fw.rf⟩
    rw [if_neg c, eX10_drawn]
    simp (disch := (first | assumption | omega | decide)) only [sX10_drawn_0, sX10_drawn_1, sX10_drawn_4, sX10_drawn_7, sX10_drawn_8, sX10_drawn_11, sX10_drawn_14, sX10_drawn_15, sX10_drawn_16, sX10_drawn_17, sX10_drawn_20, sX10_drawn_21, sX10_drawn_24, sX10_drawn_27, sX10_drawn_30, sX10_drawn_31, sX10_drawn_34, sX10_drawn_35, sX10_drawn_38, sX10_drawn_39, sX10_drawn_42, sX10_drawn_43, sX10_drawn_46, sX10_drawn_47, sX10_drawn_50, sX10_drawn_53, sX10_drawn_56, sX10_drawn_57, sX10_drawn_60, kI_i, kL_l, kV_v, am_rv_s, am_kl_i, am_kl_r, am_kl_n, am_kl_l, true_and, and_true, and_self, true_or, or_true, implies_true, forall_const, not_true_eq_false, not_false_eq_true, false_implies, true_implies, if_true, if_false, Bool.true_eq_false, Bool.false_eq_true, ob_0, ob_3, ob_4, r_0_1, r_3_0, ha, c, decide_false, bz_f]
def XMD (c j : Nat) : Prop := XMP c j ∨ (c = 457 ∧ j = 42)
theorem m_drawn {sd : Int64} {a : Int32} (h : RS M ap lim S P) : ∃ M', (∀ d (Q : am_Q), am_big (d + 4) mX11_drawn [.ref 457, .long sd, .int a] 488 M Q = Q (some (.int (drawnA S.1 sd a))) M') ∧ Fw XMD M M' := by
  have f0 : Fw XMD M (sI M 457 0 0) := Fw_thr.mo (fun c j z => Or.inl (Or.inl (Or.inl (Or.inl z))))
  obtain ⟨hW, hS, hP, hf, hm, hw, hlim, ht⟩ := RS_th h
  generalize hM0 : sI M 457 0 0 = M0 at *
  have hl := hS.1
  have g36 : gI M0 465 36 = nI S.1.length := by have := hS.2.1; rwa [Nat.zero_add] at this
  have hWs : WR (sL M0 457 42 sd) := hW
  have hps : PcM (sL M0 457 42 sd) 465 0 S.1 := hS.p
  have lw := fun d (Q : am_Q) => m_laysWays (d := d) (Q := Q) hWs hps hw
  have we := wS_eq (l := S.1) WH_0
  have f1 : Fw XMD M (ww (sL M0 457 42 sd) S.1) := (f0.tr (Fw.l (Or.inr ⟨rfl, rfl⟩))).tr (Fw_ww.mo (fun c j z => Or.inl (Or.inl z)))
  have f2 : Fw XMD M (sL (ww (sL M0 457 42 sd) S.1) 457 42 (drX sd)) := f1.tr (Fw.l (Or.inr ⟨rfl, rfl⟩))
  have w1 := f2.2 h.1
  have wle := wS_le (g := drD S.1) (s := 0) hl
  have wp := wS0_pos (l := S.1)
  have e1 := isin_hiB (n := S.1.length) (by omega) a
  unfold drawnA
  rw [we] at wp ⊢
  have gx : gL (ww (sL M0 457 42 sd) S.1) 457 42 = sd := gL_e
  have dr := fun d (Q : am_Q) => m_draw (d := d) (Q := Q) (M := ww (sL M0 457 42 sd) S.1) (k := wS (drD S.1) S.1.length 0) wp (by omega)
  by_cases c : 0 ≤ a ∧ a < nI S.1.length
  · obtain ⟨e, he, rfl⟩ := deed_x (by omega) c
    rw [if_pos c]
    rw [decide_eq_true c] at e1
    have hr : drN sd (wS (drD S.1) S.1.length 0) < wS (drD S.1) S.1.length 0 := Nat.mod_lt _ wp
    generalize hk : drN sd (wS (drD S.1) S.1.length 0) = k at *
    have pk := fun d (Q : am_Q) => m_picks (d := d) (Q := Q) (l := S.1) (N := sL (ww (sL M0 457 42 sd) S.1) 457 42 (drX sd)) (i := k) w1 (by unfold ww; rw [gI_sL, gI_fro (by omega), nd_o (by omega)]; exact g36) (fun t ht => by unfold ww; rw [gI_sL, gI_fro (by omega)]; exact nd_a ht) hl (fun s hs => by unfold ww; rw [gI_sL, gI_fr (Nat.zero_le _) hs]) hr
    refine ⟨fl (sL (ww (sL M0 457 42 sd) S.1) 457 42 (drX sd)) 483 S.1.length (fun t => nI (rdd (drD S.1) S.1.length k t)), fun d Q => ?_, f2.tr (Fw.f (fun t _ => Or.inl (Or.inr rfl)))⟩
    have gr : gI (fl (sL (ww (sL M0 457 42 sd) S.1) 457 42 (drX sd)) 483 S.1.length (fun t => nI (rdd (drD S.1) S.1.length k t))) 483 e = nI (rdd (drD S.1) S.1.length k e) := gI_fl he
    have ec : (nI e).toNatClampNeg = e := nI_clamp (by omega)
    rw [ec, rdd_eq (by rw [we]; exact hr) he, eX11_drawn]
    simp (disch := (first | assumption | omega | decide)) only [sX11_drawn_0, sX11_drawn_1, sX11_drawn_2, sX11_drawn_5, sX11_drawn_6, sX11_drawn_7, sX11_drawn_8, sX11_drawn_9, sX11_drawn_12, sX11_drawn_14, sX11_drawn_15, sX11_drawn_16, sX11_drawn_17, sX11_drawn_18, sX11_drawn_21, sX11_drawn_24, sX11_drawn_25, sX11_drawn_26, sX11_drawn_27, sX11_drawn_28, sX11_drawn_31, sX11_drawn_32, sX11_drawn_33, sX11_drawn_34, sX11_drawn_37, sX11_drawn_40, sX11_drawn_43, sX11_drawn_44, sX11_drawn_47, sX11_drawn_48, sX11_drawn_49, kI_i, kL_l, kV_v, am_rv_s, am_kl_i, am_kl_r, am_kl_n, am_kl_l, true_and, and_true, and_self, true_or, or_true, implies_true, forall_const, not_true_eq_false, not_false_eq_true, false_implies, true_implies, if_true, if_false, Bool.true_eq_false, Bool.false_eq_true, ob_457, hM0, r_457_27, n36, in_465, nI_clamp (show 36 < 2147483648 by omega), g36, c64_0, m_isIn, e1, bz_t, i01, lw, dr, gx, hk, pk, gR_fl, r_457_49, in_483 (show e < 12 by omega), ec, gr]
  · rw [if_neg c]
    rw [decide_eq_false c] at e1
    refine ⟨M0, fun d Q => ?_, f0⟩
    rw [eX11_drawn]
    simp (disch := (first | assumption | omega | decide)) only [sX11_drawn_0, sX11_drawn_1, sX11_drawn_2, sX11_drawn_5, sX11_drawn_6, sX11_drawn_7, sX11_drawn_8, sX11_drawn_9, sX11_drawn_12, sX11_drawn_14, sX11_drawn_15, sX11_drawn_16, sX11_drawn_17, sX11_drawn_18, sX11_drawn_21, sX11_drawn_24, sX11_drawn_25, sX11_drawn_26, sX11_drawn_27, sX11_drawn_28, sX11_drawn_31, sX11_drawn_32, sX11_drawn_33, sX11_drawn_34, sX11_drawn_37, sX11_drawn_40, sX11_drawn_43, sX11_drawn_44, sX11_drawn_47, sX11_drawn_48, sX11_drawn_49, kI_i, kL_l, kV_v, am_rv_s, am_kl_i, am_kl_r, am_kl_n, am_kl_l, true_and, and_true, and_self, true_or, or_true, implies_true, forall_const, not_true_eq_false, not_false_eq_true, false_implies, true_implies, if_true, if_false, Bool.true_eq_false, Bool.false_eq_true, ob_457, hM0, r_457_27, n36, in_465, nI_clamp (show 36 < 2147483648 by omega), g36, c64_0, m_isIn, e1, bz_f]
end
