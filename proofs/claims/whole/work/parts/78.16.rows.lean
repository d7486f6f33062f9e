def rowsA (ap : Nat) (S : Sg) : Int32 := if opn ap = true then nI (wS (bl S.1) S.1.length 0) else -1
section
variable {M N : am_M} {ap lim n : Nat} {S : Sg} {P : List Sg} {l : List Dd} {d : Nat} {Q : am_Q} {K : Int32}
theorem wS_eq {s : Nat} (h : WH l s) : wS (bl l) l.length s = wS (drD l) l.length s := by unfold wS; exact wy_eq _ s h
/-- what the class's tables of rows may write -/
def XLW (c j : Nat) : Prop := XL c j ∨ c = 431 ∨ c = 432
theorem Fw_cw : Fw XLW N (cwM N l) := by
  unfold cwM
  exact (Fw.f (fun k _ => Or.inr (Or.inl rfl))).tr (Fw_fr (fun k => Or.inr (Or.inr rfl)))
theorem Fw_lkW : Fw XLW M (lkM M l) := Fw_lk.mo (fun c j z => Or.inl z)
theorem c_lkw (hW : WR M) (hl : l.length ≤ 12) : am_big (d + 3) mX5_countWays [.ref 424] 488 (lkM M l) Q = Q (some (.int (nI (wS (bl l) l.length 0)))) (cwM (lkM M l) l) := c_countWays (Fw_lk.2 hW) lk_n (fun k hk => lk_a hk) hl
theorem c_rows (hW : WR M) (h : StC M 3 ap lim S) (hl : S.1.length ≤ 12) : ∃ M', (∀ d (Q : am_Q), am_big (d + 4) mX10_rows [.ref 0] 488 M Q = Q (some (.int (rowsA ap S))) M') ∧ Fw XLW M M' := by
  have wl : WR (lkM M S.1) := Fw_lk.2 hW
  unfold rowsA
  cases c1 : opn ap with
  | false =>
    refine ⟨M, fun d Q => ?_, Fw.rf⟩
    rw [eX10_rows]
    simp (disch := (first | assumption | omega | decide)) only [sX10_rows_0, sX10_rows_1, sX10_rows_4, sX10_rows_7, sX10_rows_8, sX10_rows_9, sX10_rows_10, sX10_rows_13, sX10_rows_14, sX10_rows_17, sX10_rows_20, sX10_rows_23, sX10_rows_24, sX10_rows_27, sX10_rows_30, kI_i, kL_l, kV_v, am_rv_s, am_kl_i, am_kl_r, am_kl_n, am_kl_l, true_and, and_true, and_self, true_or, or_true, implies_true, forall_const, not_true_eq_false, not_false_eq_true, false_implies, true_implies, if_true, if_false, Bool.true_eq_false, Bool.false_eq_true, ob_0, c_isOpen hW h, c1, bz_f, Bool.false_eq_true]
  | true =>
    refine ⟨cwM (lkM M S.1) S.1, fun d Q => ?_, Fw_lkW.tr Fw_cw⟩
    have lk := fun d (Q : am_Q) => c_look (d := d) (Q := Q) hW (StC_LH h) hl
    have cw := fun d (Q : am_Q) => c_lkw (d := d) (Q := Q) (l := S.1) hW hl
    rw [eX10_rows, if_pos rfl]
    simp (disch := (first | assumption | omega | decide)) only [sX10_rows_0, sX10_rows_1, sX10_rows_4, sX10_rows_7, sX10_rows_8, sX10_rows_9, sX10_rows_10, sX10_rows_13, sX10_rows_14, sX10_rows_17, sX10_rows_20, sX10_rows_23, sX10_rows_24, sX10_rows_27, sX10_rows_30, kI_i, kL_l, kV_v, am_rv_s, am_kl_i, am_kl_r, am_kl_n, am_kl_l, true_and, and_true, and_self, true_or, or_true, implies_true, forall_const, not_true_eq_false, not_false_eq_true, false_implies, true_implies, if_true, if_false, Bool.true_eq_false, Bool.false_eq_true, ob_0, ob_3, ob_4, ob_424, c_isOpen hW h, c1, bz_t, i01, r_0_1, r_3_0, r_0_13, lk, cw]
def XMW (c j : Nat) : Prop := XMN c j ∨ c = 481
theorem Fw_ww : Fw XMW M (ww M l) := by
  unfold ww
  exact (Fw_nd.mo (fun c j z => Or.inl (Or.inr z))).tr (Fw_fr (fun k => Or.inr rfl))
theorem m_rows (h : RS M ap lim S P) : ∃ M', (∀ d (Q : am_Q), am_big (d + 4) mX11_rows [.ref 457] 488 M Q = Q (some (.int (rowsA ap S))) M') ∧ Fw XMW M M' := by
  have f0 : Fw XMW M (sI M 457 0 0) := Fw_thr.mo (fun c j z => Or.inl (Or.inl z))
  obtain ⟨hW, hS, hP, hf, hm, hw, hlim, ht⟩ := RS_th h
  generalize hM0 : sI M 457 0 0 = M0 at *
  have hap := hS.2.2.2.2.1.2.2
  have ez : (nI ap = 0) = (opn ap = false) := by
    rw [show (0 : Int32) = nI 0 from rfl, nI_eqE (by omega) (by omega)]; unfold opn; simp
  unfold rowsA
  cases c1 : opn ap with
  | false =>
    refine ⟨M0, fun d Q => ?_, f0⟩
    rw [eX11_rows]
    simp (disch := (first | assumption | omega | decide)) only [sX11_rows_0, sX11_rows_1, sX11_rows_2, sX11_rows_5, sX11_rows_6, sX11_rows_9, sX11_rows_12, sX11_rows_13, sX11_rows_16, sX11_rows_17, sX11_rows_20, kI_i, kL_l, kV_v, am_rv_s, am_kl_i, am_kl_r, am_kl_n, am_kl_l, true_and, and_true, and_self, true_or, or_true, implies_true, forall_const, not_true_eq_false, not_false_eq_true, false_implies, true_implies, if_true, if_false, Bool.true_eq_false, Bool.false_eq_true, ob_457, hM0, hf, ez, c1, Bool.false_eq_true]
  | true =>
    refine ⟨ww M0 S.1, fun d Q => ?_, f0.tr Fw_ww⟩
    have lw := fun d (Q : am_Q) => m_laysWays (d := d) (Q := Q) hW hS.p hw
    rw [← wS_eq WH_0] at lw
    rw [eX11_rows, if_pos rfl]
    simp (disch := (first | assumption | omega | decide)) only [sX11_rows_0, sX11_rows_1, sX11_rows_2, sX11_rows_5, sX11_rows_6, sX11_rows_9, sX11_rows_12, sX11_rows_13, sX11_rows_16, sX11_rows_17, sX11_rows_20, kI_i, kL_l, kV_v, am_rv_s, am_kl_i, am_kl_r, am_kl_n, am_kl_l, true_and, and_true, and_self, true_or, or_true, implies_true, forall_const, not_true_eq_false, not_false_eq_true, false_implies, true_implies, if_true, if_false, Bool.true_eq_false, Bool.false_eq_true, ob_457, hM0, hf, ez, c1, lw, Bool.true_eq_false]
end
