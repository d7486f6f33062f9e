/-! the law's loop -/
def cntA (sc : Nat → Int32) : Nat → Nat
  | 0 => 0
  | j + 1 => cntA sc j + (if sc (6 * j) &&& 63 = 4 then 1 else 0)
theorem cntA_s {sc : Nat → Int32} (j : Nat) : cntA sc (j + 1) = cntA sc j + (if sc (6 * j) &&& 63 = 4 then 1 else 0) := rfl
theorem cntA_le {sc : Nat → Int32} : ∀ {j N : Nat}, j ≤ N → cntA sc j ≤ cntA sc N
  | j, 0, h => by rw [show j = 0 by omega]; exact Nat.le_refl _
  | j, N + 1, h => by
    by_cases z : j = N + 1
    · rw [z]; exact Nat.le_refl _
    · have := cntA_le (sc := sc) (show j ≤ N by omega)
      rw [cntA_s N]
      omega
theorem cntA_n {sc : Nat → Int32} : ∀ N, cntA sc N ≤ N
  | 0 => Nat.le_refl _
  | N + 1 => by
    have := cntA_n (sc := sc) N
    rw [cntA_s]
    split <;> omega
theorem gt6 {len i : Nat} (hl : len ≤ 384) (hi : i ≤ 1000) : (nI len - 6 < nI i) = (len < i + 6) := by
  rw [Int32.lt_iff_toInt_lt, Int32.toInt_sub, nI_toInt (by omega), nI_toInt (by omega), show (6 : Int32).toInt = 6 from by decide, Int.bmod_eq_of_le (by omega) (by omega)]
  exact propext (by omega)
section
variable {sc : Nat → Int32} {kk len N : Nat} {Q : am_Q}
theorem L_loop (hQ : ∀ M', Q (some (.int 1)) M') (h1000 : sc 1000 = nI len) (hl : len ≤ 384) (h1 : 6 * N ≤ len) (h2 : len < 6 * N + 6) (hk : kk = cntA sc N) : ∀ (f j : Nat) (M : am_M) (l5 l6 : Option Value), j + f = N → IV sc M → ok 40 (mLk kk) 0 Q 488 (488 + 8 * cntA sc j) (103327 + 64 * cntA sc j) 23 [some (.ref 2000000), some (.ref 0), some (.ref 457), some (.ref 487), some (.int (nI (6 * j))), l5, l6] [] M := by
  have ln : ∀ M, IV sc M → am_len M 2000000 = nI len := fun M hI => by
    have e : am_len M 2000000 = gI M 2000000 1000 := rfl
    rw [e, hI.2.1, h1000]
  have sA : (2000000 = am_SC ∨ (2000000 < 488 ∧ 1 ≤ (am_T 2000000).1 ∧ (am_T 2000000).1 ≤ 7)) = True := eq_true (Or.inl rfl)
  intro f
  induction f with
  | zero =>
    intro j M l5 l6 hj hI
    have hj : j = N := by omega
    subst hj
    have g6 : (nI len - 6 < nI (6 * j)) = True := by rw [gt6 hl (by omega)]; exact eq_true (by omega)
    have rt : am_ret (mLk kk) 0 488 (488 + 8 * cntA sc j) (103327 + 64 * cntA sc j) := ⟨rfl, by rw [hk]; rfl, by rw [hk]; rfl⟩
    have o1 : ((1 : Int32) = 0 ∨ (1 : Int32) = 1) = True := by simp
    have hq := hQ M
    have r2 := fun (x : Int32) => sK_1702 (d := 40) (Q := Q) (x := x) (ls := [some (.ref 2000000), some (.ref 0), some (.ref 457), some (.ref 487), some (.int (nI (6 * j))), l5, l6]) (M := M) rt
    simp (disch := (first | assumption | omega | decide)) only [sK_23, sK_25, sK_26, sK_27, sK_29, sK_30, sK_1701, r2, kI_i, kL_l, kV_v, am_rv_s, am_kl_i, am_kl_r, am_kl_n, am_kl_l, true_and, and_true, and_self, true_or, or_true, implies_true, forall_const, not_true_eq_false, not_false_eq_true, false_implies, true_implies, if_true, if_false, Bool.true_eq_false, Bool.false_eq_true, sA, ln M hI, g6, o1]
    exact hq
  | succ f ih =>
    intro j M l5 l6 hj hI
    have hs := hI.2.1
    have cj : cntA sc j ≤ kk := by rw [hk]; exact cntA_le (by omega)
    have hc : 488 + 8 * cntA sc j ≤ 488 + 8 * kk := by omega
    have hw : 103327 + 64 * cntA sc j ≤ 103327 + 64 * kk := by omega
    have hj6 : 6 * j + 6 ≤ len := by omega
    have g6 : (nI len - 6 < nI (6 * j)) = False := by rw [gt6 hl (by omega)]; exact eq_false (by omega)
    have i0 := rdi hs h1000 hl (show 6 * j < len by omega)
    have v0 := rdv hs (show 6 * j < 400 by omega)
    have e6 : 6 * j + 6 = 6 * (j + 1) := by omega
    have H : ¬ sc (6 * j) &&& 63 = 4 → ∀ M' l5 l6, IV sc M' → ok 40 (mLk kk) 0 Q 488 (488 + 8 * cntA sc j) (103327 + 64 * cntA sc j) 1695 [some (.ref 2000000), some (.ref 0), some (.ref 457), some (.ref 487), some (.int (nI (6 * j))), l5, l6] [] M' := fun hx M' l5 l6 hI' => by
      have q := ih (j + 1) M' l5 l6 (by omega) hI'
      have ec : cntA sc (j + 1) = cntA sc j := by rw [cntA_s, if_neg hx]; rfl
      rw [ec] at q
      simp (disch := (first | assumption | omega | decide)) only [sK_1695, sK_1698, kI_i, kL_l, kV_v, am_rv_s, am_kl_i, am_kl_r, am_kl_n, am_kl_l, true_and, and_true, and_self, true_or, or_true, implies_true, forall_const, not_true_eq_false, not_false_eq_true, false_implies, true_implies, if_true, if_false, Bool.true_eq_false, Bool.false_eq_true, nI_q6, e6]
      exact q
    have HA : sc (6 * j) &&& 63 = 4 → 8 + 8 * cntA sc j ≤ 8 * kk ∧ ∀ M' l5 l6, IV sc M' → ok 40 (mLk kk) 0 Q 488 (488 + 8 * cntA sc j + 8) (103327 + 64 * cntA sc j + 64) 1695 [some (.ref 2000000), some (.ref 0), some (.ref 457), some (.ref 487), some (.int (nI (6 * j))), l5, l6] [] M' := fun hx => by
      have ec : cntA sc (j + 1) = cntA sc j + 1 := by rw [cntA_s, if_pos hx]
      have le := cntA_le (sc := sc) (show j + 1 ≤ N by omega)
      refine ⟨by omega, fun M' l5 l6 hI' => ?_⟩
      have q := ih (j + 1) M' l5 l6 (by omega) hI'
      rw [ec, show 488 + 8 * (cntA sc j + 1) = 488 + 8 * cntA sc j + 8 by omega, show 103327 + 64 * (cntA sc j + 1) = 103327 + 64 * cntA sc j + 64 by omega] at q
      simp (disch := (first | assumption | omega | decide)) only [sK_1695, sK_1698, kI_i, kL_l, kV_v, am_rv_s, am_kl_i, am_kl_r, am_kl_n, am_kl_l, true_and, and_true, and_self, true_or, or_true, implies_true, forall_const, not_true_eq_false, not_false_eq_true, false_implies, true_implies, if_true, if_false, Bool.true_eq_false, Bool.false_eq_true, nI_q6, e6]
      exact q
    simp (disch := (first | assumption | omega | decide)) only [sK_23, sK_25, sK_26, sK_27, sK_29, sK_30, sK_33, sK_34, sK_36, sK_37, sK_39, kI_i, kL_l, kV_v, am_rv_s, am_kl_i, am_kl_r, am_kl_n, am_kl_l, true_and, and_true, and_self, true_or, or_true, implies_true, forall_const, not_true_eq_false, not_false_eq_true, false_implies, true_implies, if_true, if_false, Bool.true_eq_false, Bool.false_eq_true, sA, ln M hI, g6, i0, v0]
    rw [sK_40]
    refine ⟨⟨fun z => L_feed hI h1000 hl hj6 hc hw (fun M' hI' => H (fun y => by rw [z] at y; exact absurd y (by decide)) M' l5 l6 hI'), fun z => L_end hI h1000 hl hj6 hc hw (fun M' hI' => H (fun y => by rw [z] at y; exact absurd y (by decide)) M' l5 l6 hI'), fun z => L_fault hI h1000 hl hj6 hc hw (fun M' hI' => H (fun y => by rw [z] at y; exact absurd y (by decide)) M' l5 l6 hI'), fun z => L_text hI h1000 hl hj6 hc hw (fun M' hI' => H (fun y => by rw [z] at y; exact absurd y (by decide)) M' l5 l6 hI'), fun z => L_apprentice hI h1000 hl hj6 (by have := (HA z).1; omega) (by have := (HA z).1; omega) (HA z).2, fun z => L_shape hI h1000 hl hj6 hc hw (fun M' hI' => H (fun y => by rw [z] at y; exact absurd y (by decide)) M' l5 l6 hI'), fun z => L_deed hI h1000 hl hj6 hc hw (fun M' hI' => H (fun y => by rw [z] at y; exact absurd y (by decide)) M' l5 l6 hI'), fun z => L_law hI h1000 hl hj6 hc hw (fun M' hI' => H (fun y => by rw [z] at y; exact absurd y (by decide)) M' l5 l6 hI'), fun z => L_haste hI h1000 hl hj6 hc hw (fun M' hI' => H (fun y => by rw [z] at y; exact absurd y (by decide)) M' l5 l6 hI'), fun z => L_make hI h1000 hl hj6 hc hw (fun M' hI' => H (fun y => by rw [z] at y; exact absurd y (by decide)) M' l5 l6 hI'), fun z => L_undoes hI h1000 hl hj6 hc hw (fun M' hI' => H (fun y => by rw [z] at y; exact absurd y (by decide)) M' l5 l6 hI'), fun z => L_takes hI h1000 hl hj6 hc hw (fun M' hI' => H (fun y => by rw [z] at y; exact absurd y (by decide)) M' l5 l6 hI'), fun z => L_enter hI h1000 hl hj6 hc hw (fun M' hI' => H (fun y => by rw [z] at y; exact absurd y (by decide)) M' l5 l6 hI'), fun z => L_forgets hI h1000 hl hj6 hc hw (fun M' hI' => H (fun y => by rw [z] at y; exact absurd y (by decide)) M' l5 l6 hI'), fun z => L_sell hI h1000 hl hj6 hc hw (fun M' hI' => H (fun y => by rw [z] at y; exact absurd y (by decide)) M' l5 l6 hI'), fun z => L_years hI h1000 hl hj6 hc hw (fun M' hI' => H (fun y => by rw [z] at y; exact absurd y (by decide)) M' l5 l6 hI'), fun z => L_undo hI h1000 hl hj6 hc hw (fun M' hI' => H (fun y => by rw [z] at y; exact absurd y (by decide)) M' l5 l6 hI'), fun z => L_log hI h1000 hl hj6 hc hw (fun M' hI' => H (fun y => by rw [z] at y; exact absurd y (by decide)) M' l5 l6 hI'), fun z => L_step hI h1000 hl hj6 hc hw (fun M' hI' => H (fun y => by rw [z] at y; exact absurd y (by decide)) M' l5 l6 hI'), fun z => L_run hI h1000 hl hj6 hc hw (fun M' hI' => H (fun y => by rw [z] at y; exact absurd y (by decide)) M' l5 l6 hI'), fun z => L_perform hI h1000 hl hj6 hc hw (fun M' hI' => H (fun y => by rw [z] at y; exact absurd y (by decide)) M' l5 l6 hI'), fun z => L_alike hI h1000 hl hj6 hc hw (fun M' hI' => H (fun y => by rw [z] at y; exact absurd y (by decide)) M' l5 l6 hI'), fun z => L_cost hI h1000 hl hj6 hc hw (fun M' hI' => H (fun y => by rw [z] at y; exact absurd y (by decide)) M' l5 l6 hI'), fun z => L_rows hI h1000 hl hj6 hc hw (fun M' hI' => H (fun y => by rw [z] at y; exact absurd y (by decide)) M' l5 l6 hI'), fun z => L_row hI h1000 hl hj6 hc hw (fun M' hI' => H (fun y => by rw [z] at y; exact absurd y (by decide)) M' l5 l6 hI'), fun z => L_drawn hI h1000 hl hj6 hc hw (fun M' hI' => H (fun y => by rw [z] at y; exact absurd y (by decide)) M' l5 l6 hI'), fun z => L_cheapest hI h1000 hl hj6 hc hw (fun M' hI' => H (fun y => by rw [z] at y; exact absurd y (by decide)) M' l5 l6 hI'), fun z => L_places hI h1000 hl hj6 hc hw (fun M' hI' => H (fun y => by rw [z] at y; exact absurd y (by decide)) M' l5 l6 hI'), fun z => L_needs hI h1000 hl hj6 hc hw (fun M' hI' => H (fun y => by rw [z] at y; exact absurd y (by decide)) M' l5 l6 hI'), fun z => L_sure hI h1000 hl hj6 hc hw (fun M' hI' => H (fun y => by rw [z] at y; exact absurd y (by decide)) M' l5 l6 hI'), fun z => L_alone hI h1000 hl hj6 hc hw (fun M' hI' => H (fun y => by rw [z] at y; exact absurd y (by decide)) M' l5 l6 hI'), fun z => L_stuck hI h1000 hl hj6 hc hw (fun M' hI' => H (fun y => by rw [z] at y; exact absurd y (by decide)) M' l5 l6 hI'), fun z => L_team hI h1000 hl hj6 hc hw (fun M' hI' => H (fun y => by rw [z] at y; exact absurd y (by decide)) M' l5 l6 hI'), fun z => L_lesson hI h1000 hl hj6 hc hw (fun M' hI' => H (fun y => by rw [z] at y; exact absurd y (by decide)) M' l5 l6 hI'), fun z => L_game hI h1000 hl hj6 hc hw (fun M' hI' => H (fun y => by rw [z] at y; exact absurd y (by decide)) M' l5 l6 hI'), fun z => L_odds hI h1000 hl hj6 hc hw (fun M' hI' => H (fun y => by rw [z] at y; exact absurd y (by decide)) M' l5 l6 hI'), fun z => L_seen hI h1000 hl hj6 hc hw (fun M' hI' => H (fun y => by rw [z] at y; exact absurd y (by decide)) M' l5 l6 hI'), fun z => L_args hI h1000 hl hj6 hc hw (fun M' hI' => H (fun y => by rw [z] at y; exact absurd y (by decide)) M' l5 l6 hI'), fun z => L_ask hI h1000 hl hj6 hc hw (fun M' hI' => H (fun y => by rw [z] at y; exact absurd y (by decide)) M' l5 l6 hI'), fun z => L_upon hI h1000 hl hj6 hc hw (fun M' hI' => H (fun y => by rw [z] at y; exact absurd y (by decide)) M' l5 l6 hI'), fun z => L_all hI h1000 hl hj6 hc hw (fun M' hI' => H (fun y => by rw [z] at y; exact absurd y (by decide)) M' l5 l6 hI'), fun z => L_image hI h1000 hl hj6 hc hw (fun M' hI' => H (fun y => by rw [z] at y; exact absurd y (by decide)) M' l5 l6 hI'), fun z => L_back hI h1000 hl hj6 hc hw (fun M' hI' => H (fun y => by rw [z] at y; exact absurd y (by decide)) M' l5 l6 hI'), fun z => L_count hI h1000 hl hj6 hc hw (fun M' hI' => H (fun y => by rw [z] at y; exact absurd y (by decide)) M' l5 l6 hI'), trivial⟩, fun z => H (fun y => ?_) M l5 l6 hI⟩
    rw [y] at z
    exact absurd z (by decide)
end
