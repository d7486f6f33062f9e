section
variable {d : Nat} {M : am_M} {Q : am_Q} {a n : Nat}
theorem c_has {k : Int32} (h : DLs M a) : am_big (d + 1) mX0_has [.ref a, .int k] 488 M Q = Q (some (.int (bz (decide (0 ≤ k ∧ k < gI M a 3))))) M := by
  obtain ⟨h1, h2, -⟩ := h
  have hob := ob (a := a) (c := 0) (by omega) h2
  rw [eX0_has]
  simp only [sX0_has_0, sX0_has_1, sX0_has_4, sX0_has_5, sX0_has_6, sX0_has_9, sX0_has_12, sX0_has_13, sX0_has_16, sX0_has_17, kI_i, kL_l, kV_v, am_rv_s, am_kl_i, am_kl_r, am_kl_n, am_kl_l, true_and, and_true, and_self, true_or, or_true, implies_true, forall_const, not_true_eq_false, not_false_eq_true, false_implies, true_implies, hob, ← Int32.not_lt]
  by_cases q1 : k < 0 <;> by_cases q2 : k < gI M a 3 <;> simp [q1, q2, bz]
theorem c_tellsX {k : Int32} : am_big (d + 1) mX0_tellsX [.int k] 488 M Q = Q (some (.int (bz (decide (k = 0 ∨ k = 2 ∨ k = 3))))) M := by
  rw [eX0_tellsX]
  simp only [sX0_tellsX_0, sX0_tellsX_1, sX0_tellsX_4, sX0_tellsX_5, sX0_tellsX_6, sX0_tellsX_9, sX0_tellsX_10, sX0_tellsX_11, sX0_tellsX_14, sX0_tellsX_15, sX0_tellsX_18, sX0_tellsX_19, kI_i, kL_l, kV_v, am_rv_s, am_kl_i, am_kl_r, am_kl_n, am_kl_l, true_and, and_true, and_self, true_or, or_true, implies_true, forall_const, not_true_eq_false, not_false_eq_true, false_implies, true_implies]
  by_cases q1 : k = 0 <;> by_cases q2 : k = 2 <;> by_cases q3 : k = 3 <;> simp [q1, q2, q3, bz]
theorem l_lastOf {so pa : Int32} (h : DLs M a) : ∀ (k : Nat) (x : Int32), k ≤ 16 → x = nI k - 1 → ok d mX0_lastOf 488 Q 488 0 0 7 [some (.ref a), some (.int so), some (.int pa), some (.int x)] [] M = Q (some (.int (oi (lst (gI M (a + 1)) (gI M (a + 2)) so pa k)))) M := by
  obtain ⟨h1, h2, h3, h4, h5, h6, h7, h8⟩ := h
  have hob := ob (a := a) (c := 0) (by omega) h2
  intro k
  induction k with
  | zero =>
    intro x _ hx
    subst hx
    have e2 : (nI 0 - 1 < 0) = True := eq_true (by decide)
    rw [sX0_lastOf_7]
    simp only [sX0_lastOf_0, sX0_lastOf_1, sX0_lastOf_4, sX0_lastOf_5, sX0_lastOf_6, sX0_lastOf_8, sX0_lastOf_11, sX0_lastOf_12, sX0_lastOf_15, sX0_lastOf_16, sX0_lastOf_17, sX0_lastOf_18, sX0_lastOf_21, sX0_lastOf_22, sX0_lastOf_25, sX0_lastOf_26, sX0_lastOf_27, sX0_lastOf_28, sX0_lastOf_31, sX0_lastOf_32, sX0_lastOf_33, sX0_lastOf_36, sX0_lastOf_39, sX0_lastOf_40, kI_i, kL_l, kV_v, am_rv_s, am_kl_i, am_kl_r, am_kl_n, am_kl_l, true_and, and_true, and_self, true_or, or_true, implies_true, forall_const, not_true_eq_false, not_false_eq_true, false_implies, true_implies, e2, hob, h6, h7]
    rfl
  | succ k ih =>
    intro x hk hx
    rw [nI_pred] at hx
    subst hx
    have ek : (nI k).toNatClampNeg = k := nI_clamp (by omega)
    have i1 := in1 (M := M) (k := k) (by omega : a + 1 < 488) h3 (by omega) (by omega)
    have i2 := in1 (M := M) (k := k) (by omega : a + 2 < 488) h4 (by omega) (by omega)
    have ih := ih (nI k + -1) (by omega) (by rw [Int32.sub_eq_add_neg])
    have e0 := nI_lt0 (k := k) (by omega)
    rw [sX0_lastOf_7]
    simp only [sX0_lastOf_0, sX0_lastOf_1, sX0_lastOf_4, sX0_lastOf_5, sX0_lastOf_6, sX0_lastOf_8, sX0_lastOf_11, sX0_lastOf_12, sX0_lastOf_15, sX0_lastOf_16, sX0_lastOf_17, sX0_lastOf_18, sX0_lastOf_21, sX0_lastOf_22, sX0_lastOf_25, sX0_lastOf_26, sX0_lastOf_27, sX0_lastOf_28, sX0_lastOf_31, sX0_lastOf_32, sX0_lastOf_33, sX0_lastOf_36, sX0_lastOf_39, sX0_lastOf_40, kI_i, kL_l, kV_v, am_rv_s, am_kl_i, am_kl_r, am_kl_n, am_kl_l, true_and, and_true, and_self, true_or, or_true, implies_true, forall_const, not_true_eq_false, not_false_eq_true, false_implies, true_implies, e0, hob, h6, h7, i1, i2, ek, ih]
    rw [lst_s]
    by_cases q1 : gI M (a + 1) k = so <;> by_cases q2 : gI M (a + 2) k = pa <;> simp [q1, q2, oi_s]
theorem c_lastOf {so pa : Int32} (h : DL M a n) : am_big (d + 1) mX0_lastOf [.ref a, .int so, .int pa] 488 M Q = Q (some (.int (oi (lst (gI M (a + 1)) (gI M (a + 2)) so pa n)))) M := by
  have hob := ob (a := a) (c := 0) (by have := h.1.1; omega) h.1.2.1
  rw [eX0_lastOf]
  simp only [sX0_lastOf_0, sX0_lastOf_1, sX0_lastOf_4, sX0_lastOf_5, sX0_lastOf_6, sX0_lastOf_8, sX0_lastOf_11, sX0_lastOf_12, sX0_lastOf_15, sX0_lastOf_16, sX0_lastOf_17, sX0_lastOf_18, sX0_lastOf_21, sX0_lastOf_22, sX0_lastOf_25, sX0_lastOf_26, sX0_lastOf_27, sX0_lastOf_28, sX0_lastOf_31, sX0_lastOf_32, sX0_lastOf_33, sX0_lastOf_36, sX0_lastOf_39, sX0_lastOf_40, kI_i, kL_l, kV_v, am_rv_s, am_kl_i, am_kl_r, am_kl_n, am_kl_l, true_and, and_true, and_self, true_or, or_true, implies_true, forall_const, not_true_eq_false, not_false_eq_true, false_implies, true_implies, hob, h.2.1]
  exact l_lastOf h.1 n _ h.2.2 rfl
theorem l_timesOf {so pa : Int32} (h : DL M a n) : ∀ (j k : Nat), k + j = n → ok d mX0_timesOf 488 Q 488 0 0 5 [some (.ref a), some (.int so), some (.int pa), some (.int (nI (tms (gI M (a + 1)) (gI M (a + 2)) so pa k))), some (.int (nI k))] [] M = Q (some (.int (nI (tms (gI M (a + 1)) (gI M (a + 2)) so pa n)))) M := by
  obtain ⟨⟨h1, h2, h3, h4, h5, h6, h7, h8⟩, hn, hn16⟩ := h
  have hob := ob (a := a) (c := 0) (by omega) h2
  intro j
  induction j with
  | zero =>
    intro k hk
    have hk : k = n := by omega
    subst hk
    rw [sX0_timesOf_5]
    simp only [sX0_timesOf_0, sX0_timesOf_1, sX0_timesOf_2, sX0_timesOf_3, sX0_timesOf_7, sX0_timesOf_8, sX0_timesOf_11, sX0_timesOf_14, sX0_timesOf_15, sX0_timesOf_16, sX0_timesOf_19, sX0_timesOf_21, sX0_timesOf_22, sX0_timesOf_23, sX0_timesOf_26, sX0_timesOf_27, sX0_timesOf_30, sX0_timesOf_32, sX0_timesOf_33, sX0_timesOf_34, sX0_timesOf_37, sX0_timesOf_38, sX0_timesOf_41, sX0_timesOf_42, sX0_timesOf_43, sX0_timesOf_44, sX0_timesOf_47, sX0_timesOf_50, sX0_timesOf_51, kI_i, kL_l, kV_v, am_rv_s, am_kl_i, am_kl_r, am_kl_n, am_kl_l, true_and, and_true, and_self, true_or, or_true, implies_true, forall_const, not_true_eq_false, not_false_eq_true, false_implies, true_implies, hob, hn, Int32.le_refl]
  | succ j ih =>
    intro k hk
    have ek : (nI k).toNatClampNeg = k := nI_clamp (by omega)
    have i1 := in1 (M := M) (k := k) (by omega : a + 1 < 488) h3 (by omega) (by omega)
    have i2 := in1 (M := M) (k := k) (by omega : a + 2 < 488) h4 (by omega) (by omega)
    have ih := ih (k + 1) (by omega)
    have e0 : (nI n ≤ nI k) = False := by rw [nI_leE (by omega) (by omega)]; exact eq_false (by omega)
    rw [sX0_timesOf_5]
    simp only [sX0_timesOf_0, sX0_timesOf_1, sX0_timesOf_2, sX0_timesOf_3, sX0_timesOf_7, sX0_timesOf_8, sX0_timesOf_11, sX0_timesOf_14, sX0_timesOf_15, sX0_timesOf_16, sX0_timesOf_19, sX0_timesOf_21, sX0_timesOf_22, sX0_timesOf_23, sX0_timesOf_26, sX0_timesOf_27, sX0_timesOf_30, sX0_timesOf_32, sX0_timesOf_33, sX0_timesOf_34, sX0_timesOf_37, sX0_timesOf_38, sX0_timesOf_41, sX0_timesOf_42, sX0_timesOf_43, sX0_timesOf_44, sX0_timesOf_47, sX0_timesOf_50, sX0_timesOf_51, kI_i, kL_l, kV_v, am_rv_s, am_kl_i, am_kl_r, am_kl_n, am_kl_l, true_and, and_true, and_self, true_or, or_true, implies_true, forall_const, not_true_eq_false, not_false_eq_true, false_implies, true_implies, e0, hob, h6, h7, i1, i2, ek, hn, nI_1]
    rw [← ih]
    have e1 : nI (tms (gI M (a + 1)) (gI M (a + 2)) so pa k) + 0 = nI (tms (gI M (a + 1)) (gI M (a + 2)) so pa k) := Int32.add_zero _
    by_cases q1 : gI M (a + 1) k = so <;> by_cases q2 : gI M (a + 2) k = pa <;> simp [q1, q2, tms, e1]
theorem c_timesOf {so pa : Int32} (h : DL M a n) : am_big (d + 1) mX0_timesOf [.ref a, .int so, .int pa] 488 M Q = Q (some (.int (nI (tms (gI M (a + 1)) (gI M (a + 2)) so pa n)))) M := by
  rw [eX0_timesOf]
  simp only [sX0_timesOf_0, sX0_timesOf_1, sX0_timesOf_2, sX0_timesOf_3, sX0_timesOf_7, sX0_timesOf_8, sX0_timesOf_11, sX0_timesOf_14, sX0_timesOf_15, sX0_timesOf_16, sX0_timesOf_19, sX0_timesOf_21, sX0_timesOf_22, sX0_timesOf_23, sX0_timesOf_26, sX0_timesOf_27, sX0_timesOf_30, sX0_timesOf_32, sX0_timesOf_33, sX0_timesOf_34, sX0_timesOf_37, sX0_timesOf_38, sX0_timesOf_41, sX0_timesOf_42, sX0_timesOf_43, sX0_timesOf_44, sX0_timesOf_47, sX0_timesOf_50, sX0_timesOf_51, kI_i, kL_l, kV_v, am_rv_s, am_kl_i, am_kl_r, am_kl_n, am_kl_l, true_and, and_true, and_self, true_or, or_true, implies_true, forall_const, not_true_eq_false, not_false_eq_true, false_implies, true_implies]
  exact l_timesOf h n 0 (by omega)
theorem c_isThere {pa : Int32} (h : DL M a n) : am_big (d + 2) mX0_isThere [.ref a, .int pa] 488 M Q = Q (some (.int (bz (thr M a n pa)))) M := by
  have hob := ob (a := a) (c := 0) (by have := h.1.1; omega) h.1.2.1
  rw [eX0_isThere]
  simp only [sX0_isThere_0, sX0_isThere_1, sX0_isThere_2, sX0_isThere_3, sX0_isThere_6, sX0_isThere_7, sX0_isThere_10, sX0_isThere_11, sX0_isThere_14, sX0_isThere_15, kI_i, kL_l, kV_v, am_rv_s, am_kl_i, am_kl_r, am_kl_n, am_kl_l, true_and, and_true, and_self, true_or, or_true, implies_true, forall_const, not_true_eq_false, not_false_eq_true, false_implies, true_implies, hob, c_lastOf h, oi_lst (by have := h.2.2; omega : n ≤ 65536)]
  unfold thr
  cases e : lst (gI M (a + 1)) (gI M (a + 2)) 0 pa n <;> simp [bz]
theorem c_isHidden {pa : Int32} (h : DL M a n) : am_big (d + 2) mX0_isHidden [.ref a, .int pa] 488 M Q = Q (some (.int (bz (hid M a n pa)))) M := by
  have hob := ob (a := a) (c := 0) (by have := h.1.1; omega) h.1.2.1
  rw [eX0_isHidden]
  simp only [sX0_isHidden_0, sX0_isHidden_1, sX0_isHidden_2, sX0_isHidden_3, sX0_isHidden_6, sX0_isHidden_7, sX0_isHidden_10, sX0_isHidden_11, sX0_isHidden_14, sX0_isHidden_15, kI_i, kL_l, kV_v, am_rv_s, am_kl_i, am_kl_r, am_kl_n, am_kl_l, true_and, and_true, and_self, true_or, or_true, implies_true, forall_const, not_true_eq_false, not_false_eq_true, false_implies, true_implies, hob, c_lastOf h, oi_lst (by have := h.2.2; omega : n ≤ 65536)]
  unfold hid
  cases e : lst (gI M (a + 1)) (gI M (a + 2)) 4 pa n <;> simp [bz]
theorem c_lx {so pa dflt : Int32} (h : DL M a n) : n ≤ 65536 ∧ ∀ k, lst (gI M (a + 1)) (gI M (a + 2)) so pa n = some k → (nI k).toNatClampNeg = k ∧ am_in 488 M (a + 3) 1 (nI k) = True := by
  have hn := h.2.2
  refine ⟨by omega, fun k hk => ?_⟩
  have := (lst_lt hk).1
  exact ⟨nI_clamp (by omega), in1 (by have := h.1.1; omega) h.1.2.2.2.2.1 (by omega) (by omega)⟩
theorem c_kind {pa : Int32} (h : DL M a n) : am_big (d + 2) mX0_kind [.ref a, .int pa] 488 M Q = Q (some (.int (lx (gI M (a + 1)) (gI M (a + 2)) (gI M (a + 3)) 0 pa n (-1)))) M := by
  have hob := ob (a := a) (c := 0) (by have := h.1.1; omega) h.1.2.1
  obtain ⟨h1, h2⟩ := c_lx (so := 0) (pa := pa) (dflt := 0) h
  rw [eX0_kind]
  simp only [sX0_kind_0, sX0_kind_1, sX0_kind_2, sX0_kind_3, sX0_kind_6, sX0_kind_7, sX0_kind_8, sX0_kind_9, sX0_kind_12, sX0_kind_13, sX0_kind_16, sX0_kind_17, sX0_kind_20, sX0_kind_21, sX0_kind_22, kI_i, kL_l, kV_v, am_rv_s, am_kl_i, am_kl_r, am_kl_n, am_kl_l, true_and, and_true, and_self, true_or, or_true, implies_true, forall_const, not_true_eq_false, not_false_eq_true, false_implies, true_implies, hob, c_lastOf h, oi_lst h1, h.1.2.2.2.2.2.2.2]
  unfold lx
  cases e : lst (gI M (a + 1)) (gI M (a + 2)) 0 pa n with
  | none => simp
  | some k => simp [oi_s, h2 k e]
theorem c_lastColour {pa : Int32} (h : DL M a n) : am_big (d + 2) mX0_lastColour [.ref a, .int pa] 488 M Q = Q (some (.int (lx (gI M (a + 1)) (gI M (a + 2)) (gI M (a + 3)) 2 pa n 0))) M := by
  have hob := ob (a := a) (c := 0) (by have := h.1.1; omega) h.1.2.1
  obtain ⟨h1, h2⟩ := c_lx (so := 2) (pa := pa) (dflt := 0) h
  rw [eX0_lastColour]
  simp only [sX0_lastColour_0, sX0_lastColour_1, sX0_lastColour_2, sX0_lastColour_3, sX0_lastColour_6, sX0_lastColour_7, sX0_lastColour_8, sX0_lastColour_9, sX0_lastColour_12, sX0_lastColour_13, sX0_lastColour_16, sX0_lastColour_17, sX0_lastColour_20, sX0_lastColour_21, sX0_lastColour_22, kI_i, kL_l, kV_v, am_rv_s, am_kl_i, am_kl_r, am_kl_n, am_kl_l, true_and, and_true, and_self, true_or, or_true, implies_true, forall_const, not_true_eq_false, not_false_eq_true, false_implies, true_implies, hob, c_lastOf h, oi_lst h1, h.1.2.2.2.2.2.2.2]
  unfold lx
  cases e : lst (gI M (a + 1)) (gI M (a + 2)) 2 pa n with
  | none => simp
  | some k => simp [oi_s, h2 k e]
theorem c_under {pa : Int32} (h : DL M a n) : am_big (d + 2) mX0_under [.ref a, .int pa] 488 M Q = Q (some (.int (lx (gI M (a + 1)) (gI M (a + 2)) (gI M (a + 3)) 3 pa n 9))) M := by
  have hob := ob (a := a) (c := 0) (by have := h.1.1; omega) h.1.2.1
  obtain ⟨h1, h2⟩ := c_lx (so := 3) (pa := pa) (dflt := 0) h
  rw [eX0_under]
  simp only [sX0_under_0, sX0_under_1, sX0_under_2, sX0_under_3, sX0_under_6, sX0_under_7, sX0_under_8, sX0_under_9, sX0_under_12, sX0_under_14, sX0_under_17, sX0_under_18, sX0_under_21, sX0_under_22, sX0_under_23, kI_i, kL_l, kV_v, am_rv_s, am_kl_i, am_kl_r, am_kl_n, am_kl_l, true_and, and_true, and_self, true_or, or_true, implies_true, forall_const, not_true_eq_false, not_false_eq_true, false_implies, true_implies, hob, c_lastOf h, oi_lst h1, h.1.2.2.2.2.2.2.2]
  unfold lx
  cases e : lst (gI M (a + 1)) (gI M (a + 2)) 3 pa n with
  | none => simp
  | some k => simp [oi_s, h2 k e]
theorem l_over {pa : Int32} (h : DL M a n) : ∀ (j k : Nat), k + j = n → ok d mX0_over 488 Q 488 0 0 4 [some (.ref a), some (.int pa), some (.int (ovr (gI M (a + 1)) (gI M (a + 2)) (gI M (a + 3)) pa k)), some (.int (nI k))] [] M = Q (some (.int (ovr (gI M (a + 1)) (gI M (a + 2)) (gI M (a + 3)) pa n))) M := by
  obtain ⟨⟨h1, h2, h3, h4, h5, h6, h7, h8⟩, hn, hn16⟩ := h
  have hob := ob (a := a) (c := 0) (by omega) h2
  intro j
  induction j with
  | zero =>
    intro k hk
    have hk : k = n := by omega
    subst hk
    rw [sX0_over_4]
    simp only [sX0_over_0, sX0_over_1, sX0_over_2, sX0_over_3, sX0_over_5, sX0_over_6, sX0_over_9, sX0_over_12, sX0_over_13, sX0_over_16, sX0_over_17, sX0_over_18, sX0_over_19, sX0_over_22, sX0_over_23, sX0_over_26, sX0_over_27, sX0_over_28, sX0_over_29, sX0_over_32, sX0_over_33, sX0_over_34, sX0_over_35, sX0_over_38, sX0_over_39, sX0_over_40, sX0_over_41, sX0_over_42, sX0_over_43, sX0_over_46, sX0_over_49, sX0_over_50, kI_i, kL_l, kV_v, am_rv_s, am_kl_i, am_kl_r, am_kl_n, am_kl_l, true_and, and_true, and_self, true_or, or_true, implies_true, forall_const, not_true_eq_false, not_false_eq_true, false_implies, true_implies, hob, hn, Int32.le_refl]
  | succ j ih =>
    intro k hk
    have ek : (nI k).toNatClampNeg = k := nI_clamp (by omega)
    have i1 := in1 (M := M) (k := k) (by omega : a + 1 < 488) h3 (by omega) (by omega)
    have i2 := in1 (M := M) (k := k) (by omega : a + 2 < 488) h4 (by omega) (by omega)
    have i3 := in1 (M := M) (k := k) (by omega : a + 3 < 488) h5 (by omega) (by omega)
    have ih := ih (k + 1) (by omega)
    have e0 : (nI n ≤ nI k) = False := by rw [nI_leE (by omega) (by omega)]; exact eq_false (by omega)
    rw [sX0_over_4]
    simp only [sX0_over_0, sX0_over_1, sX0_over_2, sX0_over_3, sX0_over_5, sX0_over_6, sX0_over_9, sX0_over_12, sX0_over_13, sX0_over_16, sX0_over_17, sX0_over_18, sX0_over_19, sX0_over_22, sX0_over_23, sX0_over_26, sX0_over_27, sX0_over_28, sX0_over_29, sX0_over_32, sX0_over_33, sX0_over_34, sX0_over_35, sX0_over_38, sX0_over_39, sX0_over_40, sX0_over_41, sX0_over_42, sX0_over_43, sX0_over_46, sX0_over_49, sX0_over_50, kI_i, kL_l, kV_v, am_rv_s, am_kl_i, am_kl_r, am_kl_n, am_kl_l, true_and, and_true, and_self, true_or, or_true, implies_true, forall_const, not_true_eq_false, not_false_eq_true, false_implies, true_implies, e0, hob, h6, h7, h8, i1, i2, i3, ek, hn, nI_1]
    rw [← ih, ovr_s]
    by_cases q1 : gI M (a + 1) k = 3 <;> by_cases q2 : gI M (a + 3) k = pa <;> simp [q1, q2]
theorem c_over {pa : Int32} (h : DL M a n) : am_big (d + 1) mX0_over [.ref a, .int pa] 488 M Q = Q (some (.int (ovr (gI M (a + 1)) (gI M (a + 2)) (gI M (a + 3)) pa n))) M := by
  rw [eX0_over]
  simp only [sX0_over_0, sX0_over_1, sX0_over_2, sX0_over_3, sX0_over_5, sX0_over_6, sX0_over_9, sX0_over_12, sX0_over_13, sX0_over_16, sX0_over_17, sX0_over_18, sX0_over_19, sX0_over_22, sX0_over_23, sX0_over_26, sX0_over_27, sX0_over_28, sX0_over_29, sX0_over_32, sX0_over_33, sX0_over_34, sX0_over_35, sX0_over_38, sX0_over_39, sX0_over_40, sX0_over_41, sX0_over_42, sX0_over_43, sX0_over_46, sX0_over_49, sX0_over_50, kI_i, kL_l, kV_v, am_rv_s, am_kl_i, am_kl_r, am_kl_n, am_kl_l, true_and, and_true, and_self, true_or, or_true, implies_true, forall_const, not_true_eq_false, not_false_eq_true, false_implies, true_implies]
  exact l_over h n 0 (by omega)
theorem l_coats {pa : Int32} (h : DL M a n) : ∀ (j k : Nat), k + j = n → ok d mX0_coatsAsNumber 488 Q 488 0 0 4 [some (.ref a), some (.int pa), some (.int (cnm (gI M (a + 1)) (gI M (a + 2)) (gI M (a + 3)) pa k)), some (.int (nI k))] [] M = Q (some (.int (cnm (gI M (a + 1)) (gI M (a + 2)) (gI M (a + 3)) pa n))) M := by
  obtain ⟨⟨h1, h2, h3, h4, h5, h6, h7, h8⟩, hn, hn16⟩ := h
  have hob := ob (a := a) (c := 0) (by omega) h2
  intro j
  induction j with
  | zero =>
    intro k hk
    have hk : k = n := by omega
    subst hk
    rw [sX0_coatsAsNumber_4]
    simp only [sX0_coatsAsNumber_0, sX0_coatsAsNumber_1, sX0_coatsAsNumber_2, sX0_coatsAsNumber_3, sX0_coatsAsNumber_5, sX0_coatsAsNumber_6, sX0_coatsAsNumber_9, sX0_coatsAsNumber_12, sX0_coatsAsNumber_13, sX0_coatsAsNumber_16, sX0_coatsAsNumber_17, sX0_coatsAsNumber_18, sX0_coatsAsNumber_19, sX0_coatsAsNumber_22, sX0_coatsAsNumber_23, sX0_coatsAsNumber_26, sX0_coatsAsNumber_27, sX0_coatsAsNumber_28, sX0_coatsAsNumber_29, sX0_coatsAsNumber_32, sX0_coatsAsNumber_33, sX0_coatsAsNumber_35, sX0_coatsAsNumber_36, sX0_coatsAsNumber_37, sX0_coatsAsNumber_40, sX0_coatsAsNumber_41, sX0_coatsAsNumber_42, sX0_coatsAsNumber_43, sX0_coatsAsNumber_44, sX0_coatsAsNumber_47, sX0_coatsAsNumber_50, sX0_coatsAsNumber_51, kI_i, kL_l, kV_v, am_rv_s, am_kl_i, am_kl_r, am_kl_n, am_kl_l, true_and, and_true, and_self, true_or, or_true, implies_true, forall_const, not_true_eq_false, not_false_eq_true, false_implies, true_implies, hob, hn, Int32.le_refl]
  | succ j ih =>
    intro k hk
    have ek : (nI k).toNatClampNeg = k := nI_clamp (by omega)
    have i1 := in1 (M := M) (k := k) (by omega : a + 1 < 488) h3 (by omega) (by omega)
    have i2 := in1 (M := M) (k := k) (by omega : a + 2 < 488) h4 (by omega) (by omega)
    have i3 := in1 (M := M) (k := k) (by omega : a + 3 < 488) h5 (by omega) (by omega)
    have ih := ih (k + 1) (by omega)
    have e0 : (nI n ≤ nI k) = False := by rw [nI_leE (by omega) (by omega)]; exact eq_false (by omega)
    rw [sX0_coatsAsNumber_4]
    simp only [sX0_coatsAsNumber_0, sX0_coatsAsNumber_1, sX0_coatsAsNumber_2, sX0_coatsAsNumber_3, sX0_coatsAsNumber_5, sX0_coatsAsNumber_6, sX0_coatsAsNumber_9, sX0_coatsAsNumber_12, sX0_coatsAsNumber_13, sX0_coatsAsNumber_16, sX0_coatsAsNumber_17, sX0_coatsAsNumber_18, sX0_coatsAsNumber_19, sX0_coatsAsNumber_22, sX0_coatsAsNumber_23, sX0_coatsAsNumber_26, sX0_coatsAsNumber_27, sX0_coatsAsNumber_28, sX0_coatsAsNumber_29, sX0_coatsAsNumber_32, sX0_coatsAsNumber_33, sX0_coatsAsNumber_35, sX0_coatsAsNumber_36, sX0_coatsAsNumber_37, sX0_coatsAsNumber_40, sX0_coatsAsNumber_41, sX0_coatsAsNumber_42, sX0_coatsAsNumber_43, sX0_coatsAsNumber_44, sX0_coatsAsNumber_47, sX0_coatsAsNumber_50, sX0_coatsAsNumber_51, kI_i, kL_l, kV_v, am_rv_s, am_kl_i, am_kl_r, am_kl_n, am_kl_l, true_and, and_true, and_self, true_or, or_true, implies_true, forall_const, not_true_eq_false, not_false_eq_true, false_implies, true_implies, e0, hob, h6, h7, h8, i1, i2, i3, ek, hn, nI_1]
    rw [← ih, cnm_s]
    by_cases q1 : gI M (a + 1) k = 2 <;> by_cases q2 : gI M (a + 2) k = pa <;> simp [q1, q2]
theorem c_coats {pa : Int32} (h : DL M a n) : am_big (d + 1) mX0_coatsAsNumber [.ref a, .int pa] 488 M Q = Q (some (.int (cnm (gI M (a + 1)) (gI M (a + 2)) (gI M (a + 3)) pa n))) M := by
  rw [eX0_coatsAsNumber]
  simp only [sX0_coatsAsNumber_0, sX0_coatsAsNumber_1, sX0_coatsAsNumber_2, sX0_coatsAsNumber_3, sX0_coatsAsNumber_5, sX0_coatsAsNumber_6, sX0_coatsAsNumber_9, sX0_coatsAsNumber_12, sX0_coatsAsNumber_13, sX0_coatsAsNumber_16, sX0_coatsAsNumber_17, sX0_coatsAsNumber_18, sX0_coatsAsNumber_19, sX0_coatsAsNumber_22, sX0_coatsAsNumber_23, sX0_coatsAsNumber_26, sX0_coatsAsNumber_27, sX0_coatsAsNumber_28, sX0_coatsAsNumber_29, sX0_coatsAsNumber_32, sX0_coatsAsNumber_33, sX0_coatsAsNumber_35, sX0_coatsAsNumber_36, sX0_coatsAsNumber_37, sX0_coatsAsNumber_40, sX0_coatsAsNumber_41, sX0_coatsAsNumber_42, sX0_coatsAsNumber_43, sX0_coatsAsNumber_44, sX0_coatsAsNumber_47, sX0_coatsAsNumber_50, sX0_coatsAsNumber_51, kI_i, kL_l, kV_v, am_rv_s, am_kl_i, am_kl_r, am_kl_n, am_kl_l, true_and, and_true, and_self, true_or, or_true, implies_true, forall_const, not_true_eq_false, not_false_eq_true, false_implies, true_implies]
  exact l_coats h n 0 (by omega)
theorem c_leansOn {k e : Nat} (h : DLs M a) (hk : k < 16) (he : e < 16) : am_big (d + 1) mX0_leansOn [.ref a, .int (nI k), .int (nI e)] 488 M Q = Q (some (.int (bz (decide (e < k) && lnn (gI M (a + 1)) (gI M (a + 2)) (gI M (a + 3)) k e)))) M := by
  obtain ⟨h1, h2, h3, h4, h5, h6, h7, h8⟩ := h
  have hob := ob (a := a) (c := 0) (by omega) h2
  have ek : (nI k).toNatClampNeg = k := nI_clamp (by omega)
  have ee : (nI e).toNatClampNeg = e := nI_clamp (by omega)
  have i1 := in1 (M := M) (k := k) (by omega : a + 1 < 488) h3 (by omega) (by omega)
  have i2 := in1 (M := M) (k := k) (by omega : a + 2 < 488) h4 (by omega) (by omega)
  have i3 := in1 (M := M) (k := k) (by omega : a + 3 < 488) h5 (by omega) (by omega)
  have j1 := in1 (M := M) (k := e) (by omega : a + 1 < 488) h3 (by omega) (by omega)
  have j2 := in1 (M := M) (k := e) (by omega : a + 2 < 488) h4 (by omega) (by omega)
  have j3 := in1 (M := M) (k := e) (by omega : a + 3 < 488) h5 (by omega) (by omega)
  have el : (nI k ≤ nI e) = (k ≤ e) := nI_leE (by omega) (by omega)
  have el2 : (nI e < nI k) = (e < k) := nI_ltE (by omega) (by omega)
  rw [eX0_leansOn]
  simp only [sX0_leansOn_0, sX0_leansOn_1, sX0_leansOn_2, sX0_leansOn_5, sX0_leansOn_6, sX0_leansOn_7, sX0_leansOn_8, sX0_leansOn_11, sX0_leansOn_12, sX0_leansOn_13, sX0_leansOn_14, sX0_leansOn_15, sX0_leansOn_18, sX0_leansOn_19, sX0_leansOn_20, sX0_leansOn_21, sX0_leansOn_24, sX0_leansOn_25, sX0_leansOn_26, sX0_leansOn_29, sX0_leansOn_30, sX0_leansOn_33, sX0_leansOn_34, sX0_leansOn_36, sX0_leansOn_37, sX0_leansOn_40, sX0_leansOn_41, sX0_leansOn_42, sX0_leansOn_43, sX0_leansOn_46, sX0_leansOn_47, sX0_leansOn_50, sX0_leansOn_51, sX0_leansOn_52, sX0_leansOn_53, sX0_leansOn_56, sX0_leansOn_57, sX0_leansOn_58, sX0_leansOn_61, sX0_leansOn_62, sX0_leansOn_65, sX0_leansOn_66, sX0_leansOn_68, sX0_leansOn_69, sX0_leansOn_72, sX0_leansOn_74, sX0_leansOn_77, sX0_leansOn_79, sX0_leansOn_82, sX0_leansOn_83, sX0_leansOn_86, sX0_leansOn_87, sX0_leansOn_88, sX0_leansOn_89, sX0_leansOn_92, sX0_leansOn_93, sX0_leansOn_94, sX0_leansOn_124, sX0_leansOn_126, sX0_leansOn_129, sX0_leansOn_130, sX0_leansOn_131, sX0_leansOn_134, sX0_leansOn_135, sX0_leansOn_138, sX0_leansOn_139, sX0_leansOn_140, sX0_leansOn_142, sX0_leansOn_145, sX0_leansOn_146, sX0_leansOn_147, sX0_leansOn_150, sX0_leansOn_151, sX0_leansOn_154, sX0_leansOn_155, sX0_leansOn_156, sX0_leansOn_158, sX0_leansOn_161, sX0_leansOn_162, sX0_leansOn_163, sX0_leansOn_166, sX0_leansOn_168, sX0_leansOn_171, sX0_leansOn_172, sX0_leansOn_173, sX0_leansOn_176, sX0_leansOn_177, sX0_leansOn_180, sX0_leansOn_181, sX0_leansOn_182, sX0_leansOn_184, sX0_leansOn_187, sX0_leansOn_188, sX0_leansOn_189, sX0_leansOn_192, sX0_leansOn_193, sX0_leansOn_194, sX0_leansOn_197, sX0_leansOn_198, sX0_leansOn_199, sX0_leansOn_202, sX0_leansOn_203, sX0_leansOn_206, sX0_leansOn_207, sX0_leansOn_208, sX0_leansOn_209, kI_i, kL_l, kV_v, am_rv_s, am_kl_i, am_kl_r, am_kl_n, am_kl_l, true_and, and_true, and_self, true_or, or_true, implies_true, forall_const, not_true_eq_false, not_false_eq_true, false_implies, true_implies, hob, h6, h7, h8, i1, i2, i3, j1, j2, j3, ek, ee, el, el2, i01, sw14]
  unfold lnn lnf
  generalize gI M (a + 1) k = so
  generalize gI M (a + 2) k = po
  generalize gI M (a + 3) k = xo
  generalize gI M (a + 1) e = s2
  generalize gI M (a + 2) e = p2
  by_cases hlt : e < k
  · have hke : ¬ k ≤ e := by omega
    have hso : so = 1 ∨ so = 2 ∨ so = 3 ∨ so = 4 ∨ (¬ so = 1 ∧ ¬ so = 2 ∧ ¬ so = 3 ∧ ¬ so = 4) := by
      by_cases z1 : so = 1 <;> by_cases z2 : so = 2 <;> by_cases z3 : so = 3 <;> by_cases z4 : so = 4 <;> simp [*]
    have hs2 : s2 = 0 ∨ s2 = 1 ∨ s2 = 2 ∨ s2 = 3 ∨ (¬ s2 = 0 ∧ ¬ s2 = 1 ∧ ¬ s2 = 2 ∧ ¬ s2 = 3) := by
      by_cases z1 : s2 = 0 <;> by_cases z2 : s2 = 1 <;> by_cases z3 : s2 = 2 <;> by_cases z4 : s2 = 3 <;> simp [*]
    by_cases q3 : p2 = xo
    · subst q3
      by_cases q1 : p2 = po
      · subst q1
        rcases hso with rfl | rfl | rfl | rfl | ⟨y1, y2, y3, y4⟩ <;> rcases hs2 with rfl | rfl | rfl | rfl | ⟨z0, z1, z2, z3⟩ <;> simp [*, bz]
      · rcases hso with rfl | rfl | rfl | rfl | ⟨y1, y2, y3, y4⟩ <;> rcases hs2 with rfl | rfl | rfl | rfl | ⟨z0, z1, z2, z3⟩ <;> simp [*, bz]
    · by_cases q1 : p2 = po
      · subst q1
        rcases hso with rfl | rfl | rfl | rfl | ⟨y1, y2, y3, y4⟩ <;> rcases hs2 with rfl | rfl | rfl | rfl | ⟨z0, z1, z2, z3⟩ <;> simp [*, bz]
      · rcases hso with rfl | rfl | rfl | rfl | ⟨y1, y2, y3, y4⟩ <;> rcases hs2 with rfl | rfl | rfl | rfl | ⟨z0, z1, z2, z3⟩ <;> simp [*, bz]
  · have hke : k ≤ e := by omega
    simp [hlt, hke, bz]
end
