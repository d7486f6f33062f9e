section
variable {d : Nat} {M : am_M} {Q : am_Q} {a n : Nat}
theorem l_standsOn {up lo : Int32} (h : DL M a n) : ∀ (j k : Nat) (q : Int32), k + j = 6 → ok (d + 2) mX0_standsOn 488 Q 488 0 0 5 [some (.ref a), some (.int up), some (.int lo), some (.int q), some (.int (nI k))] [] M = Q (some (.int (bz (sOn (und M a n) lo j q)))) M := by
  have hob := ob (a := a) (c := 0) (by have := h.1.1; omega) h.1.2.1
  intro j
  induction j with
  | zero =>
    intro k q hk
    have e0 := li_le 6 6 (k := k) rfl (by omega) (by omega)
    have e1 : (6 ≤ k) = True := eq_true (by omega)
    rw [sX0_standsOn_5]
    simp only [sX0_standsOn_0, sX0_standsOn_1, sX0_standsOn_2, sX0_standsOn_3, sX0_standsOn_7, sX0_standsOn_9, sX0_standsOn_12, sX0_standsOn_13, sX0_standsOn_15, sX0_standsOn_18, sX0_standsOn_19, sX0_standsOn_20, sX0_standsOn_23, sX0_standsOn_24, sX0_standsOn_25, sX0_standsOn_26, sX0_standsOn_29, sX0_standsOn_30, sX0_standsOn_31, sX0_standsOn_34, sX0_standsOn_37, sX0_standsOn_38, kI_i, kL_l, kV_v, am_rv_s, am_kl_i, am_kl_r, am_kl_n, am_kl_l, true_and, and_true, and_self, true_or, or_true, implies_true, forall_const, not_true_eq_false, not_false_eq_true, false_implies, true_implies, e0, e1, true_or, sOn, bz_f]
  | succ j ih =>
    intro k q hk
    have e0 := li_le 6 6 (k := k) rfl (by omega) (by omega)
    have e1 : (6 ≤ k) = False := eq_false (by omega)
    have ih := fun q => ih (k + 1) q (by omega)
    rw [sX0_standsOn_5]
    simp only [sX0_standsOn_0, sX0_standsOn_1, sX0_standsOn_2, sX0_standsOn_3, sX0_standsOn_7, sX0_standsOn_9, sX0_standsOn_12, sX0_standsOn_13, sX0_standsOn_15, sX0_standsOn_18, sX0_standsOn_19, sX0_standsOn_20, sX0_standsOn_23, sX0_standsOn_24, sX0_standsOn_25, sX0_standsOn_26, sX0_standsOn_29, sX0_standsOn_30, sX0_standsOn_31, sX0_standsOn_34, sX0_standsOn_37, sX0_standsOn_38, kI_i, kL_l, kV_v, am_rv_s, am_kl_i, am_kl_r, am_kl_n, am_kl_l, true_and, and_true, and_self, true_or, or_true, implies_true, forall_const, not_true_eq_false, not_false_eq_true, false_implies, true_implies, e0, e1, hob, c_under h, nI_1, ih]
    by_cases q1 : q = 9
    · simp [q1, sOn, bz_f]
    · by_cases q2 : und M a n q = lo <;> simp [q1, q2, sOn, bz_t]
theorem c_standsOn {up lo : Int32} (h : DL M a n) : am_big (d + 3) mX0_standsOn [.ref a, .int up, .int lo] 488 M Q = Q (some (.int (bz (sOn (und M a n) lo 6 up)))) M := by
  rw [eX0_standsOn]
  simp only [sX0_standsOn_0, sX0_standsOn_1, sX0_standsOn_2, sX0_standsOn_3, sX0_standsOn_7, sX0_standsOn_9, sX0_standsOn_12, sX0_standsOn_13, sX0_standsOn_15, sX0_standsOn_18, sX0_standsOn_19, sX0_standsOn_20, sX0_standsOn_23, sX0_standsOn_24, sX0_standsOn_25, sX0_standsOn_26, sX0_standsOn_29, sX0_standsOn_30, sX0_standsOn_31, sX0_standsOn_34, sX0_standsOn_37, sX0_standsOn_38, kI_i, kL_l, kV_v, am_rv_s, am_kl_i, am_kl_r, am_kl_n, am_kl_l, true_and, and_true, and_self, true_or, or_true, implies_true, forall_const, not_true_eq_false, not_false_eq_true, false_implies, true_implies]
  exact l_standsOn h 6 0 up rfl
theorem l_storeys {pa : Int32} (h : DL M a n) : ∀ (j k f : Nat) (q : Int32), k + j = 6 → ok (d + 2) mX0_storeys 488 Q 488 0 0 11 [some (.ref a), some (.int pa), some (.int (nI f)), some (.int q), some (.int (nI k))] [] M = Q (some (.int (nI (f + sty (und M a n) j q)))) M := by
  have hob := ob (a := a) (c := 0) (by have := h.1.1; omega) h.1.2.1
  intro j
  induction j with
  | zero =>
    intro k f q hk
    have e0 := li_le 6 6 (k := k) rfl (by omega) (by omega)
    have e1 : (6 ≤ k) = True := eq_true (by omega)
    rw [sX0_storeys_11]
    simp only [sX0_storeys_0, sX0_storeys_1, sX0_storeys_2, sX0_storeys_3, sX0_storeys_4, sX0_storeys_7, sX0_storeys_8, sX0_storeys_9, sX0_storeys_13, sX0_storeys_15, sX0_storeys_18, sX0_storeys_19, sX0_storeys_21, sX0_storeys_24, sX0_storeys_27, sX0_storeys_28, sX0_storeys_29, sX0_storeys_32, sX0_storeys_33, sX0_storeys_36, sX0_storeys_39, sX0_storeys_40, kI_i, kL_l, kV_v, am_rv_s, am_kl_i, am_kl_r, am_kl_n, am_kl_l, true_and, and_true, and_self, true_or, or_true, implies_true, forall_const, not_true_eq_false, not_false_eq_true, false_implies, true_implies, e0, e1, sty, Nat.add_zero]
  | succ j ih =>
    intro k f q hk
    have e0 := li_le 6 6 (k := k) rfl (by omega) (by omega)
    have e1 : (6 ≤ k) = False := eq_false (by omega)
    have ih := fun q => ih (k + 1) (f + 1) q (by omega)
    rw [sX0_storeys_11]
    simp only [sX0_storeys_0, sX0_storeys_1, sX0_storeys_2, sX0_storeys_3, sX0_storeys_4, sX0_storeys_7, sX0_storeys_8, sX0_storeys_9, sX0_storeys_13, sX0_storeys_15, sX0_storeys_18, sX0_storeys_19, sX0_storeys_21, sX0_storeys_24, sX0_storeys_27, sX0_storeys_28, sX0_storeys_29, sX0_storeys_32, sX0_storeys_33, sX0_storeys_36, sX0_storeys_39, sX0_storeys_40, kI_i, kL_l, kV_v, am_rv_s, am_kl_i, am_kl_r, am_kl_n, am_kl_l, true_and, and_true, and_self, true_or, or_true, implies_true, forall_const, not_true_eq_false, not_false_eq_true, false_implies, true_implies, e0, e1, hob, c_under h, nI_1, ih]
    by_cases q1 : q = 9
    · simp [q1, sty]
    · have e2 : f + 1 + sty (und M a n) j (und M a n q) = f + (sty (und M a n) j (und M a n q) + 1) := by omega
      simp [q1, sty, e2]
theorem c_storeys {pa : Int32} (h : DL M a n) : am_big (d + 3) mX0_storeys [.ref a, .int pa] 488 M Q = Q (some (.int (nI (1 + sty (und M a n) 6 (und M a n pa))))) M := by
  have hob := ob (a := a) (c := 0) (by have := h.1.1; omega) h.1.2.1
  rw [eX0_storeys]
  simp only [sX0_storeys_0, sX0_storeys_1, sX0_storeys_2, sX0_storeys_3, sX0_storeys_4, sX0_storeys_7, sX0_storeys_8, sX0_storeys_9, sX0_storeys_13, sX0_storeys_15, sX0_storeys_18, sX0_storeys_19, sX0_storeys_21, sX0_storeys_24, sX0_storeys_27, sX0_storeys_28, sX0_storeys_29, sX0_storeys_32, sX0_storeys_33, sX0_storeys_36, sX0_storeys_39, sX0_storeys_40, kI_i, kL_l, kV_v, am_rv_s, am_kl_i, am_kl_r, am_kl_n, am_kl_l, true_and, and_true, and_self, true_or, or_true, implies_true, forall_const, not_true_eq_false, not_false_eq_true, false_implies, true_implies, hob, c_under h]
  exact l_storeys h 6 0 1 _ rfl
theorem sty_le (u : Int32 → Int32) : ∀ (k : Nat) (q : Int32), sty u k q ≤ k
  | 0, _ => Nat.le_refl 0
  | k + 1, q => by unfold sty; split; omega; have := sty_le u k (u q); omega
theorem hgt_le {th : Nat → Bool} {st : Nat → Nat} (h : ∀ k, st k ≤ 7) : ∀ k, hgt th st k ≤ 7
  | 0 => by unfold hgt; omega
  | k + 1 => by
    unfold hgt
    have := hgt_le h k (th := th)
    have := h k
    split
    · split <;> omega
    · omega
abbrev stF (M : am_M) (a n k : Nat) : Nat := 1 + sty (und M a n) 6 (und M a n (nI k))
theorem l_height (h : DL M a n) : ∀ (j k : Nat), k + j = 6 → ok (d + 3) mX0_height 488 Q 488 0 0 4 [some (.ref a), some (.int (nI (hgt (fun k => thr M a n (nI k)) (stF M a n) k))), some (.int (nI k))] [] M = Q (some (.int (nI (hgt (fun k => thr M a n (nI k)) (stF M a n) 6)))) M := by
  have hob := ob (a := a) (c := 0) (by have := h.1.1; omega) h.1.2.1
  intro j
  induction j with
  | zero =>
    intro k hk
    have hk : k = 6 := by omega
    subst hk
    have e0 := li_le 6 6 (k := 6) rfl (by omega) (by omega)
    rw [sX0_height_4]
    simp only [sX0_height_0, sX0_height_1, sX0_height_2, sX0_height_3, sX0_height_5, sX0_height_7, sX0_height_10, sX0_height_11, sX0_height_12, sX0_height_15, sX0_height_18, sX0_height_19, sX0_height_20, sX0_height_21, sX0_height_24, sX0_height_27, sX0_height_28, sX0_height_31, sX0_height_34, sX0_height_35, kI_i, kL_l, kV_v, am_rv_s, am_kl_i, am_kl_r, am_kl_n, am_kl_l, true_and, and_true, and_self, true_or, or_true, implies_true, forall_const, not_true_eq_false, not_false_eq_true, false_implies, true_implies, e0, Nat.le_refl]
  | succ j ih =>
    intro k hk
    have e0 := li_le 6 6 (k := k) rfl (by omega) (by omega)
    have e1 : (6 ≤ k) = False := eq_false (by omega)
    have ih := ih (k + 1) (by omega)
    have hs : ∀ k, stF M a n k ≤ 7 := fun k => by have := sty_le (und M a n) 6 (und M a n (nI k)); show 1 + _ ≤ 7; omega
    have hh := hgt_le (th := fun k => thr M a n (nI k)) hs k
    have hsk := hs k
    have elt := nI_ltE (a := hgt (fun k => thr M a n (nI k)) (stF M a n) k) (b := stF M a n k) (by omega) (by omega)
    rw [sX0_height_4]
    simp only [sX0_height_0, sX0_height_1, sX0_height_2, sX0_height_3, sX0_height_5, sX0_height_7, sX0_height_10, sX0_height_11, sX0_height_12, sX0_height_15, sX0_height_18, sX0_height_19, sX0_height_20, sX0_height_21, sX0_height_24, sX0_height_27, sX0_height_28, sX0_height_31, sX0_height_34, sX0_height_35, kI_i, kL_l, kV_v, am_rv_s, am_kl_i, am_kl_r, am_kl_n, am_kl_l, true_and, and_true, and_self, true_or, or_true, implies_true, forall_const, not_true_eq_false, not_false_eq_true, false_implies, true_implies, e0, e1, hob, c_isThere h, c_storeys h, nI_1, bz_0, elt]
    rw [← ih]
    have ehg : hgt (fun k => thr M a n (nI k)) (stF M a n) (k + 1) = if thr M a n (nI k) then (if hgt (fun k => thr M a n (nI k)) (stF M a n) k < stF M a n k then stF M a n k else hgt (fun k => thr M a n (nI k)) (stF M a n) k) else hgt (fun k => thr M a n (nI k)) (stF M a n) k := rfl
    rw [ehg]
    cases e : thr M a n (nI k) with
    | false => simp
    | true =>
      by_cases e2 : hgt (fun k => thr M a n (nI k)) (stF M a n) k < stF M a n k <;> simp [e2]
theorem c_height (h : DL M a n) : am_big (d + 4) mX0_height [.ref a] 488 M Q = Q (some (.int (nI (hgt (fun k => thr M a n (nI k)) (stF M a n) 6)))) M := by
  rw [eX0_height]
  simp only [sX0_height_0, sX0_height_1, sX0_height_2, sX0_height_3, sX0_height_5, sX0_height_7, sX0_height_10, sX0_height_11, sX0_height_12, sX0_height_15, sX0_height_18, sX0_height_19, sX0_height_20, sX0_height_21, sX0_height_24, sX0_height_27, sX0_height_28, sX0_height_31, sX0_height_34, sX0_height_35, kI_i, kL_l, kV_v, am_rv_s, am_kl_i, am_kl_r, am_kl_n, am_kl_l, true_and, and_true, and_self, true_or, or_true, implies_true, forall_const, not_true_eq_false, not_false_eq_true, false_implies, true_implies]
  exact l_height h 6 0 rfl
theorem l_partsThere (h : DL M a n) : ∀ (j k : Nat), k + j = 6 → ok (d + 2) mX0_partsThere 488 Q 488 0 0 4 [some (.ref a), some (.int (ptf (fun k => thr M a n (nI k)) k)), some (.int (nI k))] [] M = Q (some (.int (ptf (fun k => thr M a n (nI k)) 6))) M := by
  have hob := ob (a := a) (c := 0) (by have := h.1.1; omega) h.1.2.1
  intro j
  induction j with
  | zero =>
    intro k hk
    have hk : k = 6 := by omega
    subst hk
    have e0 := li_le 6 6 (k := 6) rfl (by omega) (by omega)
    rw [sX0_partsThere_4]
    simp only [sX0_partsThere_0, sX0_partsThere_1, sX0_partsThere_2, sX0_partsThere_3, sX0_partsThere_5, sX0_partsThere_7, sX0_partsThere_10, sX0_partsThere_11, sX0_partsThere_12, sX0_partsThere_13, sX0_partsThere_16, sX0_partsThere_19, sX0_partsThere_20, sX0_partsThere_21, sX0_partsThere_22, sX0_partsThere_25, sX0_partsThere_26, sX0_partsThere_27, sX0_partsThere_28, sX0_partsThere_31, sX0_partsThere_34, sX0_partsThere_35, kI_i, kL_l, kV_v, am_rv_s, am_kl_i, am_kl_r, am_kl_n, am_kl_l, true_and, and_true, and_self, true_or, or_true, implies_true, forall_const, not_true_eq_false, not_false_eq_true, false_implies, true_implies, e0, Nat.le_refl]
  | succ j ih =>
    intro k hk
    have e0 := li_le 6 6 (k := k) rfl (by omega) (by omega)
    have e1 : (6 ≤ k) = False := eq_false (by omega)
    have ih := ih (k + 1) (by omega)
    rw [sX0_partsThere_4]
    simp only [sX0_partsThere_0, sX0_partsThere_1, sX0_partsThere_2, sX0_partsThere_3, sX0_partsThere_5, sX0_partsThere_7, sX0_partsThere_10, sX0_partsThere_11, sX0_partsThere_12, sX0_partsThere_13, sX0_partsThere_16, sX0_partsThere_19, sX0_partsThere_20, sX0_partsThere_21, sX0_partsThere_22, sX0_partsThere_25, sX0_partsThere_26, sX0_partsThere_27, sX0_partsThere_28, sX0_partsThere_31, sX0_partsThere_34, sX0_partsThere_35, kI_i, kL_l, kV_v, am_rv_s, am_kl_i, am_kl_r, am_kl_n, am_kl_l, true_and, and_true, and_self, true_or, or_true, implies_true, forall_const, not_true_eq_false, not_false_eq_true, false_implies, true_implies, e0, e1, hob, c_isThere h, nI_1, bz_0]
    rw [← ih]
    have ept : ptf (fun k => thr M a n (nI k)) (k + 1) = ptf (fun k => thr M a n (nI k)) k ||| (if thr M a n (nI k) then 1 <<< (nI k &&& 31) else 0) := rfl
    rw [ept]
    cases e : thr M a n (nI k) <;> simp
theorem c_partsThere (h : DL M a n) : am_big (d + 3) mX0_partsThere [.ref a] 488 M Q = Q (some (.int (ptf (fun k => thr M a n (nI k)) 6))) M := by
  rw [eX0_partsThere]
  simp only [sX0_partsThere_0, sX0_partsThere_1, sX0_partsThere_2, sX0_partsThere_3, sX0_partsThere_5, sX0_partsThere_7, sX0_partsThere_10, sX0_partsThere_11, sX0_partsThere_12, sX0_partsThere_13, sX0_partsThere_16, sX0_partsThere_19, sX0_partsThere_20, sX0_partsThere_21, sX0_partsThere_22, sX0_partsThere_25, sX0_partsThere_26, sX0_partsThere_27, sX0_partsThere_28, sX0_partsThere_31, sX0_partsThere_34, sX0_partsThere_35, kI_i, kL_l, kV_v, am_rv_s, am_kl_i, am_kl_r, am_kl_n, am_kl_l, true_and, and_true, and_self, true_or, or_true, implies_true, forall_const, not_true_eq_false, not_false_eq_true, false_implies, true_implies]
  exact l_partsThere h 6 0 rfl
abbrev lof (M : am_M) (a n k : Nat) : Bool := decide (und M a n (nI k) = 9)
theorem l_loose {p0 : Int32} (h : DL M a n) : ∀ (j k : Nat), k + j = 6 → ok (d + 3) mX0_looseParts 488 Q 488 0 0 7 [some (.ref a), some (.int (lpf p0 (lof M a n) k)), some (.int (nI k))] [] M = Q (some (.int (lpf p0 (lof M a n) 6))) M := by
  have hob := ob (a := a) (c := 0) (by have := h.1.1; omega) h.1.2.1
  intro j
  induction j with
  | zero =>
    intro k hk
    have hk : k = 6 := by omega
    subst hk
    have e0 := li_le 6 6 (k := 6) rfl (by omega) (by omega)
    rw [sX0_looseParts_7]
    simp only [sX0_looseParts_0, sX0_looseParts_1, sX0_looseParts_4, sX0_looseParts_5, sX0_looseParts_6, sX0_looseParts_8, sX0_looseParts_10, sX0_looseParts_13, sX0_looseParts_14, sX0_looseParts_15, sX0_looseParts_18, sX0_looseParts_20, sX0_looseParts_23, sX0_looseParts_24, sX0_looseParts_25, sX0_looseParts_26, sX0_looseParts_27, sX0_looseParts_28, sX0_looseParts_29, sX0_looseParts_30, sX0_looseParts_31, sX0_looseParts_34, sX0_looseParts_37, sX0_looseParts_38, kI_i, kL_l, kV_v, am_rv_s, am_kl_i, am_kl_r, am_kl_n, am_kl_l, true_and, and_true, and_self, true_or, or_true, implies_true, forall_const, not_true_eq_false, not_false_eq_true, false_implies, true_implies, e0, Nat.le_refl]
  | succ j ih =>
    intro k hk
    have e0 := li_le 6 6 (k := k) rfl (by omega) (by omega)
    have e1 : (6 ≤ k) = False := eq_false (by omega)
    have ih := ih (k + 1) (by omega)
    rw [sX0_looseParts_7]
    simp only [sX0_looseParts_0, sX0_looseParts_1, sX0_looseParts_4, sX0_looseParts_5, sX0_looseParts_6, sX0_looseParts_8, sX0_looseParts_10, sX0_looseParts_13, sX0_looseParts_14, sX0_looseParts_15, sX0_looseParts_18, sX0_looseParts_20, sX0_looseParts_23, sX0_looseParts_24, sX0_looseParts_25, sX0_looseParts_26, sX0_looseParts_27, sX0_looseParts_28, sX0_looseParts_29, sX0_looseParts_30, sX0_looseParts_31, sX0_looseParts_34, sX0_looseParts_37, sX0_looseParts_38, kI_i, kL_l, kV_v, am_rv_s, am_kl_i, am_kl_r, am_kl_n, am_kl_l, true_and, and_true, and_self, true_or, or_true, implies_true, forall_const, not_true_eq_false, not_false_eq_true, false_implies, true_implies, e0, e1, hob, c_under h, nI_1]
    rw [← ih]
    have elp : lpf p0 (lof M a n) (k + 1) = if lof M a n k then lpf p0 (lof M a n) k else lpf p0 (lof M a n) k &&& ((1 <<< (nI k &&& 31)) ^^^ (-1)) := rfl
    rw [elp]
    by_cases e : und M a n (nI k) = 9 <;> simp [e]
theorem c_loose (h : DL M a n) : am_big (d + 4) mX0_looseParts [.ref a] 488 M Q = Q (some (.int (lpf (ptf (fun k => thr M a n (nI k)) 6) (lof M a n) 6))) M := by
  have hob := ob (a := a) (c := 0) (by have := h.1.1; omega) h.1.2.1
  rw [eX0_looseParts]
  simp only [sX0_looseParts_0, sX0_looseParts_1, sX0_looseParts_4, sX0_looseParts_5, sX0_looseParts_6, sX0_looseParts_8, sX0_looseParts_10, sX0_looseParts_13, sX0_looseParts_14, sX0_looseParts_15, sX0_looseParts_18, sX0_looseParts_20, sX0_looseParts_23, sX0_looseParts_24, sX0_looseParts_25, sX0_looseParts_26, sX0_looseParts_27, sX0_looseParts_28, sX0_looseParts_29, sX0_looseParts_30, sX0_looseParts_31, sX0_looseParts_34, sX0_looseParts_37, sX0_looseParts_38, kI_i, kL_l, kV_v, am_rv_s, am_kl_i, am_kl_r, am_kl_n, am_kl_l, true_and, and_true, and_self, true_or, or_true, implies_true, forall_const, not_true_eq_false, not_false_eq_true, false_implies, true_implies, hob, c_partsThere h]
  exact l_loose h 6 0 rfl
theorem l_ctb {e : Nat} (h : DL M a n) (he : e < n) : ∀ (j i : Nat), i + j = n → e < i → ok (d + 1) mX0_canBeTakenBack 488 Q 488 0 0 14 [some (.ref a), some (.int (nI e)), some (.int (nI i))] [] M = Q (some (.int (bz (alf (fun t => !lnn (gI M (a + 1)) (gI M (a + 2)) (gI M (a + 3)) t e) i j)))) M := by
  have hn := h.2.2
  have hob := ob (a := a) (c := 0) (by have := h.1.1; omega) h.1.2.1
  intro j
  induction j with
  | zero =>
    intro i hi hei
    have hi : i = n := by omega
    subst hi
    rw [sX0_canBeTakenBack_14]
    simp only [sX0_canBeTakenBack_0, sX0_canBeTakenBack_1, sX0_canBeTakenBack_2, sX0_canBeTakenBack_5, sX0_canBeTakenBack_8, sX0_canBeTakenBack_9, sX0_canBeTakenBack_10, sX0_canBeTakenBack_11, sX0_canBeTakenBack_12, sX0_canBeTakenBack_13, sX0_canBeTakenBack_15, sX0_canBeTakenBack_16, sX0_canBeTakenBack_19, sX0_canBeTakenBack_22, sX0_canBeTakenBack_23, sX0_canBeTakenBack_24, sX0_canBeTakenBack_25, sX0_canBeTakenBack_28, sX0_canBeTakenBack_31, sX0_canBeTakenBack_32, sX0_canBeTakenBack_33, sX0_canBeTakenBack_36, sX0_canBeTakenBack_39, sX0_canBeTakenBack_40, kI_i, kL_l, kV_v, am_rv_s, am_kl_i, am_kl_r, am_kl_n, am_kl_l, true_and, and_true, and_self, true_or, or_true, implies_true, forall_const, not_true_eq_false, not_false_eq_true, false_implies, true_implies, hob, h.2.1, Int32.le_refl, alf, bz_t, or_true]
  | succ j ih =>
    intro i hi hei
    have ih := ih (i + 1) (by omega) (by omega)
    have e0 : (nI n ≤ nI i) = False := by rw [nI_leE (by omega) (by omega)]; exact eq_false (by omega)
    have hd : decide (e < i) = true := decide_eq_true hei
    rw [sX0_canBeTakenBack_14]
    simp only [sX0_canBeTakenBack_0, sX0_canBeTakenBack_1, sX0_canBeTakenBack_2, sX0_canBeTakenBack_5, sX0_canBeTakenBack_8, sX0_canBeTakenBack_9, sX0_canBeTakenBack_10, sX0_canBeTakenBack_11, sX0_canBeTakenBack_12, sX0_canBeTakenBack_13, sX0_canBeTakenBack_15, sX0_canBeTakenBack_16, sX0_canBeTakenBack_19, sX0_canBeTakenBack_22, sX0_canBeTakenBack_23, sX0_canBeTakenBack_24, sX0_canBeTakenBack_25, sX0_canBeTakenBack_28, sX0_canBeTakenBack_31, sX0_canBeTakenBack_32, sX0_canBeTakenBack_33, sX0_canBeTakenBack_36, sX0_canBeTakenBack_39, sX0_canBeTakenBack_40, kI_i, kL_l, kV_v, am_rv_s, am_kl_i, am_kl_r, am_kl_n, am_kl_l, true_and, and_true, and_self, true_or, or_true, implies_true, forall_const, not_true_eq_false, not_false_eq_true, false_implies, true_implies, hob, h.2.1, e0, c_leansOn h.1 (by omega : i < 16) (by omega : e < 16), nI_1, ih, bz_0, hd, Bool.true_and, alf]
    cases e2 : lnn (gI M (a + 1)) (gI M (a + 2)) (gI M (a + 3)) i e <;> simp [bz_f]
theorem c_ctb {e : Nat} (h : DL M a n) (he : e < n) : am_big (d + 2) mX0_canBeTakenBack [.ref a, .int (nI e)] 488 M Q = Q (some (.int (bz (alf (fun t => !lnn (gI M (a + 1)) (gI M (a + 2)) (gI M (a + 3)) t e) (e + 1) (n - (e + 1)))))) M := by
  have hn := h.2.2
  have hob := ob (a := a) (c := 0) (by have := h.1.1; omega) h.1.2.1
  have hh : decide (0 ≤ nI e ∧ nI e < gI M a 3) = true := decide_eq_true ⟨nI_pos' (by omega), by rw [h.2.1]; exact nI_lt he (by omega)⟩
  rw [eX0_canBeTakenBack]
  simp only [sX0_canBeTakenBack_0, sX0_canBeTakenBack_1, sX0_canBeTakenBack_2, sX0_canBeTakenBack_5, sX0_canBeTakenBack_8, sX0_canBeTakenBack_9, sX0_canBeTakenBack_10, sX0_canBeTakenBack_11, sX0_canBeTakenBack_12, sX0_canBeTakenBack_13, sX0_canBeTakenBack_15, sX0_canBeTakenBack_16, sX0_canBeTakenBack_19, sX0_canBeTakenBack_22, sX0_canBeTakenBack_23, sX0_canBeTakenBack_24, sX0_canBeTakenBack_25, sX0_canBeTakenBack_28, sX0_canBeTakenBack_31, sX0_canBeTakenBack_32, sX0_canBeTakenBack_33, sX0_canBeTakenBack_36, sX0_canBeTakenBack_39, sX0_canBeTakenBack_40, kI_i, kL_l, kV_v, am_rv_s, am_kl_i, am_kl_r, am_kl_n, am_kl_l, true_and, and_true, and_self, true_or, or_true, implies_true, forall_const, not_true_eq_false, not_false_eq_true, false_implies, true_implies, hob, c_has h.1, hh, bz_t, i01, nI_1]
  exact l_ctb h he _ _ (by omega) (by omega)
theorem c_ctb0 {x : Int32} (h : DL M a n) (hx : ¬ (0 ≤ x ∧ x < gI M a 3)) : am_big (d + 2) mX0_canBeTakenBack [.ref a, .int x] 488 M Q = Q (some (.int 0)) M := by
  have hob := ob (a := a) (c := 0) (by have := h.1.1; omega) h.1.2.1
  have hh : decide (0 ≤ x ∧ x < gI M a 3) = false := decide_eq_false hx
  rw [eX0_canBeTakenBack]
  simp only [sX0_canBeTakenBack_0, sX0_canBeTakenBack_1, sX0_canBeTakenBack_2, sX0_canBeTakenBack_5, sX0_canBeTakenBack_8, sX0_canBeTakenBack_9, sX0_canBeTakenBack_10, sX0_canBeTakenBack_11, sX0_canBeTakenBack_12, sX0_canBeTakenBack_13, sX0_canBeTakenBack_15, sX0_canBeTakenBack_16, sX0_canBeTakenBack_19, sX0_canBeTakenBack_22, sX0_canBeTakenBack_23, sX0_canBeTakenBack_24, sX0_canBeTakenBack_25, sX0_canBeTakenBack_28, sX0_canBeTakenBack_31, sX0_canBeTakenBack_32, sX0_canBeTakenBack_33, sX0_canBeTakenBack_36, sX0_canBeTakenBack_39, sX0_canBeTakenBack_40, kI_i, kL_l, kV_v, am_rv_s, am_kl_i, am_kl_r, am_kl_n, am_kl_l, true_and, and_true, and_self, true_or, or_true, implies_true, forall_const, not_true_eq_false, not_false_eq_true, false_implies, true_implies, hob, c_has h.1, hh, bz_f]
end
