/-! a making's text -/
def srt (x : Int32) : Int32 := if x = 112 then 0 else if x = 116 then 1 else if x = 99 then 2 else if x = 106 then 3 else if x = 104 then 4 else -1
def tlx (so : Int32) : Bool := decide (so = 0 ∨ so = 2 ∨ so = 3)
/-- a deed from a place on: whether it is one, sort, part, x, the place behind (or of the fault) -/
def pdd (T : Nat → Int32) (len p : Nat) : Bool × Int32 × Int32 × Int32 × Nat :=
  let q := skp T len p
  let so := srt (sg T len q)
  if so = -1 then (false, 0, 0, 0, q) else
  let q1 := skp T len (q + 1)
  if dgt (sg T len q1) = false then (false, 0, 0, 0, q1) else
  if tlx so = false then (true, so, sg T len q1 - 48, 0, q1 + 1) else
  let q2 := skp T len (q1 + 1)
  if dgt (sg T len q2) = false then (false, 0, 0, 0, q2) else (true, so, sg T len q1 - 48, sg T len q2 - 48, q2 + 1)
theorem dg_m1 {x : Int32} (h : dgt x = true) : (x - 48 = -1) = False := by
  refine eq_false (fun e => ?_)
  have e2 : x = 47 := by
    have : x = x - 48 + 48 := by rw [Int32.sub_add_cancel]
    rw [this, e]; decide
  rw [e2] at h
  exact absurd h (by decide)
theorem srt_lt {T : Nat → Int32} {len q : Nat} (h : ¬ srt (sg T len q) = -1) : q < len := by
  unfold sg at h
  split at h
  · assumption
  · exact absurd (by decide) h
section
variable {d : Nat} {M : am_M} {Q : am_Q} {len p a n : Nat}
theorem DLs_at {v : Int32} (h : DLs M a) : DLs (sI M 1 2 v) a := h
theorem DL_at {v : Int32} (h : DL M a n) (ha : a ≠ 1) : DL (sI M 1 2 v) a n := ⟨h.1, by rw [gI_o ha]; exact h.2.1, h.2.2⟩
theorem c_sortOf {x : Int32} : am_big (d + 1) mX0_sortOf [.int x] 488 M Q = Q (some (.int (srt x))) M := by
  rw [eX0_sortOf]
  simp only [sX0_sortOf_0, sX0_sortOf_1, sX0_sortOf_52, sX0_sortOf_53, sX0_sortOf_54, sX0_sortOf_55, sX0_sortOf_56, sX0_sortOf_57, sX0_sortOf_58, sX0_sortOf_59, sX0_sortOf_60, sX0_sortOf_61, sX0_sortOf_62, sX0_sortOf_63, kI_i, kL_l, kV_v, am_rv_s, am_kl_i, am_kl_r, am_kl_n, am_kl_l, true_and, and_true, and_self, true_or, or_true, implies_true, forall_const, not_true_eq_false, not_false_eq_true, false_implies, true_implies, if_true, if_false, Bool.true_eq_false, Bool.false_eq_true]
  unfold srt
  by_cases h1 : x = 112
  · simp [h1]
  · by_cases h2 : x = 116
    · simp [h2]
    · by_cases h3 : x = 99
      · simp [h3]
      · by_cases h4 : x = 106
        · simp [h4]
        · by_cases h5 : x = 104
          · simp [h5]
          · simp [h1, h2, h3, h4, h5]
theorem c_readDeed (h : TP M len p) (hD : DL M a n) (ha : a ≠ 1) (hn : n < 16) : am_big (d + 3) mX0_readDeed [.ref a, .ref 1] 488 M Q = if (pdd (gI M 2) len p).1 = true then Q (some (.int 1)) (addM (sI M 1 2 (nI (pdd (gI M 2) len p).2.2.2.2)) a n (pdd (gI M 2) len p).2.1 (pdd (gI M 2) len p).2.2.1 (pdd (gI M 2) len p).2.2.2.1) else Q (some (.int 0)) (sI M 1 2 (nI (pdd (gI M 2) len p).2.2.2.2)) := by
  have hob1 := ob (a := 1) (c := 9) (by omega) rfl
  have hob := ob (a := a) (c := 0) (by have := hD.1.1; omega) hD.1.2.1
  have hp : ∀ v, gI (sI M 1 2 v) 1 2 = v := fun v => gI_e
  have hs := skp_le h
  rw [eX0_readDeed]
  simp only [sX0_readDeed_0, sX0_readDeed_1, sX0_readDeed_4, sX0_readDeed_7, sX0_readDeed_8, sX0_readDeed_9, sX0_readDeed_10, sX0_readDeed_13, sX0_readDeed_14, sX0_readDeed_15, sX0_readDeed_16, sX0_readDeed_17, sX0_readDeed_20, sX0_readDeed_21, sX0_readDeed_22, sX0_readDeed_25, sX0_readDeed_26, sX0_readDeed_29, sX0_readDeed_30, sX0_readDeed_31, sX0_readDeed_32, sX0_readDeed_35, sX0_readDeed_36, sX0_readDeed_37, sX0_readDeed_38, sX0_readDeed_41, sX0_readDeed_44, sX0_readDeed_45, sX0_readDeed_48, sX0_readDeed_51, sX0_readDeed_52, sX0_readDeed_54, sX0_readDeed_56, sX0_readDeed_57, sX0_readDeed_60, sX0_readDeed_61, sX0_readDeed_62, sX0_readDeed_63, sX0_readDeed_64, sX0_readDeed_65, sX0_readDeed_67, sX0_readDeed_70, sX0_readDeed_71, kI_i, kL_l, kV_v, am_rv_s, am_kl_i, am_kl_r, am_kl_n, am_kl_l, true_and, and_true, and_self, true_or, or_true, implies_true, forall_const, not_true_eq_false, not_false_eq_true, false_implies, true_implies, if_true, if_false, Bool.true_eq_false, Bool.false_eq_true, hob, hob1, c_peek h, c_sortOf, hp, nI_1, sI_sI]
  unfold pdd
  simp only
  by_cases q : srt (sg (gI M 2) len (skp (gI M 2) len p)) = -1
  · simp [q]
  · have hlt := srt_lt q
    have h2 : TP (sI M 1 2 (nI (skp (gI M 2) len p + 1))) len (skp (gI M 2) len p + 1) := TP_at h (by omega)
    have hs2 := skp_le h2
    simp only [kI_i, kL_l, kV_v, am_rv_s, am_kl_i, am_kl_r, am_kl_n, am_kl_l, true_and, and_true, and_self, true_or, or_true, implies_true, forall_const, not_true_eq_false, not_false_eq_true, false_implies, true_implies, if_true, if_false, Bool.true_eq_false, Bool.false_eq_true, q, c_readDigit h2, T_at, sI_sI]
    rw [T_at] at hs2
    cases q1 : dgt (sg (gI M 2) len (skp (gI M 2) len (skp (gI M 2) len p + 1))) with
    | false => simp only [kI_i, kL_l, kV_v, am_rv_s, am_kl_i, am_kl_r, am_kl_n, am_kl_l, true_and, and_true, and_self, true_or, or_true, implies_true, forall_const, not_true_eq_false, not_false_eq_true, false_implies, true_implies, if_true, if_false, Bool.true_eq_false, Bool.false_eq_true]
    | true =>
      have hlt1 := sg_dg q1
      have h3 : TP (sI M 1 2 (nI (skp (gI M 2) len (skp (gI M 2) len p + 1) + 1))) len (skp (gI M 2) len (skp (gI M 2) len p + 1) + 1) := TP_at h (by omega)
      have e1 : decide (srt (sg (gI M 2) len (skp (gI M 2) len p)) = 0 ∨ srt (sg (gI M 2) len (skp (gI M 2) len p)) = 2 ∨ srt (sg (gI M 2) len (skp (gI M 2) len p)) = 3) = tlx (srt (sg (gI M 2) len (skp (gI M 2) len p))) := rfl
      have z : ((0 : Int32) = -1) = False := eq_false (by decide)
      have ca : ∀ v so pa x (K : am_Q), am_big (d + 2) mX0_add [.ref a, .int so, .int pa, .int x] 488 (sI M 1 2 v) K = K none (addM (sI M 1 2 v) a n so pa x) := fun v so pa x K => c_add (DL_at hD ha) hn
      simp only [kI_i, kL_l, kV_v, am_rv_s, am_kl_i, am_kl_r, am_kl_n, am_kl_l, true_and, and_true, and_self, true_or, or_true, implies_true, forall_const, not_true_eq_false, not_false_eq_true, false_implies, true_implies, if_true, if_false, Bool.true_eq_false, Bool.false_eq_true, dg_m1 q1, c_tellsX, bz_0, e1, c_readDigit h3, T_at, sI_sI, z, ca]
      cases q2 : tlx (srt (sg (gI M 2) len (skp (gI M 2) len p))) with
      | false => simp only [kI_i, kL_l, kV_v, am_rv_s, am_kl_i, am_kl_r, am_kl_n, am_kl_l, true_and, and_true, and_self, true_or, or_true, implies_true, forall_const, not_true_eq_false, not_false_eq_true, false_implies, true_implies, if_true, if_false, Bool.true_eq_false, Bool.false_eq_true]
      | true =>
        cases q3 : dgt (sg (gI M 2) len (skp (gI M 2) len (skp (gI M 2) len (skp (gI M 2) len p + 1) + 1))) with
        | false => simp only [kI_i, kL_l, kV_v, am_rv_s, am_kl_i, am_kl_r, am_kl_n, am_kl_l, true_and, and_true, and_self, true_or, or_true, implies_true, forall_const, not_true_eq_false, not_false_eq_true, false_implies, true_implies, if_true, if_false, Bool.true_eq_false, Bool.false_eq_true]
        | true => simp only [kI_i, kL_l, kV_v, am_rv_s, am_kl_i, am_kl_r, am_kl_n, am_kl_l, true_and, and_true, and_self, true_or, or_true, implies_true, forall_const, not_true_eq_false, not_false_eq_true, false_implies, true_implies, if_true, if_false, Bool.true_eq_false, Bool.false_eq_true, dg_m1 q3, ca]
end
