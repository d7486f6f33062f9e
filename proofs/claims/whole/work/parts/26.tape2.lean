/-- the rest of a number: the place, how many digits there were, its value so far; -1: one digit too many -/
def rn (T : Nat → Int32) (mo : Nat) : Nat → Nat → Nat → Int32 → Int32 × Nat
  | 0, p, _, v => (v, p)
  | j + 1, p, g, v => if dgt (T p) = true then (if mo ≤ g then (-1, p) else rn T mo j (p + 1) (g + 1) (v * 10 + T p - 48)) else (v, p)
/-- a number from a place on: its value (-1: none, or too long), the place behind -/
def rnum (T : Nat → Int32) (len mo p : Nat) : Int32 × Nat := if dgt (sg T len (skp T len p)) = true then rn T mo (len - (skp T len p + 1)) (skp T len p + 1) 1 (sg T len (skp T len p) - 48) else (-1, skp T len p)
theorem rn_le (T : Nat → Int32) (mo : Nat) : ∀ (j p g : Nat) (v : Int32), p ≤ (rn T mo j p g v).2 ∧ (rn T mo j p g v).2 ≤ p + j
  | 0, p, g, v => by unfold rn; simp
  | j + 1, p, g, v => by
    unfold rn
    have := rn_le T mo j (p + 1) (g + 1) (v * 10 + T p - 48)
    split
    · split
      · simp
      · omega
    · simp
theorem sg_dg {T : Nat → Int32} {len q : Nat} (h : dgt (sg T len q) = true) : q < len := by
  unfold sg at h
  split at h
  · assumption
  · exact absurd h (by decide)
section
variable {d : Nat} {M : am_M} {Q : am_Q} {len p : Nat}
theorem l_readNumber {mo : Nat} (hmo : mo ≤ 16) (hr : gR M 1 0 = some 2) (hl : gI M 1 1 = nI len) (hn : len ≤ 240) : ∀ (j p g : Nat) (v : Int32), p + j = len → g ≤ 300 → ok (d + 1) mX9_readNumber 488 Q 488 0 0 14 [some (.ref 1), some (.int (nI mo)), some (.int v), some (.int (nI g))] [] (sI M 1 2 (nI p)) = Q (some (.int (rn (gI M 2) mo j p g v).1)) (sI M 1 2 (nI (rn (gI M 2) mo j p g v).2)) := by
  have hob := ob (a := 1) (c := 9) (by omega) rfl
  have hl2 : ∀ v, gI (sI M 1 2 v) 1 1 = nI len := fun v => by rw [gI_j (by omega), hl]
  have ht : ∀ v k, gI (sI M 1 2 v) 2 k = gI M 2 k := fun v k => gI_o (by omega)
  have hp : ∀ v, gI (sI M 1 2 v) 1 2 = v := fun v => gI_e
  intro j
  induction j with
  | zero =>
    intro p g v hp0 hg
    have e : p = len := by omega
    subst e
    rw [sX9_readNumber_14]
    simp only [sX9_readNumber_0, sX9_readNumber_1, sX9_readNumber_4, sX9_readNumber_5, sX9_readNumber_6, sX9_readNumber_7, sX9_readNumber_10, sX9_readNumber_11, sX9_readNumber_12, sX9_readNumber_13, sX9_readNumber_15, sX9_readNumber_18, sX9_readNumber_19, sX9_readNumber_22, sX9_readNumber_25, sX9_readNumber_26, sX9_readNumber_29, sX9_readNumber_30, sX9_readNumber_33, sX9_readNumber_34, sX9_readNumber_37, sX9_readNumber_40, sX9_readNumber_41, sX9_readNumber_42, sX9_readNumber_45, sX9_readNumber_46, sX9_readNumber_47, sX9_readNumber_48, sX9_readNumber_50, sX9_readNumber_51, sX9_readNumber_52, sX9_readNumber_55, sX9_readNumber_56, sX9_readNumber_59, sX9_readNumber_60, sX9_readNumber_61, sX9_readNumber_63, sX9_readNumber_64, sX9_readNumber_65, sX9_readNumber_66, sX9_readNumber_67, sX9_readNumber_70, sX9_readNumber_71, sX9_readNumber_72, sX9_readNumber_75, sX9_readNumber_78, sX9_readNumber_81, sX9_readNumber_82, kI_i, kL_l, kV_v, am_rv_s, am_kl_i, am_kl_r, am_kl_n, am_kl_l, true_and, and_true, and_self, true_or, or_true, implies_true, forall_const, not_true_eq_false, not_false_eq_true, false_implies, true_implies, hob, hl2, hp, Int32.le_refl, rn]
  | succ j ih =>
    intro p g v hp0 hg
    have e0 : (nI len ≤ nI p) = False := by rw [nI_leE (by omega) (by omega)]; exact eq_false (by omega)
    have c0 : (nI p).toNatClampNeg = p := nI_clamp (by omega)
    have i1 := fun M => in1 (M := M) (a := 2) (k := p) (L := 240) (by omega) rfl (by omega) (by omega)
    have eg : (nI g < nI mo) = (g < mo) := nI_ltE (by omega) (by omega)
    rw [sX9_readNumber_14]
    simp only [sX9_readNumber_0, sX9_readNumber_1, sX9_readNumber_4, sX9_readNumber_5, sX9_readNumber_6, sX9_readNumber_7, sX9_readNumber_10, sX9_readNumber_11, sX9_readNumber_12, sX9_readNumber_13, sX9_readNumber_15, sX9_readNumber_18, sX9_readNumber_19, sX9_readNumber_22, sX9_readNumber_25, sX9_readNumber_26, sX9_readNumber_29, sX9_readNumber_30, sX9_readNumber_33, sX9_readNumber_34, sX9_readNumber_37, sX9_readNumber_40, sX9_readNumber_41, sX9_readNumber_42, sX9_readNumber_45, sX9_readNumber_46, sX9_readNumber_47, sX9_readNumber_48, sX9_readNumber_50, sX9_readNumber_51, sX9_readNumber_52, sX9_readNumber_55, sX9_readNumber_56, sX9_readNumber_59, sX9_readNumber_60, sX9_readNumber_61, sX9_readNumber_63, sX9_readNumber_64, sX9_readNumber_65, sX9_readNumber_66, sX9_readNumber_67, sX9_readNumber_70, sX9_readNumber_71, sX9_readNumber_72, sX9_readNumber_75, sX9_readNumber_78, sX9_readNumber_81, sX9_readNumber_82, kI_i, kL_l, kV_v, am_rv_s, am_kl_i, am_kl_r, am_kl_n, am_kl_l, true_and, and_true, and_self, true_or, or_true, implies_true, forall_const, not_true_eq_false, not_false_eq_true, false_implies, true_implies, hob, hl2, hp, hr, gR_sI, ht, e0, c0, i1, nI_1, sI_sI, c_isDigit, bz_0, eg]
    cases q : dgt (gI M 2 p) with
    | false => simp [rn, q]
    | true =>
      by_cases q2 : g < mo
      · have ih := ih (p + 1) (g + 1) (v * 10 + gI M 2 p - 48) (by omega) (by omega)
        have q3 : ¬ mo ≤ g := by omega
        simp only [q2, not_true_eq_false, false_implies, true_implies, true_and, and_true, ih]
        simp [rn, q, q3]
      · have q3 : mo ≤ g := by omega
        simp [rn, q, q2, q3]
theorem c_readNumber {mo : Nat} (hmo : mo ≤ 16) (h : TP M len p) : am_big (d + 3) mX9_readNumber [.ref 1, .int (nI mo)] 488 M Q = Q (some (.int (rnum (gI M 2) len mo p).1)) (sI M 1 2 (nI (rnum (gI M 2) len mo p).2)) := by
  have hob := ob (a := 1) (c := 9) (by omega) rfl
  have hl := l_readNumber (d := d + 1) (Q := Q) (M := M) hmo h.1 h.2.1 h.2.2.2.1
  rw [eX9_readNumber]
  simp only [sX9_readNumber_0, sX9_readNumber_1, sX9_readNumber_4, sX9_readNumber_5, sX9_readNumber_6, sX9_readNumber_7, sX9_readNumber_10, sX9_readNumber_11, sX9_readNumber_12, sX9_readNumber_13, sX9_readNumber_15, sX9_readNumber_18, sX9_readNumber_19, sX9_readNumber_22, sX9_readNumber_25, sX9_readNumber_26, sX9_readNumber_29, sX9_readNumber_30, sX9_readNumber_33, sX9_readNumber_34, sX9_readNumber_37, sX9_readNumber_40, sX9_readNumber_41, sX9_readNumber_42, sX9_readNumber_45, sX9_readNumber_46, sX9_readNumber_47, sX9_readNumber_48, sX9_readNumber_50, sX9_readNumber_51, sX9_readNumber_52, sX9_readNumber_55, sX9_readNumber_56, sX9_readNumber_59, sX9_readNumber_60, sX9_readNumber_61, sX9_readNumber_63, sX9_readNumber_64, sX9_readNumber_65, sX9_readNumber_66, sX9_readNumber_67, sX9_readNumber_70, sX9_readNumber_71, sX9_readNumber_72, sX9_readNumber_75, sX9_readNumber_78, sX9_readNumber_81, sX9_readNumber_82, kI_i, kL_l, kV_v, am_rv_s, am_kl_i, am_kl_r, am_kl_n, am_kl_l, true_and, and_true, and_self, true_or, or_true, implies_true, forall_const, not_true_eq_false, not_false_eq_true, false_implies, true_implies, hob, c_readDigit h]
  unfold rnum
  by_cases q : dgt (sg (gI M 2) len (skp (gI M 2) len p)) = true
  · have hlt := sg_dg q
    have hl := hl (len - (skp (gI M 2) len p + 1)) (skp (gI M 2) len p + 1) 1 (sg (gI M 2) len (skp (gI M 2) len p) - 48) (by omega) (by omega)
    have hm : (sg (gI M 2) len (skp (gI M 2) len p) - 48 = -1) = False := by
      refine eq_false (fun e => ?_)
      have e2 : sg (gI M 2) len (skp (gI M 2) len p) = 47 := by
        have : sg (gI M 2) len (skp (gI M 2) len p) = sg (gI M 2) len (skp (gI M 2) len p) - 48 + 48 := by rw [Int32.sub_add_cancel]
        rw [this, e]; decide
      rw [e2] at q
      exact absurd q (by decide)
    simp only [q, if_true, hm, not_false_eq_true, not_true_eq_false, false_implies, true_implies, and_true, true_and]
    exact hl
  · simp [q]
theorem rnum_le (h : TP M len p) (mo : Nat) : (rnum (gI M 2) len mo p).2 ≤ len := by
  have h1 := skp_le h
  unfold rnum
  split
  · rename_i q
    have := sg_dg q
    have := rn_le (gI M 2) mo (len - (skp (gI M 2) len p + 1)) (skp (gI M 2) len p + 1) 1 (sg (gI M 2) len (skp (gI M 2) len p) - 48)
    omega
  · exact h1
/-- a number within bounds: as rnum, but one out of bounds is -1, at its last digit -/
def rbd (T : Nat → Int32) (len p : Nat) (lo hi : Int32) : Int32 × Nat := if (rnum T len 2 p).1 = -1 then (-1, (rnum T len 2 p).2) else if (rnum T len 2 p).1 < lo ∨ hi < (rnum T len 2 p).1 then (-1, (rnum T len 2 p).2 - 1) else rnum T len 2 p
theorem c_readBounded {lo hi : Int32} (h : TP M len p) : am_big (d + 4) mX9_readBounded [.ref 1, .int lo, .int hi] 488 M Q = Q (some (.int (rbd (gI M 2) len p lo hi).1)) (sI M 1 2 (nI (rbd (gI M 2) len p lo hi).2)) := by
  have hob := ob (a := 1) (c := 9) (by omega) rfl
  have hp : ∀ v, gI (sI M 1 2 v) 1 2 = v := fun v => gI_e
  have c2 : ∀ Q, am_big (d + 3) mX9_readNumber [.ref 1, .int 2] 488 M Q = Q (some (.int (rnum (gI M 2) len 2 p).1)) (sI M 1 2 (nI (rnum (gI M 2) len 2 p).2)) := fun Q => c_readNumber (Q := Q) (mo := 2) (by omega) h
  rw [eX9_readBounded]
  simp only [sX9_readBounded_0, sX9_readBounded_1, sX9_readBounded_2, sX9_readBounded_5, sX9_readBounded_6, sX9_readBounded_7, sX9_readBounded_8, sX9_readBounded_11, sX9_readBounded_12, sX9_readBounded_13, sX9_readBounded_16, sX9_readBounded_17, sX9_readBounded_18, sX9_readBounded_21, sX9_readBounded_22, sX9_readBounded_23, sX9_readBounded_26, sX9_readBounded_27, sX9_readBounded_28, sX9_readBounded_31, sX9_readBounded_32, sX9_readBounded_33, sX9_readBounded_34, kI_i, kL_l, kV_v, am_rv_s, am_kl_i, am_kl_r, am_kl_n, am_kl_l, true_and, and_true, and_self, true_or, or_true, implies_true, forall_const, not_true_eq_false, not_false_eq_true, false_implies, true_implies, hob, c2, hp, sI_sI]
  unfold rbd
  by_cases q : (rnum (gI M 2) len 2 p).1 = -1
  · simp [q]
  · have hpos : 0 < (rnum (gI M 2) len 2 p).2 := by
      unfold rnum at q ⊢
      split
      · have := rn_le (gI M 2) 2 (len - (skp (gI M 2) len p + 1)) (skp (gI M 2) len p + 1) 1 (sg (gI M 2) len (skp (gI M 2) len p) - 48)
        omega
      · rename_i q2; rw [if_neg q2] at q; exact absurd rfl q
    rw [nI_sub1 hpos]
    by_cases q1 : (rnum (gI M 2) len 2 p).1 < lo
    · simp [q, q1]
    · by_cases q2 : hi < (rnum (gI M 2) len 2 p).1
      · have : ¬ (rnum (gI M 2) len 2 p).1 ≤ hi := fun z => absurd q2 (Int32.not_lt.mpr z)
        simp [q, q1, q2, this]
      · have : (rnum (gI M 2) len 2 p).1 ≤ hi := Int32.not_lt.mp q2
        simp [q, q1, q2, this]
end
