theorem nI_or (a b : Nat) : nI a ||| nI b = nI (a ||| b) := by
  unfold nI
  rw [← Int32.toBitVec_inj]
  apply BitVec.eq_of_toNat_eq
  rw [Int32.toBitVec_or, BitVec.toNat_or]
  show (BitVec.ofNat 32 a).toNat ||| (BitVec.ofNat 32 b).toNat = (BitVec.ofNat 32 (a ||| b)).toNat
  rw [BitVec.toNat_ofNat, BitVec.toNat_ofNat, BitVec.toNat_ofNat, Nat.or_mod_two_pow]
theorem nI_and (a b : Nat) : nI a &&& nI b = nI (a &&& b) := by
  unfold nI
  rw [← Int32.toBitVec_inj]
  apply BitVec.eq_of_toNat_eq
  rw [Int32.toBitVec_and, BitVec.toNat_and]
  show (BitVec.ofNat 32 a).toNat &&& (BitVec.ofNat 32 b).toNat = (BitVec.ofNat 32 (a &&& b)).toNat
  rw [BitVec.toNat_ofNat, BitVec.toNat_ofNat, BitVec.toNat_ofNat, Nat.and_mod_two_pow]
theorem shl1 : ∀ k, k < 16 → (1 : Int32) <<< (nI k &&& 31) = nI (2 ^ k) := by decide +kernel
def upN (f : Nat → Int32) (x : Int32) : Nat → Nat
  | 0 => 0
  | k + 1 => upN f x k ||| (if f k = x then 2 ^ k else 0)
def ovN (s p x : Nat → Int32) (pa : Int32) : Nat → Nat
  | 0 => 0
  | n + 1 => if s n = 3 ∧ x n = pa then ovN s p x pa n ||| 2 ^ (p n).toNatClampNeg else ovN s p x pa n
theorem ovN_s {s p x : Nat → Int32} {pa : Int32} {n : Nat} : ovN s p x pa (n + 1) = if s n = 3 ∧ x n = pa then ovN s p x pa n ||| 2 ^ (p n).toNatClampNeg else ovN s p x pa n := rfl
theorem upN_bit (f : Nat → Int32) (x : Int32) : ∀ k i, (upN f x k).testBit i = (decide (i < k) && decide (f i = x))
  | 0, i => by simp [upN]
  | k + 1, i => by
    unfold upN
    rw [Nat.testBit_or, upN_bit f x k i]
    by_cases h : f k = x
    · rw [if_pos h, Nat.testBit_two_pow]
      by_cases e : k = i
      · subst e; simp [h]
      · have : (i < k + 1) = (i < k) := propext (by omega)
        simp [e, this]
    · rw [if_neg h]
      by_cases e : k = i
      · subst e; simp [h]
      · have : (i < k + 1) = (i < k) := propext (by omega)
        simp [this]
section
variable {M N : am_M} {l : List Dd} {d : Nat} {Q : am_Q}
theorem ovr_N (hw : WFl l) (pa : Int32) : ∀ n, n ≤ l.length → ovr (sf l) (pf l) (xf l) pa n = nI (ovN (sf l) (pf l) (xf l) pa n)
  | 0, _ => rfl
  | n + 1, hn => by
    rw [ovr_s, ovr_N hw pa n (by omega), ovN_s]
    by_cases c : sf l n = 3 ∧ xf l n = pa
    · obtain ⟨s, p, x, e1, e2, e3, b1, b2, b3, b4⟩ := WF_at hw (k := n) (by omega)
      rw [if_pos c, if_pos c, e2, nI_clamp (by omega), shl1 p (by omega), nI_or]
    · rw [if_neg c, if_neg c]
theorem ovN_bit (hw : WFl l) (pa : Int32) : ∀ n, n ≤ l.length → ∀ i, (ovN (sf l) (pf l) (xf l) pa n).testBit i = true ↔ ∃ k, k < n ∧ sf l k = 3 ∧ xf l k = pa ∧ pf l k = nI i ∧ i < 6
  | 0, _, i => by simp [ovN]
  | n + 1, hn, i => by
    have ih := ovN_bit hw pa n (by omega) i
    obtain ⟨s, p, x, e1, e2, e3, b1, b2, b3, b4⟩ := WF_at hw (k := n) (by omega)
    unfold ovN
    by_cases c : sf l n = 3 ∧ xf l n = pa
    · rw [if_pos c, Nat.testBit_or, Bool.or_eq_true, ih, e2, nI_clamp (by omega), Nat.testBit_two_pow, decide_eq_true_eq]
      constructor
      · rintro (⟨k, a1, a2⟩ | a)
        · exact ⟨k, by omega, a2⟩
        · subst a; exact ⟨n, by omega, c.1, c.2, e2, b2⟩
      · rintro ⟨k, a1, a2, a3, a4, a5⟩
        by_cases z : k = n
        · subst z
          rw [e2, nI_eqE (by omega) (by omega)] at a4
          exact Or.inr a4
        · exact Or.inl ⟨k, by omega, a2, a3, a4, a5⟩
    · rw [if_neg c, ih]
      constructor
      · rintro ⟨k, a1, a2⟩; exact ⟨k, by omega, a2⟩
      · rintro ⟨k, a1, a2, a3, a4, a5⟩
        by_cases z : k = n
        · subst z; exact absurd ⟨a2, a3⟩ c
        · exact ⟨k, by omega, a2, a3, a4, a5⟩
/-- where a part is joined, -1: nowhere -/
theorem on_un (hw : WFl l) (q : Nat) : onF l l.length q = if unL l (nI q) = 9 then -1 else unL l (nI q) := by
  unfold onF unL lx
  cases e : lst (sf l) (pf l) 3 (nI q) l.length with
  | none => simp
  | some k =>
    obtain ⟨a1, a2, a3⟩ := lst_lt e
    obtain ⟨s, p, x, e1, e2, e3, b1, b2, b3, b4⟩ := WF_at hw a1
    show xf l k = if xf l k = 9 then -1 else xf l k
    rw [if_neg]
    rw [e3]
    exact n9_ne (by have := b4 (s3_of b1 (e1.symm.trans a2)); omega)
theorem up_ov (hw : WFl l) {pp : Nat} (hp : pp < 9) : nI (upN (onF l l.length) (nI pp) 6) = ovL l (nI pp) := by
  unfold ovL
  rw [ovr_N hw _ _ (Nat.le_refl _)]
  congr 1
  apply Nat.eq_of_testBit_eq
  intro i
  rw [upN_bit, Bool.eq_iff_iff, ovN_bit hw _ _ (Nat.le_refl _), Bool.and_eq_true, decide_eq_true_eq, decide_eq_true_eq]
  constructor
  · rintro ⟨h1, h2⟩
    rw [on_un hw] at h2
    rcases un_cases hw (nI i) with ⟨e, _⟩ | ⟨k, a1, a2, a3, a4⟩
    · rw [if_pos e] at h2
      have := nI_m1 (k := pp) (by omega)
      rw [← h2] at this
      simp at this
    · rw [if_neg] at h2
      · exact ⟨k, a1, a2, a4.symm.trans h2, a3, h1⟩
      · intro z; rw [if_pos z] at h2
        have := nI_m1 (k := pp) (by omega)
        rw [← h2] at this
        simp at this
  · rintro ⟨k, a1, a2, a3, a4, a5⟩
    refine ⟨a5, ?_⟩
    rw [on_un hw]
    rcases un_cases hw (nI i) with ⟨e, z⟩ | ⟨k', b1, b2, b3, b4⟩
    · exact absurd a4 (z k a1 a2)
    · have := hw.2.1 k k' a1 b1 a2 b2 (a4.trans b3.symm)
      subst this
      rw [b4, a3, if_neg (n9_ne hp)]
theorem m_upon0 {x : Int32} (hW : WR N) : am_big (d + 1) mX11_upon0 [.ref 457, .int x] 488 N Q = Q (some (.int (nI (upN (gI N 471) x 6)))) N := by
  have n6 : (6 : Int32) = nI 6 := rfl
  rw [eX11_upon0]
  simp (disch := (first | assumption | omega | decide)) only [sX11_upon0_0, sX11_upon0_1, sX11_upon0_2, sX11_upon0_3, sX11_upon0_5, sX11_upon0_7, sX11_upon0_10, sX11_upon0_11, sX11_upon0_12, sX11_upon0_15, sX11_upon0_16, sX11_upon0_17, sX11_upon0_18, sX11_upon0_21, sX11_upon0_22, sX11_upon0_23, sX11_upon0_24, sX11_upon0_27, sX11_upon0_28, sX11_upon0_29, sX11_upon0_30, sX11_upon0_33, sX11_upon0_36, sX11_upon0_37, kI_i, kL_l, kV_v, am_rv_s, am_kl_i, am_kl_r, am_kl_n, am_kl_l, true_and, and_true, and_self, true_or, or_true, implies_true, forall_const, not_true_eq_false, not_false_eq_true, false_implies, true_implies, if_true, if_false, Bool.true_eq_false, Bool.false_eq_true]
  refine (loop0 (P := fun k => ok d mX11_upon0 488 Q 488 0 0 4 [some (.ref 457), some (.int x), some (.int (nI (upN (gI N 471) x k))), some (.int (nI k))] [] N) (n := 6) (fun k hk => ?_)).trans ?_
  · have e0 : (nI 6 ≤ nI k) = False := by rw [nI_leE (by omega) (by omega)]; exact eq_false (by omega)
    have es := shl1 k (by omega)
    show ok d mX11_upon0 488 Q 488 0 0 4 _ [] N = ok d mX11_upon0 488 Q 488 0 0 4 [some (.ref 457), some (.int x), some (.int (nI (upN (gI N 471) x k ||| (if gI N 471 k = x then 2 ^ k else 0)))), some (.int (nI (k + 1)))] [] N
    rw [sX11_upon0_4]
    by_cases c : gI N 471 k = x
    · simp (disch := (first | assumption | omega | decide)) only [sX11_upon0_0, sX11_upon0_1, sX11_upon0_2, sX11_upon0_3, sX11_upon0_5, sX11_upon0_7, sX11_upon0_10, sX11_upon0_11, sX11_upon0_12, sX11_upon0_15, sX11_upon0_16, sX11_upon0_17, sX11_upon0_18, sX11_upon0_21, sX11_upon0_22, sX11_upon0_23, sX11_upon0_24, sX11_upon0_27, sX11_upon0_28, sX11_upon0_29, sX11_upon0_30, sX11_upon0_33, sX11_upon0_36, sX11_upon0_37, kI_i, kL_l, kV_v, am_rv_s, am_kl_i, am_kl_r, am_kl_n, am_kl_l, true_and, and_true, and_self, true_or, or_true, implies_true, forall_const, not_true_eq_false, not_false_eq_true, false_implies, true_implies, if_true, if_false, Bool.true_eq_false, Bool.false_eq_true, n6, e0, ob_457, r_457_35, in_471, nI_clamp, c, es, nI_or, nI_1]
    · simp (disch := (first | assumption | omega | decide)) only [sX11_upon0_0, sX11_upon0_1, sX11_upon0_2, sX11_upon0_3, sX11_upon0_5, sX11_upon0_7, sX11_upon0_10, sX11_upon0_11, sX11_upon0_12, sX11_upon0_15, sX11_upon0_16, sX11_upon0_17, sX11_upon0_18, sX11_upon0_21, sX11_upon0_22, sX11_upon0_23, sX11_upon0_24, sX11_upon0_27, sX11_upon0_28, sX11_upon0_29, sX11_upon0_30, sX11_upon0_33, sX11_upon0_36, sX11_upon0_37, kI_i, kL_l, kV_v, am_rv_s, am_kl_i, am_kl_r, am_kl_n, am_kl_l, true_and, and_true, and_self, true_or, or_true, implies_true, forall_const, not_true_eq_false, not_false_eq_true, false_implies, true_implies, if_true, if_false, Bool.true_eq_false, Bool.false_eq_true, n6, e0, ob_457, r_457_35, in_471, nI_clamp, c, nI_1, Nat.or_zero, Int32.or_zero]
  · have e6 : (nI 6 ≤ nI 6) = True := eq_true (by decide)
    show ok d mX11_upon0 488 Q 488 0 0 4 _ [] N = _
    rw [sX11_upon0_4]
    simp (disch := (first | assumption | omega | decide)) only [sX11_upon0_0, sX11_upon0_1, sX11_upon0_2, sX11_upon0_3, sX11_upon0_5, sX11_upon0_7, sX11_upon0_10, sX11_upon0_11, sX11_upon0_12, sX11_upon0_15, sX11_upon0_16, sX11_upon0_17, sX11_upon0_18, sX11_upon0_21, sX11_upon0_22, sX11_upon0_23, sX11_upon0_24, sX11_upon0_27, sX11_upon0_28, sX11_upon0_29, sX11_upon0_30, sX11_upon0_33, sX11_upon0_36, sX11_upon0_37, kI_i, kL_l, kV_v, am_rv_s, am_kl_i, am_kl_r, am_kl_n, am_kl_l, true_and, and_true, and_self, true_or, or_true, implies_true, forall_const, not_true_eq_false, not_false_eq_true, false_implies, true_implies, if_true, if_false, Bool.true_eq_false, Bool.false_eq_true, n6, e6]
theorem sO2_iff {u : Int32 → Int32} {lo : Int32} (h9 : u 9 = 9) (hlo : ¬ lo = 9) : ∀ (k : Nat) (q : Int32), sO2 u lo k q = true ↔ ∃ j, j ≤ k ∧ itu u j q = lo
  | 0, q => by
    unfold sO2
    rw [decide_eq_true_eq]
    exact ⟨fun h => ⟨0, by omega, h⟩, fun ⟨j, h1, h2⟩ => by have : j = 0 := by omega
                                                            subst this; exact h2⟩
  | k + 1, q => by
    unfold sO2
    by_cases c9 : q = 9
    · rw [if_pos c9]
      constructor
      · intro h; cases h
      · rintro ⟨j, h1, h2⟩
        rw [c9, itu_9 h9] at h2
        exact absurd h2.symm hlo
    · rw [if_neg c9]
      by_cases c : q = lo
      · rw [if_pos c]; exact ⟨fun _ => ⟨0, by omega, c⟩, fun _ => rfl⟩
      · rw [if_neg c, sO2_iff h9 hlo k (u q)]
        constructor
        · rintro ⟨j, h1, h2⟩; exact ⟨j + 1, by omega, h2⟩
        · rintro ⟨j, h1, h2⟩
          cases j with
          | zero => exact absurd h2 c
          | succ j => exact ⟨j, by omega, h2⟩
theorem sO2_sOn {u : Int32 → Int32} {lo q : Int32} (h9 : u 9 = 9) (hlo : ¬ lo = 9) (hq : ¬ q = lo) (k : Nat) : sO2 u lo k q = sOn u lo k q := by
  rw [Bool.eq_iff_iff, sO2_iff h9 hlo]
  constructor
  · rintro ⟨j, h1, h2⟩
    cases j with
    | zero => exact absurd h2 hq
    | succ j => exact sOn_of h9 hlo k q (j + 1) (by omega) h1 h2
  · intro h
    obtain ⟨j, h1, h2, h3⟩ := sOn_O2 h9 hlo k q h
    exact ⟨j, h2, h3⟩
def m9 (q : Int32) : Int32 := if q = 9 then -1 else q
theorem m_stand {pp i : Nat} (hW : WR N) (hw : WFl l) (hN : ∀ q, q < 6 → gI N 471 q = onF l l.length q) (hp : pp < 6) (hi : i < 6) : am_big (d + 1) mX11_doesStandOn [.ref 457, .int (nI i), .int (nI pp)] 488 N Q = Q (some (.int (bz (sO2 (unL l) (nI pp) 6 (nI i))))) N := by
  have h9 := un_9 hw
  have hp9 : ¬ nI pp = 9 := n9_ne (by omega)
  have hpm := nI_m1 (k := pp) (by omega)
  rw [eX11_doesStandOn]
  simp (disch := (first | assumption | omega | decide)) only [sX11_doesStandOn_0, sX11_doesStandOn_1, sX11_doesStandOn_3, sX11_doesStandOn_4, sX11_doesStandOn_7, sX11_doesStandOn_8, sX11_doesStandOn_9, sX11_doesStandOn_12, sX11_doesStandOn_13, sX11_doesStandOn_16, sX11_doesStandOn_17, sX11_doesStandOn_18, sX11_doesStandOn_19, sX11_doesStandOn_22, sX11_doesStandOn_23, sX11_doesStandOn_24, sX11_doesStandOn_27, sX11_doesStandOn_28, sX11_doesStandOn_31, sX11_doesStandOn_32, kI_i, kL_l, kV_v, am_rv_s, am_kl_i, am_kl_r, am_kl_n, am_kl_l, true_and, and_true, and_self, true_or, or_true, implies_true, forall_const, not_true_eq_false, not_false_eq_true, false_implies, true_implies, if_true, if_false, Bool.true_eq_false, Bool.false_eq_true]
  have key : ∀ (k : Nat) (q : Int32), (q = 9 ∨ ∃ j, j < 6 ∧ q = nI j) → itu (unL l) k q = 9 → ok d mX11_doesStandOn 488 Q 488 0 0 2 [some (.ref 457), some (.int (nI i)), some (.int (nI pp)), some (.int (m9 q))] [] N = Q (some (.int (bz (sO2 (unL l) (nI pp) k q)))) N := by
    have nine : ∀ (k : Nat), ok d mX11_doesStandOn 488 Q 488 0 0 2 [some (.ref 457), some (.int (nI i)), some (.int (nI pp)), some (.int (m9 9))] [] N = Q (some (.int 0)) N := fun k => by
      have e : m9 9 = -1 := by decide
      have z : ((-1 : Int32) = nI pp) = False := eq_false (fun z => by rw [← z] at hpm; simp at hpm)
      rw [e, sX11_doesStandOn_2]
      simp (disch := (first | assumption | omega | decide)) only [sX11_doesStandOn_0, sX11_doesStandOn_1, sX11_doesStandOn_3, sX11_doesStandOn_4, sX11_doesStandOn_7, sX11_doesStandOn_8, sX11_doesStandOn_9, sX11_doesStandOn_12, sX11_doesStandOn_13, sX11_doesStandOn_16, sX11_doesStandOn_17, sX11_doesStandOn_18, sX11_doesStandOn_19, sX11_doesStandOn_22, sX11_doesStandOn_23, sX11_doesStandOn_24, sX11_doesStandOn_27, sX11_doesStandOn_28, sX11_doesStandOn_31, sX11_doesStandOn_32, kI_i, kL_l, kV_v, am_rv_s, am_kl_i, am_kl_r, am_kl_n, am_kl_l, true_and, and_true, and_self, true_or, or_true, implies_true, forall_const, not_true_eq_false, not_false_eq_true, false_implies, true_implies, if_true, if_false, Bool.true_eq_false, Bool.false_eq_true, z]
    intro k
    induction k with
    | zero =>
      intro q _ h
      have h : q = 9 := h
      subst h
      rw [nine 0]
      unfold sO2
      have : decide ((9 : Int32) = nI pp) = false := decide_eq_false (fun z => hp9 z.symm)
      rw [this]; rfl
    | succ k ih =>
      intro q hq h
      unfold sO2
      by_cases c9 : q = 9
      · subst c9; rw [nine 0]; rfl
      · rw [if_neg c9]
        obtain ⟨j, hj, ej⟩ := hq.resolve_left c9
        have em : m9 q = nI j := by unfold m9; rw [if_neg c9]; exact ej
        have ejm := nI_m1 (k := j) (by omega)
        by_cases c : q = nI pp
        · rw [if_pos c, em, sX11_doesStandOn_2]
          have ejp : (nI j = nI pp) = True := eq_true (ej.symm.trans c)
          simp (disch := (first | assumption | omega | decide)) only [sX11_doesStandOn_0, sX11_doesStandOn_1, sX11_doesStandOn_3, sX11_doesStandOn_4, sX11_doesStandOn_7, sX11_doesStandOn_8, sX11_doesStandOn_9, sX11_doesStandOn_12, sX11_doesStandOn_13, sX11_doesStandOn_16, sX11_doesStandOn_17, sX11_doesStandOn_18, sX11_doesStandOn_19, sX11_doesStandOn_22, sX11_doesStandOn_23, sX11_doesStandOn_24, sX11_doesStandOn_27, sX11_doesStandOn_28, sX11_doesStandOn_31, sX11_doesStandOn_32, kI_i, kL_l, kV_v, am_rv_s, am_kl_i, am_kl_r, am_kl_n, am_kl_l, true_and, and_true, and_self, true_or, or_true, implies_true, forall_const, not_true_eq_false, not_false_eq_true, false_implies, true_implies, if_true, if_false, Bool.true_eq_false, Bool.false_eq_true, ejm, ejp, bz_t]
        · rw [if_neg c]
          have ejp : (nI j = nI pp) = False := eq_false (fun z => c (ej.trans z))
          have on := hN j hj
          rw [on_un hw, ← ej] at on
          have hnext : unL l q = 9 ∨ ∃ j, j < 6 ∧ unL l q = nI j := by
            by_cases z : unL l q = 9
            · exact Or.inl z
            · obtain ⟨_, j', _, h2, _, h3⟩ := un_part hw z
              exact Or.inr ⟨j', h2, h3⟩
          have ih := ih (unL l q) hnext h
          have on' : gI N 471 j = m9 (unL l q) := on
          rw [em, ← ih, sX11_doesStandOn_2]
          simp (disch := (first | assumption | omega | decide)) only [sX11_doesStandOn_0, sX11_doesStandOn_1, sX11_doesStandOn_3, sX11_doesStandOn_4, sX11_doesStandOn_7, sX11_doesStandOn_8, sX11_doesStandOn_9, sX11_doesStandOn_12, sX11_doesStandOn_13, sX11_doesStandOn_16, sX11_doesStandOn_17, sX11_doesStandOn_18, sX11_doesStandOn_19, sX11_doesStandOn_22, sX11_doesStandOn_23, sX11_doesStandOn_24, sX11_doesStandOn_27, sX11_doesStandOn_28, sX11_doesStandOn_31, sX11_doesStandOn_32, kI_i, kL_l, kV_v, am_rv_s, am_kl_i, am_kl_r, am_kl_n, am_kl_l, true_and, and_true, and_self, true_or, or_true, implies_true, forall_const, not_true_eq_false, not_false_eq_true, false_implies, true_implies, if_true, if_false, Bool.true_eq_false, Bool.false_eq_true, ejm, ejp, ob_457, r_457_35, in_471, nI_clamp, on']
  have e : m9 (nI i) = nI i := by unfold m9; rw [if_neg (n9_ne (by omega))]
  have := key 6 (nI i) (Or.inr ⟨i, hi, rfl⟩) (un_6 hw _ ⟨i, hi, rfl⟩)
  rw [e] at this
  exact this
end
