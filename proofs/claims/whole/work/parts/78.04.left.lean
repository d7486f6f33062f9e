/-! what is left where all is taken back that can be -/
abbrev CL (l : List Dd) (K : Int32) (s k : Nat) : Prop := knw K (sf l k) = true ∧ ab l l.length k &&& s = 0
def stp (l : List Dd) (K : Int32) (s k : Nat) : Nat := if s.testBit k = true ∧ CL l K s k then s ^^^ 2 ^ k else s
def dn (l : List Dd) (K : Int32) : Nat → Nat → Nat
  | s, 0 => s
  | s, k + 1 => dn l K (stp l K s k) k
def lfN (l : List Dd) (K : Int32) : Nat := dn l K (2 ^ l.length - 1) l.length
def psF (l : List Dd) (K : Int32) (s : Nat) : Nat → Nat
  | 0 => s
  | k + 1 => stp l K (psF l K s k) k
section
variable {l : List Dd} {K : Int32} {s t k n : Nat}
theorem stp_o {i : Nat} (h : i ≠ k) : (stp l K s k).testBit i = s.testBit i := by
  unfold stp
  split
  · rw [Nat.testBit_xor, Nat.testBit_two_pow, decide_eq_false (by omega), Bool.xor_false]
  · rfl
theorem stp_k : (stp l K s k).testBit k = true ↔ s.testBit k = true ∧ ¬ CL l K s k := by
  unfold stp
  by_cases c : s.testBit k = true ∧ CL l K s k
  · rw [if_pos c, Nat.testBit_xor, Nat.testBit_two_pow, decide_eq_true rfl, c.1]
    simp [c.2]
  · rw [if_neg c]
    constructor
    · intro h; exact ⟨h, fun z => c ⟨h, z⟩⟩
    · intro h; exact h.1
theorem ab_bit (e i : Nat) : ∀ n, (ab l n e).testBit i = (decide (i < n) && (bl l i).testBit e)
  | 0 => by simp [ab]
  | n + 1 => by
    show (ab l n e ||| (if (bl l n).testBit e = true then 2 ^ n else 0)).testBit i = _
    rw [Nat.testBit_or, ab_bit e i n]
    by_cases z : i = n
    · subst z
      cases c : (bl l i).testBit e <;> simp
    · have e1 : decide (i < n + 1) = decide (i < n) := decide_eq_decide.mpr (by omega)
      rw [e1]
      cases c : (bl l n).testBit e
      · simp
      · have zz : decide (n = i) = false := decide_eq_false (by omega)
        rw [if_pos rfl, Nat.testBit_two_pow, zz, Bool.or_false]
theorem ab_and (h : ∀ b, k < b → s.testBit b = t.testBit b) : ab l n k &&& s = ab l n k &&& t := by
  apply Nat.eq_of_testBit_eq
  intro i
  rw [Nat.testBit_and, Nat.testBit_and, ab_bit]
  by_cases z : k < i
  · rw [h i z]
  · rw [bl_hi (by omega)]; simp
theorem CL_c (h : ∀ b, k < b → s.testBit b = t.testBit b) : CL l K s k ↔ CL l K t k := by
  show (_ ∧ _) ↔ (_ ∧ _)
  rw [ab_and h]
theorem sub_le {a b : Nat} (h : ∀ i, a.testBit i = true → b.testBit i = true) : a ≤ b := by
  have e : a = a &&& b := Nat.eq_of_testBit_eq (fun i => by
    rw [Nat.testBit_and]
    cases z : a.testBit i
    · rfl
    · rw [h i z]; rfl)
  rw [e]
  exact Nat.and_le_right
theorem stp_le : stp l K s k ≤ s := sub_le (fun i h => by
  by_cases z : i = k
  · subst z; exact (stp_k.mp h).1
  · rwa [stp_o z] at h)
/-- what is left, one way down: each bit by the bits over it -/
theorem dn_char : ∀ k s, k ≤ l.length → (∀ i, i < k → s.testBit i = true) → (∀ i, k ≤ i → i < l.length → (s.testBit i = true ↔ ¬ CL l K s i)) → (∀ i, l.length ≤ i → s.testBit i = false) → (∀ i, i < l.length → ((dn l K s k).testBit i = true ↔ ¬ CL l K (dn l K s k) i)) ∧ ∀ i, l.length ≤ i → (dn l K s k).testBit i = false
  | 0, s, _, _, h2, h3 => ⟨fun i hi => h2 i (by omega) hi, h3⟩
  | k + 1, s, hk, h1, h2, h3 => by
    show (∀ i, i < l.length → ((dn l K (stp l K s k) k).testBit i = true ↔ ¬ CL l K (dn l K (stp l K s k) k) i)) ∧ ∀ i, l.length ≤ i → (dn l K (stp l K s k) k).testBit i = false
    refine dn_char k (stp l K s k) (by omega) (fun i hi => ?_) (fun i hi hl => ?_) (fun i hi => ?_)
    · rw [stp_o (by omega)]; exact h1 i (by omega)
    · have cc : CL l K (stp l K s k) i ↔ CL l K s i := CL_c (fun b hb => stp_o (by omega))
      rw [cc]
      by_cases z : i = k
      · subst z
        rw [stp_k]
        exact ⟨fun h => h.2, fun h => ⟨h1 i (by omega), h⟩⟩
      · rw [stp_o z]; exact h2 i (by omega) hl
    · rw [stp_o (by omega)]; exact h3 i hi
theorem lf_char : (∀ i, i < l.length → ((lfN l K).testBit i = true ↔ ¬ CL l K (lfN l K) i)) ∧ ∀ i, l.length ≤ i → (lfN l K).testBit i = false := by
  refine dn_char l.length _ (Nat.le_refl _) (fun i hi => ?_) (fun i h1 h2 => absurd h2 (by omega)) (fun i hi => ?_)
  · rw [Nat.testBit_two_pow_sub_one]; exact decide_eq_true hi
  · rw [Nat.testBit_two_pow_sub_one]; exact decide_eq_false (by omega)
def Sup (l : List Dd) (K : Int32) (s : Nat) : Prop := (∀ i, (lfN l K).testBit i = true → s.testBit i = true) ∧ ∀ i, l.length ≤ i → s.testBit i = false
theorem Sup_0 : Sup l K (2 ^ l.length - 1) := by
  refine ⟨fun i h => ?_, fun i hi => ?_⟩
  · rw [Nat.testBit_two_pow_sub_one]
    by_cases z : i < l.length
    · exact decide_eq_true z
    · rw [lf_char.2 i (by omega)] at h; cases h
  · rw [Nat.testBit_two_pow_sub_one]; exact decide_eq_false (by omega)
theorem CL_sub (h : Sup l K s) (c : CL l K s k) : CL l K (lfN l K) k := by
  refine ⟨c.1, ?_⟩
  have c2 := c.2
  apply Nat.eq_of_testBit_eq
  intro i
  have c3 : (ab l l.length k &&& s).testBit i = (0 : Nat).testBit i := by rw [c2]
  rw [Nat.testBit_and, Nat.zero_testBit] at c3
  rw [Nat.testBit_and, Nat.zero_testBit]
  cases z : (lfN l K).testBit i
  · simp
  · rw [h.1 i z, Bool.and_true] at c3
    rw [c3]; rfl
theorem Sup_s (h : Sup l K s) (hk : k < l.length) : Sup l K (stp l K s k) := by
  refine ⟨fun i hi => ?_, fun i hi => ?_⟩
  · by_cases z : i = k
    · subst z
      rw [stp_k]
      exact ⟨h.1 i hi, fun c => (lf_char.1 i hk).mp hi (CL_sub h c)⟩
    · rw [stp_o z]; exact h.1 i hi
  · rw [stp_o (by omega)]; exact h.2 i hi
theorem Sup_p (h : Sup l K s) : ∀ k, k ≤ l.length → Sup l K (psF l K s k)
  | 0, _ => h
  | k + 1, hk => Sup_s (Sup_p h k (by omega)) (by omega)
theorem ps_le : ∀ k, psF l K s k ≤ s
  | 0 => Nat.le_refl _
  | k + 1 => Nat.le_trans stp_le (ps_le k)
theorem ps_anti {j : Nat} : ∀ k, j ≤ k → psF l K s k ≤ psF l K s j
  | 0, h => by rw [show j = 0 by omega]; exact Nat.le_refl _
  | k + 1, h => by
    by_cases z : j = k + 1
    · rw [z]; exact Nat.le_refl _
    · exact Nat.le_trans stp_le (ps_anti k (by omega))
theorem ps_st (h : psF l K s l.length = s) (hk : k < l.length) : stp l K s k = s := by
  have a : ∀ j, j ≤ l.length → psF l K s j = s := fun j hj => Nat.le_antisymm (ps_le j) (by have := ps_anti (l := l) (K := K) (s := s) (j := j) l.length hj; omega)
  have b := a (k + 1) (by omega)
  have c : psF l K s (k + 1) = stp l K (psF l K s k) k := rfl
  rw [c, a k (by omega)] at b
  exact b
theorem lf_eq (h : Sup l K s) (hs : psF l K s l.length = s) : s = lfN l K := by
  have key : ∀ j i, l.length - i = j → s.testBit i = (lfN l K).testBit i := by
    intro j
    induction j using Nat.strongRecOn with
    | ind j ih =>
      intro i hj
      by_cases z : i < l.length
      · have cc : CL l K s i ↔ CL l K (lfN l K) i := CL_c (fun b hb => by
          by_cases zb : b < l.length
          · exact ih (l.length - b) (by omega) b rfl
          · rw [h.2 b (by omega), lf_char.2 b (by omega)])
        rw [Bool.eq_iff_iff, lf_char.1 i z, ← cc]
        have st := ps_st hs z
        constructor
        · intro a c
          have := (stp_k (l := l) (K := K) (s := s) (k := i)).mp (by rw [st]; exact a)
          exact this.2 c
        · intro c
          cases zz : s.testBit i
          · have := (lf_char (l := l) (K := K)).1 i z
            have q := this.mpr (fun w => c (cc.mpr w))
            have := h.1 i q
            rw [zz] at this; cases this
          · rfl
      · rw [h.2 i (by omega), lf_char.2 i (by omega)]
  exact Nat.eq_of_testBit_eq (fun i => key _ i rfl)
theorem Sup_lt (h : Sup l K s) : s < 2 ^ l.length := Nat.lt_pow_two_of_testBit s (fun i hi => h.2 i hi)
end
theorem nI_xor (a b : Nat) : nI a ^^^ nI b = nI (a ^^^ b) := by
  unfold nI
  rw [← Int32.toBitVec_inj]
  apply BitVec.eq_of_toNat_eq
  rw [Int32.toBitVec_xor, BitVec.toNat_xor]
  show (BitVec.ofNat 32 a).toNat ^^^ (BitVec.ofNat 32 b).toNat = (BitVec.ofNat 32 (a ^^^ b)).toNat
  rw [BitVec.toNat_ofNat, BitVec.toNat_ofNat, BitVec.toNat_ofNat, Nat.xor_mod_two_pow]
theorem and_not (x y : Int32) : x &&& (y ^^^ -1) = x ^^^ (x &&& y) := by
  have e : (-1 : Int32).toBitVec = BitVec.allOnes 32 := by decide
  rw [← Int32.toBitVec_inj, Int32.toBitVec_and, Int32.toBitVec_xor, Int32.toBitVec_xor, Int32.toBitVec_and, e, BitVec.xor_allOnes]
  apply BitVec.eq_of_getLsbD_eq
  intro i hi
  rw [BitVec.getLsbD_and, BitVec.getLsbD_not, BitVec.getLsbD_xor, BitVec.getLsbD_and]
  cases x.toBitVec.getLsbD i <;> cases y.toBitVec.getLsbD i <;> simp [hi]
theorem nI_drop {s k : Nat} (h : s.testBit k = true) : nI s &&& (nI (2 ^ k) ^^^ -1) = nI (s ^^^ 2 ^ k) := by
  have e : s &&& 2 ^ k = 2 ^ k := Nat.eq_of_testBit_eq (fun i => by
    rw [Nat.testBit_and, Nat.testBit_two_pow]
    by_cases z : k = i
    · subst z; rw [h]; rfl
    · rw [decide_eq_false z, Bool.and_false])
  rw [and_not, nI_and, nI_xor, e]
