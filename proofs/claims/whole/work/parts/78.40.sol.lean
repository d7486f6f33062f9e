/-! sorts that the latest deed of a set can have; the places that a deed can have -/
def soN (l : List Dd) (t : Nat) : Nat := (sf l t).toNatClampNeg
def slN (l : List Dd) (s : Nat) : Nat → Nat
  | 0 => if s = 0 then 32 else 0
  | k + 1 => slN l s k ||| (if gcl l s k = true then 2 ^ soN l k else 0)
section
variable {l : List Dd} {s t b : Nat}
theorem soN_e (hw : WFl l) (ht : t < l.length) : sf l t = nI (soN l t) ∧ soN l t < 5 := by
  obtain ⟨so, _, _, q1, _, _, b1, _⟩ := WF_at hw ht
  unfold soN
  rw [q1, nI_clamp (by omega)]
  exact ⟨rfl, b1⟩
theorem slN_bit : ∀ n, (slN l s n).testBit b = true ↔ (b = 5 ∧ s = 0) ∨ ∃ t, t < n ∧ gcl l s t = true ∧ soN l t = b
  | 0 => by
    unfold slN
    by_cases z : s = 0
    · rw [if_pos z, show (32 : Nat) = 2 ^ 5 from rfl, Nat.testBit_two_pow, decide_eq_true_eq]
      constructor
      · intro h; exact Or.inl ⟨h.symm, z⟩
      · rintro (⟨h, _⟩ | ⟨t, h, _⟩)
        · exact h.symm
        · omega
    · rw [if_neg z, Nat.zero_testBit]
      constructor
      · intro h; cases h
      · rintro (⟨_, h⟩ | ⟨t, h, _⟩)
        · exact absurd h z
        · omega
  | n + 1 => by
    unfold slN
    rw [Nat.testBit_or, Bool.or_eq_true, slN_bit n]
    cases c : gcl l s n with
    | true =>
      rw [if_pos rfl, Nat.testBit_two_pow, decide_eq_true_eq]
      constructor
      · rintro ((h | ⟨t, h1, h2⟩) | h)
        · exact Or.inl h
        · exact Or.inr ⟨t, by omega, h2⟩
        · exact Or.inr ⟨n, by omega, c, h⟩
      · rintro (h | ⟨t, h1, h2, h3⟩)
        · exact Or.inl (Or.inl h)
        · by_cases q : t = n
          · subst q; exact Or.inr h3
          · exact Or.inl (Or.inr ⟨t, by omega, h2, h3⟩)
    | false =>
      rw [if_neg (by decide), Nat.zero_testBit]
      constructor
      · rintro ((h | ⟨t, h1, h2⟩) | h)
        · exact Or.inl h
        · exact Or.inr ⟨t, by omega, h2⟩
        · cases h
      · rintro (h | ⟨t, h1, h2, h3⟩)
        · exact Or.inl (Or.inl h)
        · by_cases q : t = n
          · subst q; rw [c] at h2; cases h2
          · exact Or.inl (Or.inr ⟨t, by omega, h2, h3⟩)
theorem slN_lt (hw : WFl l) : ∀ n, n ≤ l.length → slN l s n < 64
  | 0, _ => by unfold slN; split <;> omega
  | n + 1, hn => by
    have ih := slN_lt hw n (by omega)
    have h5 := (soN_e hw (show n < l.length by omega)).2
    have p5 : 2 ^ soN l n ≤ 2 ^ 4 := Nat.pow_le_pow_right (by omega) (by omega)
    unfold slN
    refine Nat.or_lt_two_pow (n := 6) ih ?_
    split <;> omega
theorem pc_mono {a c : Nat} (h : ∀ i, a.testBit i = true → c.testBit i = true) : ∀ k, pcN k a ≤ pcN k c
  | 0 => Nat.le_refl _
  | k + 1 => by
    have ih := pc_mono h k
    unfold pcN
    cases z : a.testBit k with
    | true => rw [h k z]; simpa using ih
    | false => simp only [Bool.false_eq_true, if_false]; split <;> omega
theorem pc_dis {a c : Nat} (h : ∀ i, a.testBit i = true → c.testBit i = false) : ∀ k, pcN k (a ||| c) = pcN k a + pcN k c
  | 0 => rfl
  | k + 1 => by
    have ih := pc_dis h k
    unfold pcN
    rw [Nat.testBit_or, ih]
    cases z : a.testBit k with
    | true => rw [h k z]; simp; omega
    | false => simp; omega
theorem pc_z (h : pcN 12 s = 0) (hs : s < 4096) : s = 0 := by
  by_cases z : s = 0
  · exact z
  · obtain ⟨i, hi⟩ := Nat.exists_testBit_of_ne_zero z
    have i12 : i < 12 := by
      by_cases q : i < 12
      · exact q
      · have := Nat.testBit_lt_two_pow (x := s) (i := i) (Nat.lt_of_lt_of_le hs (by have := Nat.pow_le_pow_right (n := 2) (by omega) (show 12 ≤ i by omega); omega))
        rw [this] at hi; cases hi
    have := pc_x hi 12
    rw [if_pos (by omega)] at this
    omega
/-- nothing of a set needs a deed that it doesn't have -/
theorem ab_out (h : WH l s) (hb : s.testBit t = false) : ab l l.length t &&& s = 0 := by
  apply Nat.eq_of_testBit_eq
  intro i
  rw [Nat.testBit_and, Nat.zero_testBit, ab_bit]
  cases z : s.testBit i with
  | false => simp
  | true =>
    by_cases q : i < l.length
    · cases w : (bl l i).testBit t with
      | false => simp
      | true =>
        have := sub_iff.mp (h i q z) t w
        rw [hb] at this; cases this
    · rw [decide_eq_false q]; rfl
theorem pl_ok (h : WH l s) (hs : s < 2 ^ l.length) (hl : l.length ≤ 12) (ht : t < l.length) (c : cf (bl l) s t = true) : pcN 12 (bl l t) ≤ pcN 12 s ∧ pcN 12 s + pcN 12 (ab l l.length t) + 1 ≤ l.length := by
  obtain ⟨c1, c2⟩ := cf_f c
  refine ⟨pc_mono (sub_iff.mp c2) 12, ?_⟩
  have ao := ab_out h c1
  have e1 := pc_or c1 12
  rw [if_pos (by omega)] at e1
  have dis : ∀ i, (s ||| 2 ^ t).testBit i = true → (ab l l.length t).testBit i = false := fun i hi => by
    rw [or_bit, Bool.or_eq_true, decide_eq_true_eq] at hi
    rcases hi with hi | hi
    · have := congrArg (fun x => x.testBit i) ao
      simp only [Nat.testBit_and, Nat.zero_testBit, hi, Bool.and_true] at this
      exact this
    · subst hi
      rw [ab_bit, bl_hi (Nat.le_refl _), Bool.and_false]
  have e2 := pc_dis dis 12
  have o := or_gt hs ht c1
  have lt : (s ||| 2 ^ t) ||| ab l l.length t < 2 ^ l.length := Nat.or_lt_two_pow o.2 ab_lt
  have := pc_bd (s := (s ||| 2 ^ t) ||| ab l l.length t) (n := l.length) (fun i hi => Nat.testBit_lt_two_pow (Nat.lt_of_lt_of_le lt (Nat.pow_le_pow_right (by omega) hi))) 12
  omega
theorem sl_5 (hw : WFl l) (hs : s < 4096) (hb : (slN l s l.length).testBit b = true) : (pcN 12 s = 0 ↔ b = 5) ∧ b < 6 := by
  rw [slN_bit] at hb
  rcases hb with ⟨h1, h2⟩ | ⟨t, ht, h1, h2⟩
  · subst h1 h2
    exact ⟨⟨fun _ => rfl, fun _ => pc_0 12⟩, by omega⟩
  · have h5 := (soN_e hw ht).2
    refine ⟨⟨fun z => ?_, fun z => by omega⟩, by omega⟩
    have := pc_z z hs
    subst this
    unfold gcl at h1
    rw [Nat.zero_testBit] at h1
    cases h1
theorem sl_go (h : WH l s) (ht : t < l.length) (c : cf (bl l) s t = true) : (slN l (s ||| 2 ^ t) l.length).testBit (soN l t) = true := by
  rw [slN_bit]
  refine Or.inr ⟨t, ht, ?_, rfl⟩
  unfold gcl
  rw [or_bit, decide_eq_true rfl, Bool.or_true, Bool.true_and]
  apply decide_eq_true
  apply Nat.eq_of_testBit_eq
  intro i
  rw [Nat.testBit_and, Nat.zero_testBit, or_bit]
  by_cases q : t = i
  · subst q
    rw [ab_bit, bl_hi (Nat.le_refl _)]; simp
  · rw [decide_eq_false q, Bool.or_false]
    have := congrArg (fun x => x.testBit i) (ab_out h (cf_f c).1)
    simpa only [Nat.testBit_and, Nat.zero_testBit] using this
theorem sl_0 : (slN l 0 l.length).testBit 5 = true := by rw [slN_bit]; exact Or.inl ⟨rfl, rfl⟩
theorem pc_eq (hs : s < 2 ^ l.length) (hl : l.length ≤ 12) : (pcN 12 s = l.length) ↔ s = 2 ^ l.length - 1 := by
  constructor
  · intro h
    by_cases z : s = 2 ^ l.length - 1
    · exact z
    · obtain ⟨t, ht, ct⟩ := cf_low (g := bl l) (fun t => bl_lt t) (n := l.length) (s := s) (by omega)
      have := pc_lt hs ht (cf_f ct).1 hl
      omega
  · intro h; rw [h]; exact pc_f hl
theorem ab_pc (hl : l.length ≤ 12) (ht : t < l.length) : pcN 12 (ab l l.length t) + 1 ≤ l.length := by
  have e := pc_or (s := ab l l.length t) (t := t) (by rw [ab_bit, bl_hi (Nat.le_refl _), Bool.and_false]) 12
  rw [if_pos (by omega)] at e
  have lt : ab l l.length t ||| 2 ^ t < 2 ^ l.length := Nat.or_lt_two_pow ab_lt (Nat.pow_lt_pow_right (by omega) ht)
  have := pc_bd (s := ab l l.length t ||| 2 ^ t) (n := l.length) (fun i hi => Nat.testBit_lt_two_pow (Nat.lt_of_lt_of_le lt (Nat.pow_le_pow_right (by omega) hi))) 12
  omega
end
