/-! the game of two who take back by turns -/
def gcl (l : List Dd) (s t : Nat) : Bool := s.testBit t && decide (ab l l.length t &&& s = 0)
def m6K : Int32 := -1000000
def mxF (c : Nat → Bool) (v : Nat → Int32) : Nat → Int32
  | 0 => m6K
  | k + 1 => if c k = true then (if mxF c v k < v k then v k else mxF c v k) else mxF c v k
def bmF (c : Nat → Bool) (v : Nat → Int32) : Nat → Option Nat
  | 0 => none
  | k + 1 => match bmF c v k with
    | none => if c k = true then some k else none
    | some j => if c k = true ∧ v j < v k then some k else some j
theorem mxF_c {c : Nat → Bool} {v w : Nat → Int32} : ∀ {k : Nat}, (∀ t, t < k → c t = true → v t = w t) → mxF c v k = mxF c w k
  | 0, _ => rfl
  | k + 1, h => by
    unfold mxF
    rw [mxF_c (fun t ht => h t (by omega))]
    cases z : c k with
    | true => rw [h k (by omega) z]
    | false => rw [if_neg (by decide), if_neg (by decide)]
theorem bmF_c {c : Nat → Bool} {v w : Nat → Int32} : ∀ {k : Nat}, (∀ t, t < k → c t = true → v t = w t) → bmF c v k = bmF c w k ∧ ∀ j, bmF c v k = some j → j < k ∧ c j = true
  | 0, _ => ⟨rfl, fun j h => by cases h⟩
  | k + 1, h => by
    obtain ⟨h1, h2⟩ := bmF_c (c := c) (v := v) (w := w) (k := k) (fun t ht => h t (by omega))
    unfold bmF
    rw [← h1]
    cases e : bmF c v k with
    | none =>
      refine ⟨rfl, fun j hj => ?_⟩
      simp only at hj
      split at hj
      · rename_i z; cases hj; exact ⟨by omega, z⟩
      · cases hj
    | some j =>
      obtain ⟨a, b⟩ := h2 j e
      simp only
      cases z : c k with
      | true =>
        rw [h j (by omega) b, h k (by omega) z]
        refine ⟨rfl, fun i hi => ?_⟩
        split at hi
        · cases hi; exact ⟨by omega, z⟩
        · cases hi; exact ⟨by omega, b⟩
      | false =>
        refine ⟨by simp, fun i hi => ?_⟩
        simp only [Bool.false_eq_true, false_and, if_false] at hi
        cases hi; exact ⟨by omega, b⟩
theorem mx_le {c : Nat → Bool} {v : Nat → Int32} : ∀ (k : Nat) (t : Nat), t < k → c t = true → v t ≤ mxF c v k
  | 0, t, ht, _ => by omega
  | k + 1, t, ht, ct => by
    unfold mxF
    by_cases q : t = k
    · subst q
      rw [if_pos ct]
      split
      · exact Int32.le_refl _
      · rename_i z; exact Int32.not_lt.mp z
    · have := mx_le (v := v) k t (by omega) ct
      split
      · split
        · rename_i z; exact Int32.le_of_lt (Int32.lt_of_le_of_lt this z)
        · exact this
      · exact this
theorem mx_bm {c : Nat → Bool} {v : Nat → Int32} : ∀ {k : Nat}, (∀ t, t < k → c t = true → m6K < v t) → (bmF c v k = none → mxF c v k = m6K ∧ ∀ t, t < k → c t = false) ∧ ∀ j, bmF c v k = some j → j < k ∧ c j = true ∧ mxF c v k = v j ∧ (∀ t, t < j → c t = true → v t < v j)
  | 0, _ => ⟨fun _ => ⟨rfl, fun t ht => by omega⟩, fun j h => by cases h⟩
  | k + 1, h => by
    obtain ⟨h1, h2⟩ := mx_bm (c := c) (v := v) (k := k) (fun t ht => h t (by omega))
    unfold bmF mxF
    cases e : bmF c v k with
    | none =>
      obtain ⟨a, b⟩ := h1 e
      simp only
      cases z : c k with
      | true =>
        refine ⟨fun w => (by simp at w), fun j hj => ?_⟩
        simp only [if_true, Option.some.injEq] at hj
        subst hj
        refine ⟨by omega, z, ?_, fun t ht ct => by rw [b t ht] at ct; cases ct⟩
        rw [if_pos rfl, a, if_pos (h _ (by omega) z)]
      | false =>
        refine ⟨fun _ => ⟨by simpa using a, fun t ht => ?_⟩, fun j hj => (by simp at hj)⟩
        by_cases q : t = k
        · rw [q]; exact z
        · exact b t (by omega)
    | some j =>
      obtain ⟨a, b, m, f⟩ := h2 j e
      simp only
      cases z : c k with
      | true =>
        by_cases q : v j < v k
        · refine ⟨fun w => (by simp [q] at w), fun i hi => ?_⟩
          simp only [q, and_self, if_true, Option.some.injEq] at hi
          subst hi
          refine ⟨by omega, z, by rw [if_pos rfl, m, if_pos q], fun t ht ct => ?_⟩
          have le : v t ≤ v j := by rw [← m]; exact mx_le _ t ht ct
          exact Int32.lt_of_le_of_lt le q
        · refine ⟨fun w => (by simp [q] at w), fun i hi => ?_⟩
          simp only [q, and_false, if_false, Option.some.injEq] at hi
          subst hi
          exact ⟨by omega, b, by rw [if_pos rfl, m, if_neg q], f⟩
      | false =>
        refine ⟨fun w => (by simp at w), fun i hi => ?_⟩
        simp only [Bool.false_eq_true, false_and, if_false, Option.some.injEq] at hi
        subst hi
        exact ⟨by omega, b, by simpa using m, f⟩
def gV (l : List Dd) (p : Nat → Int32) : Nat → Nat → Int32
  | 0, _ => 0
  | f + 1, s => mxF (gcl l s) (fun t => p t - gV l p f (s ^^^ 2 ^ t)) l.length
def gW (l : List Dd) (p : Nat → Int32) (s : Nat) : Int32 := gV l p (pcN 12 s) s
section
variable {l : List Dd} {p : Nat → Int32} {s t : Nat}
theorem xb (i : Nat) : (s ^^^ 2 ^ t).testBit i = if i = t then !s.testBit i else s.testBit i := by
  rw [Nat.testBit_xor, Nat.testBit_two_pow]
  by_cases z : i = t
  · rw [if_pos z, decide_eq_true z.symm, Bool.xor_true]
  · rw [if_neg z, decide_eq_false (fun e => z e.symm), Bool.xor_false]
theorem pc_x (h : s.testBit t = true) : ∀ k, pcN k s = pcN k (s ^^^ 2 ^ t) + (if t < k then 1 else 0)
  | 0 => rfl
  | k + 1 => by
    have ih := pc_x h k
    unfold pcN
    rw [xb]
    by_cases z : k = t
    · subst z
      rw [if_pos rfl, h] at *
      simp at ih ⊢
      omega
    · rw [if_neg z]
      by_cases q : t < k
      · have q2 : t < k + 1 := by omega
        rw [if_pos q] at ih; rw [if_pos q2]; omega
      · have q2 : ¬ t < k + 1 := by omega
        rw [if_neg q] at ih; rw [if_neg q2]; omega
theorem x_lt (h : s.testBit t = true) : s ^^^ 2 ^ t < s := by
  have le : s ^^^ 2 ^ t ≤ s := sub_le (fun i hi => by
    rw [xb] at hi
    by_cases z : i = t
    · rw [z]; exact h
    · rwa [if_neg z] at hi)
  have ne : s ^^^ 2 ^ t ≠ s := fun e => by
    have := congrArg (fun x => x.testBit t) e
    simp only [xb] at this
    rw [if_pos trivial, h] at this
    simp at this
  omega
theorem gW_s (h0 : s ≠ 0) (hs : s < 4096) (hl : l.length ≤ 12) : gW l p s = mxF (gcl l s) (fun t => p t - gW l p (s ^^^ 2 ^ t)) l.length := by
  unfold gW
  obtain ⟨f, hf⟩ : ∃ f, pcN 12 s = f + 1 := by
    obtain ⟨i, hi⟩ : ∃ i, s.testBit i = true := Nat.exists_testBit_of_ne_zero h0
    have : i < 12 := by
      by_cases z : i < 12
      · exact z
      · have := Nat.testBit_lt_two_pow (x := s) (i := i) (Nat.lt_of_lt_of_le hs (by have := Nat.pow_le_pow_right (n := 2) (by omega) (show 12 ≤ i by omega); omega))
        rw [this] at hi; cases hi
    have := pc_x hi 12
    rw [if_pos (by omega)] at this
    exact ⟨_, this⟩
  rw [hf]
  refine mxF_c (fun t ht ct => ?_)
  have hb : s.testBit t = true := by unfold gcl at ct; rw [Bool.and_eq_true] at ct; exact ct.1
  have := pc_x hb 12
  rw [if_pos (by omega), hf] at this
  rw [show pcN 12 (s ^^^ 2 ^ t) = f by omega]
/-- the last deed of a set can be taken back -/
theorem gcl_top (h0 : s ≠ 0) (hs : s < 2 ^ l.length) : ∃ t, t < l.length ∧ gcl l s t = true := by
  have key : ∀ j, (∀ i, j ≤ i → s.testBit i = false) → j ≤ l.length → ∃ t, t < l.length ∧ gcl l s t = true := by
    intro j
    induction j with
    | zero => exact fun h _ => absurd (Nat.eq_of_testBit_eq (fun i => by rw [h i (by omega), Nat.zero_testBit])) h0
    | succ j ih =>
      intro h hj
      cases z : s.testBit j with
      | false => exact ih (fun i hi => by
          by_cases q : i = j
          · rw [q]; exact z
          · exact h i (by omega)) (by omega)
      | true =>
        refine ⟨j, by omega, ?_⟩
        unfold gcl
        rw [z, Bool.true_and]
        refine decide_eq_true (Nat.eq_of_testBit_eq (fun i => ?_))
        rw [Nat.testBit_and, Nat.zero_testBit, ab_bit]
        by_cases q : j < i
        · rw [h i (by omega), Bool.and_false]
        · rw [bl_hi (by omega)]; simp
  exact key l.length (fun i hi => Nat.testBit_lt_two_pow (Nat.lt_of_lt_of_le hs (Nat.pow_le_pow_right (by omega) hi))) (Nat.le_refl _)
theorem mxF_at {c : Nat → Bool} {v : Nat → Int32} {k t : Nat} (h : ∀ t, t < k → c t = true → m6K < v t) (ht : t < k) (ct : c t = true) : ∃ j, j < k ∧ c j = true ∧ mxF c v k = v j ∧ bmF c v k = some j ∧ ∀ t, t < j → c t = true → v t < v j := by
  obtain ⟨h1, h2⟩ := mx_bm h
  cases e : bmF c v k with
  | none => rw [(h1 e).2 t ht] at ct; cases ct
  | some j =>
    obtain ⟨a, b, m, f⟩ := h2 j e
    exact ⟨j, a, b, m, rfl, f⟩
def pB (p : Nat → Int32) (n : Nat) : Prop := ∀ t, t < n → 0 ≤ (p t).toInt ∧ (p t).toInt ≤ 99
theorem m6 (x : Int32) : (m6K < x) = (-1000000 < x.toInt) := by
  rw [Int32.lt_iff_toInt_lt, show m6K.toInt = -1000000 from by decide]
theorem gV_bd (hp : pB p l.length) : ∀ f s, f ≤ 12 → pcN 12 s = f → s < 2 ^ l.length → l.length ≤ 12 → -(99 * f : Int) ≤ (gV l p f s).toInt ∧ (gV l p f s).toInt ≤ 99 * f
  | 0, s, _, _, _, _ => by
    have e : (gV l p 0 s).toInt = 0 := (by decide : (0 : Int32).toInt = 0)
    rw [e]; omega
  | f + 1, s, hf, hs, hlt, hl => by
    have pw : (2 : Nat) ^ l.length ≤ 4096 := Nat.le_trans (Nat.pow_le_pow_right (by omega) hl) (by omega)
    have h0 : s ≠ 0 := fun z => by subst z; rw [show pcN 12 0 = 0 from by decide] at hs; omega
    obtain ⟨t, ht, ct⟩ := gcl_top (l := l) h0 hlt
    have bd : ∀ t, t < l.length → gcl l s t = true → -(99 * (f + 1) : Int) ≤ (p t - gV l p f (s ^^^ 2 ^ t)).toInt ∧ (p t - gV l p f (s ^^^ 2 ^ t)).toInt ≤ 99 * (f + 1) := fun t ht ct => by
      have hb : s.testBit t = true := by unfold gcl at ct; rw [Bool.and_eq_true] at ct; exact ct.1
      have e := pc_x hb 12
      rw [if_pos (by omega)] at e
      have xl := x_lt hb
      have ih := gV_bd hp f (s ^^^ 2 ^ t) (by omega) (by omega) (by omega) hl
      have q := hp t ht
      rw [Int32.toInt_sub, Int.bmod_eq_of_le (by omega) (by omega)]
      omega
    obtain ⟨j, hj, cj, m, _, _⟩ := mxF_at (v := fun t => p t - gV l p f (s ^^^ 2 ^ t)) (fun t ht ct => by rw [m6]; have := bd t ht ct; omega) ht ct
    show -(99 * ((f + 1 : Nat) : Int)) ≤ (mxF (gcl l s) (fun t => p t - gV l p f (s ^^^ 2 ^ t)) l.length).toInt ∧ (mxF (gcl l s) (fun t => p t - gV l p f (s ^^^ 2 ^ t)) l.length).toInt ≤ 99 * ((f + 1 : Nat) : Int)
    rw [m]
    have := bd j hj cj
    omega
theorem gW_v (hp : pB p l.length) (hl : l.length ≤ 12) (hs : s < 2 ^ l.length) (ht : t < l.length) (ct : gcl l s t = true) : m6K < p t - gW l p (s ^^^ 2 ^ t) := by
  have hb : s.testBit t = true := by unfold gcl at ct; rw [Bool.and_eq_true] at ct; exact ct.1
  have xl := x_lt hb
  have b := gV_bd (l := l) hp (pcN 12 (s ^^^ 2 ^ t)) (s ^^^ 2 ^ t) (pcN_le _ 12) rfl (by omega) hl
  have q := hp t ht
  have l12 := pcN_le (s ^^^ 2 ^ t) 12
  rw [m6]
  unfold gW
  rw [Int32.toInt_sub, Int.bmod_eq_of_le (by omega) (by omega)]
  omega
/-- the best move of a set -/
def gbm (l : List Dd) (p : Nat → Int32) (s : Nat) : Option Nat := bmF (gcl l s) (fun t => p t - gW l p (s ^^^ 2 ^ t)) l.length
theorem gbm_ok (hp : pB p l.length) (hl : l.length ≤ 12) (hs : s < 2 ^ l.length) (h0 : s ≠ 0) : ∃ j, gbm l p s = some j ∧ j < l.length ∧ gcl l s j = true ∧ gW l p s = p j - gW l p (s ^^^ 2 ^ j) ∧ ∀ t, t < j → gcl l s t = true → ¬ p t - gW l p (s ^^^ 2 ^ t) = gW l p s := by
  have pw : (2 : Nat) ^ l.length ≤ 4096 := Nat.le_trans (Nat.pow_le_pow_right (by omega) hl) (by omega)
  obtain ⟨t, ht, ct⟩ := gcl_top (l := l) h0 hs
  obtain ⟨j, hj, cj, m, b, f⟩ := mxF_at (c := gcl l s) (v := fun t => p t - gW l p (s ^^^ 2 ^ t)) (fun t ht ct => gW_v hp hl hs ht ct) ht ct
  rw [← gW_s h0 (by omega) hl] at m
  refine ⟨j, b, hj, cj, m, fun t ht ct e => ?_⟩
  have := f t ht ct
  rw [e, m] at this
  exact Int32.lt_irrefl this
theorem WH_del (h : WH l s) (c : gcl l s t = true) : WH l (s ^^^ 2 ^ t) := by
  unfold gcl at c
  rw [Bool.and_eq_true, decide_eq_true_eq] at c
  intro i hi hb
  rw [xb] at hb
  by_cases z : i = t
  · rw [if_pos z, z, c.1] at hb; cases hb
  · rw [if_neg z] at hb
    have h1 := sub_iff.mp (h i hi hb)
    refine sub_iff.mpr (fun e he => ?_)
    rw [xb]
    by_cases q : e = t
    · subst q
      have := congrArg (fun x => x.testBit i) c.2
      simp only [Nat.testBit_and, Nat.zero_testBit, ab_bit] at this
      rw [he, hb, decide_eq_true hi] at this
      cases this
    · rw [if_neg q]; exact h1 e he
end
