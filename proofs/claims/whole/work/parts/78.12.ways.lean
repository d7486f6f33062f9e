/-! rows of deeds, counted; g: what each deed needs -/
def cf (g : Nat → Nat) (s t : Nat) : Bool := !s.testBit t && decide (g t &&& s = g t)
def sm (h : Nat → Nat) : Nat → Nat
  | 0 => 0
  | k + 1 => sm h k + h k
def wy (g : Nat → Nat) (n : Nat) : Nat → Nat → Nat
  | 0, _ => 1
  | f + 1, s => sm (fun t => if cf g s t = true then wy g n f (s ||| 2 ^ t) else 0) n
/-- deeds that are not in a set -/
def cnt (n s : Nat) : Nat := sm (fun t => if s.testBit t = true then 0 else 1) n
def fac : Nat → Nat
  | 0 => 1
  | n + 1 => (n + 1) * fac n
/-- sets that hold what their deeds need -/
def WH (l : List Dd) (s : Nat) : Prop := ∀ t, t < l.length → s.testBit t = true → bl l t &&& s = bl l t
def drD (l : List Dd) (t : Nat) : Nat := drt l t t
theorem sm_congr {h h' : Nat → Nat} : ∀ {n : Nat}, (∀ k, k < n → h k = h' k) → sm h n = sm h' n
  | 0, _ => rfl
  | n + 1, e => by unfold sm; rw [sm_congr (fun k hk => e k (by omega)), e n (by omega)]
theorem sm_le {h h' : Nat → Nat} : ∀ {n : Nat}, (∀ k, k < n → h k ≤ h' k) → sm h n ≤ sm h' n
  | 0, _ => Nat.le_refl _
  | n + 1, e => by unfold sm; have := sm_le (h := h) (h' := h') (n := n) (fun k hk => e k (by omega)); have := e n (by omega); omega
theorem sm_mul {h : Nat → Nat} {c : Nat} : ∀ n, sm (fun k => h k * c) n = sm h n * c
  | 0 => by simp [sm]
  | n + 1 => by unfold sm; rw [sm_mul n, Nat.add_mul]
theorem sm_up {h h' : Nat → Nat} {t : Nat} (e : ∀ k, k ≠ t → h k = h' k) (ht : h t = h' t + 1) : ∀ n, t < n → sm h n = sm h' n + 1
  | 0, z => absurd z (Nat.not_lt_zero t)
  | n + 1, z => by
    unfold sm
    by_cases q : t = n
    · subst q
      rw [sm_congr (fun k hk => e k (by omega)), ht]; omega
    · rw [sm_up e ht n (by omega), e n (by omega)]; omega
theorem or_bit {s t i : Nat} : (s ||| 2 ^ t).testBit i = (s.testBit i || decide (t = i)) := by rw [Nat.testBit_or, Nat.testBit_two_pow]
theorem cnt_or {n s t : Nat} (ht : t < n) (h : s.testBit t = false) : cnt n s = cnt n (s ||| 2 ^ t) + 1 := by
  unfold cnt
  refine sm_up (t := t) (fun k hk => ?_) ?_ n ht
  · have : decide (t = k) = false := decide_eq_false (fun z => hk z.symm)
    rw [or_bit, this, Bool.or_false]
  · rw [or_bit, h, decide_eq_true rfl]; simp
theorem cf_f {g : Nat → Nat} {s t : Nat} (h : cf g s t = true) : s.testBit t = false ∧ g t &&& s = g t := by
  unfold cf at h
  rw [Bool.and_eq_true] at h
  exact ⟨by simpa using h.1, of_decide_eq_true h.2⟩
theorem wy_le {g : Nat → Nat} {n : Nat} : ∀ f s, cnt n s = f → wy g n f s ≤ fac f
  | 0, s, _ => Nat.le_refl _
  | f + 1, s, h => by
    show sm (fun t => if cf g s t = true then wy g n f (s ||| 2 ^ t) else 0) n ≤ (f + 1) * fac f
    have a : sm (fun t => if cf g s t = true then wy g n f (s ||| 2 ^ t) else 0) n ≤ sm (fun t => (if s.testBit t = true then 0 else 1) * fac f) n := sm_le (fun t ht => by
      by_cases c : cf g s t = true
      · obtain ⟨c1, c2⟩ := cf_f c
        rw [if_pos c, c1]
        have := wy_le (g := g) (n := n) f (s ||| 2 ^ t) (by have := cnt_or ht c1; omega)
        simpa using this
      · rw [if_neg c]; exact Nat.zero_le _)
    rw [sm_mul] at a
    have b : sm (fun t => if s.testBit t = true then 0 else 1) n = f + 1 := h
    rw [b] at a
    exact a
theorem sub_iff {a s : Nat} : a &&& s = a ↔ ∀ i, a.testBit i = true → s.testBit i = true := by
  constructor
  · intro h i hi
    rw [← h, Nat.testBit_and, Bool.and_eq_true] at hi
    exact hi.2
  · intro h
    apply Nat.eq_of_testBit_eq
    intro i
    rw [Nat.testBit_and]
    cases z : a.testBit i
    · rfl
    · rw [h i z]; rfl
section
variable {l : List Dd} {s t : Nat}
theorem drt_bit (t i : Nat) : ∀ n, (drt l t n).testBit i = (decide (i < n) && lnL l t i)
  | 0 => by simp [drt]
  | n + 1 => by
    show (drt l t n ||| (if lnL l t n = true then 2 ^ n else 0)).testBit i = _
    rw [Nat.testBit_or, drt_bit t i n]
    by_cases z : i = n
    · subst z
      cases c : lnL l t i <;> simp
    · have e1 : decide (i < n + 1) = decide (i < n) := decide_eq_decide.mpr (by omega)
      have e2 : decide (n = i) = false := decide_eq_false (by omega)
      rw [e1]
      cases c : lnL l t n
      · simp
      · rw [if_pos rfl, Nat.testBit_two_pow, e2, Bool.or_false]
theorem lacc_bit {g : Nat → Nat} {t i : Nat} : ∀ n, (lacc l g t n).testBit i = true ↔ ∃ e, e < n ∧ lnL l t e = true ∧ (i = e ∨ (g e).testBit i = true)
  | 0 => by simp [lacc]
  | n + 1 => by
    show (lacc l g t n ||| (if lnL l t n = true then 2 ^ n ||| g n else 0)).testBit i = true ↔ _
    rw [Nat.testBit_or, Bool.or_eq_true, lacc_bit n]
    constructor
    · rintro (⟨e, h1, h2⟩ | h)
      · exact ⟨e, by omega, h2⟩
      · by_cases c : lnL l t n = true
        · rw [if_pos c, Nat.testBit_or, Nat.testBit_two_pow, Bool.or_eq_true, decide_eq_true_eq] at h
          exact ⟨n, by omega, c, h.elim (fun z => Or.inl z.symm) Or.inr⟩
        · rw [if_neg c, Nat.zero_testBit] at h; cases h
    · rintro ⟨e, h1, h2, h3⟩
      by_cases z : e = n
      · subst z
        right
        rw [if_pos h2, Nat.testBit_or, Nat.testBit_two_pow, Bool.or_eq_true, decide_eq_true_eq]
        exact h3.elim (fun z => Or.inl z.symm) Or.inr
      · exact Or.inl ⟨e, by omega, h2, h3⟩
theorem bl_bit (t i : Nat) : (bl l t).testBit i = true ↔ ∃ e, e < t ∧ lnL l t e = true ∧ (i = e ∨ (bl l e).testBit i = true) := by rw [bl_eq, lacc_bit]
/-- on such a set, the nearest needs tell the same as all needs -/
theorem cf_eq (h : WH l s) (ht : t < l.length) : cf (bl l) s t = cf (drD l) s t := by
  unfold cf
  congr 1
  refine decide_eq_decide.mpr ?_
  rw [sub_iff, sub_iff]
  constructor
  · intro a i hi
    unfold drD at hi
    rw [drt_bit, Bool.and_eq_true] at hi
    exact a i ((bl_bit t i).mpr ⟨i, of_decide_eq_true hi.1, hi.2, Or.inl rfl⟩)
  · intro a i hi
    obtain ⟨e, h1, h2, h3⟩ := (bl_bit t i).mp hi
    have he : s.testBit e = true := a e (by unfold drD; rw [drt_bit, decide_eq_true h1, h2]; rfl)
    rcases h3 with rfl | h3
    · exact he
    · exact sub_iff.mp (h e (by omega) he) i h3
theorem WH_or (h : WH l s) (c : cf (bl l) s t = true) : WH l (s ||| 2 ^ t) := by
  obtain ⟨c1, c2⟩ := cf_f c
  intro k hk hb
  have key : bl l k &&& s = bl l k := by
    rw [or_bit, Bool.or_eq_true, decide_eq_true_eq] at hb
    rcases hb with hb | rfl
    · exact h k hk hb
    · exact c2
  rw [sub_iff] at key ⊢
  intro i hi
  rw [or_bit, key i hi]; rfl
theorem wy_eq : ∀ f s, WH l s → wy (bl l) l.length f s = wy (drD l) l.length f s
  | 0, _, _ => rfl
  | f + 1, s, h => by
    show sm _ _ = sm _ _
    refine sm_congr (fun t ht => ?_)
    by_cases c : cf (bl l) s t = true
    · rw [if_pos c, if_pos (by rw [← cf_eq h ht]; exact c), wy_eq f _ (WH_or h c)]
    · rw [if_neg c, if_neg (by rw [← cf_eq h ht]; exact c)]
theorem WH_0 : WH l 0 := fun t _ h => by rw [Nat.zero_testBit] at h; cases h
end
theorem fac_12 : ∀ n, n ≤ 12 → fac n ≤ 479001600 := by decide +kernel
/-- a set in which nothing lacks a deed that is not in it -/
theorem nI_sub0 {a s : Nat} (ha : a < 2 ^ 31) : (nI a &&& (nI s ^^^ -1) = 0) = (a &&& s = a) := by
  rw [and_not, nI_and, nI_xor, nI_z0]
  · apply propext
    constructor
    · intro h
      apply Nat.eq_of_testBit_eq
      intro i
      have h2 : (a ^^^ (a &&& s)).testBit i = (0 : Nat).testBit i := by rw [h]
      rw [Nat.testBit_xor, Nat.zero_testBit] at h2
      revert h2
      cases a.testBit i <;> cases (a &&& s).testBit i <;> simp
    · intro h; rw [h]; exact Nat.xor_self a
  · have : a ^^^ (a &&& s) < 2 ^ 31 := Nat.xor_lt_two_pow ha (Nat.lt_of_le_of_lt Nat.and_le_left ha)
    exact this
