/-! the i-th row: deed by deed -/
def sqN (h : Nat → Nat) (t : Nat) : Nat → Nat
  | 0 => 0
  | f + 1 => h t + sqN h (t + 1) f
theorem sm_sq {h : Nat → Nat} : ∀ f t, sm h (t + f) = sm h t + sqN h t f
  | 0, t => rfl
  | f + 1, t => by
    show sm h (t + (f + 1)) = sm h t + (h t + sqN h (t + 1) f)
    have a := sm_sq (h := h) f (t + 1)
    have b : sm h (t + 1) = sm h t + h t := rfl
    rw [show t + (f + 1) = t + 1 + f by omega, a, b]; omega
/-- the next deed of a row, and how many rows of those that go on with it are passed -/
def nxN (g : Nat → Nat) (n s : Nat) : Nat → Nat → Nat → Nat × Nat
  | 0, t, q => (t, q)
  | f + 1, t, q => if cf g s t = true then (if q < wS g n (s ||| 2 ^ t) then (t, q) else nxN g n s f (t + 1) (q - wS g n (s ||| 2 ^ t))) else nxN g n s f (t + 1) q
theorem nx_ok {g : Nat → Nat} {n s : Nat} : ∀ f t q, q < sqN (fun t => if cf g s t = true then wS g n (s ||| 2 ^ t) else 0) t f → t ≤ (nxN g n s f t q).1 ∧ (nxN g n s f t q).1 < t + f ∧ cf g s (nxN g n s f t q).1 = true ∧ (nxN g n s f t q).2 < wS g n (s ||| 2 ^ (nxN g n s f t q).1)
  | 0, t, q, h => absurd h (Nat.not_lt_zero q)
  | f + 1, t, q, h => by
    have h : q < (if cf g s t = true then wS g n (s ||| 2 ^ t) else 0) + sqN (fun t => if cf g s t = true then wS g n (s ||| 2 ^ t) else 0) (t + 1) f := h
    unfold nxN
    by_cases c : cf g s t = true
    · rw [if_pos c] at h
      rw [if_pos c]
      by_cases z : q < wS g n (s ||| 2 ^ t)
      · rw [if_pos z]; exact ⟨Nat.le_refl _, by show t < _; omega, c, z⟩
      · rw [if_neg z]
        obtain ⟨a1, a2, a3, a4⟩ := nx_ok (g := g) (n := n) (s := s) f (t + 1) (q - wS g n (s ||| 2 ^ t)) (by omega)
        exact ⟨by omega, by omega, a3, a4⟩
    · rw [if_neg c] at h
      rw [if_neg c]
      obtain ⟨a1, a2, a3, a4⟩ := nx_ok (g := g) (n := n) (s := s) f (t + 1) q (by omega)
      exact ⟨by omega, by omega, a3, a4⟩
/-- the deeds of the first p places, as a set, and the rows passed within -/
def rst (g : Nat → Nat) (n i : Nat) : Nat → Nat × Nat
  | 0 => (0, i)
  | p + 1 => ((rst g n i p).1 ||| 2 ^ (nxN g n (rst g n i p).1 n 0 (rst g n i p).2).1, (nxN g n (rst g n i p).1 n 0 (rst g n i p).2).2)
/-- the deed at a place of the i-th row -/
def rdd (g : Nat → Nat) (n i p : Nat) : Nat := (nxN g n (rst g n i p).1 n 0 (rst g n i p).2).1
theorem cnt_z : ∀ n, cnt n 0 = n
  | 0 => rfl
  | n + 1 => by
    have a : cnt n 0 = n := cnt_z n
    unfold cnt at a ⊢
    unfold sm
    rw [a, Nat.zero_testBit]
    simp
theorem nx_s {g : Nat → Nat} {n s q : Nat} (hs : s < 2 ^ n) (hc : 0 < cnt n s) (hq : q < wS g n s) : (nxN g n s n 0 q).1 < n ∧ cf g s (nxN g n s n 0 q).1 = true ∧ (nxN g n s n 0 q).2 < wS g n (s ||| 2 ^ (nxN g n s n 0 q).1) := by
  have ne : s ≠ 2 ^ n - 1 := fun z => by rw [z, cnt_full] at hc; omega
  rw [wS_s (by omega)] at hq
  have e := sm_sq (h := fun t => if cf g s t = true then wS g n (s ||| 2 ^ t) else 0) n 0
  rw [Nat.zero_add] at e
  have e0 : sm (fun t => if cf g s t = true then wS g n (s ||| 2 ^ t) else 0) 0 = 0 := rfl
  rw [e, e0, Nat.zero_add] at hq
  obtain ⟨a1, a2, a3, a4⟩ := nx_ok n 0 q hq
  exact ⟨by omega, a3, a4⟩
theorem rst_ok {g : Nat → Nat} {n i : Nat} (hi : i < wS g n 0) : ∀ p, p ≤ n → cnt n (rst g n i p).1 + p = n ∧ (rst g n i p).2 < wS g n (rst g n i p).1 ∧ (rst g n i p).1 < 2 ^ n
  | 0, _ => ⟨cnt_z n, hi, Nat.pow_pos (by omega)⟩
  | p + 1, hp => by
    obtain ⟨b1, b2, b3⟩ := rst_ok hi p (by omega)
    obtain ⟨c1, c2, c3⟩ := nx_s (g := g) (n := n) b3 (by omega) b2
    have d1 := cnt_or c1 (cf_f c2).1
    exact ⟨by show cnt n ((rst g n i p).1 ||| 2 ^ _) + (p + 1) = n; omega, c3, (or_gt b3 c1 (cf_f c2).1).2⟩
section
variable {l : List Dd} {s i : Nat}
theorem nx_eq (h : WH l s) : ∀ f t q, t + f ≤ l.length → nxN (bl l) l.length s f t q = nxN (drD l) l.length s f t q
  | 0, _, _, _ => rfl
  | f + 1, t, q, ht => by
    unfold nxN
    have ce := cf_eq (t := t) h (by omega)
    by_cases c : cf (bl l) s t = true
    · have w := wS_eq (WH_or h c)
      have c' : cf (drD l) s t = true := by rw [← ce]; exact c
      rw [if_pos c, if_pos c', w, nx_eq h f (t + 1) _ (by omega)]
    · have c' : ¬ cf (drD l) s t = true := by rw [← ce]; exact c
      rw [if_neg c, if_neg c', nx_eq h f (t + 1) q (by omega)]
theorem rst_eq (hi : i < wS (bl l) l.length 0) : ∀ p, p ≤ l.length → rst (bl l) l.length i p = rst (drD l) l.length i p ∧ WH l (rst (bl l) l.length i p).1
  | 0, _ => ⟨rfl, WH_0⟩
  | p + 1, hp => by
    obtain ⟨a1, a2⟩ := rst_eq hi p (by omega)
    obtain ⟨b1, b2, b3⟩ := rst_ok hi p (by omega)
    obtain ⟨c1, c2, c3⟩ := nx_s (g := bl l) (n := l.length) b3 (by omega) b2
    have e := nx_eq a2 l.length 0 (rst (bl l) l.length i p).2 (by omega)
    refine ⟨?_, WH_or a2 c2⟩
    show (_, _) = (_, _)
    rw [← a1, ← e]
theorem rdd_eq {p : Nat} (hi : i < wS (bl l) l.length 0) (hp : p < l.length) : rdd (bl l) l.length i p = rdd (drD l) l.length i p := by
  obtain ⟨a1, a2⟩ := rst_eq hi p (by omega)
  unfold rdd
  rw [← a1, nx_eq a2 l.length 0 _ (by omega)]
end
