/-! a law's text, as the class reads it: whether it can be so, the place, the signs that are written -/
abbrev PR : Type := Bool × Nat × List Int32
def isMD (s : Int32) : Bool := decide (s = 42) || decide (s = 47)
def isPM (s : Int32) : Bool := decide (s = 43) || decide (s = 45)
def isAn (s : Int32) : Bool := decide (s = 38)
def isOr (s : Int32) : Bool := decide (s = 124)
def isCp (s : Int32) : Bool := decide (s = 61) || (decide (s = 60) || decide (s = 62))
def ltr (s : Int32) : Int32 := if s = 119 then 0 else if s = 105 then 1 else if s = 120 then 2 else if s = 110 then 3 else if s = 98 then 4 else if s = 116 then 5 else -1
/-- signs and what they join, over and over -/
def opL (T : Nat → Int32) (len : Nat) (io : Int32 → Bool) (P : Nat → PR) : Nat → Nat → List Int32 → PR
  | 0, p, c => (true, p, c)
  | j + 1, p, c => if io (sg T len (skp T len p)) = true then
      (if (P (skp T len p + 1)).1 = true then opL T len io P j (P (skp T len p + 1)).2.1 (c ++ (P (skp T len p + 1)).2.2 ++ [20000 + sg T len (skp T len p)]) else (false, (P (skp T len p + 1)).2.1, c ++ (P (skp T len p + 1)).2.2))
    else (true, skp T len p, c)
def seqQ (T : Nat → Int32) (len : Nat) (P0 : Nat → PR) (io : Int32 → Bool) (P : Nat → PR) (p : Nat) : PR := if (P0 p).1 = true then opL T len io P 240 (P0 p).2.1 (P0 p).2.2 else P0 p
def clsF (T : Nat → Int32) (len : Nat) (x : Int32) (r : PR) : PR := if r.1 = true then (if sg T len (skp T len r.2.1) = x then (true, skp T len r.2.1 + 1, r.2.2) else (false, skp T len r.2.1, r.2.2)) else r
def atomF (T : Nat → Int32) (len : Nat) (S : Option (Nat → PR)) (p : Nat) : PR :=
  if sg T len (skp T len p) = 91 then (match S with
    | none => (false, skp T len p, [])
    | some S => clsF T len 93 (S (skp T len p + 1)))
  else if dgt (sg T len (skp T len p)) = true then (decide (¬ (rnum T len 4 p).1 = -1), (rnum T len 4 p).2, [(rnum T len 4 p).1])
  else if ltr (sg T len (skp T len p)) = -1 then (false, skp T len p, []) else (true, skp T len p + 1, [10000 + ltr (sg T len (skp T len p))])
def sumF (T : Nat → Int32) (len : Nat) (A : Nat → PR) : Nat → PR := seqQ T len (seqQ T len A isMD A) isPM (seqQ T len A isMD A)
def sumL (T : Nat → Int32) (len : Nat) : Nat → Nat → PR
  | 0 => sumF T len (atomF T len none)
  | l + 1 => sumF T len (atomF T len (some (sumL T len l)))
def cmpF (T : Nat → Int32) (len : Nat) (S : Nat → PR) (p : Nat) : PR :=
  if isCp (sg T len (skp T len p)) = true then
    (if (S (skp T len p + 1)).1 = true then (true, (S (skp T len p + 1)).2.1, (S (skp T len p + 1)).2.2 ++ [20000 + sg T len (skp T len p)]) else S (skp T len p + 1))
  else (false, skp T len p, [])
def scmF (T : Nat → Int32) (len : Nat) (S : Nat → PR) (p : Nat) : PR := if (S p).1 = true then ((cmpF T len S (S p).2.1).1, (cmpF T len S (S p).2.1).2.1, (S p).2.2 ++ (cmpF T len S (S p).2.1).2.2) else S p
def unitF (T : Nat → Int32) (len : Nat) (U : Option ((Nat → PR) × (Nat → PR))) (S : Nat → PR) (p : Nat) : PR :=
  if sg T len (skp T len p) = 33 then (match U with
    | none => (false, skp T len p, [])
    | some u => if (u.1 (skp T len p + 1)).1 = true then (true, (u.1 (skp T len p + 1)).2.1, (u.1 (skp T len p + 1)).2.2 ++ [20033]) else u.1 (skp T len p + 1))
  else if sg T len (skp T len p) = 40 then (match U with
    | none => (false, skp T len p, [])
    | some u => clsF T len 41 (u.2 (skp T len p + 1)))
  else scmF T len S (skp T len p)
def conF (T : Nat → Int32) (len : Nat) (U : Nat → PR) : Nat → PR := seqQ T len (seqQ T len U isAn U) isOr (seqQ T len U isAn U)
def unitL (T : Nat → Int32) (len : Nat) : Nat → Nat → PR
  | 0 => unitF T len none (sumL T len 0)
  | l + 1 => unitF T len (some (unitL T len l, conF T len (unitL T len l))) (sumL T len (l + 1))
/-- a condition whose first sum stands -/
def conS (T : Nat → Int32) (len : Nat) : Nat → PR := seqQ T len (seqQ T len (cmpF T len (sumL T len 6)) isAn (unitL T len 6)) isOr (seqQ T len (unitL T len 6) isAn (unitL T len 6))
/-- a reading goes forward, and writes no more signs than it reads -/
def gd (len : Nat) (P : Nat → PR) : Prop := ∀ p, p ≤ len → p + (P p).2.2.length ≤ (P p).2.1 ∧ (P p).2.1 ≤ len
theorem skp_ge {T : Nat → Int32} {len p : Nat} : p ≤ skp T len p := (sk_ge T (len - p) p).1
theorem sg_ne {T : Nat → Int32} {len q : Nat} {io : Int32 → Bool} (hio : io (-1) = false) (h : io (sg T len q) = true) : q < len := by
  unfold sg at h
  split at h
  · assumption
  · rw [hio] at h; cases h
section
variable {T : Nat → Int32} {len : Nat}
theorem gd_opL {io : Int32 → Bool} {P : Nat → PR} (hio : io (-1) = false) (hP : gd len P) : ∀ (j p : Nat) (c : List Int32), p ≤ len → p + (opL T len io P j p c).2.2.length ≤ (opL T len io P j p c).2.1 + c.length ∧ (opL T len io P j p c).2.1 ≤ len
  | 0, p, c, hp => by unfold opL; exact ⟨by simp, hp⟩
  | j + 1, p, c, hp => by
    have hs := skp_le' (T := T) hp
    have hg := skp_ge (T := T) (len := len) (p := p)
    unfold opL
    split
    · rename_i c1
      have hlt := sg_ne hio c1
      have h1 := hP (skp T len p + 1) (by omega)
      split
      · have h2 := gd_opL hio hP j (P (skp T len p + 1)).2.1 (c ++ (P (skp T len p + 1)).2.2 ++ [20000 + sg T len (skp T len p)]) h1.2
        simp only [List.length_append, List.length_cons, List.length_nil] at h2
        omega
      · simp only [List.length_append]
        omega
    · simp only
      omega
theorem gd_seq {io : Int32 → Bool} {P0 P : Nat → PR} (hio : io (-1) = false) (h0 : gd len P0) (hP : gd len P) : gd len (seqQ T len P0 io P) := by
  intro p hp
  have h1 := h0 p hp
  unfold seqQ
  split
  · have h2 := gd_opL (T := T) hio hP 240 (P0 p).2.1 (P0 p).2.2 h1.2
    omega
  · exact h1
theorem gd_cls {x : Int32} (hx : ¬ x = -1) {r : PR} {p : Nat} (h : p + r.2.2.length ≤ r.2.1 ∧ r.2.1 ≤ len) : p + (clsF T len x r).2.2.length ≤ (clsF T len x r).2.1 ∧ (clsF T len x r).2.1 ≤ len := by
  have hs := skp_le' (T := T) h.2
  have hg := skp_ge (T := T) (len := len) (p := r.2.1)
  unfold clsF
  split
  · split
    · rename_i c
      have := sg_lt c hx
      simp only
      omega
    · simp only
      omega
  · exact h
theorem rn4_gt (mo p : Nat) (h : dgt (sg T len (skp T len p)) = true) : skp T len p + 1 ≤ (rnum T len mo p).2 := by
  unfold rnum
  rw [if_pos h]
  exact (rn_le T mo _ _ _ _).1
theorem gd_atom {S : Option (Nat → PR)} (hS : ∀ s, S = some s → gd len s) : gd len (atomF T len S) := by
  intro p hp
  have hs := skp_le' (T := T) hp
  have hg := skp_ge (T := T) (len := len) (p := p)
  unfold atomF
  split
  · rename_i c
    have := sg_lt c (by decide)
    cases S with
    | none => exact ⟨by simp; omega, hs⟩
    | some s =>
      have h1 := hS s rfl (skp T len p + 1) (by omega)
      have h2 := gd_cls (T := T) (x := 93) (by decide) h1
      simp only
      omega
  · split
    · rename_i c
      have h1 := rn4_gt (T := T) (len := len) 4 p c
      have h2 := rn_le2 T len p 4 hp
      simp only [List.length_cons, List.length_nil]
      omega
    · split
      · simp only [List.length_nil]; omega
      · rename_i c
        have : skp T len p < len := by
          have e : ltr (-1) = -1 := by decide
          unfold sg at c
          split at c
          · assumption
          · exact absurd e c
        simp only [List.length_cons, List.length_nil]; omega
theorem gd_sumF {A : Nat → PR} (h : gd len A) : gd len (sumF T len A) := gd_seq (by decide) (gd_seq (by decide) h h) (gd_seq (by decide) h h)
theorem gd_sum : ∀ l, gd len (sumL T len l)
  | 0 => gd_sumF (gd_atom (fun s h => by cases h))
  | l + 1 => gd_sumF (gd_atom (fun s h => by cases h; exact gd_sum l))
theorem gd_cmp {S : Nat → PR} (h : gd len S) : gd len (cmpF T len S) := by
  intro p hp
  have hs := skp_le' (T := T) hp
  have hg := skp_ge (T := T) (len := len) (p := p)
  unfold cmpF
  split
  · rename_i c
    have hlt := sg_ne (by decide) c
    have h1 := h (skp T len p + 1) (by omega)
    split
    · simp only [List.length_append, List.length_cons, List.length_nil]; omega
    · omega
  · simp only [List.length_nil]; omega
theorem gd_scm {S : Nat → PR} (h : gd len S) : gd len (scmF T len S) := by
  intro p hp
  have h1 := h p hp
  unfold scmF
  split
  · have h2 := gd_cmp (T := T) h (S p).2.1 h1.2
    simp only [List.length_append]; omega
  · exact h1
theorem gd_unit {U : Option ((Nat → PR) × (Nat → PR))} {S : Nat → PR} (hU : ∀ u, U = some u → gd len u.1 ∧ gd len u.2) (hS : gd len S) : gd len (unitF T len U S) := by
  intro p hp
  have hs := skp_le' (T := T) hp
  have hg := skp_ge (T := T) (len := len) (p := p)
  unfold unitF
  split
  · rename_i c
    have := sg_lt c (by decide)
    cases U with
    | none => exact ⟨by simp; omega, hs⟩
    | some u =>
      have h1 := (hU u rfl).1 (skp T len p + 1) (by omega)
      simp only
      split
      · simp only [List.length_append, List.length_cons, List.length_nil]; omega
      · omega
  · split
    · rename_i c
      have := sg_lt c (by decide)
      cases U with
      | none => exact ⟨by simp; omega, hs⟩
      | some u =>
        have h1 := (hU u rfl).2 (skp T len p + 1) (by omega)
        have h2 := gd_cls (T := T) (x := 41) (by decide) h1
        simp only
        omega
    · have h1 := gd_scm (T := T) hS (skp T len p) hs
      omega
theorem gd_con {U : Nat → PR} (h : gd len U) : gd len (conF T len U) := gd_seq (by decide) (gd_seq (by decide) h h) (gd_seq (by decide) h h)
theorem gd_unitL : ∀ l, gd len (unitL T len l)
  | 0 => gd_unit (fun u h => by cases h) (gd_sum 0)
  | l + 1 => gd_unit (fun u h => by cases h; exact ⟨gd_unitL l, gd_con (gd_unitL l)⟩) (gd_sum (l + 1))
theorem gd_conS : gd len (conS T len) := gd_seq (by decide) (gd_seq (by decide) (gd_cmp (gd_sum 6)) (gd_unitL 6)) (gd_seq (by decide) (gd_unitL 6) (gd_unitL 6))
end
