/-! words for the contracts: places, truth values, deeds as functions -/
def bz (b : Bool) : Int32 := if b then 1 else 0
theorem bz_t : bz true = 1 := rfl
theorem bz_f : bz false = 0 := rfl
theorem bz_0 (b : Bool) : (bz b = 0) = (b = false) := by cases b <;> simp [bz]
theorem bz_1 (b : Bool) : (bz b = 1) = (b = true) := by cases b <;> simp [bz]
theorem bz_01 (b : Bool) : (bz b = 0 ∨ bz b = 1) = True := by cases b <;> simp [bz]
theorem i01 : ((1 : Int32) = 0) = False := by simp
theorem i10 : ((0 : Int32) = 1) = False := by simp
theorem im10 : ((-1 : Int32) = 0) = False := eq_false (by decide)
theorem nI_m1 {k : Nat} (h : k < 2 ^ 31) : (nI k = -1) = False := eq_false (fun e => by
  have h1 := nI_toInt h
  rw [e] at h1
  have h2 : (-1 : Int32).toInt = -1 := by decide
  omega)
theorem nI_lt0 {k : Nat} (h : k < 2 ^ 31) : (nI k < 0) = False := eq_false (nI_pos h)
theorem nI_le0 {k : Nat} (h : k < 2 ^ 31) : (0 ≤ nI k) = True := eq_true (nI_pos' h)
theorem nI_ltE {a b : Nat} (ha : a < 2 ^ 31) (hb : b < 2 ^ 31) : (nI a < nI b) = (a < b) := propext (nI_ltI ha hb)
theorem nI_leE {a b : Nat} (ha : a < 2 ^ 31) (hb : b < 2 ^ 31) : (nI a ≤ nI b) = (a ≤ b) := propext (nI_leI ha hb)
theorem nI_eqE {a b : Nat} (ha : a < 2 ^ 31) (hb : b < 2 ^ 31) : (nI a = nI b) = (a = b) := propext (nI_eq ha hb)
theorem in1 {a k L : Nat} {M : am_M} (ha : a < 488) (hT : am_T a = (1, L)) (hk : k < L) (hL : L ≤ 65536) : am_in 488 M a 1 (nI k) = True := eq_true (Or.inl ⟨ha, by rw [hT], by rw [hT]; exact vp_in_nI hk (by show L < _; omega)⟩)
theorem iw {a k L kd : Nat} (ha : a < 488) (hT : am_T a = (kd, L)) (hk : k < L) (hL : L ≤ 65536) : am_iw 488 a kd (nI k) = True := eq_true ⟨ha, by rw [hT], by rw [hT]; exact vp_in_nI hk (by show L < _; omega)⟩
theorem ob {a c : Nat} (ha : a < 488) (hT : am_T a = (0, c)) : am_ob 488 a c = True := eq_true ⟨ha, hT⟩
theorem i32e (x k : Int32) : (x = k) = (x.toInt = k.toInt) := propext Int32.toInt_inj.symm
theorem sw14 (x : Int32) : (x.toInt < 1 ∨ 4 < x.toInt) = (¬ x = 1 ∧ ¬ x = 2 ∧ ¬ x = 3 ∧ ¬ x = 4) := by
  rw [i32e x 1, i32e x 2, i32e x 3, i32e x 4]
  have e1 : (1 : Int32).toInt = 1 := by decide
  have e2 : (2 : Int32).toInt = 2 := by decide
  have e3 : (3 : Int32).toInt = 3 := by decide
  have e4 : (4 : Int32).toInt = 4 := by decide
  rw [e1, e2, e3, e4]
  exact propext ⟨fun h => by omega, fun h => by omega⟩
theorem sw02 (x : Int32) : (x.toInt < 0 ∨ 2 < x.toInt) = (¬ x = 0 ∧ ¬ x = 1 ∧ ¬ x = 2) := by
  rw [i32e x 0, i32e x 1, i32e x 2]
  have e0 : (0 : Int32).toInt = 0 := by decide
  have e1 : (1 : Int32).toInt = 1 := by decide
  have e2 : (2 : Int32).toInt = 2 := by decide
  rw [e0, e1, e2]
  exact propext ⟨fun h => by omega, fun h => by omega⟩
def oi (o : Option Nat) : Int32 := match o with
  | none => -1
  | some k => nI k
/-- the last deed ahead of n of a sort and part -/
def lst (s p : Nat → Int32) (so pa : Int32) : Nat → Option Nat
  | 0 => none
  | n + 1 => if s n = so ∧ p n = pa then some n else lst s p so pa n
theorem lst_s (s p : Nat → Int32) (so pa : Int32) (n : Nat) : lst s p so pa (n + 1) = if s n = so ∧ p n = pa then some n else lst s p so pa n := rfl
theorem lst_0 (s p : Nat → Int32) (so pa : Int32) : lst s p so pa 0 = none := rfl
theorem oi_s (k : Nat) : oi (some k) = nI k := rfl
theorem oi_n : oi none = -1 := rfl
theorem lst_lt {s p : Nat → Int32} {so pa : Int32} : ∀ {n k : Nat}, lst s p so pa n = some k → k < n ∧ s k = so ∧ p k = pa
  | 0, _, h => by cases h
  | n + 1, k, h => by
    unfold lst at h
    split at h
    · rename_i hc; cases h; exact ⟨Nat.lt_succ_self _, hc⟩
    · exact ⟨Nat.lt_succ_of_lt (lst_lt h).1, (lst_lt h).2⟩
/-- how often -/
def tms (s p : Nat → Int32) (so pa : Int32) : Nat → Nat
  | 0 => 0
  | n + 1 => tms s p so pa n + (if s n = so ∧ p n = pa then 1 else 0)
theorem tms_le {s p : Nat → Int32} {so pa : Int32} : ∀ n, tms s p so pa n ≤ n
  | 0 => Nat.le_refl 0
  | n + 1 => by unfold tms; have := tms_le (s := s) (p := p) (so := so) (pa := pa) n; split <;> omega
/-- a list of deeds at a: its shape, its length -/
def DLs (M : am_M) (a : Nat) : Prop := a + 3 < 488 ∧ am_T a = (0, 0) ∧ am_T (a + 1) = (1, 16) ∧ am_T (a + 2) = (1, 16) ∧ am_T (a + 3) = (1, 16) ∧ gR M a 0 = some (a + 1) ∧ gR M a 1 = some (a + 2) ∧ gR M a 2 = some (a + 3)
def DL (M : am_M) (a n : Nat) : Prop := DLs M a ∧ gI M a 3 = nI n ∧ n ≤ 16
theorem oi_lst {s p : Nat → Int32} {so pa : Int32} {n : Nat} (h : n ≤ 65536) : (oi (lst s p so pa n) = -1) = (lst s p so pa n = none) := by
  cases e : lst s p so pa n with
  | none => simp [oi]
  | some k =>
    have := (lst_lt e).1
    rw [oi_s, nI_m1 (by omega)]
    simp
/-- what the last such deed tells, or dflt -/
def lx (s p x : Nat → Int32) (so pa : Int32) (n : Nat) (dflt : Int32) : Int32 := match lst s p so pa n with
  | none => dflt
  | some k => x k
/-- the parts (bits) joined onto one -/
def ovr (s p x : Nat → Int32) (pa : Int32) : Nat → Int32
  | 0 => 0
  | n + 1 => if s n = 3 ∧ x n = pa then ovr s p x pa n ||| (1 <<< (p n &&& 31)) else ovr s p x pa n
theorem ovr_s (s p x : Nat → Int32) (pa : Int32) (n : Nat) : ovr s p x pa (n + 1) = if s n = 3 ∧ x n = pa then ovr s p x pa n ||| (1 <<< (p n &&& 31)) else ovr s p x pa n := rfl
/-- the colours one over the other, a digit each -/
def cnm (s p x : Nat → Int32) (pa : Int32) : Nat → Int32
  | 0 => 0
  | n + 1 => if s n = 2 ∧ p n = pa then cnm s p x pa n * 10 + x n else cnm s p x pa n
theorem cnm_s (s p x : Nat → Int32) (pa : Int32) (n : Nat) : cnm s p x pa (n + 1) = if s n = 2 ∧ p n = pa then cnm s p x pa n * 10 + x n else cnm s p x pa n := rfl
theorem tms_s (s p : Nat → Int32) (so pa : Int32) (n : Nat) : tms s p so pa (n + 1) = tms s p so pa n + (if s n = so ∧ p n = pa then 1 else 0) := rfl
/-- whether a deed (so, po, xo) needs an earlier one (s2, p2) -/
def lnf (so po xo s2 p2 : Int32) : Bool := if s2 = 0 then decide (p2 = po) || (decide (so = 3) && decide (p2 = xo)) else if so = 1 then decide (p2 = po) && decide (s2 = 1) else if so = 2 then decide (p2 = po) && decide (s2 = 2) else if so = 3 then (decide (p2 = po) && decide (s2 = 1)) || (decide (p2 = xo) && decide (s2 = 2)) else if so = 4 then decide (p2 = po) && (decide (s2 = 3) || decide (s2 = 2) || decide (s2 = 1)) else false
def lnn (s p x : Nat → Int32) (d e : Nat) : Bool := lnf (s d) (p d) (x d) (s e) (p e)
/-- going down the joins: k steps at most -/
def sOn (u : Int32 → Int32) (lo : Int32) : Nat → Int32 → Bool
  | 0, _ => false
  | k + 1, q => if q = 9 then false else if u q = lo then true else sOn u lo k (u q)
def sty (u : Int32 → Int32) : Nat → Int32 → Nat
  | 0, _ => 0
  | k + 1, q => if q = 9 then 0 else sty u k (u q) + 1
theorem gI_o {M : am_M} {a b j k : Nat} {v : Int32} (h : b ≠ a) : gI (sI M a j v) b k = gI M b k := by rw [gI_sI, if_neg (fun q => h q.1)]
theorem gI_e {M : am_M} {a j : Nat} {v : Int32} : gI (sI M a j v) a j = v := by rw [gI_sI, if_pos ⟨rfl, rfl⟩]
theorem gI_j {M : am_M} {a j k : Nat} {v : Int32} (h : k ≠ j) : gI (sI M a j v) a k = gI M a k := by rw [gI_sI, if_neg (fun q => h q.2)]
theorem li_le (q : Int32) (b : Nat) {k : Nat} (hq : q = nI b) (hb : b < 2 ^ 31) (hk : k < 2 ^ 31) : (q ≤ nI k) = (b ≤ k) := by rw [hq]; exact nI_leE hb hk
/-- all of f from i on, j of them -/
def alf (f : Nat → Bool) : Nat → Nat → Bool
  | _, 0 => true
  | i, j + 1 => f i && alf f (i + 1) j
theorem alf_iff (f : Nat → Bool) : ∀ (j i : Nat), alf f i j = true ↔ ∀ t, i ≤ t → t < i + j → f t = true
  | 0, i => by simp [alf]; omega
  | j + 1, i => by
    unfold alf
    rw [Bool.and_eq_true, alf_iff f j (i + 1)]
    constructor
    · rintro ⟨h1, h2⟩ t ht1 ht2
      by_cases e : t = i
      · rw [e]; exact h1
      · exact h2 t (by omega) (by omega)
    · intro h
      exact ⟨h i (by omega) (by omega), fun t h1 h2 => h t (by omega) (by omega)⟩
def hgt (th : Nat → Bool) (st : Nat → Nat) : Nat → Nat
  | 0 => 0
  | k + 1 => if th k then (if hgt th st k < st k then st k else hgt th st k) else hgt th st k
def ptf (th : Nat → Bool) : Nat → Int32
  | 0 => 0
  | k + 1 => ptf th k ||| (if th k then 1 <<< (nI k &&& 31) else 0)
def lpf (p0 : Int32) (lo : Nat → Bool) : Nat → Int32
  | 0 => p0
  | k + 1 => if lo k then lpf p0 lo k else lpf p0 lo k &&& ((1 <<< (nI k &&& 31)) ^^^ (-1))
/-- the part under one; whether it is there; hidden -/
abbrev und (M : am_M) (a n : Nat) (q : Int32) : Int32 := lx (gI M (a + 1)) (gI M (a + 2)) (gI M (a + 3)) 3 q n 9
def thr (M : am_M) (a n : Nat) (q : Int32) : Bool := (lst (gI M (a + 1)) (gI M (a + 2)) 0 q n).isSome
def hid (M : am_M) (a n : Nat) (q : Int32) : Bool := (lst (gI M (a + 1)) (gI M (a + 2)) 4 q n).isSome
def addM (M : am_M) (a n : Nat) (so pa x : Int32) : am_M := sI (sI (sI (sI M (a + 1) n so) (a + 2) n pa) (a + 3) n (if so = 0 ∨ so = 2 ∨ so = 3 then x else 0)) a 3 (nI (n + 1))
/-- whether a deed can be done, the number of deeds apart -/
def cbf (M : am_M) (a n : Nat) (so pa x : Int32) : Bool := decide (0 ≤ pa) && (decide (pa < 6) && (if so = 0 then decide (0 ≤ x) && (decide (x ≤ 9) && !thr M a n pa) else thr M a n pa && (
  if so = 1 then decide (und M a n pa = 9) && decide (tms (gI M (a + 1)) (gI M (a + 2)) 1 pa n < 3)
  else if so = 2 then decide (1 ≤ x) && (decide (x ≤ 9) && (!hid M a n pa && (decide (ovr (gI M (a + 1)) (gI M (a + 2)) (gI M (a + 3)) pa n = 0) && decide (tms (gI M (a + 1)) (gI M (a + 2)) 2 pa n < 3))))
  else if so = 3 then !decide (x = pa) && (thr M a n x && (decide (und M a n pa = 9) && (!hid M a n x && !sOn (und M a n) pa 6 x)))
  else if so = 4 then !decide (und M a n pa = 9) && (!hid M a n pa && decide (ovr (gI M (a + 1)) (gI M (a + 2)) (gI M (a + 3)) pa n = 0))
  else false)))
