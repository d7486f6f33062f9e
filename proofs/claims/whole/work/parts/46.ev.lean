/-! a law's signs, worked off: what is on the stack -/
def clI (x : Int) : Int32 := Int32.ofInt (if x < -1000000 then -1000000 else if 1000000 < x then 1000000 else x)
def Bd (v : Int32) : Prop := -1000000 ≤ v.toInt ∧ v.toInt ≤ 1000000
def jn (a s b : Int32) : Int32 := if s = 43 then clI (a.toInt + b.toInt) else if s = 45 then clI (a.toInt - b.toInt) else if s = 42 then clI (a.toInt * b.toInt) else if s = 47 then (if b = 0 then 0 else a / b) else if s = 61 then bz (decide (a = b)) else if s = 60 then bz (decide (a < b)) else if s = 62 then bz (decide (b < a)) else if s = 38 then a &&& b else a ||| b
def is01 (v : Int32) : Bool := decide (v = 0) || decide (v = 1)
def isAr (s : Int32) : Bool := decide (s = 43) || (decide (s = 45) || (decide (s = 42) || (decide (s = 47) || (decide (s = 61) || (decide (s = 60) || decide (s = 62))))))
def stB (L : Int32 → Int32) (B : Nat) (c : Int32) (st : List Int32) : Option (List Int32) :=
  if c < 20000 then (if st.length < B ∧ 0 ≤ c ∧ c < 10006 then some ((if c < 10000 then c else L (c - 10000)) :: st) else none)
  else if c = 20033 then (match st with
    | a :: r => if is01 a = true then some ((1 - a) :: r) else none
    | [] => none)
  else match st with
    | b :: a :: r => if isAr (c - 20000) = true ∨ ((c = 20038 ∨ c = 20124) ∧ is01 a = true ∧ is01 b = true) then some (jn a (c - 20000) b :: r) else none
    | _ => none
def evB (L : Int32 → Int32) (B : Nat) : List Int32 → List Int32 → Option (List Int32)
  | [], st => some st
  | c :: cs, st => match stB L B c st with
    | some st' => evB L B cs st'
    | none => none
theorem evB_app (L : Int32 → Int32) (B : Nat) : ∀ (c1 c2 st st' : List Int32), evB L B c1 st = some st' → evB L B (c1 ++ c2) st = evB L B c2 st'
  | [], c2, st, st', h => by cases h; rfl
  | c :: cs, c2, st, st', h => by
    show (match stB L B c st with | some st' => evB L B (cs ++ c2) st' | none => none) = _
    unfold evB at h
    cases e : stB L B c st with
    | none => rw [e] at h; cases h
    | some s => rw [e] at h; exact evB_app L B cs c2 s st' h
/-- the signs c, worked off anywhere with room for k, leave v -/
def CV (L : Int32 → Int32) (c : List Int32) (k : Nat) (v : Int32) : Prop := ∀ (st : List Int32) (B : Nat), st.length + k ≤ B → evB L B c st = some (v :: st)
section
variable {L : Int32 → Int32} {c c1 c2 : List Int32} {k k1 k2 : Nat} {v v1 v2 s : Int32}
theorem CV_mono (h : CV L c k v) (hk : k ≤ k1) : CV L c k1 v := fun st B hB => h st B (by omega)
theorem CV_num (h0 : 0 ≤ v) (h1 : v < 10000) : CV L [v] 1 v := by
  intro st B hB
  have h2 : v < 20000 := Int32.lt_of_lt_of_le h1 (by decide)
  have h3 : v < 10006 := Int32.lt_of_lt_of_le h1 (by decide)
  have h4 : st.length < B := by omega
  simp [evB, stB, h2, h0, h1, h3, h4]
theorem CV_ltr {x : Nat} (h : x < 6) : CV L [10000 + nI x] 1 (L (nI x)) := by
  intro st B hB
  have h4 : st.length < B := by omega
  have e : (10000 : Int32) + nI x = nI (10000 + x) := by rw [show (10000 : Int32) = nI 10000 from rfl, nI_add]
  have h1 : nI (10000 + x) < 20000 := by rw [show (20000 : Int32) = nI 20000 from rfl, nI_ltE (by omega) (by omega)]; omega
  have h2 : nI (10000 + x) < 10006 := by rw [show (10006 : Int32) = nI 10006 from rfl, nI_ltE (by omega) (by omega)]; omega
  have h3 : ¬ nI (10000 + x) < 10000 := by rw [show (10000 : Int32) = nI 10000 from rfl, nI_ltE (by omega) (by omega)]; omega
  have h5 : nI (10000 + x) - 10000 = nI x := by rw [show (10000 : Int32) = nI 10000 from rfl, pk_sub (by omega), Nat.add_sub_cancel_left]
  have h6 : (0 : Int32) ≤ nI (10000 + x) := nI_pos' (by omega)
  rw [e]
  simp [evB, stB, h1, h2, h3, h4, h5, h6]
theorem CV_bin (h1 : CV L c1 k1 v1) (h2 : CV L c2 k2 v2) (hk1 : k1 ≤ k) (hk2 : k2 + 1 ≤ k) (hs : isAr s = true) : CV L (c1 ++ c2 ++ [20000 + s]) k (jn v1 s v2) := by
  intro st B hB
  rw [List.append_assoc, evB_app L B c1 _ st _ (h1 st B (by omega)), evB_app L B c2 _ _ _ (h2 (v1 :: st) B (by simp only [List.length_cons]; omega))]
  have e1 : ¬ (20000 : Int32) + s < 20000 ∧ ¬ (20000 : Int32) + s = 20033 ∧ (20000 : Int32) + s - 20000 = s := by
    unfold isAr at hs
    simp only [Bool.or_eq_true, decide_eq_true_eq] at hs
    rcases hs with rfl | rfl | rfl | rfl | rfl | rfl | rfl <;> decide
  simp [evB, stB, e1, hs]
theorem CV_log (h1 : CV L c1 k1 v1) (h2 : CV L c2 k2 v2) (hk1 : k1 ≤ k) (hk2 : k2 + 1 ≤ k) (hs : s = 38 ∨ s = 124) (b1 : is01 v1 = true) (b2 : is01 v2 = true) : CV L (c1 ++ c2 ++ [20000 + s]) k (jn v1 s v2) := by
  intro st B hB
  rw [List.append_assoc, evB_app L B c1 _ st _ (h1 st B (by omega)), evB_app L B c2 _ _ _ (h2 (v1 :: st) B (by simp only [List.length_cons]; omega))]
  have e1 : ¬ (20000 : Int32) + s < 20000 ∧ ¬ (20000 : Int32) + s = 20033 ∧ (20000 : Int32) + s - 20000 = s ∧ ((20000 : Int32) + s = 20038 ∨ (20000 : Int32) + s = 20124) := by
    rcases hs with rfl | rfl <;> decide
  simp [evB, stB, e1, b1, b2]
theorem CV_not (h1 : CV L c k v) (b1 : is01 v = true) : CV L (c ++ [20033]) k (1 - v) := by
  intro st B hB
  rw [evB_app L B c _ st _ (h1 st B hB)]
  have e1 : ¬ (20033 : Int32) < 20000 := by decide
  simp [evB, stB, e1, b1]
theorem clI_i (x : Int) : (clI x).toInt = if x < -1000000 then -1000000 else if 1000000 < x then 1000000 else x := by
  unfold clI
  rw [Int32.toInt_ofInt_of_le]
  · split <;> (try split) <;> omega
  · split <;> (try split) <;> omega
theorem Bd_clI (x : Int) : Bd (clI x) := by
  unfold Bd
  rw [clI_i]
  split <;> (try split) <;> omega
theorem Bd_01 (h : is01 v = true) : Bd v := by
  unfold is01 at h
  simp only [Bool.or_eq_true, decide_eq_true_eq] at h
  rcases h with rfl | rfl <;> (unfold Bd; decide)
theorem bz_is01 (b : Bool) : is01 (bz b) = true := by cases b <;> decide
theorem bm32 {x : Int} (h1 : -2 ^ 31 ≤ x) (h2 : x < 2 ^ 31) : x.bmod (2 ^ 32) = x := Int.bmod_eq_of_le (by omega) (by omega)
theorem div_i (h : Bd v1) : (v1 / v2).toInt = v1.toInt.tdiv v2.toInt ∧ Bd (v1 / v2) := by
  have hab : (v1.toInt.tdiv v2.toInt).natAbs ≤ v1.toInt.natAbs := by rw [Int.natAbs_tdiv]; exact Nat.div_le_self _ _
  unfold Bd at h ⊢
  have e : (v1 / v2).toInt = v1.toInt.tdiv v2.toInt := by
    rw [Int32.toInt_div]
    exact bm32 (by omega) (by omega)
  rw [e]
  exact ⟨rfl, by omega⟩
theorem Bd_div (h : Bd v1) : Bd (v1 / v2) := (div_i h).2
theorem Bd_jn (h1 : Bd v1) (h2 : Bd v2) (hs : isAr s = true) : Bd (jn v1 s v2) := by
  unfold isAr at hs
  simp only [Bool.or_eq_true, decide_eq_true_eq] at hs
  unfold jn
  rcases hs with rfl | rfl | rfl | rfl | rfl | rfl | rfl
  · exact Bd_clI _
  · exact Bd_clI _
  · exact Bd_clI _
  · show Bd (if v2 = 0 then 0 else v1 / v2)
    split
    · unfold Bd; decide
    · exact Bd_div h1
  · exact Bd_01 (bz_is01 _)
  · exact Bd_01 (bz_is01 _)
  · exact Bd_01 (bz_is01 _)
theorem cmp_is01 (hs : isCp s = true) : is01 (jn v1 s v2) = true ∧ isAr s = true := by
  unfold isCp at hs
  simp only [Bool.or_eq_true, decide_eq_true_eq] at hs
  unfold jn
  rcases hs with rfl | rfl | rfl
  · exact ⟨bz_is01 _, by decide⟩
  · exact ⟨bz_is01 _, by decide⟩
  · exact ⟨bz_is01 _, by decide⟩
theorem log_is01 (hs : s = 38 ∨ s = 124) (b1 : is01 v1 = true) (b2 : is01 v2 = true) : is01 (jn v1 s v2) = true := by
  unfold is01 at b1 b2
  simp only [Bool.or_eq_true, decide_eq_true_eq] at b1 b2
  rcases hs with rfl | rfl <;> rcases b1 with rfl | rfl <;> rcases b2 with rfl | rfl <;> decide
theorem not_is01 (b1 : is01 v = true) : is01 (1 - v) = true := by
  unfold is01 at b1
  simp only [Bool.or_eq_true, decide_eq_true_eq] at b1
  rcases b1 with rfl | rfl <;> decide
end
