/-! the row of least cost -/
def k6K : Int32 := 1000000
def mnF (b : Int32) (c : Nat → Bool) (v : Nat → Int32) : Nat → Int32
  | 0 => b
  | k + 1 => if c k = true then (if v k < mnF b c v k then v k else mnF b c v k) else mnF b c v k
theorem mnF_c {b : Int32} {c c' : Nat → Bool} {v w : Nat → Int32} : ∀ {k : Nat}, (∀ t, t < k → c t = c' t) → (∀ t, t < k → c t = true → v t = w t) → mnF b c v k = mnF b c' w k
  | 0, _, _ => rfl
  | k + 1, h1, h2 => by
    unfold mnF
    rw [mnF_c (fun t ht => h1 t (by omega)) (fun t ht => h2 t (by omega)), ← h1 k (by omega)]
    cases z : c k with
    | true => rw [h2 k (by omega) z]
    | false => rw [if_neg (by decide), if_neg (by decide)]
theorem mn_le {b : Int32} {c : Nat → Bool} {v : Nat → Int32} : ∀ (k t : Nat), t < k → c t = true → mnF b c v k ≤ v t
  | 0, t, ht, _ => by omega
  | k + 1, t, ht, ct => by
    unfold mnF
    by_cases q : t = k
    · subst q
      rw [if_pos ct]
      split
      · exact Int32.le_refl _
      · rename_i z; exact Int32.not_lt.mp z
    · have := mn_le (b := b) (v := v) k t (by omega) ct
      split
      · split
        · rename_i z; exact Int32.le_of_lt (Int32.lt_of_lt_of_le z this)
        · exact this
      · exact this
theorem mn_at {b : Int32} {c : Nat → Bool} {v : Nat → Int32} : ∀ (k : Nat), mnF b c v k = b ∨ ∃ j, j < k ∧ c j = true ∧ mnF b c v k = v j
  | 0 => Or.inl rfl
  | k + 1 => by
    have ih := mn_at (b := b) (c := c) (v := v) k
    unfold mnF
    cases z : c k with
    | true =>
      rw [if_pos rfl]
      by_cases q : v k < mnF b c v k
      · rw [if_pos q]; exact Or.inr ⟨k, by omega, z, rfl⟩
      · rw [if_neg q]
        rcases ih with h | ⟨j, h1, h2, h3⟩
        · exact Or.inl h
        · exact Or.inr ⟨j, by omega, h2, h3⟩
    | false =>
      rw [if_neg (by decide)]
      rcases ih with h | ⟨j, h1, h2, h3⟩
      · exact Or.inl h
      · exact Or.inr ⟨j, by omega, h2, h3⟩
def lsV (l : List Dd) (p : Nat → Nat → Int32 → Int32) : Nat → Nat → Int32 → Int32
  | 0, _, _ => 0
  | f + 1, s, b => mnF k6K (cf (drD l) s) (fun t => p t (pcN 12 s) b + lsV l p f (s ||| 2 ^ t) (sf l t)) l.length
def lsW (l : List Dd) (p : Nat → Nat → Int32 → Int32) (s : Nat) (b : Int32) : Int32 := lsV l p (cnt l.length s) s b
def pB2 (p : Nat → Nat → Int32 → Int32) (n : Nat) : Prop := ∀ t k b, t < n → 0 ≤ (p t k b).toInt ∧ (p t k b).toInt ≤ 99
section
variable {l : List Dd} {p : Nat → Nat → Int32 → Int32} {s t : Nat} {b : Int32}
theorem lsW_full : lsW l p (2 ^ l.length - 1) b = 0 := by unfold lsW; rw [cnt_full]; rfl
theorem cnt_pos (hs : s < 2 ^ l.length - 1) : ∃ f, cnt l.length s = f + 1 := by
  cases e : cnt l.length s with
  | zero => have := cnt_0 e (by omega); omega
  | succ f => exact ⟨f, rfl⟩
theorem lsW_s (hs : s < 2 ^ l.length - 1) : lsW l p s b = mnF k6K (cf (drD l) s) (fun t => p t (pcN 12 s) b + lsW l p (s ||| 2 ^ t) (sf l t)) l.length := by
  unfold lsW
  obtain ⟨f, hf⟩ := cnt_pos hs
  rw [hf]
  refine mnF_c (fun _ _ => rfl) (fun t ht ct => ?_)
  have := cnt_or ht (cf_f ct).1
  rw [show cnt l.length (s ||| 2 ^ t) = f by omega]
/-- the first deed that is wanting can be laid -/
theorem cf_low {g : Nat → Nat} (hg : ∀ t, g t < 2 ^ t) {n : Nat} (hs : s < 2 ^ n - 1) : ∃ t, t < n ∧ cf g s t = true := by
  have key : ∀ j, (∀ i, i < j → s.testBit i = true) → j ≤ n → ∃ t, t < n ∧ cf g s t = true := by
    intro j
    induction hj : n - j generalizing j with
    | zero =>
      intro h hjn
      have : s = 2 ^ n - 1 := Nat.eq_of_testBit_eq (fun i => by
        rw [Nat.testBit_two_pow_sub_one]
        by_cases q : i < n
        · rw [h i (by omega), decide_eq_true q]
        · rw [decide_eq_false q]
          exact Nat.testBit_lt_two_pow (Nat.lt_of_lt_of_le (show s < 2 ^ n by omega) (Nat.pow_le_pow_right (by omega) (by omega))))
      omega
    | succ m ih =>
      intro h hjn
      cases z : s.testBit j with
      | true => exact ih (j + 1) (by omega) (fun i hi => by
          by_cases q : i = j
          · rw [q]; exact z
          · exact h i (by omega)) (by omega)
      | false =>
        refine ⟨j, by omega, ?_⟩
        unfold cf
        rw [z]
        simp only [Bool.not_false, Bool.true_and, decide_eq_true_eq]
        refine sub_iff.mpr (fun i hi => ?_)
        by_cases q : i < j
        · exact h i q
        · have := Nat.testBit_lt_two_pow (x := g j) (i := i) (Nat.lt_of_lt_of_le (hg j) (Nat.pow_le_pow_right (by omega) (by omega)))
          rw [this] at hi; cases hi
  exact key 0 (fun i hi => by omega) (by omega)
theorem k6 (x : Int32) : (x < k6K) = (x.toInt < 1000000) := by
  rw [Int32.lt_iff_toInt_lt, show k6K.toInt = 1000000 from by decide]
theorem drD_lt (t : Nat) : drD l t < 2 ^ t := drt_lt t
theorem lsV_bd (hp : pB2 p l.length) (hl : l.length ≤ 12) : ∀ f s b, cnt l.length s = f → s < 2 ^ l.length → 0 ≤ (lsV l p f s b).toInt ∧ (lsV l p f s b).toInt ≤ 99 * f
  | 0, s, b, _, _ => by
    have e : (lsV l p 0 s b).toInt = 0 := (by decide : (0 : Int32).toInt = 0)
    rw [e]; omega
  | f + 1, s, b, hf, hs => by
    have f12 : f + 1 ≤ 12 := by have := cnt_le s l.length; omega
    have hne : s < 2 ^ l.length - 1 := by
      by_cases z : s = 2 ^ l.length - 1
      · rw [z, cnt_full] at hf; omega
      · omega
    obtain ⟨t, ht, ct⟩ := cf_low (g := drD l) (fun t => drD_lt t) hne
    have bd : ∀ t, t < l.length → cf (drD l) s t = true → 0 ≤ (p t (pcN 12 s) b + lsV l p f (s ||| 2 ^ t) (sf l t)).toInt ∧ (p t (pcN 12 s) b + lsV l p f (s ||| 2 ^ t) (sf l t)).toInt ≤ 99 * (f + 1) := fun t ht ct => by
      have c1 := cnt_or ht (cf_f ct).1
      have c2 := (or_gt hs ht (cf_f ct).1).2
      have ih := lsV_bd hp hl f (s ||| 2 ^ t) (sf l t) (by omega) c2
      have q := hp t (pcN 12 s) b ht
      rw [Int32.toInt_add, Int.bmod_eq_of_le (by omega) (by omega)]
      omega
    have hv := mn_le (b := k6K) (c := cf (drD l) s) (v := fun t => p t (pcN 12 s) b + lsV l p f (s ||| 2 ^ t) (sf l t)) l.length t ht ct
    have hb := bd t ht ct
    show 0 ≤ (mnF k6K (cf (drD l) s) (fun t => p t (pcN 12 s) b + lsV l p f (s ||| 2 ^ t) (sf l t)) l.length).toInt ∧ (mnF k6K (cf (drD l) s) (fun t => p t (pcN 12 s) b + lsV l p f (s ||| 2 ^ t) (sf l t)) l.length).toInt ≤ 99 * ((f + 1 : Nat) : Int)
    rcases mn_at (b := k6K) (c := cf (drD l) s) (v := fun t => p t (pcN 12 s) b + lsV l p f (s ||| 2 ^ t) (sf l t)) l.length with e | ⟨j, hj, cj, e⟩
    · rw [e, Int32.le_iff_toInt_le, show k6K.toInt = 1000000 from by decide] at hv
      omega
    · rw [e]
      have := bd j hj cj
      omega
theorem lsW_bd (hp : pB2 p l.length) (hl : l.length ≤ 12) (hs : s < 2 ^ l.length) : 0 ≤ (lsW l p s b).toInt ∧ (lsW l p s b).toInt ≤ 1188 := by
  have h1 := lsV_bd hp hl (cnt l.length s) s b rfl hs
  have h2 := cnt_le s l.length
  unfold lsW
  omega
/-- what the rest of a row costs at least, if it goes on with this deed -/
def lct (l : List Dd) (p : Nat → Nat → Int32 → Int32) (s : Nat) (b : Int32) (t : Nat) : Int32 := p t (pcN 12 s) b + lsW l p (s ||| 2 ^ t) (sf l t)
def lgo (l : List Dd) (p : Nat → Nat → Int32 → Int32) (s : Nat) (b : Int32) (t : Nat) : Bool := cf (drD l) s t && decide (lct l p s b t = lsW l p s b)
/-- the first deed with which a row of least cost goes on -/
theorem lgo_ex (hp : pB2 p l.length) (hl : l.length ≤ 12) (hs : s < 2 ^ l.length - 1) : ∃ t, t < l.length ∧ lgo l p s b t = true := by
  obtain ⟨t, ht, ct⟩ := cf_low (g := drD l) (fun t => drD_lt t) hs
  have hv := mn_le (b := k6K) (c := cf (drD l) s) (v := lct l p s b) l.length t ht ct
  have e0 : mnF k6K (cf (drD l) s) (lct l p s b) l.length = lsW l p s b := (lsW_s hs).symm
  rcases mn_at (b := k6K) (c := cf (drD l) s) (v := lct l p s b) l.length with e | ⟨j, hj, cj, e⟩
  · rw [e0] at e
    have := lsW_bd (b := b) hp hl (show s < 2 ^ l.length by omega)
    rw [e, show k6K.toInt = 1000000 from by decide] at this
    omega
  · refine ⟨j, hj, ?_⟩
    unfold lgo
    rw [cj, Bool.true_and]
    rw [e0] at e
    exact decide_eq_true e.symm
theorem fnd_ok {c : Nat → Bool} : ∀ (j lo t : Nat), lo ≤ t → t < lo + j → c t = true → ∃ k, fnd c lo j = some k ∧ lo ≤ k ∧ k < lo + j ∧ c k = true ∧ ∀ i, lo ≤ i → i < k → c i = false
  | 0, lo, t, h1, h2, _ => by omega
  | j + 1, lo, t, h1, h2, ct => by
    unfold fnd
    cases z : c lo with
    | true => exact ⟨lo, rfl, Nat.le_refl _, by omega, z, fun i h1 h2 => by omega⟩
    | false =>
      have hne : t ≠ lo := fun e => by rw [e, z] at ct; cases ct
      obtain ⟨k, a, b, c', d, e⟩ := fnd_ok j (lo + 1) t (by omega) (by omega) ct
      refine ⟨k, by rw [if_neg (by decide)]; exact a, by omega, by omega, d, fun i h1 h2 => ?_⟩
      by_cases q : i = lo
      · rw [q]; exact z
      · exact e i (by omega) h2
def ldN (l : List Dd) (p : Nat → Nat → Int32 → Int32) (s : Nat) (b : Int32) : Nat := (fnd (lgo l p s b) 0 l.length).getD 0
theorem ldN_ok (hp : pB2 p l.length) (hl : l.length ≤ 12) (hs : s < 2 ^ l.length - 1) : ldN l p s b < l.length ∧ lgo l p s b (ldN l p s b) = true ∧ ∀ i, i < ldN l p s b → lgo l p s b i = false := by
  obtain ⟨t, ht, ct⟩ := lgo_ex (b := b) hp hl hs
  obtain ⟨k, e, _, h2, h3, h4⟩ := fnd_ok l.length 0 t (by omega) (by omega) ct
  unfold ldN
  rw [e]
  exact ⟨by show k < _; omega, h3, fun i hi => h4 i (by omega) hi⟩
def lrs (l : List Dd) (p : Nat → Nat → Int32 → Int32) : Nat → Nat × Int32
  | 0 => (0, nI 5)
  | k + 1 => ((lrs l p k).1 ||| 2 ^ ldN l p (lrs l p k).1 (lrs l p k).2, sf l (ldN l p (lrs l p k).1 (lrs l p k).2))
def ldd (l : List Dd) (p : Nat → Nat → Int32 → Int32) (k : Nat) : Nat := ldN l p (lrs l p k).1 (lrs l p k).2
theorem pc_or (h : s.testBit t = false) : ∀ k, pcN k (s ||| 2 ^ t) = pcN k s + (if t < k then 1 else 0)
  | 0 => rfl
  | k + 1 => by
    have ih := pc_or h k
    unfold pcN
    rw [or_bit]
    by_cases z : k = t
    · subst z
      have q : ¬ k < k := by omega
      rw [if_neg q] at ih
      rw [h, decide_eq_true rfl, ih]
      simp
    · rw [decide_eq_false (fun e => z e.symm), Bool.or_false]
      by_cases q : t < k
      · have q2 : t < k + 1 := by omega
        rw [if_pos q] at ih; rw [if_pos q2]; omega
      · have q2 : ¬ t < k + 1 := by omega
        rw [if_neg q] at ih; rw [if_neg q2]; omega
theorem pc_0 : ∀ k, pcN k 0 = 0
  | 0 => rfl
  | k + 1 => by unfold pcN; rw [pc_0 k]; simp
theorem pc_f (hl : l.length ≤ 12) : pcN 12 (2 ^ l.length - 1) = l.length := pc_full l.length (by omega)
theorem lgo_cf {k : Nat} (h : lgo l p s b k = true) : cf (drD l) s k = true ∧ lct l p s b k = lsW l p s b := by
  unfold lgo at h
  rw [Bool.and_eq_true, decide_eq_true_eq] at h
  exact h
/-- where a row of least cost stands behind k deeds -/
theorem lrs_ok (hp : pB2 p l.length) (hl : l.length ≤ 12) : ∀ k, k ≤ l.length → (lrs l p k).1 < 2 ^ l.length ∧ pcN 12 (lrs l p k).1 = k ∧ WH l (lrs l p k).1 ∧ (k < l.length → (lrs l p k).1 < 2 ^ l.length - 1)
  | 0, _ => by
    have pp : 0 < 2 ^ l.length := Nat.pow_pos (by omega)
    refine ⟨pp, pc_0 12, WH_0, fun h => ?_⟩
    show 0 < _
    have : 1 < 2 ^ l.length := Nat.one_lt_two_pow (by omega)
    omega
  | k + 1, hk => by
    obtain ⟨h1, h2, h3, h4⟩ := lrs_ok hp hl k (by omega)
    have h4 := h4 (by omega)
    show (lrs l p k).1 ||| 2 ^ ldN l p (lrs l p k).1 (lrs l p k).2 < 2 ^ l.length ∧ pcN 12 ((lrs l p k).1 ||| 2 ^ ldN l p (lrs l p k).1 (lrs l p k).2) = k + 1 ∧ WH l ((lrs l p k).1 ||| 2 ^ ldN l p (lrs l p k).1 (lrs l p k).2) ∧ (k + 1 < l.length → (lrs l p k).1 ||| 2 ^ ldN l p (lrs l p k).1 (lrs l p k).2 < 2 ^ l.length - 1)
    obtain ⟨a, c, _⟩ := ldN_ok (b := (lrs l p k).2) hp hl h4
    generalize hs : (lrs l p k).1 = s at *
    generalize hd : ldN l p s (lrs l p k).2 = t at *
    have c := (lgo_cf c).1
    have c' : cf (bl l) s t = true := by rw [cf_eq h3 a]; exact c
    have o := or_gt h1 a (cf_f c).1
    have pc := pc_or (cf_f c).1 12
    rw [if_pos (by omega)] at pc
    have e2 : pcN 12 (s ||| 2 ^ t) = k + 1 := by omega
    refine ⟨o.2, e2, WH_or h3 c', fun hlt => ?_⟩
    by_cases z : s ||| 2 ^ t = 2 ^ l.length - 1
    · rw [z, pc_f hl] at e2; omega
    · omega
def lb0 (n s : Nat) : Int32 := if s = 2 ^ n - 1 then 0 else k6K
theorem cf_full {g : Nat → Nat} (ht : t < l.length) : cf g (2 ^ l.length - 1) t = false := by
  unfold cf
  rw [Nat.testBit_two_pow_sub_one, decide_eq_true ht]
  rfl
theorem mnF_no {b : Int32} {c : Nat → Bool} {v : Nat → Int32} : ∀ {k : Nat}, (∀ t, t < k → c t = false) → mnF b c v k = b
  | 0, _ => rfl
  | k + 1, h => by
    unfold mnF
    rw [h k (by omega), if_neg (by decide)]
    exact mnF_no (fun t ht => h t (by omega))
theorem lsW_e (hs : s < 2 ^ l.length) : mnF (lb0 l.length s) (cf (drD l) s) (lct l p s b) l.length = lsW l p s b := by
  unfold lb0
  by_cases z : s = 2 ^ l.length - 1
  · rw [if_pos z, z, lsW_full]
    exact mnF_no (fun t ht => cf_full ht)
  · rw [if_neg z, lsW_s (by omega)]
    rfl
theorem pc_lt (hs : s < 2 ^ l.length) (ht : t < l.length) (hb : s.testBit t = false) (hl : l.length ≤ 12) : pcN 12 s < l.length := by
  have e := pc_or hb 12
  have o := or_gt hs ht hb
  have := pc_bd (s := s ||| 2 ^ t) (n := l.length) (fun i hi => Nat.testBit_lt_two_pow (Nat.lt_of_lt_of_le o.2 (Nat.pow_le_pow_right (by omega) hi))) 12
  rw [if_pos (by omega)] at e
  omega
end
noncomputable def lpr (LL : List (List Nat)) (h : Int32) (S : Sg) (t k : Nat) (b : Int32) : Int32 := prc LL h (sf S.1 t) (pf S.1 t) (xf S.1 t) (nI k) b (nI S.2.2.2.1)
theorem lpr_bd {LL : List (List Nat)} {h : Int32} {S : Sg} (hw : WFl S.1) : pB2 (lpr LL h S) S.1.length := fun t k b ht => by
  obtain ⟨s, p, x, e1, e2, e3, b1, _⟩ := WF_at hw ht
  unfold lpr
  rw [e1]
  exact prc_bd b1 _ _ _ _ _
noncomputable def cheapA (ap : Nat) (LL : List (List Nat)) (h : Int32) (S : Sg) (a : Int32) : Int32 := if opn ap = true ∧ (a = -1 ∨ (0 ≤ a ∧ a < nI S.1.length)) then (if a = -1 then lsW S.1 (lpr LL h S) 0 (nI 5) else nI (ldd S.1 (lpr LL h S) a.toNatClampNeg)) else -1
