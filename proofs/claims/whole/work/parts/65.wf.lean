/-! what the deeds of a list make, by the list alone -/
def sf (l : List Dd) (k : Nat) : Int32 := srt0 l k
def pf (l : List Dd) (k : Nat) : Int32 := (l.getD k (0, 0, 0)).2.1
def xf (l : List Dd) (k : Nat) : Int32 := (l.getD k (0, 0, 0)).2.2
theorem lst_congr {s p s' p' : Nat → Int32} {so pa : Int32} : ∀ {n : Nat}, (∀ k, k < n → s k = s' k ∧ p k = p' k) → lst s p so pa n = lst s' p' so pa n
  | 0, _ => rfl
  | n + 1, h => by unfold lst; rw [(h n (by omega)).1, (h n (by omega)).2, lst_congr (fun k hk => h k (by omega))]
theorem tms_congr {s p s' p' : Nat → Int32} {so pa : Int32} : ∀ {n : Nat}, (∀ k, k < n → s k = s' k ∧ p k = p' k) → tms s p so pa n = tms s' p' so pa n
  | 0, _ => rfl
  | n + 1, h => by unfold tms; rw [(h n (by omega)).1, (h n (by omega)).2, tms_congr (fun k hk => h k (by omega))]
theorem lx_congr {s p x s' p' x' : Nat → Int32} {so pa d : Int32} {n : Nat} (h : ∀ k, k < n → s k = s' k ∧ p k = p' k) (hx : ∀ k, k < n → x k = x' k) : lx s p x so pa n d = lx s' p' x' so pa n d := by
  unfold lx
  rw [lst_congr h]
  cases e : lst s' p' so pa n with
  | none => rfl
  | some k => exact hx k (lst_lt e).1
theorem ovr_congr {s p x s' p' x' : Nat → Int32} {pa : Int32} : ∀ {n : Nat}, (∀ k, k < n → s k = s' k ∧ p k = p' k) → (∀ k, k < n → x k = x' k) → ovr s p x pa n = ovr s' p' x' pa n
  | 0, _, _ => rfl
  | n + 1, h, hx => by unfold ovr; rw [(h n (by omega)).1, (h n (by omega)).2, hx n (by omega), ovr_congr (fun k hk => h k (by omega)) (fun k hk => hx k (by omega))]
theorem cnm_congr {s p x s' p' x' : Nat → Int32} {pa : Int32} : ∀ {n : Nat}, (∀ k, k < n → s k = s' k ∧ p k = p' k) → (∀ k, k < n → x k = x' k) → cnm s p x pa n = cnm s' p' x' pa n
  | 0, _, _ => rfl
  | n + 1, h, hx => by unfold cnm; rw [(h n (by omega)).1, (h n (by omega)).2, hx n (by omega), cnm_congr (fun k hk => h k (by omega)) (fun k hk => hx k (by omega))]
def unL (l : List Dd) (q : Int32) : Int32 := lx (sf l) (pf l) (xf l) 3 q l.length 9
def thL (l : List Dd) (q : Int32) : Bool := (lst (sf l) (pf l) 0 q l.length).isSome
def hiL (l : List Dd) (q : Int32) : Bool := (lst (sf l) (pf l) 4 q l.length).isSome
def tmL (l : List Dd) (so q : Int32) : Nat := tms (sf l) (pf l) so q l.length
def ovL (l : List Dd) (q : Int32) : Int32 := ovr (sf l) (pf l) (xf l) q l.length
def cnL (l : List Dd) (q : Int32) : Int32 := cnm (sf l) (pf l) (xf l) q l.length
def cbL (l : List Dd) (so pa x : Int32) : Bool := decide (0 ≤ pa) && (decide (pa < 6) && (if so = 0 then decide (0 ≤ x) && (decide (x ≤ 9) && !thL l pa) else thL l pa && (
  if so = 1 then decide (unL l pa = 9) && decide (tmL l 1 pa < 3)
  else if so = 2 then decide (1 ≤ x) && (decide (x ≤ 9) && (!hiL l pa && (decide (ovL l pa = 0) && decide (tmL l 2 pa < 3))))
  else if so = 3 then !decide (x = pa) && (thL l x && (decide (unL l pa = 9) && (!hiL l x && !sOn (unL l) pa 6 x)))
  else if so = 4 then !decide (unL l pa = 9) && (!hiL l pa && decide (ovL l pa = 0))
  else false)))
def lnL (l : List Dd) (i e : Nat) : Bool := lnn (sf l) (pf l) (xf l) i e
def ctL (l : List Dd) (e : Nat) : Bool := alf (fun t => !lnL l t e) (e + 1) (l.length - (e + 1))
section
variable {M : am_M} {a : Nat} {l : List Dd}
theorem LH_s (h : LH M a l) : ∀ k, k < l.length → gI M (a + 1) k = sf l k ∧ gI M (a + 2) k = pf l k := fun k hk => ⟨(LH_get h hk).1, (LH_get h hk).2.1⟩
theorem LH_x (h : LH M a l) : ∀ k, k < l.length → gI M (a + 3) k = xf l k := fun k hk => (LH_get h hk).2.2
theorem und_L (h : LH M a l) : und M a l.length = unL l := funext fun q => lx_congr (LH_s h) (LH_x h)
theorem thr_L (h : LH M a l) (q : Int32) : thr M a l.length q = thL l q := by unfold thr thL; rw [lst_congr (LH_s h)]
theorem hid_L (h : LH M a l) (q : Int32) : hid M a l.length q = hiL l q := by unfold hid hiL; rw [lst_congr (LH_s h)]
theorem cbf_L (h : LH M a l) (so pa x : Int32) : cbf M a l.length so pa x = cbL l so pa x := by
  unfold cbf cbL
  rw [thr_L h, thr_L h, hid_L h, hid_L h, und_L h, tms_congr (LH_s h), tms_congr (LH_s h), ovr_congr (LH_s h) (LH_x h)]
  rfl
theorem alf_congr {f g : Nat → Bool} : ∀ {j i : Nat}, (∀ t, i ≤ t → t < i + j → f t = g t) → alf f i j = alf g i j
  | 0, _, _ => rfl
  | j + 1, i, h => by unfold alf; rw [h i (by omega) (by omega), alf_congr (fun t h1 h2 => h t (by omega) (by omega))]
theorem ctb_L (h : LH M a l) {e : Nat} (he : e < l.length) : alf (fun t => !lnn (gI M (a + 1)) (gI M (a + 2)) (gI M (a + 3)) t e) (e + 1) (l.length - (e + 1)) = ctL l e := by
  unfold ctL
  refine alf_congr (fun t h1 h2 => ?_)
  unfold lnL lnn
  rw [(LH_s h t (by omega)).1, (LH_s h t (by omega)).2, LH_x h t (by omega), (LH_s h e he).1, (LH_s h e he).2]
end
/-- a list that can be: each deed within its bounds, a part joined once at most, no ring of joins -/
def WFt (t : Dd) : Prop := ∃ s p x : Nat, t = (nI s, nI p, nI x) ∧ s < 5 ∧ p < 6 ∧ x < 10 ∧ (s = 3 → x < 6)
def WFl (l : List Dd) : Prop := (∀ t, t ∈ l → WFt t) ∧ (∀ i j, i < l.length → j < l.length → sf l i = 3 → sf l j = 3 → pf l i = pf l j → i = j) ∧ ∃ rk : Int32 → Nat, ∀ i, i < l.length → sf l i = 3 → rk (xf l i) < rk (pf l i)
theorem sf_get {l : List Dd} {k : Nat} (hk : k < l.length) : sf l k = l[k].1 ∧ pf l k = l[k].2.1 ∧ xf l k = l[k].2.2 := by
  unfold sf srt0 pf xf
  rw [List.getD_eq_getElem?_getD, List.getElem?_eq_getElem hk]
  exact ⟨rfl, rfl, rfl⟩
theorem WF_at {l : List Dd} (h : WFl l) {k : Nat} (hk : k < l.length) : ∃ s p x : Nat, sf l k = nI s ∧ pf l k = nI p ∧ xf l k = nI x ∧ s < 5 ∧ p < 6 ∧ x < 10 ∧ (s = 3 → x < 6) := by
  obtain ⟨s, p, x, e, r⟩ := h.1 l[k] (List.getElem_mem hk)
  obtain ⟨e1, e2, e3⟩ := sf_get hk
  rw [e] at e1 e2 e3
  exact ⟨s, p, x, e1, e2, e3, r⟩
theorem sf_app {l : List Dd} {t : Dd} {k : Nat} (hk : k < l.length) : sf (l ++ [t]) k = sf l k ∧ pf (l ++ [t]) k = pf l k ∧ xf (l ++ [t]) k = xf l k := by
  have h1 := sf_get (l := l ++ [t]) (k := k) (by simp; omega)
  have h2 := sf_get hk
  rw [List.getElem_append_left hk] at h1
  exact ⟨h1.1.trans h2.1.symm, h1.2.1.trans h2.2.1.symm, h1.2.2.trans h2.2.2.symm⟩
theorem sf_last {l : List Dd} {t : Dd} : sf (l ++ [t]) l.length = t.1 ∧ pf (l ++ [t]) l.length = t.2.1 ∧ xf (l ++ [t]) l.length = t.2.2 := by
  have h1 := sf_get (l := l ++ [t]) (k := l.length) (by simp)
  rw [List.getElem_append_right (Nat.le_refl _)] at h1
  simpa using h1
theorem sf_erase {l : List Dd} {e k : Nat} (he : e < l.length) (hk : k < l.length - 1) : ∃ k', k' < l.length ∧ (k' = if k < e then k else k + 1) ∧ sf (l.eraseIdx e) k = sf l k' ∧ pf (l.eraseIdx e) k = pf l k' ∧ xf (l.eraseIdx e) k = xf l k' := by
  refine ⟨if k < e then k else k + 1, by split <;> omega, rfl, ?_⟩
  unfold sf srt0 pf xf
  simp only [List.getD_eq_getElem?_getD, List.getElem?_eraseIdx]
  split <;> exact ⟨rfl, rfl, rfl⟩
theorem WF_erase {l : List Dd} {e : Nat} (h : WFl l) (he : e < l.length) : WFl (l.eraseIdx e) := by
  have e1 : (l.eraseIdx e).length = l.length - 1 := by rw [List.length_eraseIdx, if_pos he]
  obtain ⟨h1, h2, rk, h3⟩ := h
  refine ⟨fun t ht => h1 t (List.mem_of_mem_eraseIdx ht), fun i j hi hj a1 a2 a3 => ?_, rk, fun i hi a1 => ?_⟩
  · obtain ⟨i', b1, b2, b3, b4, b5⟩ := sf_erase (e := e) he (k := i) (by omega)
    obtain ⟨j', c1, c2, c3, c4, c5⟩ := sf_erase (e := e) he (k := j) (by omega)
    have := h2 i' j' b1 c1 (by rw [← b3]; exact a1) (by rw [← c3]; exact a2) (by rw [← b4, ← c4]; exact a3)
    split at b2 <;> split at c2 <;> omega
  · obtain ⟨i', b1, b2, b3, b4, b5⟩ := sf_erase (e := e) he (k := i) (by omega)
    rw [b4, b5]
    exact h3 i' b1 (by rw [← b3]; exact a1)
theorem WF_nil : WFl [] := ⟨fun t h => (by cases h), fun i j h => absurd h (Nat.not_lt_zero i), fun _ => 0, fun i h => absurd h (Nat.not_lt_zero i)⟩
/-- no more things than places -/
theorem inj_le : ∀ (n m : Nat) (f : Nat → Nat), (∀ i, i < m → f i < n) → (∀ i j, i < m → j < m → f i = f j → i = j) → m ≤ n
  | 0, m, f, h1, _ => by
    cases m with
    | zero => omega
    | succ m => exact absurd (h1 0 (by omega)) (by omega)
  | n + 1, m, f, h1, h2 => by
    by_cases hx : ∃ i, i < m ∧ f i = n
    · obtain ⟨i, hi, e⟩ := hx
      have := inj_le n (m - 1) (fun j => if j < i then f j else f (j + 1)) (fun j hj => by
        show (if j < i then f j else f (j + 1)) < n
        split
        · rename_i c
          have a := h1 j (by omega)
          have b : f j ≠ n := fun z => by have := h2 j i (by omega) hi (by omega); omega
          omega
        · rename_i c
          have a := h1 (j + 1) (by omega)
          have b : f (j + 1) ≠ n := fun z => by have := h2 (j + 1) i (by omega) hi (by omega); omega
          omega) (fun j k hj hk ejk => by
        have ejk : (if j < i then f j else f (j + 1)) = (if k < i then f k else f (k + 1)) := ejk
        split at ejk <;> split at ejk
        · exact h2 j k (by omega) (by omega) ejk
        · have := h2 j (k + 1) (by omega) (by omega) ejk; omega
        · have := h2 (j + 1) k (by omega) (by omega) ejk; omega
        · have := h2 (j + 1) (k + 1) (by omega) (by omega) ejk; omega)
      omega
    · have := inj_le n m f (fun i hi => by
        have a := h1 i hi
        have b : f i ≠ n := fun z => hx ⟨i, hi, z⟩
        omega) h2
      omega
def itu (u : Int32 → Int32) : Nat → Int32 → Int32
  | 0, q => q
  | k + 1, q => itu u k (u q)
theorem itu_s (u : Int32 → Int32) : ∀ k q, itu u (k + 1) q = u (itu u k q)
  | 0, q => rfl
  | k + 1, q => itu_s u k (u q)
/-- where a part is joined: the deed that says so -/
theorem un_cases {l : List Dd} (h : WFl l) (q : Int32) : unL l q = 9 ∧ (∀ k, k < l.length → sf l k = 3 → ¬ pf l k = q) ∨ ∃ k, k < l.length ∧ sf l k = 3 ∧ pf l k = q ∧ unL l q = xf l k := by
  unfold unL lx
  cases e : lst (sf l) (pf l) 3 q l.length with
  | none =>
    refine Or.inl ⟨rfl, ?_⟩
    have key : ∀ n, lst (sf l) (pf l) 3 q n = none → ∀ k, k < n → sf l k = 3 → ¬ pf l k = q := by
      intro n
      induction n with
      | zero => intro _ k hk; omega
      | succ n ih =>
        intro hn k hk h3 hq
        unfold lst at hn
        split at hn
        · cases hn
        · rename_i c
          by_cases hkn : k = n
          · subst hkn; exact c ⟨h3, hq⟩
          · exact ih hn k (by omega) h3 hq
    exact key _ e
  | some k =>
    obtain ⟨a1, a2, a3⟩ := lst_lt e
    exact Or.inr ⟨k, a1, a2, a3, rfl⟩
theorem n9_ne {x : Nat} (h : x < 9) : ¬ nI x = 9 := by rw [show (9 : Int32) = nI 9 from rfl, nI_eqE (by omega) (by omega)]; omega
theorem s3_of {s : Nat} (h : s < 5) (e : nI s = 3) : s = 3 := by rw [show (3 : Int32) = nI 3 from rfl, nI_eqE (by omega) (by omega)] at e; exact e
/-- a joined part: its mate is a part, of lower rank -/
theorem un_part {l : List Dd} (h : WFl l) {q : Int32} (hq : ¬ unL l q = 9) : ∃ i j, i < 6 ∧ j < 6 ∧ q = nI i ∧ unL l q = nI j := by
  rcases un_cases h q with ⟨e, _⟩ | ⟨k, a1, a2, a3, a4⟩
  · exact absurd e hq
  · obtain ⟨s, p, x, e1, e2, e3, b1, b2, b3, b4⟩ := WF_at h a1
    exact ⟨p, x, b2, b4 (s3_of b1 (e1.symm.trans a2)), a3.symm.trans e2, a4.trans e3⟩
theorem un_9 {l : List Dd} (h : WFl l) : unL l 9 = 9 := by
  rcases un_cases h 9 with ⟨e, _⟩ | ⟨k, a1, a2, a3, a4⟩
  · exact e
  · obtain ⟨s, p, x, e1, e2, e3, b1, b2, b3, b4⟩ := WF_at h a1
    exact absurd (e2.symm.trans a3) (n9_ne (by omega))
theorem un_6 {l : List Dd} (h : WFl l) (q : Int32) (hq : ∃ i, i < 6 ∧ q = nI i) : itu (unL l) 6 q = 9 := by
  obtain ⟨rk, hrk⟩ := h.2.2
  apply Classical.byContradiction
  intro hn
  have abs : ∀ k, ¬ itu (unL l) (k + 1) q = 9 → ¬ itu (unL l) k q = 9 := fun k z1 z2 => by rw [itu_s, z2, un_9 h] at z1; exact z1 rfl
  have n6 := hn
  have n5 := abs 5 n6
  have n4 := abs 4 n5
  have n3 := abs 3 n4
  have n2 := abs 2 n3
  have n1 := abs 1 n2
  have hne : ∀ k, k ≤ 6 → ¬ itu (unL l) k q = 9 := fun k hk => by
    have : k = 0 ∨ k = 1 ∨ k = 2 ∨ k = 3 ∨ k = 4 ∨ k = 5 ∨ k = 6 := by omega
    rcases this with rfl | rfl | rfl | rfl | rfl | rfl | rfl
    · obtain ⟨i, hi, e⟩ := hq
      show ¬ q = 9
      rw [e]; exact n9_ne (by omega)
    all_goals assumption
  have hpt : ∀ k, k ≤ 6 → ∃ i, i < 6 ∧ itu (unL l) k q = nI i := fun k hk => by
    cases k with
    | zero => exact hq
    | succ k =>
      rw [itu_s]
      obtain ⟨i, j, _, hj, _, e⟩ := un_part h (q := itu (unL l) k q) (by rw [← itu_s (unL l) k q]; exact hne _ hk)
      exact ⟨j, hj, e⟩
  have hdec : ∀ k, k < 6 → rk (itu (unL l) (k + 1) q) < rk (itu (unL l) k q) := fun k hk => by
    rw [itu_s]
    rcases un_cases h (itu (unL l) k q) with ⟨e, _⟩ | ⟨m, a1, a2, a3, a4⟩
    · exact absurd e (by rw [← itu_s (unL l) k q]; exact hne _ (by omega))
    · rw [a4, ← a3]; exact hrk m a1 a2
  have hmon : ∀ j i, i + j ≤ 6 → 0 < j → rk (itu (unL l) (i + j) q) < rk (itu (unL l) i q) := by
    intro j
    induction j with
    | zero => intro i _ h; omega
    | succ j ih =>
      intro i hij _
      have a := hdec (i + j) (by omega)
      by_cases hj : j = 0
      · subst hj; exact a
      · have b := ih i (by omega) (by omega)
        exact Nat.lt_trans a b
  have := inj_le 6 7 (fun k => (itu (unL l) k q).toNatClampNeg) (fun k hk => by
    obtain ⟨i, hi, e⟩ := hpt k (by omega)
    show (itu (unL l) k q).toNatClampNeg < 6
    rw [e, nI_clamp (by omega)]; exact hi) (fun i j hi hj e => by
    obtain ⟨i', hi', ei⟩ := hpt i (by omega)
    obtain ⟨j', hj', ej⟩ := hpt j (by omega)
    have e : (itu (unL l) i q).toNatClampNeg = (itu (unL l) j q).toNatClampNeg := e
    have eq : itu (unL l) i q = itu (unL l) j q := by
      rw [ei, ej] at e ⊢
      rw [nI_clamp (by omega), nI_clamp (by omega)] at e
      rw [e]
    by_cases c1 : i < j
    · have := hmon (j - i) i (by omega) (by omega)
      rw [show i + (j - i) = j by omega, eq] at this
      omega
    · by_cases c2 : j < i
      · have := hmon (i - j) j (by omega) (by omega)
        rw [show j + (i - j) = i by omega, eq] at this
        omega
      · omega)
  omega
/-- whether lo is met from q on, q itself included; k steps at most -/
def sO2 (u : Int32 → Int32) (lo : Int32) : Nat → Int32 → Bool
  | 0, q => decide (q = lo)
  | k + 1, q => if q = 9 then false else if q = lo then true else sO2 u lo k (u q)
theorem sOn_O2 {u : Int32 → Int32} {lo : Int32} (h9 : u 9 = 9) (hlo : ¬ lo = 9) : ∀ (k : Nat) (q : Int32), sOn u lo k q = true → ∃ j, 0 < j ∧ j ≤ k ∧ itu u j q = lo
  | 0, q, h => by cases h
  | k + 1, q, h => by
    unfold sOn at h
    split at h
    · cases h
    · split at h
      · rename_i c; exact ⟨1, by omega, by omega, c⟩
      · obtain ⟨j, a1, a2, a3⟩ := sOn_O2 h9 hlo k (u q) h
        exact ⟨j + 1, by omega, by omega, a3⟩
theorem sOn_of {u : Int32 → Int32} {lo : Int32} (h9 : u 9 = 9) (hlo : ¬ lo = 9) : ∀ (k : Nat) (q : Int32) (j : Nat), 0 < j → j ≤ k → itu u j q = lo → sOn u lo k q = true
  | 0, q, j, h1, h2, _ => by omega
  | k + 1, q, j, h1, h2, h3 => by
    unfold sOn
    have hq : ¬ q = 9 := fun z => by
      have : ∀ m, itu u m 9 = 9 := fun m => by
        induction m with
        | zero => rfl
        | succ m ih => show itu u m (u 9) = 9; rw [h9]; exact ih
      rw [z, this] at h3
      exact hlo h3.symm
    rw [if_neg hq]
    split
    · rfl
    · rename_i c
      cases j with
      | zero => omega
      | succ j =>
        cases j with
        | zero => exact absurd h3 c
        | succ j => exact sOn_of h9 hlo k (u q) (j + 1) (by omega) (by omega) h3
theorem itu_add (u : Int32 → Int32) : ∀ (i j : Nat) (q : Int32), itu u (i + j) q = itu u j (itu u i q)
  | 0, j, q => by rw [Nat.zero_add]; rfl
  | i + 1, j, q => by rw [show i + 1 + j = (i + j) + 1 by omega]; exact itu_add u i j (u q)
theorem itu_9 {u : Int32 → Int32} (h9 : u 9 = 9) : ∀ k, itu u k 9 = 9
  | 0 => rfl
  | k + 1 => by show itu u k (u 9) = 9; rw [h9]; exact itu_9 h9 k
theorem WF_add {l : List Dd} {so pa x : Int32} (h : WFl l) (hc : cbL l so pa x = true) : WFl (l ++ [(so, pa, xdd so x)]) ∧ is5 so := by
  unfold cbL at hc
  simp only [Bool.and_eq_true, decide_eq_true_eq] at hc
  obtain ⟨c0, c6, hc⟩ := hc
  obtain ⟨pp, hpp, epa⟩ : ∃ pp, pp < 6 ∧ pa = nI pp := by
    obtain ⟨j, hj, e⟩ := nI_of (Int32.not_lt.mpr c0)
    rw [e, show (6 : Int32) = nI 6 from rfl, nI_ltE hj (by omega)] at c6
    exact ⟨j, c6, e⟩
  obtain ⟨h1, h2, rk, h3⟩ := h
  have h : WFl l := ⟨h1, h2, rk, h3⟩
  -- a deed that is no join
  have plain : ∀ (t : Dd), WFt t → ¬ t.1 = 3 → WFl (l ++ [t]) := fun t ht hn => by
    refine ⟨fun u hu => ?_, fun i j hi hj a1 a2 a3 => ?_, rk, fun i hi a1 => ?_⟩
    · rcases List.mem_append.mp hu with hu | hu
      · exact h1 u hu
      · have : u = t := by simpa using hu
        rw [this]; exact ht
    · have hi' : i < l.length := by
        by_cases z : i = l.length
        · subst z; rw [sf_last.1] at a1; exact absurd a1 hn
        · simp at hi; omega
      have hj' : j < l.length := by
        by_cases z : j = l.length
        · subst z; rw [sf_last.1] at a2; exact absurd a2 hn
        · simp at hj; omega
      obtain ⟨e1, e2, e3⟩ := sf_app (t := t) hi'
      obtain ⟨f1, f2, f3⟩ := sf_app (t := t) hj'
      exact h2 i j hi' hj' (by rw [← e1]; exact a1) (by rw [← f1]; exact a2) (by rw [← e2, ← f2]; exact a3)
    · have hi' : i < l.length := by
        by_cases z : i = l.length
        · subst z; rw [sf_last.1] at a1; exact absurd a1 hn
        · simp at hi; omega
      obtain ⟨e1, e2, e3⟩ := sf_app (t := t) hi'
      rw [e2, e3]
      exact h3 i hi' (by rw [← e1]; exact a1)
  have x9 : ∀ lo : Int32, 0 ≤ lo → lo ≤ x → x ≤ 9 → ∃ j, j < 10 ∧ x = nI j := fun lo z0 z1 z2 => by
    obtain ⟨j, hj, e⟩ := nI_of (x := x) (Int32.not_lt.mpr (Int32.le_trans z0 z1))
    rw [e, show (9 : Int32) = nI 9 from rfl, nI_leE hj (by omega)] at z2
    exact ⟨j, by omega, e⟩
  by_cases s0 : so = 0
  · subst s0
    simp only [if_true, Bool.and_eq_true, decide_eq_true_eq] at hc
    obtain ⟨j, hj, e⟩ := x9 0 (by decide) hc.1 hc.2.1
    refine ⟨plain _ ⟨0, pp, j, by rw [epa, e]; rfl, by omega, hpp, hj, fun z => by omega⟩ (show ¬ (0 : Int32) = 3 by decide), Or.inl rfl⟩
  · rw [if_neg s0] at hc
    simp only [Bool.and_eq_true] at hc
    obtain ⟨hth, hc⟩ := hc
    by_cases s1 : so = 1
    · subst s1
      exact ⟨plain _ ⟨1, pp, 0, by rw [epa]; rfl, by omega, hpp, by omega, fun z => by omega⟩ (show ¬ (1 : Int32) = 3 by decide), Or.inr (Or.inl rfl)⟩
    · rw [if_neg s1] at hc
      by_cases s2 : so = 2
      · subst s2
        simp only [if_true, Bool.and_eq_true, decide_eq_true_eq] at hc
        obtain ⟨j, hj, e⟩ := x9 1 (by decide) hc.1 hc.2.1
        exact ⟨plain _ ⟨2, pp, j, by rw [epa, e]; rfl, by omega, hpp, hj, fun z => by omega⟩ (show ¬ (2 : Int32) = 3 by decide), Or.inr (Or.inr (Or.inl rfl))⟩
      · rw [if_neg s2] at hc
        by_cases s3 : so = 3
        · subst s3
          simp only [if_true, Bool.and_eq_true, decide_eq_true_eq, Bool.not_eq_true', decide_eq_false_iff_not] at hc
          obtain ⟨hne, htx, hun, hhx, hso⟩ := hc
          refine ⟨?_, Or.inr (Or.inr (Or.inr (Or.inl rfl)))⟩
          obtain ⟨xx, hxx, exx⟩ : ∃ xx, xx < 6 ∧ x = nI xx := by
            unfold thL at htx
            obtain ⟨k, hk⟩ := Option.isSome_iff_exists.mp htx
            obtain ⟨a1, a2, a3⟩ := lst_lt hk
            obtain ⟨s, p, x', e1, e2, e3, b1, b2, b3, b4⟩ := WF_at h a1
            exact ⟨p, b2, a3.symm.trans e2⟩
          have hnj : ∀ k, k < l.length → sf l k = 3 → ¬ pf l k = pa := by
            rcases un_cases h pa with ⟨_, e⟩ | ⟨k, a1, a2, a3, a4⟩
            · exact e
            · obtain ⟨s, p, x', e1, e2, e3, b1, b2, b3, b4⟩ := WF_at h a1
              rw [hun, e3] at a4
              exact absurd a4.symm (n9_ne (by have := b4 (s3_of b1 (e1.symm.trans a2)); omega))
          have ex3 : xdd 3 x = x := by unfold xdd; rw [if_pos (by decide)]
          rw [ex3]
          have hpa9 : ¬ pa = 9 := by rw [epa]; exact n9_ne (by omega)
          -- from x the part is not reached
          have hnr : ∀ k, ¬ itu (unL l) k x = pa := fun k z => by
            by_cases hk : k ≤ 6
            · by_cases hk0 : k = 0
              · subst hk0; exact hne z
              · have := sOn_of (un_9 h) hpa9 6 x k (by omega) hk z
                rw [this] at hso; cases hso
            · have z6 := un_6 h x ⟨xx, hxx, exx⟩
              rw [show k = 6 + (k - 6) by omega, itu_add, z6, itu_9 (un_9 h)] at z
              exact hpa9 z.symm
          refine ⟨fun u hu => ?_, fun i j hi hj a1 a2 a3 => ?_, fun q => @ite _ (∃ k, itu (unL l) k q = pa) (Classical.propDecidable _) (rk q + rk x + 1) (rk q), fun i hi a1 => ?_⟩
          · rcases List.mem_append.mp hu with hu | hu
            · exact h1 u hu
            · have : u = (3, pa, x) := by simpa using hu
              rw [this]
              exact ⟨3, pp, xx, by rw [epa, exx]; rfl, by omega, hpp, by omega, fun _ => hxx⟩
          · by_cases zi : i = l.length
            · by_cases zj : j = l.length
              · omega
              · have hj' : j < l.length := by simp at hj; omega
                subst zi
                rw [sf_last.2.1, (sf_app hj').2.1] at a3
                rw [(sf_app hj').1] at a2
                exact absurd a3.symm (hnj j hj' a2)
            · have hi' : i < l.length := by simp at hi; omega
              by_cases zj : j = l.length
              · subst zj
                rw [sf_last.2.1, (sf_app hi').2.1] at a3
                rw [(sf_app hi').1] at a1
                exact absurd a3 (hnj i hi' a1)
              · have hj' : j < l.length := by simp at hj; omega
                rw [(sf_app hi').1] at a1
                rw [(sf_app hj').1] at a2
                rw [(sf_app hi').2.1, (sf_app hj').2.1] at a3
                exact h2 i j hi' hj' a1 a2 a3
          · by_cases zi : i = l.length
            · subst zi
              rw [sf_last.2.1, sf_last.2.2]
              show @ite _ (∃ k, itu (unL l) k x = pa) (Classical.propDecidable _) _ _ < @ite _ (∃ k, itu (unL l) k pa = pa) (Classical.propDecidable _) _ _
              rw [if_neg (fun ⟨k, hk⟩ => hnr k hk), if_pos ⟨0, rfl⟩]
              show rk x < rk pa + rk x + 1
              omega
            · have hi' : i < l.length := by simp at hi; omega
              rw [(sf_app hi').1] at a1
              rw [(sf_app hi').2.1, (sf_app hi').2.2]
              have hlt := h3 i hi' a1
              have hux : unL l (pf l i) = xf l i := by
                rcases un_cases h (pf l i) with ⟨_, e⟩ | ⟨k, b1, b2, b3, b4⟩
                · exact absurd rfl (e i hi' a1)
                · have := h2 i k hi' b1 a1 b2 b3.symm
                  subst this
                  exact b4
              have hiff : (∃ k, itu (unL l) k (xf l i) = pa) ↔ ∃ k, itu (unL l) k (pf l i) = pa := by
                constructor
                · rintro ⟨k, hk⟩
                  exact ⟨k + 1, by show itu (unL l) k (unL l (pf l i)) = pa; rw [hux]; exact hk⟩
                · rintro ⟨k, hk⟩
                  cases k with
                  | zero => exact absurd hk (hnj i hi' a1)
                  | succ k =>
                    refine ⟨k, ?_⟩
                    have : itu (unL l) k (unL l (pf l i)) = pa := hk
                    rwa [hux] at this
              show @ite _ (∃ k, itu (unL l) k (xf l i) = pa) (Classical.propDecidable _) _ _ < @ite _ (∃ k, itu (unL l) k (pf l i) = pa) (Classical.propDecidable _) _ _
              by_cases z : ∃ k, itu (unL l) k (xf l i) = pa
              · rw [if_pos z, if_pos (hiff.mp z)]; omega
              · rw [if_neg z, if_neg (fun w => z (hiff.mpr w))]; exact hlt
        · rw [if_neg s3] at hc
          by_cases s4 : so = 4
          · subst s4
            exact ⟨plain _ ⟨4, pp, 0, by rw [epa]; rfl, by omega, hpp, by omega, fun z => by omega⟩ (show ¬ (4 : Int32) = 3 by decide), Or.inr (Or.inr (Or.inr (Or.inr rfl)))⟩
          · rw [if_neg s4] at hc; cases hc
