section AMS2
variable {call : am_C} {g : am_g} {l : Launch} {y : am_Y} {R : Room} {Z : List Frame → Array Value → State → State → Prop} {n0 n c w pc len : Nat} {Q : am_Q} {ls : List (Option Value)} {st : List Value} {M : am_M}
def am_kty (kd : Nat) (ty : FieldType) : Bool := match kd, ty with
  | 0, .int => true
  | 1, .long => true
  | 3, .boolean => true
  | 2, .object _ => true
  | 2, .array _ => true
  | _, _ => false
/-- the classes: words, names, types -/
def am_CLOK : Prop := ∀ (ci : Nat) (r : vw_C), vwCl[ci]? = some r → (∀ w ∈ u_ws r.1 r.2.1 r.2.2, w ∈ am_tb) ∧ (∀ a, a < r.2.2 → ∀ b, b < r.2.2 → a ≠ b → (r.2.1 a).2.1 ≠ (r.2.1 b).2.1) ∧ r.1 = am_cls ci ∧ (am_fk.getD ci []).length = r.2.2 ∧
  ∃ ty0 : Nat → FieldType, (∀ k, k < r.2.2 → parseFieldDescriptor (r.2.1 k).2.2.1 = some (ty0 k)) ∧ ∀ k, k < r.2.2 → am_kty ((am_fk.getD ci []).getD k 0) (ty0 k) = true
def am_FLOK : Prop := ∀ (k i : Nat) (q : Nat × Nat × Nat × Bool × Nat), am_fl k i = some q → ∃ r : vw_C, vwCl[q.1]? = some r ∧ q.2.1 < r.2.2 ∧ (am_fk.getD q.1 []).getD q.2.1 0 = q.2.2.1 ∧ Cond.fieldLink (am_cls k) i (r.2.1 q.2.1).1 (r.2.1 q.2.1).2.1 (r.2.1 q.2.1).2.2.1 ∈ am_tb ∧ (r.2.1 q.2.1).2.2.2 = q.2.2.2.1 ∧ (r.2.1 q.2.1).1 = am_cls q.1
def am_CKOK : Prop := (∀ (k i : Nat) (v : Int32 × Nat), am_ck k i = some v → Cond.constant (am_cls k) i v.1 ∈ am_tb) ∧ (∀ (k i : Nat) (v : Int64 × Nat), am_cj k i = some v → Cond.constantLong (am_cls k) i v.1 ∈ am_tb) ∧ ∀ (k i j : Nat), am_cs k i = some j → k = 11 ∧ j < 4 ∧ (am_sidx.getD j (0, "")).1 = i
theorem am_obat {a ci : Nat} (ha : am_ob n a ci) : (am_Wd g n M)[a]? = some (g_b g + a, .inr (ci, am_fs g M a ci)) := by
  rw [am_Wd_at ha.1, am_E_ob ha.2]
theorem am_stk {a : Nat} {r : List Value} (ha : a < n) (hn : n ≤ am_NN) : (Value.ref a :: r).map (am_v g) = .ref (g_b g + a) :: r.map (am_v g) := by
  show Value.ref (am_ad g a) :: r.map (am_v g) = _
  rw [am_ad_own ha hn]
theorem sw_getfield (hFL : am_FLOK) (hCL : am_CLOK) {k : Nat} (hd : decode (am_bc y) pc = .ok (.getfield k, len)) (hl : am_il (.getfield k) len = true) (h : am_wpi call y n0 Q (am_Wp g l y R Z) (.getfield k) len n c w pc ls st M) : am_Wp g l y R Z n c w pc ls st M := by
  have hl : (len == 3) = true := hl
  have el : len = 3 := eq_of_beq hl
  subst el
  obtain ⟨q, hq, h⟩ := am_opt_inv h
  obtain ⟨a, r, rfl, ha, h⟩ := am_r1_inv h
  obtain ⟨rc, h1, h2, h3, h4, h5, h6⟩ := hFL _ _ _ hq
  obtain ⟨g1, g2, g3, g4, ty0, g5, g6⟩ := hCL _ _ h1
  intro p e s m args below meth c0 H locs mls X hR hS hz hL hcw
  rw [am_stk ha.1 hR.1]
  exact va_get X.1 X.2.1 X.2.2.2.2.2.1 g1 X.2.2.2.2.1 X.2.2.2.2.2.2.2.2.1.1 hR.2.1 a (am_obat ha) h1 q.2.1 h2 (X.2.2.2.2.2.1 _ h4) (fun _ z => z) (by rw [am_fs_at (by rw [g4]; exact h2), h3]) hd (h p e s m args below meth c0 H locs mls X hR hS hz hL hcw)
theorem am_fs_set {a ci k : Nat} {M' : am_M} {v : Value} (hk : k < (am_fk.getD ci []).length) (hv : am_fv ((am_fk.getD ci []).getD k 0) M' a k = v) (ho : ∀ j, j ≠ k → ∀ kd, am_fv kd M' a j = am_fv kd M a j) : am_fs g M' a ci = (am_fs g M a ci).set k (am_v g v) := by
  apply List.ext_getElem?
  intro j
  rw [List.getElem?_set]
  by_cases hj : k = j
  · subst hj
    rw [if_pos rfl, if_pos (by rw [am_fs_len]; exact hk), am_fs_at hk, hv]
  · rw [if_neg hj]
    by_cases hn : j < (am_fk.getD ci []).length
    · rw [am_fs_at hn, am_fs_at hn, ho j (fun e => hj e.symm)]
    · rw [List.getElem?_eq_none (by rw [am_fs_len]; omega), List.getElem?_eq_none (by rw [am_fs_len]; omega)]
theorem am_fit {kd : Nat} {ty : FieldType} {v : Value} (h : am_kty kd ty = true) (hv : (kd = 0 ∧ ∃ x, v = .int x) ∨ (kd = 3 ∧ ∃ x : Int32, v = .int x ∧ (x = 0 ∨ x = 1)) ∨ (kd = 1 ∧ ∃ x, v = .long x) ∨ (kd = 2 ∧ ∃ a, v = .ref a)) : narrow ty v = v ∧ fits ty v = true := by
  rcases hv with ⟨rfl, x, rfl⟩ | ⟨rfl, x, rfl, hx⟩ | ⟨rfl, x, rfl⟩ | ⟨rfl, x, rfl⟩ <;> cases ty <;> first
    | (cases h; done)
    | exact ⟨rfl, rfl⟩
    | (rcases hx with rfl | rfl <;> exact ⟨by decide, by decide⟩)
theorem sw_put (hFL : am_FLOK) (hCL : am_CLOK) {k : Nat} {q : Nat × Nat × Nat × Bool × Nat} (hq : am_fl (am_cn y) k = some q) (hd : decode (am_bc y) pc = .ok (.putfield k, 3)) {a : Nat} {v : Value} {r : List Value} {M' : am_M} (ha : am_ob n a q.1) (hfin : q.2.2.2.1 = true → am_ini y = true ∧ am_cn y = q.1)
    (hv : am_fv q.2.2.1 M' a q.2.1 = v) (ho : ∀ j, j ≠ q.2.1 → ∀ kd, am_fv kd M' a j = am_fv kd M a j) (hI : ∀ k i, k ≠ a → gI M' k i = gI M k i) (hL : ∀ k i, k ≠ a → gL M' k i = gL M k i) (hRR : ∀ k i, k ≠ a → gR M' k i = gR M k i)
    (hk : (q.2.2.1 = 0 ∧ ∃ x, v = .int x) ∨ (q.2.2.1 = 3 ∧ ∃ x : Int32, v = .int x ∧ (x = 0 ∨ x = 1)) ∨ (q.2.2.1 = 1 ∧ ∃ x, v = .long x) ∨ (q.2.2.1 = 2 ∧ ∃ a, v = .ref a))
    (h : am_Wp g l y R Z n c w (pc + 3) ls r M') : am_Wp g l y R Z n c w pc ls (v :: .ref a :: r) M := by
  obtain ⟨rc, h1, h2, h3, h4, h5, h6⟩ := hFL _ _ _ hq
  obtain ⟨g1, g2, g3, g4, ty0, g5, g6⟩ := hCL _ _ h1
  have hk2 : q.2.1 < (am_fk.getD q.1 []).length := by rw [g4]; exact h2
  have hkt : am_kty q.2.2.1 (ty0 q.2.1) = true := by rw [← h3]; exact g6 _ h2
  have hf := am_fit (v := am_v g v) hkt (by
    rcases hk with ⟨e, x, rfl⟩ | ⟨e, x, rfl, hx⟩ | ⟨e, x, rfl⟩ | ⟨e, x, rfl⟩
    · exact Or.inl ⟨e, x, rfl⟩
    · exact Or.inr (Or.inl ⟨e, x, rfl, hx⟩)
    · exact Or.inr (Or.inr (Or.inl ⟨e, x, rfl⟩))
    · exact Or.inr (Or.inr (Or.inr ⟨e, _, rfl⟩)))
  have hE : am_E g M' a = .inr (q.1, (am_fs g M a q.1).set q.2.1 (am_v g v)) := by rw [am_E_ob ha.2, am_fs_set (v := v) hk2 (by rw [h3]; exact hv) ho]
  intro p e s m args below meth c0 H locs mls X hR hS hz hL' hcw
  show W p l e R s m args below meth c0 H locs c w (Z below args s) (F0 m pc mls (am_v g v :: (Value.ref a :: r).map (am_v g)))
  rw [am_stk ha.1 hR.1]
  cases hfi : q.2.2.2.1 with
  | false =>
    exact va_put X.1 X.2.1 X.2.2.2.2.2.1 g1 ty0 g5 g2 X.2.2.2.2.1 X.2.2.2.2.2.2.2.2.1.1 hR.2.1 am_Wd_D hS a (am_obat ha) h1 q.2.1 h2 (X.2.2.2.2.2.1 _ h4) (fun _ z => z) (by rw [h5]; exact hfi) (g5 _ h2) hf.1 hf.2 (by rw [am_fs_len]; exact hk2) hd
      (fun H1 locs1 hP _ hS1 => h p e s m args below meth c0 H1 locs1 mls X (am_R_st hR ha.1 hE hP hI hL hRR) hS1 hz hL' hcw)
  | true =>
    obtain ⟨i1, i2⟩ := hfin hfi
    have hin : meth.name = "<init>" := X.2.2.2.2.2.2.2.1 i1
    exact va_putF X.1 X.2.1 X.2.2.2.2.2.1 g1 ty0 g5 g2 X.2.2.2.2.1 X.2.2.2.2.2.2.2.2.1.1 hR.2.1 am_Wd_D hS a (am_obat ha) h1 q.2.1 h2 (X.2.2.2.2.2.1 _ h4) (fun _ z => z) (by rw [h5]; exact hfi) hin (by rw [h6, i2]) (g5 _ h2) hf.1 hf.2 (by rw [am_fs_len]; exact hk2) hd
      (fun H1 locs1 hP _ hS1 => h p e s m args below meth c0 H1 locs1 mls X (am_R_st hR ha.1 hE hP hI hL hRR) hS1 hz hL' hcw)
theorem am_fv_sI {a k j kd : Nat} {x : Int32} (h : j ≠ k) : am_fv kd (sI M a k x) a j = am_fv kd M a j := by
  unfold am_fv
  split
  · rfl
  · rfl
  · rw [gI_sI, if_neg (fun q => h q.2)]
theorem am_fv_sL {a k j kd : Nat} {x : Int64} (h : j ≠ k) : am_fv kd (sL M a k x) a j = am_fv kd M a j := by
  unfold am_fv
  split
  · rw [gL_sL, if_neg (fun q => h q.2)]
  · rfl
  · rfl
theorem am_fv_sR {a k j kd : Nat} {x : Option Nat} (h : j ≠ k) : am_fv kd (sR M a k x) a j = am_fv kd M a j := by
  unfold am_fv
  split
  · rfl
  · rw [gR_sR, if_neg (fun q => h q.2)]
  · rfl
theorem sw_putfield (hFL : am_FLOK) (hCL : am_CLOK) {k : Nat} (hd : decode (am_bc y) pc = .ok (.putfield k, len)) (hl : am_il (.putfield k) len = true) (h : am_wpi call y n0 Q (am_Wp g l y R Z) (.putfield k) len n c w pc ls st M) : am_Wp g l y R Z n c w pc ls st M := by
  have hl : (len == 3) = true := hl
  have el : len = 3 := eq_of_beq hl
  subst el
  obtain ⟨q, hq, h⟩ := am_opt_inv h
  generalize hkd : q.2.2.1 = kd at h
  unfold am_put at h
  split at h
  · exact sw_put hFL hCL hq hd h.1.1 h.1.2 (by rw [hkd]; simp [am_fv, gI_sI]) (fun j hj kd => am_fv_sI hj) (fun k i hk => by rw [gI_sI, if_neg (fun z => hk z.1)]) (fun _ _ _ => rfl) (fun _ _ _ => rfl) (Or.inl ⟨hkd, _, rfl⟩) h.2
  · exact sw_put hFL hCL hq hd h.2.1.1 h.2.1.2 (by rw [hkd]; simp [am_fv, gI_sI]) (fun j hj kd => am_fv_sI hj) (fun k i hk => by rw [gI_sI, if_neg (fun z => hk z.1)]) (fun _ _ _ => rfl) (fun _ _ _ => rfl) (Or.inr (Or.inl ⟨hkd, _, rfl, h.1⟩)) h.2.2
  · exact sw_put hFL hCL hq hd h.1.1 h.1.2 (by rw [hkd]; simp [am_fv, gL_sL]) (fun j hj kd => am_fv_sL hj) (fun _ _ _ => rfl) (fun k i hk => by rw [gL_sL, if_neg (fun z => hk z.1)]) (fun _ _ _ => rfl) (Or.inr (Or.inr (Or.inl ⟨hkd, _, rfl⟩))) h.2
  · exact sw_put hFL hCL hq hd h.1.1 h.1.2 (by rw [hkd]; simp [am_fv, gR_sR, am_rv, va_rf]) (fun j hj kd => am_fv_sR hj) (fun _ _ _ => rfl) (fun _ _ _ => rfl) (fun k i hk => by rw [gR_sR, if_neg (fun z => hk z.1)]) (Or.inr (Or.inr (Or.inr ⟨hkd, _, rfl⟩))) h.2
  · exact h.elim
end AMS2
