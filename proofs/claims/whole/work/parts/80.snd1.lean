section AMS1
variable {call : am_C} {g : am_g} {l : Launch} {y : am_Y} {R : Room} {Z : List Frame → Array Value → State → State → Prop} {n0 n c w pc len : Nat} {Q : am_Q} {ls : List (Option Value)} {st : List Value} {M : am_M}
theorem am_i1_inv {f : Int32 → List Value → Prop} (h : am_i1 st f) : ∃ x r, st = .int x :: r ∧ f x r := by
  unfold am_i1 at h; split at h
  · exact ⟨_, _, rfl, h⟩
  · exact h.elim
theorem am_i2_inv {f : Int32 → Int32 → List Value → Prop} (h : am_i2 st f) : ∃ x z r, st = .int z :: .int x :: r ∧ f x z r := by
  unfold am_i2 at h; split at h
  · exact ⟨_, _, _, rfl, h⟩
  · exact h.elim
theorem am_l1_inv {f : Int64 → List Value → Prop} (h : am_l1 st f) : ∃ x r, st = .long x :: r ∧ f x r := by
  unfold am_l1 at h; split at h
  · exact ⟨_, _, rfl, h⟩
  · exact h.elim
theorem am_l2_inv {f : Int64 → Int64 → List Value → Prop} (h : am_l2 st f) : ∃ x z r, st = .long z :: .long x :: r ∧ f x z r := by
  unfold am_l2 at h; split at h
  · exact ⟨_, _, _, rfl, h⟩
  · exact h.elim
theorem am_li_inv {f : Int64 → Int32 → List Value → Prop} (h : am_li st f) : ∃ x z r, st = .int z :: .long x :: r ∧ f x z r := by
  unfold am_li at h; split at h
  · exact ⟨_, _, _, rfl, h⟩
  · exact h.elim
theorem am_r1_inv {f : Nat → List Value → Prop} (h : am_r1 st f) : ∃ a r, st = .ref a :: r ∧ f a r := by
  unfold am_r1 at h; split at h
  · exact ⟨_, _, rfl, h⟩
  · exact h.elim
theorem am_ri_inv {f : Nat → Int32 → List Value → Prop} (h : am_ri st f) : ∃ a i r, st = .int i :: .ref a :: r ∧ f a i r := by
  unfold am_ri at h; split at h
  · exact ⟨_, _, _, rfl, h⟩
  · exact h.elim
theorem am_rii_inv {f : Nat → Int32 → Int32 → List Value → Prop} (h : am_rii st f) : ∃ a i x r, st = .int x :: .int i :: .ref a :: r ∧ f a i x r := by
  unfold am_rii at h; split at h
  · exact ⟨_, _, _, _, rfl, h⟩
  · exact h.elim
theorem am_ril_inv {f : Nat → Int32 → Int64 → List Value → Prop} (h : am_ril st f) : ∃ a i x r, st = .long x :: .int i :: .ref a :: r ∧ f a i x r := by
  unfold am_ril at h; split at h
  · exact ⟨_, _, _, _, rfl, h⟩
  · exact h.elim
theorem am_rir_inv {f : Nat → Int32 → Nat → List Value → Prop} (h : am_rir st f) : ∃ a i x r, st = .ref x :: .int i :: .ref a :: r ∧ f a i x r := by
  unfold am_rir at h; split at h
  · exact ⟨_, _, _, _, rfl, h⟩
  · exact h.elim
theorem am_cpy_inv {f : Nat → Int32 → Nat → Int32 → Int32 → List Value → Prop} (h : am_cpy st f) : ∃ a0 sp a dp k r, st = .int k :: .int dp :: .ref a :: .int sp :: .ref a0 :: r ∧ f a0 sp a dp k r := by
  unfold am_cpy at h; split at h
  · exact ⟨_, _, _, _, _, _, rfl, h⟩
  · exact h.elim
theorem am_opt_inv {α : Type} {q : Option α} {f : α → Prop} (h : am_opt q f) : ∃ x, q = some x ∧ f x := by
  unfold am_opt at h; split at h
  · exact ⟨_, rfl, h⟩
  · exact h.elim
theorem am_getD {k : Nat} {v : Value} (h : ls.getD k none = some v) : ls[k]? = some (some v) := by
  rw [List.getD_eq_getElem?_getD] at h
  cases e : ls[k]? with
  | none => rw [e] at h; cases h
  | some x => rw [e] at h; exact congrArg some h
theorem am_ldI_inv {k : Nat} {f : Int32 → Prop} (h : am_ldI ls k f) : ∃ x, ls[k]? = some (some (.int x)) ∧ f x := by
  unfold am_ldI at h; split at h
  · rename_i x e; exact ⟨x, am_getD e, h⟩
  · exact h.elim
theorem am_ldL_inv {k : Nat} {f : Int64 → Prop} (h : am_ldL ls k f) : ∃ x, ls[k]? = some (some (.long x)) ∧ f x := by
  unfold am_ldL at h; split at h
  · rename_i x e; exact ⟨x, am_getD e, h⟩
  · exact h.elim
theorem am_ldR_inv {k : Nat} {f : Nat → Prop} (h : am_ldR ls k f) : ∃ x, ls[k]? = some (some (.ref x)) ∧ f x := by
  unfold am_ldR at h; split at h
  · rename_i x e; exact ⟨x, am_getD e, h⟩
  · exact h.elim
/-- the locals as the kit lists them -/
def am_lvl (g : am_g) (ls : List (Option Value)) : List (Nat × Value) := (List.range ls.length).filterMap (fun k => (ls.getD k none).map (fun v => (k, am_v g v)))
theorem am_lvl_mem {k : Nat} {u : Value} : (k, u) ∈ am_lvl g ls ↔ ∃ v, ls[k]? = some (some v) ∧ u = am_v g v := by
  unfold am_lvl
  rw [List.mem_filterMap]
  constructor
  · rintro ⟨j, -, hj⟩
    cases e : ls.getD j none with
    | none => rw [e] at hj; cases hj
    | some v =>
      rw [e] at hj
      have e2 := Option.some.inj hj
      cases e2
      exact ⟨v, am_getD e, rfl⟩
  · rintro ⟨v, hv, rfl⟩
    have hk : k < ls.length := (List.getElem?_eq_some_iff.mp hv).1
    refine ⟨k, List.mem_range.mpr hk, ?_⟩
    rw [List.getD_eq_getElem?_getD, hv]
    rfl
theorem am_Ls_lv {mls : Array Slot} {k : Nat} (h : am_Ls g mls k ls) : lv_has mls k (am_lvl g ls) := by
  refine ⟨h.1, h.2.1, fun q hq => ?_⟩
  obtain ⟨i, u⟩ := q
  obtain ⟨v, h1, h2⟩ := am_lvl_mem.mp hq
  rw [h2]
  exact h.2.2 i v h1
theorem am_st_at {i j : Nat} {v u : Value} (h : (am_st ls i v)[j]? = some (some u)) : (j = i ∧ u = v) ∨ (j ≠ i ∧ ls[j]? = some (some u) ∧ (j + 1 = i → u.category ≠ 2)) := by
  cases i with
  | zero =>
    unfold am_st at h
    rw [List.getElem?_set] at h
    by_cases hj : 0 = j
    · rw [if_pos hj] at h
      split at h
      · exact Or.inl ⟨hj.symm, (Option.some.inj (Option.some.inj h)).symm⟩
      · cases h
    · rw [if_neg hj] at h
      exact Or.inr ⟨fun e => hj e.symm, h, fun e => by omega⟩
  | succ i =>
    unfold am_st at h
    rw [List.getElem?_set] at h
    by_cases hj : i = j
    · subst hj
      rw [if_pos rfl] at h
      split at h
      · have h := Option.some.inj h
        cases e : ls.getD i none with
        | none => rw [e] at h; cases h
        | some q =>
          rw [e] at h
          unfold am_kl at h
          simp only at h
          split at h
          · cases h
          · rename_i hc
            cases h
            exact Or.inr ⟨by omega, am_getD e, fun _ => hc⟩
      · cases h
    · rw [if_neg hj, List.getElem?_set] at h
      by_cases hk : i + 1 = j
      · rw [if_pos hk] at h
        split at h
        · exact Or.inl ⟨hk.symm, (Option.some.inj (Option.some.inj h)).symm⟩
        · cases h
      · rw [if_neg hk] at h
        exact Or.inr ⟨fun e => hk e.symm, h, fun e => by omega⟩
theorem am_Ls_st {mls : Array Slot} {k i : Nat} {v : Value} (h : lv_has mls k ((i, am_v g v) :: (am_lvl g ls).filter (fun q => !(q.1 == i) && !(q.1 + 1 == i && q.2.category == 2)))) : am_Ls g mls k (am_st ls i v) := by
  refine ⟨h.1, h.2.1, fun j u hu => ?_⟩
  rcases am_st_at hu with ⟨rfl, rfl⟩ | ⟨h1, h2, h3⟩
  · exact h.2.2 (j, am_v g u) List.mem_cons_self
  · refine h.2.2 (j, am_v g u) (List.mem_cons_of_mem _ (List.mem_filter.mpr ⟨am_lvl_mem.mpr ⟨u, h2, rfl⟩, ?_⟩))
    simp only [Bool.and_eq_true, Bool.not_eq_true', beq_eq_false_iff_ne, ne_eq, Bool.and_eq_false_iff, am_v_cat]
    refine ⟨h1, ?_⟩
    by_cases e : j + 1 = i
    · exact Or.inr (h3 e)
    · exact Or.inl e
theorem am_Ls_st2 {mls : Array Slot} {k i : Nat} {v : Value} (h : lv_has mls k ((i, am_v g v) :: (am_lvl g ls).filter (fun q => !(q.1 == i) && (!(q.1 == i + 1) && !(q.1 + 1 == i && q.2.category == 2))))) : am_Ls g mls k (am_st2 ls i v) := by
  refine ⟨h.1, h.2.1, fun j u hu => ?_⟩
  unfold am_st2 at hu
  rw [List.getElem?_set] at hu
  by_cases hj : i + 1 = j
  · rw [if_pos hj] at hu
    split at hu <;> cases hu
  rw [if_neg hj] at hu
  rcases am_st_at hu with ⟨rfl, rfl⟩ | ⟨h1, h2, h3⟩
  · exact h.2.2 (j, am_v g u) List.mem_cons_self
  · refine h.2.2 (j, am_v g u) (List.mem_cons_of_mem _ (List.mem_filter.mpr ⟨am_lvl_mem.mpr ⟨u, h2, rfl⟩, ?_⟩))
    simp only [Bool.and_eq_true, Bool.not_eq_true', beq_eq_false_iff_ne, ne_eq, Bool.and_eq_false_iff, am_v_cat]
    refine ⟨h1, fun e => hj e.symm, ?_⟩
    by_cases e : j + 1 = i
    · exact Or.inr (h3 e)
    · exact Or.inl e
theorem am_Ls_ld {mls : Array Slot} {k i : Nat} {v : Value} (h : am_Ls g mls k ls) (hv : ls[i]? = some (some v)) : mls[i]? = some (.val (am_v g v)) := h.2.2 i v hv
theorem sw_iconst {q : Int} (hd : decode (am_bc y) pc = .ok ((.iconst q), len)) (hl : am_il (.iconst q) len = true) (h : am_wpi call y n0 Q (am_Wp g l y R Z) (.iconst q) len n c w pc ls st M) : am_Wp g l y R Z n c w pc ls st M := by
  have hl : (len == 1) = true := hl
  have el : len = 1 := eq_of_beq hl
  subst el
  intro p e s m args below meth c0 H locs mls X hR hS hz hL hcw
  exact lv_iconst X.1 X.2.1 hd rfl (h p e s m args below meth c0 H locs mls X hR hS hz hL hcw)
theorem sw_bipush {q : Int} (hd : decode (am_bc y) pc = .ok ((.bipush q), len)) (hl : am_il (.bipush q) len = true) (h : am_wpi call y n0 Q (am_Wp g l y R Z) (.bipush q) len n c w pc ls st M) : am_Wp g l y R Z n c w pc ls st M := by
  have hl : (len == 2) = true := hl
  have el : len = 2 := eq_of_beq hl
  subst el
  intro p e s m args below meth c0 H locs mls X hR hS hz hL hcw
  exact lv_bipush X.1 X.2.1 hd rfl (h p e s m args below meth c0 H locs mls X hR hS hz hL hcw)
theorem sw_sipush {q : Int} (hd : decode (am_bc y) pc = .ok ((.sipush q), len)) (hl : am_il (.sipush q) len = true) (h : am_wpi call y n0 Q (am_Wp g l y R Z) (.sipush q) len n c w pc ls st M) : am_Wp g l y R Z n c w pc ls st M := by
  have hl : (len == 3) = true := hl
  have el : len = 3 := eq_of_beq hl
  subst el
  intro p e s m args below meth c0 H locs mls X hR hS hz hL hcw
  exact lv_sipush X.1 X.2.1 hd rfl (h p e s m args below meth c0 H locs mls X hR hS hz hL hcw)
theorem sw_lconst {q : Fin 2} (hd : decode (am_bc y) pc = .ok ((.lconst q), len)) (hl : am_il (.lconst q) len = true) (h : am_wpi call y n0 Q (am_Wp g l y R Z) (.lconst q) len n c w pc ls st M) : am_Wp g l y R Z n c w pc ls st M := by
  have hl : (len == 1) = true := hl
  have el : len = 1 := eq_of_beq hl
  subst el
  intro p e s m args below meth c0 H locs mls X hR hS hz hL hcw
  exact lv_lconst X.1 X.2.1 hd rfl (h p e s m args below meth c0 H locs mls X hR hS hz hL hcw)
theorem sw_iload {q : Nat} (hd : decode (am_bc y) pc = .ok ((.iload q), len)) (hl : am_il (.iload q) len = true) (h : am_wpi call y n0 Q (am_Wp g l y R Z) (.iload q) len n c w pc ls st M) : am_Wp g l y R Z n c w pc ls st M := by
  have hl : (len == 2) = true := hl
  have el : len = 2 := eq_of_beq hl
  subst el
  obtain ⟨x, hv, h⟩ := am_ldI_inv h
  intro p e s m args below meth c0 H locs mls X hR hS hz hL hcw
  exact lv_iload X.1 X.2.1 hd (am_Ls_ld hL hv) (h p e s m args below meth c0 H locs mls X hR hS hz hL hcw)
theorem sw_iload_n {q : Fin 4} (hd : decode (am_bc y) pc = .ok ((.iload_n q), len)) (hl : am_il (.iload_n q) len = true) (h : am_wpi call y n0 Q (am_Wp g l y R Z) (.iload_n q) len n c w pc ls st M) : am_Wp g l y R Z n c w pc ls st M := by
  have hl : (len == 1) = true := hl
  have el : len = 1 := eq_of_beq hl
  subst el
  obtain ⟨x, hv, h⟩ := am_ldI_inv h
  intro p e s m args below meth c0 H locs mls X hR hS hz hL hcw
  exact lv_iload_n X.1 X.2.1 hd rfl (am_Ls_ld hL hv) (h p e s m args below meth c0 H locs mls X hR hS hz hL hcw)
theorem sw_lload {q : Nat} (hd : decode (am_bc y) pc = .ok ((.lload q), len)) (hl : am_il (.lload q) len = true) (h : am_wpi call y n0 Q (am_Wp g l y R Z) (.lload q) len n c w pc ls st M) : am_Wp g l y R Z n c w pc ls st M := by
  have hl : (len == 2) = true := hl
  have el : len = 2 := eq_of_beq hl
  subst el
  obtain ⟨x, hv, h⟩ := am_ldL_inv h
  intro p e s m args below meth c0 H locs mls X hR hS hz hL hcw
  exact lv_lload X.1 X.2.1 hd (am_Ls_ld hL hv) (h p e s m args below meth c0 H locs mls X hR hS hz hL hcw)
theorem sw_lload_n {q : Fin 4} (hd : decode (am_bc y) pc = .ok ((.lload_n q), len)) (hl : am_il (.lload_n q) len = true) (h : am_wpi call y n0 Q (am_Wp g l y R Z) (.lload_n q) len n c w pc ls st M) : am_Wp g l y R Z n c w pc ls st M := by
  have hl : (len == 1) = true := hl
  have el : len = 1 := eq_of_beq hl
  subst el
  obtain ⟨x, hv, h⟩ := am_ldL_inv h
  intro p e s m args below meth c0 H locs mls X hR hS hz hL hcw
  exact lv_lload_n X.1 X.2.1 hd rfl (am_Ls_ld hL hv) (h p e s m args below meth c0 H locs mls X hR hS hz hL hcw)
theorem sw_aload {q : Nat} (hd : decode (am_bc y) pc = .ok ((.aload q), len)) (hl : am_il (.aload q) len = true) (h : am_wpi call y n0 Q (am_Wp g l y R Z) (.aload q) len n c w pc ls st M) : am_Wp g l y R Z n c w pc ls st M := by
  have hl : (len == 2) = true := hl
  have el : len = 2 := eq_of_beq hl
  subst el
  obtain ⟨x, hv, h⟩ := am_ldR_inv h
  intro p e s m args below meth c0 H locs mls X hR hS hz hL hcw
  exact lv_aload X.1 X.2.1 hd (am_Ls_ld hL hv) (h p e s m args below meth c0 H locs mls X hR hS hz hL hcw)
theorem sw_aload_n {q : Fin 4} (hd : decode (am_bc y) pc = .ok ((.aload_n q), len)) (hl : am_il (.aload_n q) len = true) (h : am_wpi call y n0 Q (am_Wp g l y R Z) (.aload_n q) len n c w pc ls st M) : am_Wp g l y R Z n c w pc ls st M := by
  have hl : (len == 1) = true := hl
  have el : len = 1 := eq_of_beq hl
  subst el
  obtain ⟨x, hv, h⟩ := am_ldR_inv h
  intro p e s m args below meth c0 H locs mls X hR hS hz hL hcw
  exact lv_aload_n X.1 X.2.1 hd rfl (am_Ls_ld hL hv) (h p e s m args below meth c0 H locs mls X hR hS hz hL hcw)
theorem sw_istore {q : Nat} (hd : decode (am_bc y) pc = .ok ((.istore q), len)) (hl : am_il (.istore q) len = true) (h : am_wpi call y n0 Q (am_Wp g l y R Z) (.istore q) len n c w pc ls st M) : am_Wp g l y R Z n c w pc ls st M := by
  have hl : (len == 2) = true := hl
  have el : len = 2 := eq_of_beq hl
  subst el
  obtain ⟨x, r, rfl, hk, h⟩ := am_i1_inv h
  intro p e s m args below meth c0 H locs mls X hR hS hz hL hcw
  exact lv_istore X.1 X.2.1 hd (am_Ls_lv hL) hk rfl (fun mls' hm => h p e s m args below meth c0 H locs mls' X hR hS hz (am_Ls_st hm) hcw)
theorem sw_istore_n {q : Fin 4} (hd : decode (am_bc y) pc = .ok ((.istore_n q), len)) (hl : am_il (.istore_n q) len = true) (h : am_wpi call y n0 Q (am_Wp g l y R Z) (.istore_n q) len n c w pc ls st M) : am_Wp g l y R Z n c w pc ls st M := by
  have hl : (len == 1) = true := hl
  have el : len = 1 := eq_of_beq hl
  subst el
  obtain ⟨x, r, rfl, hk, h⟩ := am_i1_inv h
  intro p e s m args below meth c0 H locs mls X hR hS hz hL hcw
  exact lv_istore_n X.1 X.2.1 hd rfl (am_Ls_lv hL) hk rfl (fun mls' hm => h p e s m args below meth c0 H locs mls' X hR hS hz (am_Ls_st hm) hcw)
theorem sw_lstore {q : Nat} (hd : decode (am_bc y) pc = .ok ((.lstore q), len)) (hl : am_il (.lstore q) len = true) (h : am_wpi call y n0 Q (am_Wp g l y R Z) (.lstore q) len n c w pc ls st M) : am_Wp g l y R Z n c w pc ls st M := by
  have hl : (len == 2) = true := hl
  have el : len = 2 := eq_of_beq hl
  subst el
  obtain ⟨x, r, rfl, hk, h⟩ := am_l1_inv h
  intro p e s m args below meth c0 H locs mls X hR hS hz hL hcw
  exact lv_lstore X.1 X.2.1 hd (am_Ls_lv hL) hk rfl (fun mls' hm => h p e s m args below meth c0 H locs mls' X hR hS hz (am_Ls_st2 hm) hcw)
theorem sw_lstore_n {q : Fin 4} (hd : decode (am_bc y) pc = .ok ((.lstore_n q), len)) (hl : am_il (.lstore_n q) len = true) (h : am_wpi call y n0 Q (am_Wp g l y R Z) (.lstore_n q) len n c w pc ls st M) : am_Wp g l y R Z n c w pc ls st M := by
  have hl : (len == 1) = true := hl
  have el : len = 1 := eq_of_beq hl
  subst el
  obtain ⟨x, r, rfl, hk, h⟩ := am_l1_inv h
  intro p e s m args below meth c0 H locs mls X hR hS hz hL hcw
  exact lv_lstore_n X.1 X.2.1 hd rfl (am_Ls_lv hL) hk rfl (fun mls' hm => h p e s m args below meth c0 H locs mls' X hR hS hz (am_Ls_st2 hm) hcw)
theorem sw_astore {q : Nat} (hd : decode (am_bc y) pc = .ok ((.astore q), len)) (hl : am_il (.astore q) len = true) (h : am_wpi call y n0 Q (am_Wp g l y R Z) (.astore q) len n c w pc ls st M) : am_Wp g l y R Z n c w pc ls st M := by
  have hl : (len == 2) = true := hl
  have el : len = 2 := eq_of_beq hl
  subst el
  obtain ⟨x, r, rfl, hk, h⟩ := am_r1_inv h
  intro p e s m args below meth c0 H locs mls X hR hS hz hL hcw
  exact lv_astore X.1 X.2.1 hd (am_Ls_lv hL) hk rfl (fun mls' hm => h p e s m args below meth c0 H locs mls' X hR hS hz (am_Ls_st hm) hcw)
theorem sw_astore_n {q : Fin 4} (hd : decode (am_bc y) pc = .ok ((.astore_n q), len)) (hl : am_il (.astore_n q) len = true) (h : am_wpi call y n0 Q (am_Wp g l y R Z) (.astore_n q) len n c w pc ls st M) : am_Wp g l y R Z n c w pc ls st M := by
  have hl : (len == 1) = true := hl
  have el : len = 1 := eq_of_beq hl
  subst el
  obtain ⟨x, r, rfl, hk, h⟩ := am_r1_inv h
  intro p e s m args below meth c0 H locs mls X hR hS hz hL hcw
  exact lv_astore_n X.1 X.2.1 hd rfl (am_Ls_lv hL) hk rfl (fun mls' hm => h p e s m args below meth c0 H locs mls' X hR hS hz (am_Ls_st hm) hcw)
theorem sw_iinc {q : Nat} {j : Int} (hd : decode (am_bc y) pc = .ok ((.iinc q j), len)) (hl : am_il (.iinc q j) len = true) (h : am_wpi call y n0 Q (am_Wp g l y R Z) (.iinc q j) len n c w pc ls st M) : am_Wp g l y R Z n c w pc ls st M := by
  have hl : (len == 3) = true := hl
  have el : len = 3 := eq_of_beq hl
  subst el
  obtain ⟨x, hv, hk, h⟩ := am_ldI_inv h
  intro p e s m args below meth c0 H locs mls X hR hS hz hL hcw
  obtain ⟨i, hi⟩ := List.getElem?_of_mem (am_lvl_mem.mpr ⟨_, hv, rfl⟩ : (q, am_v g (.int x)) ∈ am_lvl g ls)
  exact lv_iinc X.1 X.2.1 hd (am_Ls_lv hL) hi rfl hk.2 rfl (fun mls' hm => h p e s m args below meth c0 H locs mls' X hR hS hz (am_Ls_st hm) hcw)
theorem sw_iadd (hd : decode (am_bc y) pc = .ok (.iadd, len)) (hl : am_il .iadd len = true) (h : am_wpi call y n0 Q (am_Wp g l y R Z) .iadd len n c w pc ls st M) : am_Wp g l y R Z n c w pc ls st M := by
  have hl : (len == 1) = true := hl
  have el : len = 1 := eq_of_beq hl
  subst el
  obtain ⟨x, z, r, rfl, h⟩ := am_i2_inv h
  intro p e s m args below meth c0 H locs mls X hR hS hz hL hcw
  exact lv_iadd X.1 X.2.1 hd (h p e s m args below meth c0 H locs mls X hR hS hz hL hcw)
theorem sw_isub (hd : decode (am_bc y) pc = .ok (.isub, len)) (hl : am_il .isub len = true) (h : am_wpi call y n0 Q (am_Wp g l y R Z) .isub len n c w pc ls st M) : am_Wp g l y R Z n c w pc ls st M := by
  have hl : (len == 1) = true := hl
  have el : len = 1 := eq_of_beq hl
  subst el
  obtain ⟨x, z, r, rfl, h⟩ := am_i2_inv h
  intro p e s m args below meth c0 H locs mls X hR hS hz hL hcw
  exact lv_isub X.1 X.2.1 hd (h p e s m args below meth c0 H locs mls X hR hS hz hL hcw)
theorem sw_imul (hd : decode (am_bc y) pc = .ok (.imul, len)) (hl : am_il .imul len = true) (h : am_wpi call y n0 Q (am_Wp g l y R Z) .imul len n c w pc ls st M) : am_Wp g l y R Z n c w pc ls st M := by
  have hl : (len == 1) = true := hl
  have el : len = 1 := eq_of_beq hl
  subst el
  obtain ⟨x, z, r, rfl, h⟩ := am_i2_inv h
  intro p e s m args below meth c0 H locs mls X hR hS hz hL hcw
  exact lv_imul X.1 X.2.1 hd (h p e s m args below meth c0 H locs mls X hR hS hz hL hcw)
theorem sw_iand (hd : decode (am_bc y) pc = .ok (.iand, len)) (hl : am_il .iand len = true) (h : am_wpi call y n0 Q (am_Wp g l y R Z) .iand len n c w pc ls st M) : am_Wp g l y R Z n c w pc ls st M := by
  have hl : (len == 1) = true := hl
  have el : len = 1 := eq_of_beq hl
  subst el
  obtain ⟨x, z, r, rfl, h⟩ := am_i2_inv h
  intro p e s m args below meth c0 H locs mls X hR hS hz hL hcw
  exact lv_iand X.1 X.2.1 hd (h p e s m args below meth c0 H locs mls X hR hS hz hL hcw)
theorem sw_ior (hd : decode (am_bc y) pc = .ok (.ior, len)) (hl : am_il .ior len = true) (h : am_wpi call y n0 Q (am_Wp g l y R Z) .ior len n c w pc ls st M) : am_Wp g l y R Z n c w pc ls st M := by
  have hl : (len == 1) = true := hl
  have el : len = 1 := eq_of_beq hl
  subst el
  obtain ⟨x, z, r, rfl, h⟩ := am_i2_inv h
  intro p e s m args below meth c0 H locs mls X hR hS hz hL hcw
  exact lv_ior X.1 X.2.1 hd (h p e s m args below meth c0 H locs mls X hR hS hz hL hcw)
theorem sw_ixor (hd : decode (am_bc y) pc = .ok (.ixor, len)) (hl : am_il .ixor len = true) (h : am_wpi call y n0 Q (am_Wp g l y R Z) .ixor len n c w pc ls st M) : am_Wp g l y R Z n c w pc ls st M := by
  have hl : (len == 1) = true := hl
  have el : len = 1 := eq_of_beq hl
  subst el
  obtain ⟨x, z, r, rfl, h⟩ := am_i2_inv h
  intro p e s m args below meth c0 H locs mls X hR hS hz hL hcw
  exact lv_ixor X.1 X.2.1 hd (h p e s m args below meth c0 H locs mls X hR hS hz hL hcw)
theorem sw_ishl (hd : decode (am_bc y) pc = .ok (.ishl, len)) (hl : am_il .ishl len = true) (h : am_wpi call y n0 Q (am_Wp g l y R Z) .ishl len n c w pc ls st M) : am_Wp g l y R Z n c w pc ls st M := by
  have hl : (len == 1) = true := hl
  have el : len = 1 := eq_of_beq hl
  subst el
  obtain ⟨x, z, r, rfl, h⟩ := am_i2_inv h
  intro p e s m args below meth c0 H locs mls X hR hS hz hL hcw
  exact lv_ishl X.1 X.2.1 hd (h p e s m args below meth c0 H locs mls X hR hS hz hL hcw)
theorem sw_ishr (hd : decode (am_bc y) pc = .ok (.ishr, len)) (hl : am_il .ishr len = true) (h : am_wpi call y n0 Q (am_Wp g l y R Z) .ishr len n c w pc ls st M) : am_Wp g l y R Z n c w pc ls st M := by
  have hl : (len == 1) = true := hl
  have el : len = 1 := eq_of_beq hl
  subst el
  obtain ⟨x, z, r, rfl, h⟩ := am_i2_inv h
  intro p e s m args below meth c0 H locs mls X hR hS hz hL hcw
  exact lv_ishr X.1 X.2.1 hd (h p e s m args below meth c0 H locs mls X hR hS hz hL hcw)
theorem sw_iushr (hd : decode (am_bc y) pc = .ok (.iushr, len)) (hl : am_il .iushr len = true) (h : am_wpi call y n0 Q (am_Wp g l y R Z) .iushr len n c w pc ls st M) : am_Wp g l y R Z n c w pc ls st M := by
  have hl : (len == 1) = true := hl
  have el : len = 1 := eq_of_beq hl
  subst el
  obtain ⟨x, z, r, rfl, h⟩ := am_i2_inv h
  intro p e s m args below meth c0 H locs mls X hR hS hz hL hcw
  exact lv_iushr X.1 X.2.1 hd rfl (h p e s m args below meth c0 H locs mls X hR hS hz hL hcw)
theorem sw_idiv (hd : decode (am_bc y) pc = .ok (.idiv, len)) (hl : am_il .idiv len = true) (h : am_wpi call y n0 Q (am_Wp g l y R Z) .idiv len n c w pc ls st M) : am_Wp g l y R Z n c w pc ls st M := by
  have hl : (len == 1) = true := hl
  have el : len = 1 := eq_of_beq hl
  subst el
  obtain ⟨x, z, r, rfl, hq0, h⟩ := am_i2_inv h
  intro p e s m args below meth c0 H locs mls X hR hS hz hL hcw
  exact lv_idiv X.1 X.2.1 hd hq0 (h p e s m args below meth c0 H locs mls X hR hS hz hL hcw)
theorem sw_irem (hd : decode (am_bc y) pc = .ok (.irem, len)) (hl : am_il .irem len = true) (h : am_wpi call y n0 Q (am_Wp g l y R Z) .irem len n c w pc ls st M) : am_Wp g l y R Z n c w pc ls st M := by
  have hl : (len == 1) = true := hl
  have el : len = 1 := eq_of_beq hl
  subst el
  obtain ⟨x, z, r, rfl, hq0, h⟩ := am_i2_inv h
  intro p e s m args below meth c0 H locs mls X hR hS hz hL hcw
  exact lv_irem X.1 X.2.1 hd hq0 (h p e s m args below meth c0 H locs mls X hR hS hz hL hcw)
theorem sw_ladd (hd : decode (am_bc y) pc = .ok (.ladd, len)) (hl : am_il .ladd len = true) (h : am_wpi call y n0 Q (am_Wp g l y R Z) .ladd len n c w pc ls st M) : am_Wp g l y R Z n c w pc ls st M := by
  have hl : (len == 1) = true := hl
  have el : len = 1 := eq_of_beq hl
  subst el
  obtain ⟨x, z, r, rfl, h⟩ := am_l2_inv h
  intro p e s m args below meth c0 H locs mls X hR hS hz hL hcw
  exact lv_ladd X.1 X.2.1 hd (h p e s m args below meth c0 H locs mls X hR hS hz hL hcw)
theorem sw_lsub (hd : decode (am_bc y) pc = .ok (.lsub, len)) (hl : am_il .lsub len = true) (h : am_wpi call y n0 Q (am_Wp g l y R Z) .lsub len n c w pc ls st M) : am_Wp g l y R Z n c w pc ls st M := by
  have hl : (len == 1) = true := hl
  have el : len = 1 := eq_of_beq hl
  subst el
  obtain ⟨x, z, r, rfl, h⟩ := am_l2_inv h
  intro p e s m args below meth c0 H locs mls X hR hS hz hL hcw
  exact lv_lsub X.1 X.2.1 hd (h p e s m args below meth c0 H locs mls X hR hS hz hL hcw)
theorem sw_lmul (hd : decode (am_bc y) pc = .ok (.lmul, len)) (hl : am_il .lmul len = true) (h : am_wpi call y n0 Q (am_Wp g l y R Z) .lmul len n c w pc ls st M) : am_Wp g l y R Z n c w pc ls st M := by
  have hl : (len == 1) = true := hl
  have el : len = 1 := eq_of_beq hl
  subst el
  obtain ⟨x, z, r, rfl, h⟩ := am_l2_inv h
  intro p e s m args below meth c0 H locs mls X hR hS hz hL hcw
  exact lv_lmul X.1 X.2.1 hd (h p e s m args below meth c0 H locs mls X hR hS hz hL hcw)
theorem sw_land (hd : decode (am_bc y) pc = .ok (.land, len)) (hl : am_il .land len = true) (h : am_wpi call y n0 Q (am_Wp g l y R Z) .land len n c w pc ls st M) : am_Wp g l y R Z n c w pc ls st M := by
  have hl : (len == 1) = true := hl
  have el : len = 1 := eq_of_beq hl
  subst el
  obtain ⟨x, z, r, rfl, h⟩ := am_l2_inv h
  intro p e s m args below meth c0 H locs mls X hR hS hz hL hcw
  exact lv_land X.1 X.2.1 hd (h p e s m args below meth c0 H locs mls X hR hS hz hL hcw)
theorem sw_lor (hd : decode (am_bc y) pc = .ok (.lor, len)) (hl : am_il .lor len = true) (h : am_wpi call y n0 Q (am_Wp g l y R Z) .lor len n c w pc ls st M) : am_Wp g l y R Z n c w pc ls st M := by
  have hl : (len == 1) = true := hl
  have el : len = 1 := eq_of_beq hl
  subst el
  obtain ⟨x, z, r, rfl, h⟩ := am_l2_inv h
  intro p e s m args below meth c0 H locs mls X hR hS hz hL hcw
  exact lv_lor X.1 X.2.1 hd (h p e s m args below meth c0 H locs mls X hR hS hz hL hcw)
theorem sw_ldiv (hd : decode (am_bc y) pc = .ok (.ldiv, len)) (hl : am_il .ldiv len = true) (h : am_wpi call y n0 Q (am_Wp g l y R Z) .ldiv len n c w pc ls st M) : am_Wp g l y R Z n c w pc ls st M := by
  have hl : (len == 1) = true := hl
  have el : len = 1 := eq_of_beq hl
  subst el
  obtain ⟨x, z, r, rfl, hq0, h⟩ := am_l2_inv h
  intro p e s m args below meth c0 H locs mls X hR hS hz hL hcw
  exact lv_ldiv X.1 X.2.1 hd hq0 (h p e s m args below meth c0 H locs mls X hR hS hz hL hcw)
theorem sw_lrem (hd : decode (am_bc y) pc = .ok (.lrem, len)) (hl : am_il .lrem len = true) (h : am_wpi call y n0 Q (am_Wp g l y R Z) .lrem len n c w pc ls st M) : am_Wp g l y R Z n c w pc ls st M := by
  have hl : (len == 1) = true := hl
  have el : len = 1 := eq_of_beq hl
  subst el
  obtain ⟨x, z, r, rfl, hq0, h⟩ := am_l2_inv h
  intro p e s m args below meth c0 H locs mls X hR hS hz hL hcw
  exact lv_lrem X.1 X.2.1 hd hq0 (h p e s m args below meth c0 H locs mls X hR hS hz hL hcw)
theorem sw_lcmp (hd : decode (am_bc y) pc = .ok (.lcmp, len)) (hl : am_il .lcmp len = true) (h : am_wpi call y n0 Q (am_Wp g l y R Z) .lcmp len n c w pc ls st M) : am_Wp g l y R Z n c w pc ls st M := by
  have hl : (len == 1) = true := hl
  have el : len = 1 := eq_of_beq hl
  subst el
  obtain ⟨x, z, r, rfl, h⟩ := am_l2_inv h
  intro p e s m args below meth c0 H locs mls X hR hS hz hL hcw
  exact W.lcmp X.1 X.2.1 hd (h p e s m args below meth c0 H locs mls X hR hS hz hL hcw)
theorem sw_lshl (hd : decode (am_bc y) pc = .ok (.lshl, len)) (hl : am_il .lshl len = true) (h : am_wpi call y n0 Q (am_Wp g l y R Z) .lshl len n c w pc ls st M) : am_Wp g l y R Z n c w pc ls st M := by
  have hl : (len == 1) = true := hl
  have el : len = 1 := eq_of_beq hl
  subst el
  obtain ⟨x, z, r, rfl, h⟩ := am_li_inv h
  intro p e s m args below meth c0 H locs mls X hR hS hz hL hcw
  exact lv_lshl X.1 X.2.1 hd rfl (h p e s m args below meth c0 H locs mls X hR hS hz hL hcw)
theorem sw_lushr (hd : decode (am_bc y) pc = .ok (.lushr, len)) (hl : am_il .lushr len = true) (h : am_wpi call y n0 Q (am_Wp g l y R Z) .lushr len n c w pc ls st M) : am_Wp g l y R Z n c w pc ls st M := by
  have hl : (len == 1) = true := hl
  have el : len = 1 := eq_of_beq hl
  subst el
  obtain ⟨x, z, r, rfl, h⟩ := am_li_inv h
  intro p e s m args below meth c0 H locs mls X hR hS hz hL hcw
  exact lv_lushr X.1 X.2.1 hd rfl (h p e s m args below meth c0 H locs mls X hR hS hz hL hcw)
theorem sw_ineg (hd : decode (am_bc y) pc = .ok (.ineg, len)) (hl : am_il .ineg len = true) (h : am_wpi call y n0 Q (am_Wp g l y R Z) .ineg len n c w pc ls st M) : am_Wp g l y R Z n c w pc ls st M := by
  have hl : (len == 1) = true := hl
  have el : len = 1 := eq_of_beq hl
  subst el
  obtain ⟨x, r, rfl, h⟩ := am_i1_inv h
  intro p e s m args below meth c0 H locs mls X hR hS hz hL hcw
  exact lv_ineg X.1 X.2.1 hd (h p e s m args below meth c0 H locs mls X hR hS hz hL hcw)
theorem sw_i2l (hd : decode (am_bc y) pc = .ok (.i2l, len)) (hl : am_il .i2l len = true) (h : am_wpi call y n0 Q (am_Wp g l y R Z) .i2l len n c w pc ls st M) : am_Wp g l y R Z n c w pc ls st M := by
  have hl : (len == 1) = true := hl
  have el : len = 1 := eq_of_beq hl
  subst el
  obtain ⟨x, r, rfl, h⟩ := am_i1_inv h
  intro p e s m args below meth c0 H locs mls X hR hS hz hL hcw
  exact lv_i2l X.1 X.2.1 hd rfl (h p e s m args below meth c0 H locs mls X hR hS hz hL hcw)
theorem sw_i2b (hd : decode (am_bc y) pc = .ok (.i2b, len)) (hl : am_il .i2b len = true) (h : am_wpi call y n0 Q (am_Wp g l y R Z) .i2b len n c w pc ls st M) : am_Wp g l y R Z n c w pc ls st M := by
  have hl : (len == 1) = true := hl
  have el : len = 1 := eq_of_beq hl
  subst el
  obtain ⟨x, r, rfl, h⟩ := am_i1_inv h
  intro p e s m args below meth c0 H locs mls X hR hS hz hL hcw
  exact lv_i2b X.1 X.2.1 hd rfl (h p e s m args below meth c0 H locs mls X hR hS hz hL hcw)
theorem sw_l2i (hd : decode (am_bc y) pc = .ok (.l2i, len)) (hl : am_il .l2i len = true) (h : am_wpi call y n0 Q (am_Wp g l y R Z) .l2i len n c w pc ls st M) : am_Wp g l y R Z n c w pc ls st M := by
  have hl : (len == 1) = true := hl
  have el : len = 1 := eq_of_beq hl
  subst el
  obtain ⟨x, r, rfl, h⟩ := am_l1_inv h
  intro p e s m args below meth c0 H locs mls X hR hS hz hL hcw
  exact lv_l2i X.1 X.2.1 hd rfl (h p e s m args below meth c0 H locs mls X hR hS hz hL hcw)
theorem sw_dup (hd : decode (am_bc y) pc = .ok (.dup, len)) (hl : am_il .dup len = true) (h : am_wpi call y n0 Q (am_Wp g l y R Z) .dup len n c w pc ls st M) : am_Wp g l y R Z n c w pc ls st M := by
  have hl : (len == 1) = true := hl
  have el : len = 1 := eq_of_beq hl
  subst el
  have h : am_du1 st (fun r => am_Wp g l y R Z n c w (pc + 1) ls r M) := h
  unfold am_du1 at h
  split at h
  · intro p e s m args below meth c0 H locs mls X hR hS hz hL hcw
    exact lv_dup X.1 X.2.1 hd rfl (h p e s m args below meth c0 H locs mls X hR hS hz hL hcw)
  · intro p e s m args below meth c0 H locs mls X hR hS hz hL hcw
    exact lv_dup X.1 X.2.1 hd rfl (h p e s m args below meth c0 H locs mls X hR hS hz hL hcw)
  · exact h.elim
theorem sw_dup2 (hd : decode (am_bc y) pc = .ok (.dup2, len)) (hl : am_il .dup2 len = true) (h : am_wpi call y n0 Q (am_Wp g l y R Z) .dup2 len n c w pc ls st M) : am_Wp g l y R Z n c w pc ls st M := by
  have hl : (len == 1) = true := hl
  have el : len = 1 := eq_of_beq hl
  subst el
  have h : am_du2 st (fun r => am_Wp g l y R Z n c w (pc + 1) ls r M) := h
  unfold am_du2 at h
  split at h
  · intro p e s m args below meth c0 H locs mls X hR hS hz hL hcw
    exact lv_dup2_11 X.1 X.2.1 hd rfl rfl (h p e s m args below meth c0 H locs mls X hR hS hz hL hcw)
  · intro p e s m args below meth c0 H locs mls X hR hS hz hL hcw
    exact lv_dup2_11 X.1 X.2.1 hd rfl rfl (h p e s m args below meth c0 H locs mls X hR hS hz hL hcw)
  · exact h.elim
theorem sw_pop (hd : decode (am_bc y) pc = .ok (.pop, len)) (hl : am_il .pop len = true) (h : am_wpi call y n0 Q (am_Wp g l y R Z) .pop len n c w pc ls st M) : am_Wp g l y R Z n c w pc ls st M := by
  have hl : (len == 1) = true := hl
  have el : len = 1 := eq_of_beq hl
  subst el
  have h : am_po1 st (fun r => am_Wp g l y R Z n c w (pc + 1) ls r M) := h
  unfold am_po1 at h
  split at h
  · intro p e s m args below meth c0 H locs mls X hR hS hz hL hcw
    exact lv_pop X.1 X.2.1 hd rfl (h p e s m args below meth c0 H locs mls X hR hS hz hL hcw)
  · intro p e s m args below meth c0 H locs mls X hR hS hz hL hcw
    exact lv_pop X.1 X.2.1 hd rfl (h p e s m args below meth c0 H locs mls X hR hS hz hL hcw)
  · exact h.elim
theorem sw_ifCond {q : ClassFile.Cond} {off : Int} (hd : decode (am_bc y) pc = .ok ((.ifCond q off), len)) (hl : am_il (.ifCond q off) len = true) (h : am_wpi call y n0 Q (am_Wp g l y R Z) (.ifCond q off) len n c w pc ls st M) : am_Wp g l y R Z n c w pc ls st M := by
  have hl : (len == 3) = true := hl
  have el : len = 3 := eq_of_beq hl
  subst el
  obtain ⟨x, r, rfl, h⟩ := am_i1_inv h
  intro p e s m args below meth c0 H locs mls X hR hS hz hL hcw
  cases q with
  | eq => exact lv_if_eq X.1 X.2.1 hd h.1 (fun q => h.2.1 q p e s m args below meth c0 H locs mls X hR hS hz hL hcw) (fun q => h.2.2 q p e s m args below meth c0 H locs mls X hR hS hz hL hcw)
  | ne => exact lv_if_ne X.1 X.2.1 hd h.1 (fun q => h.2.1 q p e s m args below meth c0 H locs mls X hR hS hz hL hcw) (fun q => h.2.2 (fun z => z q) p e s m args below meth c0 H locs mls X hR hS hz hL hcw)
  | lt => exact lv_if_lt X.1 X.2.1 hd h.1 (fun q => h.2.1 q p e s m args below meth c0 H locs mls X hR hS hz hL hcw) (fun q => h.2.2 q p e s m args below meth c0 H locs mls X hR hS hz hL hcw)
  | ge => exact lv_if_ge X.1 X.2.1 hd h.1 (fun q => h.2.1 q p e s m args below meth c0 H locs mls X hR hS hz hL hcw) (fun q => h.2.2 q p e s m args below meth c0 H locs mls X hR hS hz hL hcw)
  | gt => exact lv_if_gt X.1 X.2.1 hd h.1 (fun q => h.2.1 q p e s m args below meth c0 H locs mls X hR hS hz hL hcw) (fun q => h.2.2 q p e s m args below meth c0 H locs mls X hR hS hz hL hcw)
  | le => exact lv_if_le X.1 X.2.1 hd h.1 (fun q => h.2.1 q p e s m args below meth c0 H locs mls X hR hS hz hL hcw) (fun q => h.2.2 q p e s m args below meth c0 H locs mls X hR hS hz hL hcw)
theorem sw_if_icmp {q : ClassFile.Cond} {off : Int} (hd : decode (am_bc y) pc = .ok ((.if_icmp q off), len)) (hl : am_il (.if_icmp q off) len = true) (h : am_wpi call y n0 Q (am_Wp g l y R Z) (.if_icmp q off) len n c w pc ls st M) : am_Wp g l y R Z n c w pc ls st M := by
  have hl : (len == 3) = true := hl
  have el : len = 3 := eq_of_beq hl
  subst el
  obtain ⟨x, z, r, rfl, h⟩ := am_i2_inv h
  intro p e s m args below meth c0 H locs mls X hR hS hz hL hcw
  cases q with
  | eq => exact lv_icmp_eq X.1 X.2.1 hd h.1 (fun q => h.2.1 q p e s m args below meth c0 H locs mls X hR hS hz hL hcw) (fun q => h.2.2 q p e s m args below meth c0 H locs mls X hR hS hz hL hcw)
  | ne => exact lv_icmp_ne X.1 X.2.1 hd h.1 (fun q => h.2.1 q p e s m args below meth c0 H locs mls X hR hS hz hL hcw) (fun q => h.2.2 (fun z => z q) p e s m args below meth c0 H locs mls X hR hS hz hL hcw)
  | lt => exact lv_icmp_lt X.1 X.2.1 hd h.1 (fun q => h.2.1 q p e s m args below meth c0 H locs mls X hR hS hz hL hcw) (fun q => h.2.2 q p e s m args below meth c0 H locs mls X hR hS hz hL hcw)
  | ge => exact lv_icmp_ge X.1 X.2.1 hd h.1 (fun q => h.2.1 q p e s m args below meth c0 H locs mls X hR hS hz hL hcw) (fun q => h.2.2 q p e s m args below meth c0 H locs mls X hR hS hz hL hcw)
  | gt => exact lv_icmp_gt X.1 X.2.1 hd h.1 (fun q => h.2.1 q p e s m args below meth c0 H locs mls X hR hS hz hL hcw) (fun q => h.2.2 q p e s m args below meth c0 H locs mls X hR hS hz hL hcw)
  | le => exact lv_icmp_le X.1 X.2.1 hd h.1 (fun q => h.2.1 q p e s m args below meth c0 H locs mls X hR hS hz hL hcw) (fun q => h.2.2 q p e s m args below meth c0 H locs mls X hR hS hz hL hcw)
theorem sw_goto {off : Int} (hd : decode (am_bc y) pc = .ok ((.goto off), len)) (hl : am_il (.goto off) len = true) (h : am_wpi call y n0 Q (am_Wp g l y R Z) (.goto off) len n c w pc ls st M) : am_Wp g l y R Z n c w pc ls st M := by
  have hl : (len == 3) = true := hl
  have el : len = 3 := eq_of_beq hl
  subst el
  intro p e s m args below meth c0 H locs mls X hR hS hz hL hcw
  exact lv_goto X.1 X.2.1 hd h.1 (h.2 p e s m args below meth c0 H locs mls X hR hS hz hL hcw)
theorem am_tsw_at {x : Int32} {F : Nat → Prop} : ∀ (os : List Int) (k0 : Int) (k : Nat) (o : Int), am_tsw x pc F k0 os → os[k]? = some o → x = Int32.ofInt (k0 + k) → (pc : Int) + o = (am_tg pc o : Int) ∧ F (am_tg pc o)
  | [], _, _, _, _, h, _ => by simp at h
  | o0 :: r, k0, 0, o, h, e, hx => by
    have e : o0 = o := by simpa using e
    subst e
    exact ⟨h.1.1, h.1.2 (by simpa using hx)⟩
  | _ :: r, k0, k + 1, o, h, e, hx => by
    refine am_tsw_at r (k0 + 1) k o h.2 (by simpa using e) ?_
    rw [hx]
    congr 1
    push_cast
    omega
theorem sw_tableswitch {dflt lo hi : Int} {offs : Array Int} (hd : decode (am_bc y) pc = .ok ((.tableswitch dflt lo hi offs), len)) (hl : am_il (.tableswitch dflt lo hi offs) len = true) (h : am_wpi call y n0 Q (am_Wp g l y R Z) (.tableswitch dflt lo hi offs) len n c w pc ls st M) : am_Wp g l y R Z n c w pc ls st M := by
  obtain ⟨x, r, rfl, h⟩ := am_i1_inv h
  intro p e s m args below meth c0 H locs mls X hR hS hz hL hcw
  by_cases hc : x.toInt < lo ∨ hi < x.toInt
  · exact lv_tableOut X.1 X.2.1 hd hc h.1.2.2.2.2 (h.2.2 hc p e s m args below meth c0 H locs mls X hR hS hz hL hcw)
  · have h1 : ¬ x.toInt < lo := fun q => hc (Or.inl q)
    have h2 : ¬ hi < x.toInt := fun q => hc (Or.inr q)
    obtain ⟨hq1, hlh, hl1, hh1, -⟩ := h.1
    have hlt : (x.toInt - lo).toNat < offs.size := by omega
    have ho : offs[(x.toInt - lo).toNat]? = some offs[(x.toInt - lo).toNat] := Array.getElem?_eq_getElem hlt
    have hx : x = Int32.ofInt (lo + ((x.toInt - lo).toNat : Int)) := by
      have e : lo + ((x.toInt - lo).toNat : Int) = x.toInt := by omega
      rw [e, Int32.ofInt_toInt]
    obtain ⟨q1, q2⟩ := am_tsw_at offs.toList lo (x.toInt - lo).toNat _ h.2.1 (by rw [Array.getElem?_toList]; exact ho) hx
    exact lv_tableIn X.1 X.2.1 hd h1 h2 ho q1 (q2 p e s m args below meth c0 H locs mls X hR hS hz hL hcw)
theorem am_lsw_at {x : Int32} {F : Nat → Prop} {dflt : Int} : ∀ (os : List (Int × Int)), am_lsw x pc F os → (am_lno x os ∧ Op.lookupswitch.offset os dflt x.toInt = dflt) ∨ ∃ o, Op.lookupswitch.offset os dflt x.toInt = o ∧ (pc : Int) + o = (am_tg pc o : Int) ∧ F (am_tg pc o)
  | [], _ => Or.inl ⟨trivial, rfl⟩
  | q :: r, h => by
    by_cases hx : x = Int32.ofInt q.1
    · refine Or.inr ⟨q.2, ?_, h.1.2.1, h.1.2.2 hx⟩
      have e : x.toInt = q.1 := by rw [hx]; exact h.1.1
      simp [Op.lookupswitch.offset, e]
    · have e : Op.lookupswitch.offset (q :: r) dflt x.toInt = Op.lookupswitch.offset r dflt x.toInt := lv_osw (k := Int32.ofInt q.1) hx h.1.1
      rw [e]
      rcases am_lsw_at (dflt := dflt) r h.2 with ⟨a, b⟩ | b
      · exact Or.inl ⟨⟨hx, a⟩, b⟩
      · exact Or.inr b
theorem sw_lookupswitch {dflt : Int} {ps : Array (Int × Int)} (hd : decode (am_bc y) pc = .ok ((.lookupswitch dflt ps), len)) (hl : am_il (.lookupswitch dflt ps) len = true) (h : am_wpi call y n0 Q (am_Wp g l y R Z) (.lookupswitch dflt ps) len n c w pc ls st M) : am_Wp g l y R Z n c w pc ls st M := by
  obtain ⟨x, r, rfl, h⟩ := am_i1_inv h
  intro p e s m args below meth c0 H locs mls X hR hS hz hL hcw
  rcases am_lsw_at (dflt := dflt) ps.toList h.2.1 with ⟨a, b⟩ | ⟨off, b, q1, q2⟩
  · exact lv_lookup X.1 X.2.1 hd h.1.1 b h.1.2 (h.2.2 a p e s m args below meth c0 H locs mls X hR hS hz hL hcw)
  · exact lv_lookup X.1 X.2.1 hd h.1.1 b q1 (q2 p e s m args below meth c0 H locs mls X hR hS hz hL hcw)
end AMS1
