section AMS7
variable {g : am_g} {l : Launch} {y y' : am_Y} {R : Room} {n0 n c w pc len d : Nat} {Q : am_Q} {ls : List (Option Value)} {st : List Value} {M : am_M}
def am_ZM (g : am_g) (y : am_Y) (Q : am_Q) (n1 : Nat) : List Frame → Array Value → State → State → Prop := fun below args s => MQ below (am_Qc g y Q n1) args s (am_al y).2.1 (am_al y).2.2 (g_F g)
theorem am_RE_met : am_REOK g l y n0 Q R (am_ZM g y Q (n0 + (am_al y).1)) := by
  intro n c w pc ls M hr
  obtain ⟨rfl, rfl, rfl⟩ := hr
  refine ⟨fun v hv hQ hd => ?_, fun v hv hQ hd => ?_, fun hv hQ hd => ?_⟩
  · intro p e s m args below meth c0 H locs mls X hR hS hz hL hcw
    have hq : ∀ t : State, t.heap = H → s.WarmedH t.vm → am_Qc g y Q (n0 + (am_al y).1) args s (.returned (some (.int v))) t := by
      intro t ht _
      unfold am_Qc
      rcases hv with hv | ⟨hv, -⟩ <;> (simp only [hv]; exact ⟨⟨v, M, rfl, hQ, by show am_R g _ M t.heap; rw [ht]; exact hR⟩, hS.F ht⟩)
    rcases hv with hv | ⟨hv, h01⟩
    · exact W.iret X.1 X.2.1 (by rw [X.2.2.1]; exact hv) hq hS.2.2 hd X.2.2.2.2.2.2.1
    · exact W.zret X.1 X.2.1 (by rw [X.2.2.1]; exact hv) (by rcases h01 with rfl | rfl <;> decide) hq hS.2.2 hd X.2.2.2.2.2.2.1
  · intro p e s m args below meth c0 H locs mls X hR hS hz hL hcw
    refine W.lret X.1 X.2.1 (by rw [X.2.2.1]; exact hv) (fun t ht _ => ?_) hS.2.2 hd X.2.2.2.2.2.2.1
    unfold am_Qc
    simp only [hv]
    exact ⟨⟨v, M, rfl, hQ, by show am_R g _ M t.heap; rw [ht]; exact hR⟩, hS.F ht⟩
  · intro p e s m args below meth c0 H locs mls X hR hS hz hL hcw
    refine W.vret X.1 X.2.1 (by rw [X.2.2.1]; exact hv) (fun t ht _ => ?_) hS.2.2 hd X.2.2.2.2.2.2.1
    unfold am_Qc
    simp only [hv]
    exact ⟨⟨M, rfl, hQ, by show am_R g _ M t.heap; rw [ht]; exact hR⟩, hS.F ht⟩
/-- texts: for every method with room enough -/
def am_STOK (g : am_g) (l : Launch) : Prop := ∀ (y : am_Y) (R : Room) (Z : List Frame → Array Value → State → State → Prop), 9 ≤ R.frames → 432 ≤ R.locals → am_S7OK g l y R Z ∧ am_S8OK g l y R Z
def am_N9 : Prop := ∀ (k i : Nat) (y' : am_Y) (ps : List Nat), am_ml k i = some (9, y', ps) → k = 12
theorem am_Ls_ent {k : Nat} (as : List Value) (h : (as.map fun v => v.category).sum ≤ k) : am_Ls g ((lg_sl (as.map (am_v g)) ++ List.replicate (k - (lg_sl (as.map (am_v g))).length) Slot.unset).toArray) k (am_ent k as) := by
  have hl := lv_entry (as.map (am_v g)) (n := k) (by rw [am_sl_len]; exact h)
  refine ⟨hl.1, hl.2.1, fun i v hv => ?_⟩
  rw [List.getElem?_toArray]
  exact am_ent_at k as i v hv
theorem am_CD_all (hT : am_TOK) (hS : am_STOK g l) (h9 : am_N9) : ∀ d, am_CD g l d := by
  intro d
  induction d with
  | zero => intro y' as n M K h _ _; exact h.elim
  | succ d ih =>
    intro y' as n M K h hm hsum
    unfold am_big at h
    rw [hm.2.2.2.2.2.2.1] at h
    have h : am_ok (am_big d) y' n K n 0 0 0 (am_ent (am_mx y') as) [] M := h
    refine Met.ofW (cc := am_bc y') (maxL := am_mx y') (ret := am_rt y') hm.2.2.2.2.1 rfl ?_
    intro p e s m args below meth c s₁ B hml hv
    obtain ⟨rfl, hR, hU, hb, hz⟩ := hv
    have hts0 := atoms_spec (ws := am_ww y') B.pre
    have X : am_Cx g y' p s m (as.map (am_v g)).toArray meth c := ⟨B.exec, B.bytes, B.returns, hml, by rw [← hm.1.2.2]; exact findClass_of_methodNamed B.named, fun w hw => hts0 w (List.mem_cons_of_mem _ hw), B.notSynchronized, fun hi => by rw [(name_of_methodNamed B.named B.method).1]; exact eq_of_beq hi, hU, hb⟩
    have hRk : am_Rok d (am_rm (d + 1) y') y' := ⟨Nat.le_of_eq (by show d + 9 = d + 1 + 8; omega), Nat.le_of_eq (by show 48 * (d + 9) = 48 * (d + 1 + 8); omega), Nat.le_refl _, Nat.le_refl _⟩
    have h78 := fun Z => hS y' (am_rm (d + 1) y') Z (by show 9 ≤ d + 1 + 8; omega) (by show 432 ≤ 48 * (d + 1 + 8); omega)
    have hW := am_runs (R := am_rm (d + 1) y') (Z := am_ZM g y' K (n + (am_al y').1)) hT hm.1 ih hRk (h78 _).1 (h78 _).2 (fun k y2 ps n c w pc ls st M hk _ _ => absurd (h9 _ _ _ _ hk) hm.2.2.2.2.2.2.2) am_RE_met h
    rw [lg_entry_eq]
    exact hW p e s m _ below meth c s.heap [] _ X hR va_S.rf hz (am_Ls_ent as hsum) ⟨Nat.zero_le _, Nat.zero_le _⟩
end AMS7
